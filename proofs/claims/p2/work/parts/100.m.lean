section
set_option maxRecDepth 100000 in
noncomputable def ztX10_accept (p : Nat) : Option (Jvm.ClassFile.Instr × Nat) := bif Nat.ble 10 p then (bif Nat.ble 15 p then (bif Nat.ble 18 p then (bif Nat.ble 19 p then (bif Nat.beq p 19 then some (.ireturn, 1) else none) else (bif Nat.beq p 18 then some (.iload_n 1, 1) else none)) else (bif Nat.beq p 15 then some (.putfield 220, 3) else none)) else (bif Nat.ble 13 p then (bif Nat.ble 14 p then (bif Nat.beq p 14 then some (.iadd, 1) else none) else (bif Nat.beq p 13 then some (.iconst 1, 1) else none)) else (bif Nat.beq p 10 then some (.getfield 220, 3) else none))) else (bif Nat.ble 5 p then (bif Nat.ble 6 p then (bif Nat.ble 9 p then (bif Nat.beq p 9 then some (.dup, 1) else none) else (bif Nat.beq p 6 then some (.getfield 10, 3) else none)) else (bif Nat.beq p 5 then some (.aload_n 0, 1) else none)) else (bif Nat.ble 1 p then (bif Nat.ble 2 p then (bif Nat.beq p 2 then some (.putfield 41, 3) else none) else (bif Nat.beq p 1 then some (.iconst 0, 1) else none)) else (bif Nat.beq p 0 then some (.aload_n 0, 1) else none)))
set_option maxRecDepth 100000 in
theorem zkX10_accept : (zbig cX10_accept.data.toList = 982567697646054538542725779947934449943050519338 ∧ cX10_accept.data.toList.length = 20) ∧ zdk cX10_accept 982567697646054538542725779947934449943050519338 20 ztX10_accept 19 = true := by decide +kernel
theorem zw_211 : (Jvm.Cond.fieldLinkNest "HillSchool" (220 : Nat) "HillSchool$Hill" "changes" "I" "HillSchool") ∈ znest := zmemH (zmj_1 108 rfl) rfl
theorem zw_477 : (Jvm.Cond.fieldLink "HillSchool" (10 : Nat) "HillSchool" "hill" "LHillSchool$Hill;") ∈ zall := zmemG (zmj_2 134 rfl) rfl
theorem zw_485 : (Jvm.Cond.fieldLink "HillSchool" (41 : Nat) "HillSchool" "latestStatus" "I") ∈ zall := zmemG (zmj_2 142 rfl) rfl
theorem zw_541 : (Jvm.Cond.code ({ cls := "HillSchool", name := "accept", desc := "(I)I" } : Jvm.MethodName) prog_1_method_41_code (2 : Nat) (Option.some Jvm.ClassFile.FieldType.int)) ∈ zall := zmemG (zmj_2 198 rfl) rfl
noncomputable abbrev w_HS_accept : List Cond := .code yX10_accept cX10_accept 2 (some .int) :: zall
noncomputable abbrev rm_HS_accept : Room := { frames := 0, cells := 0, slots := 0, locals := 0 }
theorem hd_HS_accept : yX10_accept.cls = "HillSchool" ∧ yX10_accept.cls ≠ "java/lang/invoke/MethodHandle" ∧ yX10_accept.cls ≠ "java/lang/invoke/VarHandle" ∧ (parseMethodDescriptor yX10_accept.desc).map (fun d => d.parameters.length) = some 1 := by decide +kernel
noncomputable def wd_HS_accept (cA : Nat → ClassId) (q0 q1 q2 q3 q4 q5 q6 q7 q8 q9 q10 q11 q12 q13 q14 q15 q16 q17 q18 q19 q20 q21 : Nat) (u0 u1 u2 u3 u4 u5 u6 : Int)  (i_latestStatus : Int) (i_hill_changes : Int) : va_W := [(q0, .inr (10, [.ref q1, .ref q2, .ref q3, .ref q4, .int (Int32.ofInt u0), .int (Int32.ofInt u1), .int (Int32.ofInt u2), .ref q5, .int (Int32.ofInt i_latestStatus), .ref q6, .ref q7, .ref q8, .ref q9, .ref q10, .ref q11, .ref q12])), (q1, .inr (2, [.ref q13, .int (Int32.ofInt u3), .ref q14, .ref q15, .ref q16, .int (Int32.ofInt u4), .ref q17, .ref q18, .ref q19, .int (Int32.ofInt u5), .ref q20, .ref q21, .int (Int32.ofInt u6), .int (Int32.ofInt i_hill_changes)]))]
noncomputable def wf_HS_accept (cA : Nat → ClassId) (q0 q1 q2 q3 q4 q5 q6 q7 q8 q9 q10 q11 q12 q13 q14 q15 q16 q17 q18 q19 q20 q21 : Nat) (u0 u1 u2 u3 u4 u5 u6 : Int)  (o : Int × Int × Int) : va_W := wd_HS_accept cA q0 q1 q2 q3 q4 q5 q6 q7 q8 q9 q10 q11 q12 q13 q14 q15 q16 q17 q18 q19 q20 q21 u0 u1 u2 u3 u4 u5 u6 o.2.1 o.2.2
noncomputable def f_HS_accept (x1 : Int) (i_latestStatus : Int) (i_hill_changes : Int) : Option (Int × Int × Int) :=
  zn (i_hill_changes + 1) fun v1 =>
  some (x1, 0, v1)
set_option maxHeartbeats 4000000 in
set_option maxRecDepth 100000 in
theorem c_HS_accept (l : Launch) (ev : zEv) (dC : Nat → ClassId) (dI : Nat → Nat → Nat) (cA : Nat → ClassId) (q0 q1 q2 q3 q4 q5 q6 q7 q8 q9 q10 q11 q12 q13 q14 q15 q16 q17 q18 q19 q20 q21 : Nat) (u0 u1 u2 u3 u4 u5 u6 : Int) {x1 : Int} {i_latestStatus : Int} {i_hill_changes : Int} {out : Int × Int × Int} (hf : f_HS_accept x1 i_latestStatus i_hill_changes = some out) : xc_I l ev (dC, dI) vwCl (tyl cA) yX10_accept w_HS_accept rm_HS_accept [.ref q0, .int (Int32.ofInt x1)] (wd_HS_accept cA q0 q1 q2 q3 q4 q5 q6 q7 q8 q9 q10 q11 q12 q13 q14 q15 q16 q17 q18 q19 q20 q21 u0 u1 u2 u3 u4 u5 u6 i_latestStatus i_hill_changes) (wf_HS_accept cA q0 q1 q2 q3 q4 q5 q6 q7 q8 q9 q10 q11 q12 q13 q14 q15 q16 q17 q18 q19 q20 q21 u0 u1 u2 u3 u4 u5 u6 out) out.1 := by
  refine xv_startI (cc := cX10_accept) (maxL := 2) (rt := .int) (by decide +kernel) rfl (Nat.le_of_ble_eq_true rfl) ?_
  intro p e s m args below meth c A Q H ls hx hb hml hts hown hK hA hP hD hS hl hE hret
  have hown : s.vm.findClass "HillSchool" = some m.cls := hown
  have hz : ∀ w ∈ zall, w.before args s = true := fun w h => hts w (List.mem_cons_of_mem _ h)
  have hl : lv_has ls 2 [(0, .ref q0), (1, .int (Int32.ofInt x1))] := hl
  unfold f_HS_accept at hf
  refine lv_aload_n hx hb (zdt zkX10_accept 0 rfl) rfl (lv_at hl 0 rfl) ?_
  refine lv_iconst (v := Int32.ofInt 0) hx hb (zdt zkX10_accept 1 rfl) rfl ?_
  refine va_put (D := (dC, dI)) (ci := 10) (v := .int (Int32.ofInt 0)) (ty := .int) (C := RX10) (T := TX10) (N := 16) hx hb hz zi_X10 tyX10 tyX10_ok nmX10 hown hK hP hD hS 0 rfl rfl 8 (by decide) (hz _ zw_485) (fun _ h9 => h9) rfl (by decide +kernel) rfl rfl (Nat.le_of_ble_eq_true rfl) (zdt zkX10_accept 2 rfl) (fun H locs hP hD hS => ?_)
  refine xw_PD (wd_HS_accept cA q0 q1 q2 q3 q4 q5 q6 q7 q8 q9 q10 q11 q12 q13 q14 q15 q16 q17 q18 q19 q20 q21 u0 u1 u2 u3 u4 u5 u6 0 i_hill_changes) hP hD (fun hP hD => ?_)
  refine lv_aload_n hx hb (zdt zkX10_accept 5 rfl) rfl (lv_at hl 0 rfl) ?_
  refine va_get (D := (dC, dI)) (ci := 10) (v := .ref q1) (C := RX10) (T := TX10) (N := 16) hx hb hz zi_X10 hown hK hP 0 rfl rfl 0 (by decide) (hz _ zw_477) (fun _ h9 => h9) rfl (zdt zkX10_accept 6 rfl) ?_
  refine lv_dup hx hb (zdt zkX10_accept 9 rfl) rfl ?_
  refine va_getN (D := (dC, dI)) (ci := 2) (v := .int (Int32.ofInt i_hill_changes)) (C := RX2) (T := TX2) (N := 14) hx hb hz zi_X2 hown hK hP 1 rfl rfl 13 (by decide) (va_Nw.use rfl (hE.1.1 _ zw_211)) (fun _ h9 => h9) rfl (zdt zkX10_accept 10 rfl) ?_
  refine lv_iconst (v := Int32.ofInt 1) hx hb (zdt zkX10_accept 13 rfl) rfl ?_
  refine xi_iadd hx hb (zdt zkX10_accept 14 rfl) hf (fun v1 hf => ?_)
  refine va_putN (D := (dC, dI)) (ci := 2) (v := .int (Int32.ofInt v1)) (ty := .int) (C := RX2) (T := TX2) (N := 14) hx hb hz zi_X2 tyX2 tyX2_ok nmX2 hown hK hP hD hS 1 rfl rfl 13 (by decide) (va_Nw.use rfl (hE.1.1 _ zw_211)) (fun _ h9 => h9) rfl (by decide +kernel) rfl rfl (Nat.le_of_ble_eq_true rfl) (zdt zkX10_accept 15 rfl) (fun H locs hP hD hS => ?_)
  refine xw_PD (wd_HS_accept cA q0 q1 q2 q3 q4 q5 q6 q7 q8 q9 q10 q11 q12 q13 q14 q15 q16 q17 q18 q19 q20 q21 u0 u1 u2 u3 u4 u5 u6 0 v1) hP hD (fun hP hD => ?_)
  refine lv_iload_n hx hb (zdt zkX10_accept 18 rfl) rfl (lv_at hl 1 rfl) ?_
  obtain rfl := Option.some.inj hf
  exact hret _ _ _ _ rfl (zdt zkX10_accept 19 rfl) hP hD hS
set_option maxRecDepth 100000 in
noncomputable def ztX10_refuse (p : Nat) : Option (Jvm.ClassFile.Instr × Nat) := bif Nat.ble 11 p then (bif Nat.ble 14 p then (bif Nat.ble 16 p then (bif Nat.ble 17 p then (bif Nat.beq p 17 then some (.ireturn, 1) else none) else (bif Nat.beq p 16 then some (.iload_n 1, 1) else none)) else (bif Nat.ble 15 p then (bif Nat.beq p 15 then some (.iastore, 1) else none) else (bif Nat.beq p 14 then some (.iadd, 1) else none))) else (bif Nat.ble 12 p then (bif Nat.ble 13 p then (bif Nat.beq p 13 then some (.iconst 1, 1) else none) else (bif Nat.beq p 12 then some (.iaload, 1) else none)) else (bif Nat.beq p 11 then some (.dup2, 1) else none))) else (bif Nat.ble 5 p then (bif Nat.ble 9 p then (bif Nat.ble 10 p then (bif Nat.beq p 10 then some (.ineg, 1) else none) else (bif Nat.beq p 9 then some (.iload_n 1, 1) else none)) else (bif Nat.ble 6 p then (bif Nat.beq p 6 then some (.getfield 38, 3) else none) else (bif Nat.beq p 5 then some (.aload_n 0, 1) else none))) else (bif Nat.ble 1 p then (bif Nat.ble 2 p then (bif Nat.beq p 2 then some (.putfield 41, 3) else none) else (bif Nat.beq p 1 then some (.iload_n 1, 1) else none)) else (bif Nat.beq p 0 then some (.aload_n 0, 1) else none)))
set_option maxRecDepth 100000 in
theorem zkX10_refuse : (zbig cX10_refuse.data.toList = 14992606311726595936304999970814217139067690 ∧ cX10_refuse.data.toList.length = 18) ∧ zdk cX10_refuse 14992606311726595936304999970814217139067690 18 ztX10_refuse 17 = true := by decide +kernel
theorem zw_484 : (Jvm.Cond.fieldLink "HillSchool" (38 : Nat) "HillSchool" "refusals" "[I") ∈ zall := zmemG (zmj_2 141 rfl) rfl
theorem zw_537 : (Jvm.Cond.code ({ cls := "HillSchool", name := "refuse", desc := "(I)I" } : Jvm.MethodName) prog_1_method_40_code (2 : Nat) (Option.some Jvm.ClassFile.FieldType.int)) ∈ zall := zmemG (zmj_2 194 rfl) rfl
noncomputable abbrev w_HS_refuse : List Cond := .code yX10_refuse cX10_refuse 2 (some .int) :: zall
noncomputable abbrev rm_HS_refuse : Room := { frames := 0, cells := 0, slots := 0, locals := 0 }
theorem hd_HS_refuse : yX10_refuse.cls = "HillSchool" ∧ yX10_refuse.cls ≠ "java/lang/invoke/MethodHandle" ∧ yX10_refuse.cls ≠ "java/lang/invoke/VarHandle" ∧ (parseMethodDescriptor yX10_refuse.desc).map (fun d => d.parameters.length) = some 1 := by decide +kernel
noncomputable def wd_HS_refuse (cA : Nat → ClassId) (q0 q1 q2 q3 q4 q5 q6 q7 q8 q9 q10 q11 q12 : Nat) (u0 u1 u2 : Int)  (i_latestStatus : Int) (i_refusals : Nat → Int) : va_W := [(q0, .inr (10, [.ref q1, .ref q2, .ref q3, .ref q4, .int (Int32.ofInt u0), .int (Int32.ofInt u1), .int (Int32.ofInt u2), .ref q5, .int (Int32.ofInt i_latestStatus), .ref q6, .ref q7, .ref q8, .ref q9, .ref q10, .ref q11, .ref q12])), (q5, .inl (cA 0, 7, .inl (za i_refusals)))]
noncomputable def wf_HS_refuse (cA : Nat → ClassId) (q0 q1 q2 q3 q4 q5 q6 q7 q8 q9 q10 q11 q12 : Nat) (u0 u1 u2 : Int)  (o : Int × Int × (Nat → Int)) : va_W := wd_HS_refuse cA q0 q1 q2 q3 q4 q5 q6 q7 q8 q9 q10 q11 q12 u0 u1 u2 o.2.1 o.2.2
noncomputable def f_HS_refuse (x1 : Int) (i_latestStatus : Int) (i_refusals : Nat → Int) : Option (Int × Int × (Nat → Int)) :=
  zn (-x1) fun v1 =>
  zg 7 i_refusals v1 fun v2 =>
  zn (v2 + 1) fun v3 =>
  zs 7 i_refusals v1 v3 fun a4 =>
  some (x1, x1, a4)
set_option maxHeartbeats 4000000 in
set_option maxRecDepth 100000 in
theorem c_HS_refuse (l : Launch) (ev : zEv) (dC : Nat → ClassId) (dI : Nat → Nat → Nat) (cA : Nat → ClassId) (q0 q1 q2 q3 q4 q5 q6 q7 q8 q9 q10 q11 q12 : Nat) (u0 u1 u2 : Int) {x1 : Int} {i_latestStatus : Int} {i_refusals : Nat → Int} {out : Int × Int × (Nat → Int)} (hf : f_HS_refuse x1 i_latestStatus i_refusals = some out) : xc_I l ev (dC, dI) vwCl (tyl cA) yX10_refuse w_HS_refuse rm_HS_refuse [.ref q0, .int (Int32.ofInt x1)] (wd_HS_refuse cA q0 q1 q2 q3 q4 q5 q6 q7 q8 q9 q10 q11 q12 u0 u1 u2 i_latestStatus i_refusals) (wf_HS_refuse cA q0 q1 q2 q3 q4 q5 q6 q7 q8 q9 q10 q11 q12 u0 u1 u2 out) out.1 := by
  refine xv_startI (cc := cX10_refuse) (maxL := 2) (rt := .int) (by decide +kernel) rfl (Nat.le_of_ble_eq_true rfl) ?_
  intro p e s m args below meth c A Q H ls hx hb hml hts hown hK hA hP hD hS hl hE hret
  have hown : s.vm.findClass "HillSchool" = some m.cls := hown
  have hz : ∀ w ∈ zall, w.before args s = true := fun w h => hts w (List.mem_cons_of_mem _ h)
  have hl : lv_has ls 2 [(0, .ref q0), (1, .int (Int32.ofInt x1))] := hl
  unfold f_HS_refuse at hf
  refine lv_aload_n hx hb (zdt zkX10_refuse 0 rfl) rfl (lv_at hl 0 rfl) ?_
  refine lv_iload_n hx hb (zdt zkX10_refuse 1 rfl) rfl (lv_at hl 1 rfl) ?_
  refine va_put (D := (dC, dI)) (ci := 10) (v := .int (Int32.ofInt x1)) (ty := .int) (C := RX10) (T := TX10) (N := 16) hx hb hz zi_X10 tyX10 tyX10_ok nmX10 hown hK hP hD hS 0 rfl rfl 8 (by decide) (hz _ zw_485) (fun _ h9 => h9) rfl (by decide +kernel) rfl rfl (Nat.le_of_ble_eq_true rfl) (zdt zkX10_refuse 2 rfl) (fun H locs hP hD hS => ?_)
  refine xw_PD (wd_HS_refuse cA q0 q1 q2 q3 q4 q5 q6 q7 q8 q9 q10 q11 q12 u0 u1 u2 x1 i_refusals) hP hD (fun hP hD => ?_)
  refine lv_aload_n hx hb (zdt zkX10_refuse 5 rfl) rfl (lv_at hl 0 rfl) ?_
  refine va_get (D := (dC, dI)) (ci := 10) (v := .ref q5) (C := RX10) (T := TX10) (N := 16) hx hb hz zi_X10 hown hK hP 0 rfl rfl 7 (by decide) (hz _ zw_484) (fun _ h9 => h9) rfl (zdt zkX10_refuse 6 rfl) ?_
  refine lv_iload_n hx hb (zdt zkX10_refuse 9 rfl) rfl (lv_at hl 1 rfl) ?_
  refine xi_ineg hx hb (zdt zkX10_refuse 10 rfl) hf (fun v1 hf => ?_)
  refine lv_dup2_11 hx hb (zdt zkX10_refuse 11 rfl) rfl rfl ?_
  refine xi_iald hx hb hK hP 1 0 rfl rfl (zdt zkX10_refuse 12 rfl) hf (fun v2 hf => ?_)
  refine lv_iconst (v := Int32.ofInt 1) hx hb (zdt zkX10_refuse 13 rfl) rfl ?_
  refine xi_iadd hx hb (zdt zkX10_refuse 14 rfl) hf (fun v3 hf => ?_)
  refine xi_iast hx hb hK hP hD hS 1 0 rfl rfl (zdt zkX10_refuse 15 rfl) hf (fun a4 H locs hP hD hS hf => ?_)
  refine xw_PD (wd_HS_refuse cA q0 q1 q2 q3 q4 q5 q6 q7 q8 q9 q10 q11 q12 u0 u1 u2 x1 a4) hP hD (fun hP hD => ?_)
  refine lv_iload_n hx hb (zdt zkX10_refuse 16 rfl) rfl (lv_at hl 1 rfl) ?_
  obtain rfl := Option.some.inj hf
  exact hret _ _ _ _ rfl (zdt zkX10_refuse 17 rfl) hP hD hS
set_option maxRecDepth 100000 in
noncomputable def ztX1_grow (p : Nat) : Option (Jvm.ClassFile.Instr × Nat) := bif Nat.ble 19 p then (bif Nat.ble 26 p then (bif Nat.ble 28 p then (bif Nat.ble 31 p then (bif Nat.ble 32 p then (bif Nat.beq p 32 then some (.ireturn, 1) else none) else (bif Nat.beq p 31 then some (.iconst 1, 1) else none)) else (bif Nat.beq p 28 then some (.putfield 9, 3) else none)) else (bif Nat.ble 27 p then (bif Nat.beq p 27 then some (.iadd, 1) else none) else (bif Nat.beq p 26 then some (.iconst 1, 1) else none))) else (bif Nat.ble 21 p then (bif Nat.ble 22 p then (bif Nat.ble 23 p then (bif Nat.beq p 23 then some (.getfield 9, 3) else none) else (bif Nat.beq p 22 then some (.dup, 1) else none)) else (bif Nat.beq p 21 then some (.aload_n 0, 1) else none)) else (bif Nat.ble 20 p then (bif Nat.beq p 20 then some (.iastore, 1) else none) else (bif Nat.beq p 19 then some (.iconst 0, 1) else none)))) else (bif Nat.ble 10 p then (bif Nat.ble 12 p then (bif Nat.ble 15 p then (bif Nat.ble 16 p then (bif Nat.beq p 16 then some (.getfield 9, 3) else none) else (bif Nat.beq p 15 then some (.aload_n 0, 1) else none)) else (bif Nat.beq p 12 then some (.getfield 15, 3) else none)) else (bif Nat.ble 11 p then (bif Nat.beq p 11 then some (.aload_n 0, 1) else none) else (bif Nat.beq p 10 then some (.ireturn, 1) else none))) else (bif Nat.ble 4 p then (bif Nat.ble 6 p then (bif Nat.ble 9 p then (bif Nat.beq p 9 then some (.iconst 0, 1) else none) else (bif Nat.beq p 6 then some (.if_icmp .lt 5, 3) else none)) else (bif Nat.beq p 4 then some (.bipush 12, 2) else none)) else (bif Nat.ble 1 p then (bif Nat.beq p 1 then some (.getfield 9, 3) else none) else (bif Nat.beq p 0 then some (.aload_n 0, 1) else none))))
set_option maxRecDepth 100000 in
theorem zkX1_grow : (zbig cX1_grow.data.toList = 19918064506726163670592538107600953469934496209829696858176212308198060325909546 ∧ cX1_grow.data.toList.length = 33) ∧ zdk cX1_grow 19918064506726163670592538107600953469934496209829696858176212308198060325909546 33 ztX1_grow 32 = true := by decide +kernel
theorem zw_143 : (Jvm.Cond.fieldLink "HillSchool$Columns" (9 : Nat) "HillSchool$Columns" "many" "I") ∈ zall := zmemG (zmj_1 40 rfl) rfl
theorem zw_149 : (Jvm.Cond.fieldLink "HillSchool$Columns" (15 : Nat) "HillSchool$Columns" "heights" "[I") ∈ zall := zmemG (zmj_1 46 rfl) rfl
theorem zw_533 : (Jvm.Cond.code ({ cls := "HillSchool$Columns", name := "grow", desc := "()Z" } : Jvm.MethodName) prog_3_method_3_code (1 : Nat) (Option.some Jvm.ClassFile.FieldType.boolean)) ∈ zall := zmemG (zmj_2 190 rfl) rfl
noncomputable abbrev w_Columns_grow : List Cond := .code yX1_grow cX1_grow 1 (some .boolean) :: zall
noncomputable abbrev rm_Columns_grow : Room := { frames := 0, cells := 0, slots := 0, locals := 0 }
theorem hd_Columns_grow : yX1_grow.cls = "HillSchool$Columns" ∧ yX1_grow.cls ≠ "java/lang/invoke/MethodHandle" ∧ yX1_grow.cls ≠ "java/lang/invoke/VarHandle" ∧ (parseMethodDescriptor yX1_grow.desc).map (fun d => d.parameters.length) = some 0 := by decide +kernel
noncomputable def wd_Columns_grow (cA : Nat → ClassId) (q0 q1 q2 : Nat)  (i_many : Int) (i_heights : Nat → Int) : va_W := [(q0, .inr (1, [.int (Int32.ofInt i_many), .ref q1, .ref q2])), (q1, .inl (cA 0, 12, .inl (za i_heights)))]
noncomputable def wf_Columns_grow (cA : Nat → ClassId) (q0 q1 q2 : Nat)  (o : Int × Int × (Nat → Int)) : va_W := wd_Columns_grow cA q0 q1 q2 o.2.1 o.2.2
noncomputable def f_Columns_grow (i_many : Int) (i_heights : Nat → Int) : Option (Int × Int × (Nat → Int)) :=
  if zi_w i_many < zi_w 12 then
    zs 12 i_heights i_many 0 fun a1 =>
    zn (i_many + 1) fun v2 =>
    some (1, v2, a1)
  else
    some (0, i_many, i_heights)
set_option maxHeartbeats 4000000 in
set_option maxRecDepth 100000 in
theorem c_Columns_grow (l : Launch) (ev : zEv) (dC : Nat → ClassId) (dI : Nat → Nat → Nat) (cA : Nat → ClassId) (q0 q1 q2 : Nat) {i_many : Int} {i_heights : Nat → Int} {out : Int × Int × (Nat → Int)} (hf : f_Columns_grow i_many i_heights = some out) : xc_I l ev (dC, dI) vwCl (tyl cA) yX1_grow w_Columns_grow rm_Columns_grow [.ref q0] (wd_Columns_grow cA q0 q1 q2 i_many i_heights) (wf_Columns_grow cA q0 q1 q2 out) out.1 := by
  refine xv_startI (cc := cX1_grow) (maxL := 1) (rt := .boolean) (by decide +kernel) rfl (Nat.le_of_ble_eq_true rfl) ?_
  intro p e s m args below meth c A Q H ls hx hb hml hts hown hK hA hP hD hS hl hE hret
  have hown : s.vm.findClass "HillSchool$Columns" = some m.cls := hown
  have hz : ∀ w ∈ zall, w.before args s = true := fun w h => hts w (List.mem_cons_of_mem _ h)
  have hl : lv_has ls 1 [(0, .ref q0)] := hl
  unfold f_Columns_grow at hf
  refine lv_aload_n hx hb (zdt zkX1_grow 0 rfl) rfl (lv_at hl 0 rfl) ?_
  refine va_get (D := (dC, dI)) (ci := 1) (v := .int (Int32.ofInt i_many)) (C := RX1) (T := TX1) (N := 3) hx hb hz zi_X1 hown hK hP 0 rfl rfl 0 (by decide) (hz _ zw_143) (fun _ h9 => h9) rfl (zdt zkX1_grow 1 rfl) ?_
  refine lv_bipush (v := Int32.ofInt 12) hx hb (zdt zkX1_grow 4 rfl) (by decide) ?_
  refine xi_icmp_lt (tgt := 11) hx hb (zdt zkX1_grow 6 rfl) (by decide) hf (fun hf => ?_) (fun hf => ?_)
  · refine lv_aload_n hx hb (zdt zkX1_grow 11 rfl) rfl (lv_at hl 0 rfl) ?_
    refine va_get (D := (dC, dI)) (ci := 1) (v := .ref q1) (C := RX1) (T := TX1) (N := 3) hx hb hz zi_X1 hown hK hP 0 rfl rfl 1 (by decide) (hz _ zw_149) (fun _ h9 => h9) rfl (zdt zkX1_grow 12 rfl) ?_
    refine lv_aload_n hx hb (zdt zkX1_grow 15 rfl) rfl (lv_at hl 0 rfl) ?_
    refine va_get (D := (dC, dI)) (ci := 1) (v := .int (Int32.ofInt i_many)) (C := RX1) (T := TX1) (N := 3) hx hb hz zi_X1 hown hK hP 0 rfl rfl 0 (by decide) (hz _ zw_143) (fun _ h9 => h9) rfl (zdt zkX1_grow 16 rfl) ?_
    refine lv_iconst (v := Int32.ofInt 0) hx hb (zdt zkX1_grow 19 rfl) rfl ?_
    refine xi_iast hx hb hK hP hD hS 1 0 rfl rfl (zdt zkX1_grow 20 rfl) hf (fun a1 H locs hP hD hS hf => ?_)
    refine xw_PD (wd_Columns_grow cA q0 q1 q2 i_many a1) hP hD (fun hP hD => ?_)
    refine lv_aload_n hx hb (zdt zkX1_grow 21 rfl) rfl (lv_at hl 0 rfl) ?_
    refine lv_dup hx hb (zdt zkX1_grow 22 rfl) rfl ?_
    refine va_get (D := (dC, dI)) (ci := 1) (v := .int (Int32.ofInt i_many)) (C := RX1) (T := TX1) (N := 3) hx hb hz zi_X1 hown hK hP 0 rfl rfl 0 (by decide) (hz _ zw_143) (fun _ h9 => h9) rfl (zdt zkX1_grow 23 rfl) ?_
    refine lv_iconst (v := Int32.ofInt 1) hx hb (zdt zkX1_grow 26 rfl) rfl ?_
    refine xi_iadd hx hb (zdt zkX1_grow 27 rfl) hf (fun v2 hf => ?_)
    refine va_put (D := (dC, dI)) (ci := 1) (v := .int (Int32.ofInt v2)) (ty := .int) (C := RX1) (T := TX1) (N := 3) hx hb hz zi_X1 tyX1 tyX1_ok nmX1 hown hK hP hD hS 0 rfl rfl 0 (by decide) (hz _ zw_143) (fun _ h9 => h9) rfl (by decide +kernel) rfl rfl (Nat.le_of_ble_eq_true rfl) (zdt zkX1_grow 28 rfl) (fun H locs hP hD hS => ?_)
    refine xw_PD (wd_Columns_grow cA q0 q1 q2 v2 a1) hP hD (fun hP hD => ?_)
    refine lv_iconst (v := Int32.ofInt 1) hx hb (zdt zkX1_grow 31 rfl) rfl ?_
    obtain rfl := Option.some.inj hf
    exact hret _ _ _ _ zz_b1 (zdt zkX1_grow 32 rfl) hP hD hS
  · refine lv_iconst (v := Int32.ofInt 0) hx hb (zdt zkX1_grow 9 rfl) rfl ?_
    obtain rfl := Option.some.inj hf
    exact hret _ _ _ _ zz_b0 (zdt zkX1_grow 10 rfl) hP hD hS
set_option maxRecDepth 100000 in
noncomputable def ztX10_column (p : Nat) : Option (Jvm.ClassFile.Instr × Nat) := bif Nat.ble 30 p then (bif Nat.ble 40 p then (bif Nat.ble 43 p then (bif Nat.ble 45 p then (bif Nat.ble 48 p then (bif Nat.beq p 48 then some (.ireturn, 1) else none) else (bif Nat.beq p 45 then some (.invokevirtual 119, 3) else none)) else (bif Nat.ble 44 p then (bif Nat.beq p 44 then some (.iload_n 1, 1) else none) else (bif Nat.beq p 43 then some (.aload_n 0, 1) else none))) else (bif Nat.ble 41 p then (bif Nat.ble 42 p then (bif Nat.beq p 42 then some (.iastore, 1) else none) else (bif Nat.beq p 41 then some (.iconst (-1), 1) else none)) else (bif Nat.beq p 40 then some (.iload_n 1, 1) else none))) else (bif Nat.ble 33 p then (bif Nat.ble 34 p then (bif Nat.ble 37 p then (bif Nat.beq p 37 then some (.getfield 116, 3) else none) else (bif Nat.beq p 34 then some (.getfield 10, 3) else none)) else (bif Nat.beq p 33 then some (.aload_n 0, 1) else none)) else (bif Nat.ble 31 p then (bif Nat.ble 32 p then (bif Nat.beq p 32 then some (.istore_n 1, 1) else none) else (bif Nat.beq p 31 then some (.isub, 1) else none)) else (bif Nat.beq p 30 then some (.iconst 1, 1) else none)))) else (bif Nat.ble 14 p then (bif Nat.ble 20 p then (bif Nat.ble 24 p then (bif Nat.ble 27 p then (bif Nat.beq p 27 then some (.getfield 113, 3) else none) else (bif Nat.beq p 24 then some (.getfield 99, 3) else none)) else (bif Nat.ble 21 p then (bif Nat.beq p 21 then some (.getfield 10, 3) else none) else (bif Nat.beq p 20 then some (.aload_n 0, 1) else none))) else (bif Nat.ble 16 p then (bif Nat.ble 19 p then (bif Nat.beq p 19 then some (.ireturn, 1) else none) else (bif Nat.beq p 16 then some (.invokevirtual 109, 3) else none)) else (bif Nat.beq p 14 then some (.bipush (-5), 2) else none))) else (bif Nat.ble 7 p then (bif Nat.ble 10 p then (bif Nat.ble 13 p then (bif Nat.beq p 13 then some (.aload_n 0, 1) else none) else (bif Nat.beq p 10 then some (.ifCond .ne 10, 3) else none)) else (bif Nat.beq p 7 then some (.invokevirtual 103, 3) else none)) else (bif Nat.ble 1 p then (bif Nat.ble 4 p then (bif Nat.beq p 4 then some (.getfield 99, 3) else none) else (bif Nat.beq p 1 then some (.getfield 10, 3) else none)) else (bif Nat.beq p 0 then some (.aload_n 0, 1) else none))))
set_option maxRecDepth 100000 in
theorem zkX10_column : (zbig cX10_column.data.toList = 6795461269781669754431575823157125738499309297759679241110474615472015457681954518683883154376736812219808095127254058 ∧ cX10_column.data.toList.length = 49) ∧ zdk cX10_column 6795461269781669754431575823157125738499309297759679241110474615472015457681954518683883154376736812219808095127254058 49 ztX10_column 48 = true := by decide +kernel
theorem zw_0 : (Jvm.Cond.selects "HillSchool" ({ cls := "HillSchool", name := "refuse", desc := "(I)I" } : Jvm.MethodName) ({ cls := "HillSchool", name := "refuse", desc := "(I)I" } : Jvm.MethodName)) ∈ zall := zmemG (zmj_0 0 rfl) rfl
theorem zw_1 : (Jvm.Cond.selects "HillSchool" ({ cls := "HillSchool", name := "accept", desc := "(I)I" } : Jvm.MethodName) ({ cls := "HillSchool", name := "accept", desc := "(I)I" } : Jvm.MethodName)) ∈ zall := zmemG (zmj_0 1 rfl) rfl
theorem zw_104 : (Jvm.Cond.initialized "HillSchool") ∈ zall := zmemG (zmj_1 1 rfl) rfl
theorem zw_106 : (Jvm.Cond.initialized "HillSchool$Columns") ∈ zall := zmemG (zmj_1 3 rfl) rfl
theorem zw_146 : (Jvm.Cond.fieldLinkNest "HillSchool" (113 : Nat) "HillSchool$Columns" "many" "I" "HillSchool") ∈ znest := zmemH (zmj_1 43 rfl) rfl
theorem zw_169 : (Jvm.Cond.fieldLinkNest "HillSchool" (99 : Nat) "HillSchool$Hill" "columns" "LHillSchool$Columns;" "HillSchool") ∈ znest := zmemH (zmj_1 66 rfl) rfl
theorem zw_194 : (Jvm.Cond.fieldLinkNest "HillSchool" (116 : Nat) "HillSchool$Hill" "goals" "[I" "HillSchool") ∈ znest := zmemH (zmj_1 91 rfl) rfl
theorem zw_529 : (Jvm.Cond.code ({ cls := "HillSchool", name := "column", desc := "()I" } : Jvm.MethodName) prog_1_method_2_code (2 : Nat) (Option.some Jvm.ClassFile.FieldType.int)) ∈ zall := zmemG (zmj_2 186 rfl) rfl
theorem zw_530 : (Jvm.Cond.methodLink "HillSchool" (103 : Nat) ({ cls := "HillSchool$Columns", name := "grow", desc := "()Z" } : Jvm.MethodName)) ∈ zall := zmemG (zmj_2 187 rfl) rfl
theorem zw_531 : (Jvm.Cond.instanceMethod ({ cls := "HillSchool$Columns", name := "grow", desc := "()Z" } : Jvm.MethodName)) ∈ zall := zmemG (zmj_2 188 rfl) rfl
theorem zw_532 : (Jvm.Cond.selects "HillSchool$Columns" ({ cls := "HillSchool$Columns", name := "grow", desc := "()Z" } : Jvm.MethodName) ({ cls := "HillSchool$Columns", name := "grow", desc := "()Z" } : Jvm.MethodName)) ∈ zall := zmemG (zmj_2 189 rfl) rfl
theorem zw_534 : (Jvm.Cond.methodLink "HillSchool" (109 : Nat) ({ cls := "HillSchool", name := "refuse", desc := "(I)I" } : Jvm.MethodName)) ∈ zall := zmemG (zmj_2 191 rfl) rfl
theorem zw_536 : (Jvm.Cond.instanceMethod ({ cls := "HillSchool", name := "refuse", desc := "(I)I" } : Jvm.MethodName)) ∈ zall := zmemG (zmj_2 193 rfl) rfl
theorem zw_538 : (Jvm.Cond.methodLink "HillSchool" (119 : Nat) ({ cls := "HillSchool", name := "accept", desc := "(I)I" } : Jvm.MethodName)) ∈ zall := zmemG (zmj_2 195 rfl) rfl
theorem zw_540 : (Jvm.Cond.instanceMethod ({ cls := "HillSchool", name := "accept", desc := "(I)I" } : Jvm.MethodName)) ∈ zall := zmemG (zmj_2 197 rfl) rfl
noncomputable abbrev w_HS_column : List Cond := .code yX10_column cX10_column 2 (some .int) :: zall
noncomputable abbrev rm_HS_column : Room := { frames := 1, cells := 0, slots := 0, locals := 21 }
theorem hd_HS_column : yX10_column.cls = "HillSchool" ∧ yX10_column.cls ≠ "java/lang/invoke/MethodHandle" ∧ yX10_column.cls ≠ "java/lang/invoke/VarHandle" ∧ (parseMethodDescriptor yX10_column.desc).map (fun d => d.parameters.length) = some 0 := by decide +kernel
noncomputable def wd_HS_column (cA : Nat → ClassId) (q0 q1 q2 q3 q4 q5 q6 q7 q8 q9 q10 q11 q12 q13 q14 q15 q16 q17 q18 q19 q20 q21 q22 q23 : Nat) (u0 u1 u2 u3 u4 u5 u6 : Int)  (i_latestStatus : Int) (i_hill_changes : Int) (i_refusals : Nat → Int) (i_hill_columns_many : Int) (i_hill_goals : Nat → Int) (i_hill_columns_heights : Nat → Int) : va_W := [(q0, .inr (10, [.ref q1, .ref q2, .ref q3, .ref q4, .int (Int32.ofInt u0), .int (Int32.ofInt u1), .int (Int32.ofInt u2), .ref q5, .int (Int32.ofInt i_latestStatus), .ref q6, .ref q7, .ref q8, .ref q9, .ref q10, .ref q11, .ref q12])), (q1, .inr (2, [.ref q13, .int (Int32.ofInt u3), .ref q14, .ref q15, .ref q16, .int (Int32.ofInt u4), .ref q17, .ref q18, .ref q19, .int (Int32.ofInt u5), .ref q20, .ref q21, .int (Int32.ofInt u6), .int (Int32.ofInt i_hill_changes)])), (q5, .inl (cA 0, 7, .inl (za i_refusals))), (q13, .inr (1, [.int (Int32.ofInt i_hill_columns_many), .ref q22, .ref q23])), (q19, .inl (cA 0, 12, .inl (za i_hill_goals))), (q22, .inl (cA 0, 12, .inl (za i_hill_columns_heights)))]
noncomputable def wf_HS_column (cA : Nat → ClassId) (q0 q1 q2 q3 q4 q5 q6 q7 q8 q9 q10 q11 q12 q13 q14 q15 q16 q17 q18 q19 q20 q21 q22 q23 : Nat) (u0 u1 u2 u3 u4 u5 u6 : Int)  (o : Int × Int × Int × (Nat → Int) × Int × (Nat → Int) × (Nat → Int)) : va_W := wd_HS_column cA q0 q1 q2 q3 q4 q5 q6 q7 q8 q9 q10 q11 q12 q13 q14 q15 q16 q17 q18 q19 q20 q21 q22 q23 u0 u1 u2 u3 u4 u5 u6 o.2.1 o.2.2.1 o.2.2.2.1 o.2.2.2.2.1 o.2.2.2.2.2.1 o.2.2.2.2.2.2
noncomputable def f_HS_column (i_latestStatus : Int) (i_hill_changes : Int) (i_refusals : Nat → Int) (i_hill_columns_many : Int) (i_hill_goals : Nat → Int) (i_hill_columns_heights : Nat → Int) : Option (Int × Int × Int × (Nat → Int) × Int × (Nat → Int) × (Nat → Int)) :=
  zd3 (f_Columns_grow i_hill_columns_many i_hill_columns_heights) fun v1 v2 a3 =>
  if zi_w v1 ≠ 0 then
    zn (v2 - 1) fun v4 =>
    zs 12 i_hill_goals v4 (-1) fun a5 =>
    zd3 (f_HS_accept v4 i_latestStatus i_hill_changes) fun v6 v7 v8 =>
    some (v6, v7, v8, i_refusals, v2, a5, a3)
  else
    zd3 (f_HS_refuse (-5) i_latestStatus i_refusals) fun v9 v10 a11 =>
    some (v9, v10, i_hill_changes, a11, v2, i_hill_goals, a3)
set_option maxHeartbeats 4000000 in
set_option maxRecDepth 100000 in
theorem c_HS_column (l : Launch) (ev : zEv) (dC : Nat → ClassId) (dI : Nat → Nat → Nat) (cA : Nat → ClassId) (q0 q1 q2 q3 q4 q5 q6 q7 q8 q9 q10 q11 q12 q13 q14 q15 q16 q17 q18 q19 q20 q21 q22 q23 : Nat) (u0 u1 u2 u3 u4 u5 u6 : Int) {i_latestStatus : Int} {i_hill_changes : Int} {i_refusals : Nat → Int} {i_hill_columns_many : Int} {i_hill_goals : Nat → Int} {i_hill_columns_heights : Nat → Int} {out : Int × Int × Int × (Nat → Int) × Int × (Nat → Int) × (Nat → Int)} (hf : f_HS_column i_latestStatus i_hill_changes i_refusals i_hill_columns_many i_hill_goals i_hill_columns_heights = some out) : xc_I l ev (dC, dI) vwCl (tyl cA) yX10_column w_HS_column rm_HS_column [.ref q0] (wd_HS_column cA q0 q1 q2 q3 q4 q5 q6 q7 q8 q9 q10 q11 q12 q13 q14 q15 q16 q17 q18 q19 q20 q21 q22 q23 u0 u1 u2 u3 u4 u5 u6 i_latestStatus i_hill_changes i_refusals i_hill_columns_many i_hill_goals i_hill_columns_heights) (wf_HS_column cA q0 q1 q2 q3 q4 q5 q6 q7 q8 q9 q10 q11 q12 q13 q14 q15 q16 q17 q18 q19 q20 q21 q22 q23 u0 u1 u2 u3 u4 u5 u6 out) out.1 := by
  refine xv_startI (cc := cX10_column) (maxL := 2) (rt := .int) (by decide +kernel) rfl (Nat.le_of_ble_eq_true rfl) ?_
  intro p e s m args below meth c A Q H ls hx hb hml hts hown hK hA hP hD hS hl hE hret
  have hown : s.vm.findClass "HillSchool" = some m.cls := hown
  have hz : ∀ w ∈ zall, w.before args s = true := fun w h => hts w (List.mem_cons_of_mem _ h)
  have hl : lv_has ls 2 [(0, .ref q0)] := hl
  unfold f_HS_column at hf
  refine lv_aload_n hx hb (zdt zkX10_column 0 rfl) rfl (lv_at hl 0 rfl) ?_
  refine va_get (D := (dC, dI)) (ci := 10) (v := .ref q1) (C := RX10) (T := TX10) (N := 16) hx hb hz zi_X10 hown hK hP 0 rfl rfl 0 (by decide) (hz _ zw_477) (fun _ h9 => h9) rfl (zdt zkX10_column 1 rfl) ?_
  refine va_getN (D := (dC, dI)) (ci := 2) (v := .ref q13) (C := RX2) (T := TX2) (N := 14) hx hb hz zi_X2 hown hK hP 1 rfl rfl 0 (by decide) (va_Nw.use rfl (hE.1.1 _ zw_169)) (fun _ h9 => h9) rfl (zdt zkX10_column 4 rfl) ?_
  refine xe_d3 hf (fun v1 v2 a3 hg hf => ?_)
  have hC : ([3, 5] : List Nat).map (fun i => (wd_HS_column cA q0 q1 q2 q3 q4 q5 q6 q7 q8 q9 q10 q11 q12 q13 q14 q15 q16 q17 q18 q19 q20 q21 q22 q23 u0 u1 u2 u3 u4 u5 u6 i_latestStatus i_hill_changes i_refusals i_hill_columns_many i_hill_goals i_hill_columns_heights)[i]?) = (wd_Columns_grow cA q13 q22 q23 i_hill_columns_many i_hill_columns_heights).map some := rfl
  refine xv_afterI (ws' := (wd_HS_column cA q0 q1 q2 q3 q4 q5 q6 q7 q8 q9 q10 q11 q12 q13 q14 q15 q16 q17 q18 q19 q20 q21 q22 q23 u0 u1 u2 u3 u4 u5 u6 i_latestStatus i_hill_changes i_refusals v2 i_hill_goals a3)) (isC := [3, 5]) (ps := [none, none, none, some 0, none, some 1]) (va_runV (As := []) (rest := []) ⟨hx, hb, hml, hown, hts⟩ (c_Columns_grow l ev dC dI cA q13 q22 q23 hg H.size) (cwV 0 hts (zgV zw_530 zw_531 zw_532 zw_106 zw_533) rfl rfl rfl hd_Columns_grow ⟨Nat.le_of_ble_eq_true rfl, Nat.le_of_ble_eq_true rfl⟩) (xv_preV (T := TX1) (N := 3) hE hA hS hK hP hD (isC := [3, 5]) (by decide +kernel) hC (q0 := 3) (ci := 1) rfl rfl) rfl rfl hl.1 rfl (lv_room (Nat.le_of_ble_eq_true rfl)) (zdt zkX10_column 7 rfl) ⟨Nat.le_refl _, Nat.le_refl _⟩) hP hD hS hA (by decide +kernel) rfl hC rfl rfl (fun H locs hP hD hS => ?_)
  refine xi_if_ne (tgt := 20) hx hb (zdt zkX10_column 10 rfl) (by decide) hf (fun hf => ?_) (fun hf => ?_)
  · refine lv_aload_n hx hb (zdt zkX10_column 20 rfl) rfl (lv_at hl 0 rfl) ?_
    refine va_get (D := (dC, dI)) (ci := 10) (v := .ref q1) (C := RX10) (T := TX10) (N := 16) hx hb hz zi_X10 hown hK hP 0 rfl rfl 0 (by decide) (hz _ zw_477) (fun _ h9 => h9) rfl (zdt zkX10_column 21 rfl) ?_
    refine va_getN (D := (dC, dI)) (ci := 2) (v := .ref q13) (C := RX2) (T := TX2) (N := 14) hx hb hz zi_X2 hown hK hP 1 rfl rfl 0 (by decide) (va_Nw.use rfl (hE.1.1 _ zw_169)) (fun _ h9 => h9) rfl (zdt zkX10_column 24 rfl) ?_
    refine va_getN (D := (dC, dI)) (ci := 1) (v := .int (Int32.ofInt v2)) (C := RX1) (T := TX1) (N := 3) hx hb hz zi_X1 hown hK hP 3 rfl rfl 0 (by decide) (va_Nw.use rfl (hE.1.1 _ zw_146)) (fun _ h9 => h9) rfl (zdt zkX10_column 27 rfl) ?_
    refine lv_iconst (v := Int32.ofInt 1) hx hb (zdt zkX10_column 30 rfl) rfl ?_
    refine xi_isub hx hb (zdt zkX10_column 31 rfl) hf (fun v4 hf => ?_)
    refine lv_istore_n (lv' := [(1, .int (Int32.ofInt v4)), (0, .ref q0)]) hx hb (zdt zkX10_column 32 rfl) rfl hl (by decide) rfl (fun ls hl => ?_)
    refine lv_aload_n hx hb (zdt zkX10_column 33 rfl) rfl (lv_at hl 1 rfl) ?_
    refine va_get (D := (dC, dI)) (ci := 10) (v := .ref q1) (C := RX10) (T := TX10) (N := 16) hx hb hz zi_X10 hown hK hP 0 rfl rfl 0 (by decide) (hz _ zw_477) (fun _ h9 => h9) rfl (zdt zkX10_column 34 rfl) ?_
    refine va_getN (D := (dC, dI)) (ci := 2) (v := .ref q19) (C := RX2) (T := TX2) (N := 14) hx hb hz zi_X2 hown hK hP 1 rfl rfl 8 (by decide) (va_Nw.use rfl (hE.1.1 _ zw_194)) (fun _ h9 => h9) rfl (zdt zkX10_column 37 rfl) ?_
    refine lv_iload_n hx hb (zdt zkX10_column 40 rfl) rfl (lv_at hl 0 rfl) ?_
    refine lv_iconst (v := Int32.ofInt (-1)) hx hb (zdt zkX10_column 41 rfl) rfl ?_
    refine xi_iast hx hb hK hP hD hS 4 0 rfl rfl (zdt zkX10_column 42 rfl) hf (fun a5 H locs hP hD hS hf => ?_)
    refine xw_PD (wd_HS_column cA q0 q1 q2 q3 q4 q5 q6 q7 q8 q9 q10 q11 q12 q13 q14 q15 q16 q17 q18 q19 q20 q21 q22 q23 u0 u1 u2 u3 u4 u5 u6 i_latestStatus i_hill_changes i_refusals v2 a5 a3) hP hD (fun hP hD => ?_)
    refine lv_aload_n hx hb (zdt zkX10_column 43 rfl) rfl (lv_at hl 1 rfl) ?_
    refine lv_iload_n hx hb (zdt zkX10_column 44 rfl) rfl (lv_at hl 0 rfl) ?_
    refine xe_d3 hf (fun v6 v7 v8 hg hf => ?_)
    have hC : ([0, 1] : List Nat).map (fun i => (wd_HS_column cA q0 q1 q2 q3 q4 q5 q6 q7 q8 q9 q10 q11 q12 q13 q14 q15 q16 q17 q18 q19 q20 q21 q22 q23 u0 u1 u2 u3 u4 u5 u6 i_latestStatus i_hill_changes i_refusals v2 a5 a3)[i]?) = (wd_HS_accept cA q0 q1 q2 q3 q4 q5 q6 q7 q8 q9 q10 q11 q12 q13 q14 q15 q16 q17 q18 q19 q20 q21 u0 u1 u2 u3 u4 u5 u6 i_latestStatus i_hill_changes).map some := rfl
    refine xv_afterI (ws' := (wd_HS_column cA q0 q1 q2 q3 q4 q5 q6 q7 q8 q9 q10 q11 q12 q13 q14 q15 q16 q17 q18 q19 q20 q21 q22 q23 u0 u1 u2 u3 u4 u5 u6 v7 v8 i_refusals v2 a5 a3)) (isC := [0, 1]) (ps := [some 0, some 1, none, none, none, none]) (va_runV (As := [.int (Int32.ofInt v4)]) (rest := []) ⟨hx, hb, hml, hown, hts⟩ (c_HS_accept l ev dC dI cA q0 q1 q2 q3 q4 q5 q6 q7 q8 q9 q10 q11 q12 q13 q14 q15 q16 q17 q18 q19 q20 q21 u0 u1 u2 u3 u4 u5 u6 hg H.size) (cwV 1 hts (zgV zw_538 zw_540 zw_1 zw_104 zw_541) rfl rfl rfl hd_HS_accept ⟨Nat.le_of_ble_eq_true rfl, Nat.le_of_ble_eq_true rfl⟩) (xv_preV (T := TX10) (N := 16) hE hA hS hK hP hD (isC := [0, 1]) (by decide +kernel) hC (q0 := 0) (ci := 10) rfl rfl) rfl rfl hl.1 rfl (lv_room (Nat.le_of_ble_eq_true rfl)) (zdt zkX10_column 45 rfl) ⟨Nat.le_refl _, Nat.le_refl _⟩) hP hD hS hA (by decide +kernel) rfl hC rfl rfl (fun H locs hP hD hS => ?_)
    obtain rfl := Option.some.inj hf
    exact hret _ _ _ _ rfl (zdt zkX10_column 48 rfl) hP hD hS
  · refine lv_aload_n hx hb (zdt zkX10_column 13 rfl) rfl (lv_at hl 0 rfl) ?_
    refine lv_bipush (v := Int32.ofInt (-5)) hx hb (zdt zkX10_column 14 rfl) (by decide) ?_
    refine xe_d3 hf (fun v9 v10 a11 hg hf => ?_)
    have hC : ([0, 2] : List Nat).map (fun i => (wd_HS_column cA q0 q1 q2 q3 q4 q5 q6 q7 q8 q9 q10 q11 q12 q13 q14 q15 q16 q17 q18 q19 q20 q21 q22 q23 u0 u1 u2 u3 u4 u5 u6 i_latestStatus i_hill_changes i_refusals v2 i_hill_goals a3)[i]?) = (wd_HS_refuse cA q0 q1 q2 q3 q4 q5 q6 q7 q8 q9 q10 q11 q12 u0 u1 u2 i_latestStatus i_refusals).map some := rfl
    refine xv_afterI (ws' := (wd_HS_column cA q0 q1 q2 q3 q4 q5 q6 q7 q8 q9 q10 q11 q12 q13 q14 q15 q16 q17 q18 q19 q20 q21 q22 q23 u0 u1 u2 u3 u4 u5 u6 v10 i_hill_changes a11 v2 i_hill_goals a3)) (isC := [0, 2]) (ps := [some 0, none, some 1, none, none, none]) (va_runV (As := [.int (Int32.ofInt (-5))]) (rest := []) ⟨hx, hb, hml, hown, hts⟩ (c_HS_refuse l ev dC dI cA q0 q1 q2 q3 q4 q5 q6 q7 q8 q9 q10 q11 q12 u0 u1 u2 hg H.size) (cwV 1 hts (zgV zw_534 zw_536 zw_0 zw_104 zw_537) rfl rfl rfl hd_HS_refuse ⟨Nat.le_of_ble_eq_true rfl, Nat.le_of_ble_eq_true rfl⟩) (xv_preV (T := TX10) (N := 16) hE hA hS hK hP hD (isC := [0, 2]) (by decide +kernel) hC (q0 := 0) (ci := 10) rfl rfl) rfl rfl hl.1 rfl (lv_room (Nat.le_of_ble_eq_true rfl)) (zdt zkX10_column 16 rfl) ⟨Nat.le_refl _, Nat.le_refl _⟩) hP hD hS hA (by decide +kernel) rfl hC rfl rfl (fun H locs hP hD hS => ?_)
    obtain rfl := Option.some.inj hf
    exact hret _ _ _ _ rfl (zdt zkX10_column 19 rfl) hP hD hS
set_option maxRecDepth 100000 in
noncomputable def ztX1_has (p : Nat) : Option (Jvm.ClassFile.Instr × Nat) := bif Nat.ble 9 p then (bif Nat.ble 13 p then (bif Nat.ble 16 p then (bif Nat.ble 17 p then (bif Nat.beq p 17 then some (.ireturn, 1) else none) else (bif Nat.beq p 16 then some (.iconst 0, 1) else none)) else (bif Nat.beq p 13 then some (.goto 4, 3) else none)) else (bif Nat.ble 12 p then (bif Nat.beq p 12 then some (.iconst 1, 1) else none) else (bif Nat.beq p 9 then some (.if_icmp .ge 7, 3) else none))) else (bif Nat.ble 4 p then (bif Nat.ble 5 p then (bif Nat.ble 6 p then (bif Nat.beq p 6 then some (.getfield 9, 3) else none) else (bif Nat.beq p 5 then some (.aload_n 0, 1) else none)) else (bif Nat.beq p 4 then some (.iload_n 1, 1) else none)) else (bif Nat.ble 1 p then (bif Nat.beq p 1 then some (.ifCond .lt 15, 3) else none) else (bif Nat.beq p 0 then some (.iload_n 1, 1) else none)))
set_option maxRecDepth 100000 in
theorem zkX1_has : (zbig cX1_has.data.toList = 14984339347662989861893336662684537949559579 ∧ cX1_has.data.toList.length = 18) ∧ zdk cX1_has 14984339347662989861893336662684537949559579 18 ztX1_has 17 = true := by decide +kernel
theorem zw_549 : (Jvm.Cond.code ({ cls := "HillSchool$Columns", name := "has", desc := "(I)Z" } : Jvm.MethodName) prog_3_method_2_code (2 : Nat) (Option.some Jvm.ClassFile.FieldType.boolean)) ∈ zall := zmemG (zmj_2 206 rfl) rfl
noncomputable abbrev w_Columns_has : List Cond := .code yX1_has cX1_has 2 (some .boolean) :: zall
noncomputable abbrev rm_Columns_has : Room := { frames := 0, cells := 0, slots := 0, locals := 0 }
theorem hd_Columns_has : yX1_has.cls = "HillSchool$Columns" ∧ yX1_has.cls ≠ "java/lang/invoke/MethodHandle" ∧ yX1_has.cls ≠ "java/lang/invoke/VarHandle" ∧ (parseMethodDescriptor yX1_has.desc).map (fun d => d.parameters.length) = some 1 := by decide +kernel
noncomputable def wd_Columns_has (cA : Nat → ClassId) (q0 q1 q2 : Nat) (i_many : Int)  : va_W := [(q0, .inr (1, [.int (Int32.ofInt i_many), .ref q1, .ref q2]))]
noncomputable def wf_Columns_has (cA : Nat → ClassId) (q0 q1 q2 : Nat) (i_many : Int) (o : Int) : va_W := wd_Columns_has cA q0 q1 q2 i_many
noncomputable def f_Columns_has (x1 : Int) (i_many : Int) : Option (Int) :=
  if zi_w x1 < 0 then
    some 0
  else
    if zi_w i_many ≤ zi_w x1 then
      some 0
    else
      some 1
set_option maxHeartbeats 4000000 in
set_option maxRecDepth 100000 in
theorem c_Columns_has (l : Launch) (ev : zEv) (dC : Nat → ClassId) (dI : Nat → Nat → Nat) (cA : Nat → ClassId) (q0 q1 q2 : Nat) {x1 : Int} {i_many : Int} {out : Int} (hf : f_Columns_has x1 i_many = some out) : xc_I l ev (dC, dI) vwCl (tyl cA) yX1_has w_Columns_has rm_Columns_has [.ref q0, .int (Int32.ofInt x1)] (wd_Columns_has cA q0 q1 q2 i_many) (wf_Columns_has cA q0 q1 q2 i_many out) out := by
  refine xv_startI (cc := cX1_has) (maxL := 2) (rt := .boolean) (by decide +kernel) rfl (Nat.le_of_ble_eq_true rfl) ?_
  intro p e s m args below meth c A Q H ls hx hb hml hts hown hK hA hP hD hS hl hE hret
  have hown : s.vm.findClass "HillSchool$Columns" = some m.cls := hown
  have hz : ∀ w ∈ zall, w.before args s = true := fun w h => hts w (List.mem_cons_of_mem _ h)
  have hl : lv_has ls 2 [(0, .ref q0), (1, .int (Int32.ofInt x1))] := hl
  unfold f_Columns_has at hf
  refine lv_iload_n hx hb (zdt zkX1_has 0 rfl) rfl (lv_at hl 1 rfl) ?_
  refine xi_if_lt (tgt := 16) hx hb (zdt zkX1_has 1 rfl) (by decide) hf (fun hf => ?_) (fun hf => ?_)
  · refine lv_iconst (v := Int32.ofInt 0) hx hb (zdt zkX1_has 16 rfl) rfl ?_
    obtain rfl := Option.some.inj hf
    exact hret _ _ _ _ zz_b0 (zdt zkX1_has 17 rfl) hP hD hS
  · refine lv_iload_n hx hb (zdt zkX1_has 4 rfl) rfl (lv_at hl 1 rfl) ?_
    refine lv_aload_n hx hb (zdt zkX1_has 5 rfl) rfl (lv_at hl 0 rfl) ?_
    refine va_get (D := (dC, dI)) (ci := 1) (v := .int (Int32.ofInt i_many)) (C := RX1) (T := TX1) (N := 3) hx hb hz zi_X1 hown hK hP 0 rfl rfl 0 (by decide) (hz _ zw_143) (fun _ h9 => h9) rfl (zdt zkX1_has 6 rfl) ?_
    refine xi_icmp_ge (tgt := 16) hx hb (zdt zkX1_has 9 rfl) (by decide) hf (fun hf => ?_) (fun hf => ?_)
    · refine lv_iconst (v := Int32.ofInt 0) hx hb (zdt zkX1_has 16 rfl) rfl ?_
      obtain rfl := Option.some.inj hf
      exact hret _ _ _ _ zz_b0 (zdt zkX1_has 17 rfl) hP hD hS
    · refine lv_iconst (v := Int32.ofInt 1) hx hb (zdt zkX1_has 12 rfl) rfl ?_
      refine lv_goto (tgt := 17) hx hb (zdt zkX1_has 13 rfl) (by decide) ?_
      obtain rfl := Option.some.inj hf
      exact hret _ _ _ _ zz_b1 (zdt zkX1_has 17 rfl) hP hD hS
set_option maxRecDepth 100000 in
noncomputable def ztX1_put (p : Nat) : Option (Jvm.ClassFile.Instr × Nat) := bif Nat.ble 29 p then (bif Nat.ble 39 p then (bif Nat.ble 45 p then (bif Nat.ble 47 p then (bif Nat.ble 48 p then (bif Nat.ble 49 p then (bif Nat.beq p 49 then some (.ireturn, 1) else none) else (bif Nat.beq p 48 then some (.iconst 1, 1) else none)) else (bif Nat.beq p 47 then some (.iastore, 1) else none)) else (bif Nat.ble 46 p then (bif Nat.beq p 46 then some (.iadd, 1) else none) else (bif Nat.beq p 45 then some (.iconst 1, 1) else none))) else (bif Nat.ble 43 p then (bif Nat.ble 44 p then (bif Nat.beq p 44 then some (.iaload, 1) else none) else (bif Nat.beq p 43 then some (.dup2, 1) else none)) else (bif Nat.ble 42 p then (bif Nat.beq p 42 then some (.iload_n 1, 1) else none) else (bif Nat.beq p 39 then some (.getfield 15, 3) else none)))) else (bif Nat.ble 35 p then (bif Nat.ble 37 p then (bif Nat.ble 38 p then (bif Nat.beq p 38 then some (.aload_n 0, 1) else none) else (bif Nat.beq p 37 then some (.iastore, 1) else none)) else (bif Nat.ble 36 p then (bif Nat.beq p 36 then some (.iload_n 2, 1) else none) else (bif Nat.beq p 35 then some (.iadd, 1) else none))) else (bif Nat.ble 33 p then (bif Nat.ble 34 p then (bif Nat.beq p 34 then some (.iaload, 1) else none) else (bif Nat.beq p 33 then some (.iload_n 1, 1) else none)) else (bif Nat.ble 30 p then (bif Nat.beq p 30 then some (.getfield 15, 3) else none) else (bif Nat.beq p 29 then some (.aload_n 0, 1) else none))))) else (bif Nat.ble 14 p then (bif Nat.ble 21 p then (bif Nat.ble 25 p then (bif Nat.ble 26 p then (bif Nat.ble 28 p then (bif Nat.beq p 28 then some (.imul, 1) else none) else (bif Nat.beq p 26 then some (.bipush 10, 2) else none)) else (bif Nat.beq p 25 then some (.iload_n 1, 1) else none)) else (bif Nat.ble 22 p then (bif Nat.beq p 22 then some (.getfield 19, 3) else none) else (bif Nat.beq p 21 then some (.aload_n 0, 1) else none))) else (bif Nat.ble 19 p then (bif Nat.ble 20 p then (bif Nat.beq p 20 then some (.ireturn, 1) else none) else (bif Nat.beq p 19 then some (.iconst 0, 1) else none)) else (bif Nat.ble 16 p then (bif Nat.beq p 16 then some (.if_icmp .lt 5, 3) else none) else (bif Nat.beq p 14 then some (.bipush 10, 2) else none)))) else (bif Nat.ble 8 p then (bif Nat.ble 12 p then (bif Nat.ble 13 p then (bif Nat.beq p 13 then some (.iaload, 1) else none) else (bif Nat.beq p 12 then some (.iload_n 1, 1) else none)) else (bif Nat.ble 9 p then (bif Nat.beq p 9 then some (.getfield 15, 3) else none) else (bif Nat.beq p 8 then some (.aload_n 0, 1) else none))) else (bif Nat.ble 2 p then (bif Nat.ble 5 p then (bif Nat.beq p 5 then some (.ifCond .eq 14, 3) else none) else (bif Nat.beq p 2 then some (.invokevirtual 22, 3) else none)) else (bif Nat.ble 1 p then (bif Nat.beq p 1 then some (.iload_n 1, 1) else none) else (bif Nat.beq p 0 then some (.aload_n 0, 1) else none)))))
set_option maxRecDepth 100000 in
theorem zkX1_put : (zbig cX1_put.data.toList = 1735118961804878944218935570382148166944107900703545713555897483338533531209833832086274943767191959449385108364900834090 ∧ cX1_put.data.toList.length = 50) ∧ zdk cX1_put 1735118961804878944218935570382148166944107900703545713555897483338533531209833832086274943767191959449385108364900834090 50 ztX1_put 49 = true := by decide +kernel
theorem zw_150 : (Jvm.Cond.fieldLink "HillSchool$Columns" (19 : Nat) "HillSchool$Columns" "weights" "[I") ∈ zall := zmemG (zmj_1 47 rfl) rfl
theorem zw_547 : (Jvm.Cond.instanceMethod ({ cls := "HillSchool$Columns", name := "has", desc := "(I)Z" } : Jvm.MethodName)) ∈ zall := zmemG (zmj_2 204 rfl) rfl
theorem zw_548 : (Jvm.Cond.selects "HillSchool$Columns" ({ cls := "HillSchool$Columns", name := "has", desc := "(I)Z" } : Jvm.MethodName) ({ cls := "HillSchool$Columns", name := "has", desc := "(I)Z" } : Jvm.MethodName)) ∈ zall := zmemG (zmj_2 205 rfl) rfl
theorem zw_553 : (Jvm.Cond.code ({ cls := "HillSchool$Columns", name := "put", desc := "(II)Z" } : Jvm.MethodName) prog_3_method_9_code (3 : Nat) (Option.some Jvm.ClassFile.FieldType.boolean)) ∈ zall := zmemG (zmj_2 210 rfl) rfl
theorem zw_554 : (Jvm.Cond.methodLink "HillSchool$Columns" (22 : Nat) ({ cls := "HillSchool$Columns", name := "has", desc := "(I)Z" } : Jvm.MethodName)) ∈ zall := zmemG (zmj_2 211 rfl) rfl
noncomputable abbrev w_Columns_put : List Cond := .code yX1_put cX1_put 3 (some .boolean) :: zall
noncomputable abbrev rm_Columns_put : Room := { frames := 1, cells := 0, slots := 0, locals := 21 }
theorem hd_Columns_put : yX1_put.cls = "HillSchool$Columns" ∧ yX1_put.cls ≠ "java/lang/invoke/MethodHandle" ∧ yX1_put.cls ≠ "java/lang/invoke/VarHandle" ∧ (parseMethodDescriptor yX1_put.desc).map (fun d => d.parameters.length) = some 2 := by decide +kernel
noncomputable def wd_Columns_put (cA : Nat → ClassId) (q0 q1 q2 : Nat) (i_many : Int) (i_heights : Nat → Int) (i_weights : Nat → Int) : va_W := [(q0, .inr (1, [.int (Int32.ofInt i_many), .ref q1, .ref q2])), (q1, .inl (cA 0, 12, .inl (za i_heights))), (q2, .inl (cA 0, 120, .inl (za i_weights)))]
noncomputable def wf_Columns_put (cA : Nat → ClassId) (q0 q1 q2 : Nat) (i_many : Int) (o : Int × (Nat → Int) × (Nat → Int)) : va_W := wd_Columns_put cA q0 q1 q2 i_many o.2.1 o.2.2
noncomputable def f_Columns_put (x1 : Int) (x2 : Int) (i_many : Int) (i_heights : Nat → Int) (i_weights : Nat → Int) : Option (Int × (Nat → Int) × (Nat → Int)) :=
  zd1 (f_Columns_has x1 i_many) fun v1 =>
  if zi_w v1 = 0 then
    some (0, i_heights, i_weights)
  else
    zg 12 i_heights x1 fun v2 =>
    if zi_w v2 < zi_w 10 then
      zn (x1 * 10) fun v3 =>
      zg 12 i_heights x1 fun v4 =>
      zn (v3 + v4) fun v5 =>
      zs 120 i_weights v5 x2 fun a6 =>
      zg 12 i_heights x1 fun v7 =>
      zn (v7 + 1) fun v8 =>
      zs 12 i_heights x1 v8 fun a9 =>
      some (1, a9, a6)
    else
      some (0, i_heights, i_weights)
set_option maxHeartbeats 4000000 in
set_option maxRecDepth 100000 in
theorem c_Columns_put (l : Launch) (ev : zEv) (dC : Nat → ClassId) (dI : Nat → Nat → Nat) (cA : Nat → ClassId) (q0 q1 q2 : Nat) {x1 x2 : Int} {i_many : Int} {i_heights : Nat → Int} {i_weights : Nat → Int} {out : Int × (Nat → Int) × (Nat → Int)} (hf : f_Columns_put x1 x2 i_many i_heights i_weights = some out) : xc_I l ev (dC, dI) vwCl (tyl cA) yX1_put w_Columns_put rm_Columns_put [.ref q0, .int (Int32.ofInt x1), .int (Int32.ofInt x2)] (wd_Columns_put cA q0 q1 q2 i_many i_heights i_weights) (wf_Columns_put cA q0 q1 q2 i_many out) out.1 := by
  refine xv_startI (cc := cX1_put) (maxL := 3) (rt := .boolean) (by decide +kernel) rfl (Nat.le_of_ble_eq_true rfl) ?_
  intro p e s m args below meth c A Q H ls hx hb hml hts hown hK hA hP hD hS hl hE hret
  have hown : s.vm.findClass "HillSchool$Columns" = some m.cls := hown
  have hz : ∀ w ∈ zall, w.before args s = true := fun w h => hts w (List.mem_cons_of_mem _ h)
  have hl : lv_has ls 3 [(0, .ref q0), (1, .int (Int32.ofInt x1)), (2, .int (Int32.ofInt x2))] := hl
  unfold f_Columns_put at hf
  refine lv_aload_n hx hb (zdt zkX1_put 0 rfl) rfl (lv_at hl 0 rfl) ?_
  refine lv_iload_n hx hb (zdt zkX1_put 1 rfl) rfl (lv_at hl 1 rfl) ?_
  refine xe_d1 hf (fun v1 hg hf => ?_)
  have hC : ([0] : List Nat).map (fun i => (wd_Columns_put cA q0 q1 q2 i_many i_heights i_weights)[i]?) = (wd_Columns_has cA q0 q1 q2 i_many).map some := rfl
  refine xv_afterI (ws' := (wd_Columns_put cA q0 q1 q2 i_many i_heights i_weights)) (isC := [0]) (ps := [some 0, none, none]) (va_runV (As := [.int (Int32.ofInt x1)]) (rest := []) ⟨hx, hb, hml, hown, hts⟩ (c_Columns_has l ev dC dI cA q0 q1 q2 hg H.size) (cwV 1 hts (zgV zw_554 zw_547 zw_548 zw_106 zw_549) rfl rfl rfl hd_Columns_has ⟨Nat.le_of_ble_eq_true rfl, Nat.le_of_ble_eq_true rfl⟩) (xv_preV (T := TX1) (N := 3) hE hA hS hK hP hD (isC := [0]) (by decide +kernel) hC (q0 := 0) (ci := 1) rfl rfl) rfl rfl hl.1 rfl (lv_room (Nat.le_of_ble_eq_true rfl)) (zdt zkX1_put 2 rfl) ⟨Nat.le_refl _, Nat.le_refl _⟩) hP hD hS hA (by decide +kernel) rfl hC rfl rfl (fun H locs hP hD hS => ?_)
  refine xi_if_eq (tgt := 19) hx hb (zdt zkX1_put 5 rfl) (by decide) hf (fun hf => ?_) (fun hf => ?_)
  · refine lv_iconst (v := Int32.ofInt 0) hx hb (zdt zkX1_put 19 rfl) rfl ?_
    obtain rfl := Option.some.inj hf
    exact hret _ _ _ _ zz_b0 (zdt zkX1_put 20 rfl) hP hD hS
  · refine lv_aload_n hx hb (zdt zkX1_put 8 rfl) rfl (lv_at hl 0 rfl) ?_
    refine va_get (D := (dC, dI)) (ci := 1) (v := .ref q1) (C := RX1) (T := TX1) (N := 3) hx hb hz zi_X1 hown hK hP 0 rfl rfl 1 (by decide) (hz _ zw_149) (fun _ h9 => h9) rfl (zdt zkX1_put 9 rfl) ?_
    refine lv_iload_n hx hb (zdt zkX1_put 12 rfl) rfl (lv_at hl 1 rfl) ?_
    refine xi_iald hx hb hK hP 1 0 rfl rfl (zdt zkX1_put 13 rfl) hf (fun v2 hf => ?_)
    refine lv_bipush (v := Int32.ofInt 10) hx hb (zdt zkX1_put 14 rfl) (by decide) ?_
    refine xi_icmp_lt (tgt := 21) hx hb (zdt zkX1_put 16 rfl) (by decide) hf (fun hf => ?_) (fun hf => ?_)
    · refine lv_aload_n hx hb (zdt zkX1_put 21 rfl) rfl (lv_at hl 0 rfl) ?_
      refine va_get (D := (dC, dI)) (ci := 1) (v := .ref q2) (C := RX1) (T := TX1) (N := 3) hx hb hz zi_X1 hown hK hP 0 rfl rfl 2 (by decide) (hz _ zw_150) (fun _ h9 => h9) rfl (zdt zkX1_put 22 rfl) ?_
      refine lv_iload_n hx hb (zdt zkX1_put 25 rfl) rfl (lv_at hl 1 rfl) ?_
      refine lv_bipush (v := Int32.ofInt 10) hx hb (zdt zkX1_put 26 rfl) (by decide) ?_
      refine xi_imul hx hb (zdt zkX1_put 28 rfl) hf (fun v3 hf => ?_)
      refine lv_aload_n hx hb (zdt zkX1_put 29 rfl) rfl (lv_at hl 0 rfl) ?_
      refine va_get (D := (dC, dI)) (ci := 1) (v := .ref q1) (C := RX1) (T := TX1) (N := 3) hx hb hz zi_X1 hown hK hP 0 rfl rfl 1 (by decide) (hz _ zw_149) (fun _ h9 => h9) rfl (zdt zkX1_put 30 rfl) ?_
      refine lv_iload_n hx hb (zdt zkX1_put 33 rfl) rfl (lv_at hl 1 rfl) ?_
      refine xi_iald hx hb hK hP 1 0 rfl rfl (zdt zkX1_put 34 rfl) hf (fun v4 hf => ?_)
      refine xi_iadd hx hb (zdt zkX1_put 35 rfl) hf (fun v5 hf => ?_)
      refine lv_iload_n hx hb (zdt zkX1_put 36 rfl) rfl (lv_at hl 2 rfl) ?_
      refine xi_iast hx hb hK hP hD hS 2 0 rfl rfl (zdt zkX1_put 37 rfl) hf (fun a6 H locs hP hD hS hf => ?_)
      refine xw_PD (wd_Columns_put cA q0 q1 q2 i_many i_heights a6) hP hD (fun hP hD => ?_)
      refine lv_aload_n hx hb (zdt zkX1_put 38 rfl) rfl (lv_at hl 0 rfl) ?_
      refine va_get (D := (dC, dI)) (ci := 1) (v := .ref q1) (C := RX1) (T := TX1) (N := 3) hx hb hz zi_X1 hown hK hP 0 rfl rfl 1 (by decide) (hz _ zw_149) (fun _ h9 => h9) rfl (zdt zkX1_put 39 rfl) ?_
      refine lv_iload_n hx hb (zdt zkX1_put 42 rfl) rfl (lv_at hl 1 rfl) ?_
      refine lv_dup2_11 hx hb (zdt zkX1_put 43 rfl) rfl rfl ?_
      refine xi_iald hx hb hK hP 1 0 rfl rfl (zdt zkX1_put 44 rfl) hf (fun v7 hf => ?_)
      refine lv_iconst (v := Int32.ofInt 1) hx hb (zdt zkX1_put 45 rfl) rfl ?_
      refine xi_iadd hx hb (zdt zkX1_put 46 rfl) hf (fun v8 hf => ?_)
      refine xi_iast hx hb hK hP hD hS 1 0 rfl rfl (zdt zkX1_put 47 rfl) hf (fun a9 H locs hP hD hS hf => ?_)
      refine xw_PD (wd_Columns_put cA q0 q1 q2 i_many a9 a6) hP hD (fun hP hD => ?_)
      refine lv_iconst (v := Int32.ofInt 1) hx hb (zdt zkX1_put 48 rfl) rfl ?_
      obtain rfl := Option.some.inj hf
      exact hret _ _ _ _ zz_b1 (zdt zkX1_put 49 rfl) hP hD hS
    · refine lv_iconst (v := Int32.ofInt 0) hx hb (zdt zkX1_put 19 rfl) rfl ?_
      obtain rfl := Option.some.inj hf
      exact hret _ _ _ _ zz_b0 (zdt zkX1_put 20 rfl) hP hD hS
set_option maxRecDepth 100000 in
noncomputable def ztX1_high (p : Nat) : Option (Jvm.ClassFile.Instr × Nat) := bif Nat.ble 9 p then (bif Nat.ble 14 p then (bif Nat.ble 17 p then (bif Nat.ble 18 p then (bif Nat.beq p 18 then some (.ireturn, 1) else none) else (bif Nat.beq p 17 then some (.iconst 0, 1) else none)) else (bif Nat.beq p 14 then some (.goto 4, 3) else none)) else (bif Nat.ble 12 p then (bif Nat.ble 13 p then (bif Nat.beq p 13 then some (.iaload, 1) else none) else (bif Nat.beq p 12 then some (.iload_n 1, 1) else none)) else (bif Nat.beq p 9 then some (.getfield 15, 3) else none))) else (bif Nat.ble 2 p then (bif Nat.ble 5 p then (bif Nat.ble 8 p then (bif Nat.beq p 8 then some (.aload_n 0, 1) else none) else (bif Nat.beq p 5 then some (.ifCond .eq 12, 3) else none)) else (bif Nat.beq p 2 then some (.invokevirtual 22, 3) else none)) else (bif Nat.ble 1 p then (bif Nat.beq p 1 then some (.iload_n 1, 1) else none) else (bif Nat.beq p 0 then some (.aload_n 0, 1) else none)))
set_option maxRecDepth 100000 in
theorem zkX1_high : (zbig cX1_high.data.toList = 3835990873002578854858535292948868101360196394 ∧ cX1_high.data.toList.length = 19) ∧ zdk cX1_high 3835990873002578854858535292948868101360196394 19 ztX1_high 18 = true := by decide +kernel
theorem zw_558 : (Jvm.Cond.code ({ cls := "HillSchool$Columns", name := "high", desc := "(I)I" } : Jvm.MethodName) prog_3_method_4_code (2 : Nat) (Option.some Jvm.ClassFile.FieldType.int)) ∈ zall := zmemG (zmj_2 215 rfl) rfl
noncomputable abbrev w_Columns_high : List Cond := .code yX1_high cX1_high 2 (some .int) :: zall
noncomputable abbrev rm_Columns_high : Room := { frames := 1, cells := 0, slots := 0, locals := 21 }
theorem hd_Columns_high : yX1_high.cls = "HillSchool$Columns" ∧ yX1_high.cls ≠ "java/lang/invoke/MethodHandle" ∧ yX1_high.cls ≠ "java/lang/invoke/VarHandle" ∧ (parseMethodDescriptor yX1_high.desc).map (fun d => d.parameters.length) = some 1 := by decide +kernel
noncomputable def wd_Columns_high (cA : Nat → ClassId) (q0 q1 q2 : Nat) (i_many : Int) (i_heights : Nat → Int)  : va_W := [(q0, .inr (1, [.int (Int32.ofInt i_many), .ref q1, .ref q2])), (q1, .inl (cA 0, 12, .inl (za i_heights)))]
noncomputable def wf_Columns_high (cA : Nat → ClassId) (q0 q1 q2 : Nat) (i_many : Int) (i_heights : Nat → Int) (o : Int) : va_W := wd_Columns_high cA q0 q1 q2 i_many i_heights
noncomputable def f_Columns_high (x1 : Int) (i_many : Int) (i_heights : Nat → Int) : Option (Int) :=
  zd1 (f_Columns_has x1 i_many) fun v1 =>
  if zi_w v1 = 0 then
    some 0
  else
    zg 12 i_heights x1 fun v2 =>
    some v2
set_option maxHeartbeats 4000000 in
set_option maxRecDepth 100000 in
theorem c_Columns_high (l : Launch) (ev : zEv) (dC : Nat → ClassId) (dI : Nat → Nat → Nat) (cA : Nat → ClassId) (q0 q1 q2 : Nat) {x1 : Int} {i_many : Int} {i_heights : Nat → Int} {out : Int} (hf : f_Columns_high x1 i_many i_heights = some out) : xc_I l ev (dC, dI) vwCl (tyl cA) yX1_high w_Columns_high rm_Columns_high [.ref q0, .int (Int32.ofInt x1)] (wd_Columns_high cA q0 q1 q2 i_many i_heights) (wf_Columns_high cA q0 q1 q2 i_many i_heights out) out := by
  refine xv_startI (cc := cX1_high) (maxL := 2) (rt := .int) (by decide +kernel) rfl (Nat.le_of_ble_eq_true rfl) ?_
  intro p e s m args below meth c A Q H ls hx hb hml hts hown hK hA hP hD hS hl hE hret
  have hown : s.vm.findClass "HillSchool$Columns" = some m.cls := hown
  have hz : ∀ w ∈ zall, w.before args s = true := fun w h => hts w (List.mem_cons_of_mem _ h)
  have hl : lv_has ls 2 [(0, .ref q0), (1, .int (Int32.ofInt x1))] := hl
  unfold f_Columns_high at hf
  refine lv_aload_n hx hb (zdt zkX1_high 0 rfl) rfl (lv_at hl 0 rfl) ?_
  refine lv_iload_n hx hb (zdt zkX1_high 1 rfl) rfl (lv_at hl 1 rfl) ?_
  refine xe_d1 hf (fun v1 hg hf => ?_)
  have hC : ([0] : List Nat).map (fun i => (wd_Columns_high cA q0 q1 q2 i_many i_heights)[i]?) = (wd_Columns_has cA q0 q1 q2 i_many).map some := rfl
  refine xv_afterI (ws' := (wd_Columns_high cA q0 q1 q2 i_many i_heights)) (isC := [0]) (ps := [some 0, none]) (va_runV (As := [.int (Int32.ofInt x1)]) (rest := []) ⟨hx, hb, hml, hown, hts⟩ (c_Columns_has l ev dC dI cA q0 q1 q2 hg H.size) (cwV 1 hts (zgV zw_554 zw_547 zw_548 zw_106 zw_549) rfl rfl rfl hd_Columns_has ⟨Nat.le_of_ble_eq_true rfl, Nat.le_of_ble_eq_true rfl⟩) (xv_preV (T := TX1) (N := 3) hE hA hS hK hP hD (isC := [0]) (by decide +kernel) hC (q0 := 0) (ci := 1) rfl rfl) rfl rfl hl.1 rfl (lv_room (Nat.le_of_ble_eq_true rfl)) (zdt zkX1_high 2 rfl) ⟨Nat.le_refl _, Nat.le_refl _⟩) hP hD hS hA (by decide +kernel) rfl hC rfl rfl (fun H locs hP hD hS => ?_)
  refine xi_if_eq (tgt := 17) hx hb (zdt zkX1_high 5 rfl) (by decide) hf (fun hf => ?_) (fun hf => ?_)
  · refine lv_iconst (v := Int32.ofInt 0) hx hb (zdt zkX1_high 17 rfl) rfl ?_
    obtain rfl := Option.some.inj hf
    exact hret _ _ _ _ rfl (zdt zkX1_high 18 rfl) hP hD hS
  · refine lv_aload_n hx hb (zdt zkX1_high 8 rfl) rfl (lv_at hl 0 rfl) ?_
    refine va_get (D := (dC, dI)) (ci := 1) (v := .ref q1) (C := RX1) (T := TX1) (N := 3) hx hb hz zi_X1 hown hK hP 0 rfl rfl 1 (by decide) (hz _ zw_149) (fun _ h9 => h9) rfl (zdt zkX1_high 9 rfl) ?_
    refine lv_iload_n hx hb (zdt zkX1_high 12 rfl) rfl (lv_at hl 1 rfl) ?_
    refine xi_iald hx hb hK hP 1 0 rfl rfl (zdt zkX1_high 13 rfl) hf (fun v2 hf => ?_)
    refine lv_goto (tgt := 18) hx hb (zdt zkX1_high 14 rfl) (by decide) ?_
    obtain rfl := Option.some.inj hf
    exact hret _ _ _ _ rfl (zdt zkX1_high 18 rfl) hP hD hS
set_option maxRecDepth 100000 in
noncomputable def ztX10_stone (p : Nat) : Option (Jvm.ClassFile.Instr × Nat) := bif Nat.ble 37 p then (bif Nat.ble 56 p then (bif Nat.ble 65 p then (bif Nat.ble 69 p then (bif Nat.ble 72 p then (bif Nat.ble 75 p then (bif Nat.beq p 75 then some (.ireturn, 1) else none) else (bif Nat.beq p 72 then some (.invokevirtual 119, 3) else none)) else (bif Nat.beq p 69 then some (.invokevirtual 130, 3) else none)) else (bif Nat.ble 68 p then (bif Nat.beq p 68 then some (.iload_n 1, 1) else none) else (bif Nat.beq p 65 then some (.getfield 99, 3) else none))) else (bif Nat.ble 60 p then (bif Nat.ble 61 p then (bif Nat.ble 62 p then (bif Nat.beq p 62 then some (.getfield 10, 3) else none) else (bif Nat.beq p 61 then some (.aload_n 0, 1) else none)) else (bif Nat.beq p 60 then some (.aload_n 0, 1) else none)) else (bif Nat.ble 59 p then (bif Nat.beq p 59 then some (.ireturn, 1) else none) else (bif Nat.beq p 56 then some (.invokevirtual 109, 3) else none)))) else (bif Nat.ble 46 p then (bif Nat.ble 50 p then (bif Nat.ble 53 p then (bif Nat.ble 54 p then (bif Nat.beq p 54 then some (.bipush (-5), 2) else none) else (bif Nat.beq p 53 then some (.aload_n 0, 1) else none)) else (bif Nat.beq p 50 then some (.ifCond .ne 10, 3) else none)) else (bif Nat.ble 47 p then (bif Nat.beq p 47 then some (.invokevirtual 126, 3) else none) else (bif Nat.beq p 46 then some (.iload_n 2, 1) else none))) else (bif Nat.ble 39 p then (bif Nat.ble 42 p then (bif Nat.ble 45 p then (bif Nat.beq p 45 then some (.iload_n 1, 1) else none) else (bif Nat.beq p 42 then some (.getfield 99, 3) else none)) else (bif Nat.beq p 39 then some (.getfield 10, 3) else none)) else (bif Nat.ble 38 p then (bif Nat.beq p 38 then some (.aload_n 0, 1) else none) else (bif Nat.beq p 37 then some (.ireturn, 1) else none))))) else (bif Nat.ble 16 p then (bif Nat.ble 25 p then (bif Nat.ble 31 p then (bif Nat.ble 32 p then (bif Nat.ble 34 p then (bif Nat.beq p 34 then some (.invokevirtual 109, 3) else none) else (bif Nat.beq p 32 then some (.bipush (-2), 2) else none)) else (bif Nat.beq p 31 then some (.aload_n 0, 1) else none)) else (bif Nat.ble 28 p then (bif Nat.beq p 28 then some (.ifCond .ne 10, 3) else none) else (bif Nat.beq p 25 then some (.invokevirtual 122, 3) else none))) else (bif Nat.ble 18 p then (bif Nat.ble 21 p then (bif Nat.ble 24 p then (bif Nat.beq p 24 then some (.iload_n 1, 1) else none) else (bif Nat.beq p 21 then some (.getfield 99, 3) else none)) else (bif Nat.beq p 18 then some (.getfield 10, 3) else none)) else (bif Nat.ble 17 p then (bif Nat.beq p 17 then some (.aload_n 0, 1) else none) else (bif Nat.beq p 16 then some (.ireturn, 1) else none)))) else (bif Nat.ble 6 p then (bif Nat.ble 11 p then (bif Nat.ble 12 p then (bif Nat.ble 13 p then (bif Nat.beq p 13 then some (.invokevirtual 109, 3) else none) else (bif Nat.beq p 12 then some (.iconst (-1), 1) else none)) else (bif Nat.beq p 11 then some (.aload_n 0, 1) else none)) else (bif Nat.ble 8 p then (bif Nat.beq p 8 then some (.if_icmp .le 9, 3) else none) else (bif Nat.beq p 6 then some (.bipush 30, 2) else none))) else (bif Nat.ble 2 p then (bif Nat.ble 5 p then (bif Nat.beq p 5 then some (.iload_n 2, 1) else none) else (bif Nat.beq p 2 then some (.if_icmp .lt 9, 3) else none)) else (bif Nat.ble 1 p then (bif Nat.beq p 1 then some (.iconst 1, 1) else none) else (bif Nat.beq p 0 then some (.iload_n 2, 1) else none)))))
set_option maxRecDepth 100000 in
theorem zkX10_stone : (zbig cX10_stone.data.toList = 715645599364986035166284995069402119817849684180422594464145509061785869637622499537584015822779878533621431919596861603491734117246137402274165802053850931692209327508458921707766812 ∧ cX10_stone.data.toList.length = 76) ∧ zdk cX10_stone 715645599364986035166284995069402119817849684180422594464145509061785869637622499537584015822779878533621431919596861603491734117246137402274165802053850931692209327508458921707766812 76 ztX10_stone 75 = true := by decide +kernel
theorem zw_545 : (Jvm.Cond.code ({ cls := "HillSchool", name := "stone", desc := "(II)I" } : Jvm.MethodName) prog_1_method_3_code (3 : Nat) (Option.some Jvm.ClassFile.FieldType.int)) ∈ zall := zmemG (zmj_2 202 rfl) rfl
theorem zw_546 : (Jvm.Cond.methodLink "HillSchool" (122 : Nat) ({ cls := "HillSchool$Columns", name := "has", desc := "(I)Z" } : Jvm.MethodName)) ∈ zall := zmemG (zmj_2 203 rfl) rfl
theorem zw_550 : (Jvm.Cond.methodLink "HillSchool" (126 : Nat) ({ cls := "HillSchool$Columns", name := "put", desc := "(II)Z" } : Jvm.MethodName)) ∈ zall := zmemG (zmj_2 207 rfl) rfl
theorem zw_551 : (Jvm.Cond.instanceMethod ({ cls := "HillSchool$Columns", name := "put", desc := "(II)Z" } : Jvm.MethodName)) ∈ zall := zmemG (zmj_2 208 rfl) rfl
theorem zw_552 : (Jvm.Cond.selects "HillSchool$Columns" ({ cls := "HillSchool$Columns", name := "put", desc := "(II)Z" } : Jvm.MethodName) ({ cls := "HillSchool$Columns", name := "put", desc := "(II)Z" } : Jvm.MethodName)) ∈ zall := zmemG (zmj_2 209 rfl) rfl
theorem zw_555 : (Jvm.Cond.methodLink "HillSchool" (130 : Nat) ({ cls := "HillSchool$Columns", name := "high", desc := "(I)I" } : Jvm.MethodName)) ∈ zall := zmemG (zmj_2 212 rfl) rfl
theorem zw_556 : (Jvm.Cond.instanceMethod ({ cls := "HillSchool$Columns", name := "high", desc := "(I)I" } : Jvm.MethodName)) ∈ zall := zmemG (zmj_2 213 rfl) rfl
theorem zw_557 : (Jvm.Cond.selects "HillSchool$Columns" ({ cls := "HillSchool$Columns", name := "high", desc := "(I)I" } : Jvm.MethodName) ({ cls := "HillSchool$Columns", name := "high", desc := "(I)I" } : Jvm.MethodName)) ∈ zall := zmemG (zmj_2 214 rfl) rfl
noncomputable abbrev w_HS_stone : List Cond := .code yX10_stone cX10_stone 3 (some .int) :: zall
noncomputable abbrev rm_HS_stone : Room := { frames := 2, cells := 0, slots := 0, locals := 43 }
theorem hd_HS_stone : yX10_stone.cls = "HillSchool" ∧ yX10_stone.cls ≠ "java/lang/invoke/MethodHandle" ∧ yX10_stone.cls ≠ "java/lang/invoke/VarHandle" ∧ (parseMethodDescriptor yX10_stone.desc).map (fun d => d.parameters.length) = some 2 := by decide +kernel
noncomputable def wd_HS_stone (cA : Nat → ClassId) (q0 q1 q2 q3 q4 q5 q6 q7 q8 q9 q10 q11 q12 q13 q14 q15 q16 q17 q18 q19 q20 q21 q22 q23 : Nat) (u0 u1 u2 u3 u4 u5 u6 : Int) (i_hill_columns_many : Int) (i_latestStatus : Int) (i_hill_changes : Int) (i_refusals : Nat → Int) (i_hill_columns_heights : Nat → Int) (i_hill_columns_weights : Nat → Int) : va_W := [(q0, .inr (10, [.ref q1, .ref q2, .ref q3, .ref q4, .int (Int32.ofInt u0), .int (Int32.ofInt u1), .int (Int32.ofInt u2), .ref q5, .int (Int32.ofInt i_latestStatus), .ref q6, .ref q7, .ref q8, .ref q9, .ref q10, .ref q11, .ref q12])), (q1, .inr (2, [.ref q13, .int (Int32.ofInt u3), .ref q14, .ref q15, .ref q16, .int (Int32.ofInt u4), .ref q17, .ref q18, .ref q19, .int (Int32.ofInt u5), .ref q20, .ref q21, .int (Int32.ofInt u6), .int (Int32.ofInt i_hill_changes)])), (q5, .inl (cA 0, 7, .inl (za i_refusals))), (q13, .inr (1, [.int (Int32.ofInt i_hill_columns_many), .ref q22, .ref q23])), (q22, .inl (cA 0, 12, .inl (za i_hill_columns_heights))), (q23, .inl (cA 0, 120, .inl (za i_hill_columns_weights)))]
noncomputable def wf_HS_stone (cA : Nat → ClassId) (q0 q1 q2 q3 q4 q5 q6 q7 q8 q9 q10 q11 q12 q13 q14 q15 q16 q17 q18 q19 q20 q21 q22 q23 : Nat) (u0 u1 u2 u3 u4 u5 u6 : Int) (i_hill_columns_many : Int) (o : Int × Int × Int × (Nat → Int) × (Nat → Int) × (Nat → Int)) : va_W := wd_HS_stone cA q0 q1 q2 q3 q4 q5 q6 q7 q8 q9 q10 q11 q12 q13 q14 q15 q16 q17 q18 q19 q20 q21 q22 q23 u0 u1 u2 u3 u4 u5 u6 i_hill_columns_many o.2.1 o.2.2.1 o.2.2.2.1 o.2.2.2.2.1 o.2.2.2.2.2
noncomputable def f_HS_stone_11 (i_hill_columns_many : Int) (i_latestStatus : Int) (i_hill_changes : Int) (i_refusals : Nat → Int) (i_hill_columns_heights : Nat → Int) (i_hill_columns_weights : Nat → Int) : Option (Int × Int × Int × (Nat → Int) × (Nat → Int) × (Nat → Int)) :=
  zd3 (f_HS_refuse (-1) i_latestStatus i_refusals) fun v1 v2 a3 =>
  some (v1, v2, i_hill_changes, a3, i_hill_columns_heights, i_hill_columns_weights)
noncomputable def f_HS_stone (x1 : Int) (x2 : Int) (i_hill_columns_many : Int) (i_latestStatus : Int) (i_hill_changes : Int) (i_refusals : Nat → Int) (i_hill_columns_heights : Nat → Int) (i_hill_columns_weights : Nat → Int) : Option (Int × Int × Int × (Nat → Int) × (Nat → Int) × (Nat → Int)) :=
  if zi_w x2 < zi_w 1 then
    f_HS_stone_11 i_hill_columns_many i_latestStatus i_hill_changes i_refusals i_hill_columns_heights i_hill_columns_weights
  else
    if zi_w x2 ≤ zi_w 30 then
      zd1 (f_Columns_has x1 i_hill_columns_many) fun v1 =>
      if zi_w v1 ≠ 0 then
        zd3 (f_Columns_put x1 x2 i_hill_columns_many i_hill_columns_heights i_hill_columns_weights) fun v2 a3 a4 =>
        if zi_w v2 ≠ 0 then
          zd1 (f_Columns_high x1 i_hill_columns_many a3) fun v5 =>
          zd3 (f_HS_accept v5 i_latestStatus i_hill_changes) fun v6 v7 v8 =>
          some (v6, v7, v8, i_refusals, a3, a4)
        else
          zd3 (f_HS_refuse (-5) i_latestStatus i_refusals) fun v9 v10 a11 =>
          some (v9, v10, i_hill_changes, a11, a3, a4)
      else
        zd3 (f_HS_refuse (-2) i_latestStatus i_refusals) fun v12 v13 a14 =>
        some (v12, v13, i_hill_changes, a14, i_hill_columns_heights, i_hill_columns_weights)
    else
      f_HS_stone_11 i_hill_columns_many i_latestStatus i_hill_changes i_refusals i_hill_columns_heights i_hill_columns_weights
set_option maxHeartbeats 4000000 in
set_option maxRecDepth 100000 in
theorem c_HS_stone (l : Launch) (ev : zEv) (dC : Nat → ClassId) (dI : Nat → Nat → Nat) (cA : Nat → ClassId) (q0 q1 q2 q3 q4 q5 q6 q7 q8 q9 q10 q11 q12 q13 q14 q15 q16 q17 q18 q19 q20 q21 q22 q23 : Nat) (u0 u1 u2 u3 u4 u5 u6 : Int) {x1 x2 : Int} {i_hill_columns_many : Int} {i_latestStatus : Int} {i_hill_changes : Int} {i_refusals : Nat → Int} {i_hill_columns_heights : Nat → Int} {i_hill_columns_weights : Nat → Int} {out : Int × Int × Int × (Nat → Int) × (Nat → Int) × (Nat → Int)} (hf : f_HS_stone x1 x2 i_hill_columns_many i_latestStatus i_hill_changes i_refusals i_hill_columns_heights i_hill_columns_weights = some out) : xc_I l ev (dC, dI) vwCl (tyl cA) yX10_stone w_HS_stone rm_HS_stone [.ref q0, .int (Int32.ofInt x1), .int (Int32.ofInt x2)] (wd_HS_stone cA q0 q1 q2 q3 q4 q5 q6 q7 q8 q9 q10 q11 q12 q13 q14 q15 q16 q17 q18 q19 q20 q21 q22 q23 u0 u1 u2 u3 u4 u5 u6 i_hill_columns_many i_latestStatus i_hill_changes i_refusals i_hill_columns_heights i_hill_columns_weights) (wf_HS_stone cA q0 q1 q2 q3 q4 q5 q6 q7 q8 q9 q10 q11 q12 q13 q14 q15 q16 q17 q18 q19 q20 q21 q22 q23 u0 u1 u2 u3 u4 u5 u6 i_hill_columns_many out) out.1 := by
  refine xv_startI (cc := cX10_stone) (maxL := 3) (rt := .int) (by decide +kernel) rfl (Nat.le_of_ble_eq_true rfl) ?_
  intro p e s m args below meth c A Q H ls hx hb hml hts hown hK hA hP hD hS hl hE hret
  have hown : s.vm.findClass "HillSchool" = some m.cls := hown
  have hz : ∀ w ∈ zall, w.before args s = true := fun w h => hts w (List.mem_cons_of_mem _ h)
  have hl : lv_has ls 3 [(0, .ref q0), (1, .int (Int32.ofInt x1)), (2, .int (Int32.ofInt x2))] := hl
  have b_11 : ∀ (i_latestStatus : Int) (i_hill_changes : Int) (i_refusals : Nat → Int) (i_hill_columns_heights : Nat → Int) (i_hill_columns_weights : Nat → Int) (H : Heap) (locs : List Loc) (ls : Array Slot), f_HS_stone_11 i_hill_columns_many i_latestStatus i_hill_changes i_refusals i_hill_columns_heights i_hill_columns_weights = some out → va_P (dC, dI) vwCl (wd_HS_stone cA q0 q1 q2 q3 q4 q5 q6 q7 q8 q9 q10 q11 q12 q13 q14 q15 q16 q17 q18 q19 q20 q21 q22 q23 u0 u1 u2 u3 u4 u5 u6 i_hill_columns_many i_latestStatus i_hill_changes i_refusals i_hill_columns_heights i_hill_columns_weights) H → va_D A (wd_HS_stone cA q0 q1 q2 q3 q4 q5 q6 q7 q8 q9 q10 q11 q12 q13 q14 q15 q16 q17 q18 q19 q20 q21 q22 q23 u0 u1 u2 u3 u4 u5 u6 i_hill_columns_many i_latestStatus i_hill_changes i_refusals i_hill_columns_heights i_hill_columns_weights) → va_S A s.heap H locs → lv_has ls 3 [(0, .ref q0)] → W p l e rm_HS_stone s m args below meth c H locs 0 0 Q (F0 m 11 ls []) := by
    intro i_latestStatus i_hill_changes i_refusals i_hill_columns_heights i_hill_columns_weights H locs ls hf hP hD hS hl
    unfold f_HS_stone_11 at hf
    refine lv_aload_n hx hb (zdt zkX10_stone 11 rfl) rfl (lv_at hl 0 rfl) ?_
    refine lv_iconst (v := Int32.ofInt (-1)) hx hb (zdt zkX10_stone 12 rfl) rfl ?_
    refine xe_d3 hf (fun v1 v2 a3 hg hf => ?_)
    have hC : ([0, 2] : List Nat).map (fun i => (wd_HS_stone cA q0 q1 q2 q3 q4 q5 q6 q7 q8 q9 q10 q11 q12 q13 q14 q15 q16 q17 q18 q19 q20 q21 q22 q23 u0 u1 u2 u3 u4 u5 u6 i_hill_columns_many i_latestStatus i_hill_changes i_refusals i_hill_columns_heights i_hill_columns_weights)[i]?) = (wd_HS_refuse cA q0 q1 q2 q3 q4 q5 q6 q7 q8 q9 q10 q11 q12 u0 u1 u2 i_latestStatus i_refusals).map some := rfl
    refine xv_afterI (ws' := (wd_HS_stone cA q0 q1 q2 q3 q4 q5 q6 q7 q8 q9 q10 q11 q12 q13 q14 q15 q16 q17 q18 q19 q20 q21 q22 q23 u0 u1 u2 u3 u4 u5 u6 i_hill_columns_many v2 i_hill_changes a3 i_hill_columns_heights i_hill_columns_weights)) (isC := [0, 2]) (ps := [some 0, none, some 1, none, none, none]) (va_runV (As := [.int (Int32.ofInt (-1))]) (rest := []) ⟨hx, hb, hml, hown, hts⟩ (c_HS_refuse l ev dC dI cA q0 q1 q2 q3 q4 q5 q6 q7 q8 q9 q10 q11 q12 u0 u1 u2 hg H.size) (cwV 1 hts (zgV zw_534 zw_536 zw_0 zw_104 zw_537) rfl rfl rfl hd_HS_refuse ⟨Nat.le_of_ble_eq_true rfl, Nat.le_of_ble_eq_true rfl⟩) (xv_preV (T := TX10) (N := 16) hE hA hS hK hP hD (isC := [0, 2]) (by decide +kernel) hC (q0 := 0) (ci := 10) rfl rfl) rfl rfl hl.1 rfl (lv_room (Nat.le_of_ble_eq_true rfl)) (zdt zkX10_stone 13 rfl) ⟨Nat.le_refl _, Nat.le_refl _⟩) hP hD hS hA (by decide +kernel) rfl hC rfl rfl (fun H locs hP hD hS => ?_)
    obtain rfl := Option.some.inj hf
    exact hret _ _ _ _ rfl (zdt zkX10_stone 16 rfl) hP hD hS
  unfold f_HS_stone at hf
  refine lv_iload_n hx hb (zdt zkX10_stone 0 rfl) rfl (lv_at hl 2 rfl) ?_
  refine lv_iconst (v := Int32.ofInt 1) hx hb (zdt zkX10_stone 1 rfl) rfl ?_
  refine xi_icmp_lt (tgt := 11) hx hb (zdt zkX10_stone 2 rfl) (by decide) hf (fun hf => ?_) (fun hf => ?_)
  · exact b_11  _ _ _ _ _ _ _ _ hf hP hD hS (lv_sub hl [0] rfl)
  · refine lv_iload_n hx hb (zdt zkX10_stone 5 rfl) rfl (lv_at hl 2 rfl) ?_
    refine lv_bipush (v := Int32.ofInt 30) hx hb (zdt zkX10_stone 6 rfl) (by decide) ?_
    refine xi_icmp_le (tgt := 17) hx hb (zdt zkX10_stone 8 rfl) (by decide) hf (fun hf => ?_) (fun hf => ?_)
    · refine lv_aload_n hx hb (zdt zkX10_stone 17 rfl) rfl (lv_at hl 0 rfl) ?_
      refine va_get (D := (dC, dI)) (ci := 10) (v := .ref q1) (C := RX10) (T := TX10) (N := 16) hx hb hz zi_X10 hown hK hP 0 rfl rfl 0 (by decide) (hz _ zw_477) (fun _ h9 => h9) rfl (zdt zkX10_stone 18 rfl) ?_
      refine va_getN (D := (dC, dI)) (ci := 2) (v := .ref q13) (C := RX2) (T := TX2) (N := 14) hx hb hz zi_X2 hown hK hP 1 rfl rfl 0 (by decide) (va_Nw.use rfl (hE.1.1 _ zw_169)) (fun _ h9 => h9) rfl (zdt zkX10_stone 21 rfl) ?_
      refine lv_iload_n hx hb (zdt zkX10_stone 24 rfl) rfl (lv_at hl 1 rfl) ?_
      refine xe_d1 hf (fun v1 hg hf => ?_)
      have hC : ([3] : List Nat).map (fun i => (wd_HS_stone cA q0 q1 q2 q3 q4 q5 q6 q7 q8 q9 q10 q11 q12 q13 q14 q15 q16 q17 q18 q19 q20 q21 q22 q23 u0 u1 u2 u3 u4 u5 u6 i_hill_columns_many i_latestStatus i_hill_changes i_refusals i_hill_columns_heights i_hill_columns_weights)[i]?) = (wd_Columns_has cA q13 q22 q23 i_hill_columns_many).map some := rfl
      refine xv_afterI (ws' := (wd_HS_stone cA q0 q1 q2 q3 q4 q5 q6 q7 q8 q9 q10 q11 q12 q13 q14 q15 q16 q17 q18 q19 q20 q21 q22 q23 u0 u1 u2 u3 u4 u5 u6 i_hill_columns_many i_latestStatus i_hill_changes i_refusals i_hill_columns_heights i_hill_columns_weights)) (isC := [3]) (ps := [none, none, none, some 0, none, none]) (va_runV (As := [.int (Int32.ofInt x1)]) (rest := []) ⟨hx, hb, hml, hown, hts⟩ (c_Columns_has l ev dC dI cA q13 q22 q23 hg H.size) (cwV 1 hts (zgV zw_546 zw_547 zw_548 zw_106 zw_549) rfl rfl rfl hd_Columns_has ⟨Nat.le_of_ble_eq_true rfl, Nat.le_of_ble_eq_true rfl⟩) (xv_preV (T := TX1) (N := 3) hE hA hS hK hP hD (isC := [3]) (by decide +kernel) hC (q0 := 3) (ci := 1) rfl rfl) rfl rfl hl.1 rfl (lv_room (Nat.le_of_ble_eq_true rfl)) (zdt zkX10_stone 25 rfl) ⟨Nat.le_refl _, Nat.le_refl _⟩) hP hD hS hA (by decide +kernel) rfl hC rfl rfl (fun H locs hP hD hS => ?_)
      refine xi_if_ne (tgt := 38) hx hb (zdt zkX10_stone 28 rfl) (by decide) hf (fun hf => ?_) (fun hf => ?_)
      · refine lv_aload_n hx hb (zdt zkX10_stone 38 rfl) rfl (lv_at hl 0 rfl) ?_
        refine va_get (D := (dC, dI)) (ci := 10) (v := .ref q1) (C := RX10) (T := TX10) (N := 16) hx hb hz zi_X10 hown hK hP 0 rfl rfl 0 (by decide) (hz _ zw_477) (fun _ h9 => h9) rfl (zdt zkX10_stone 39 rfl) ?_
        refine va_getN (D := (dC, dI)) (ci := 2) (v := .ref q13) (C := RX2) (T := TX2) (N := 14) hx hb hz zi_X2 hown hK hP 1 rfl rfl 0 (by decide) (va_Nw.use rfl (hE.1.1 _ zw_169)) (fun _ h9 => h9) rfl (zdt zkX10_stone 42 rfl) ?_
        refine lv_iload_n hx hb (zdt zkX10_stone 45 rfl) rfl (lv_at hl 1 rfl) ?_
        refine lv_iload_n hx hb (zdt zkX10_stone 46 rfl) rfl (lv_at hl 2 rfl) ?_
        refine xe_d3 hf (fun v2 a3 a4 hg hf => ?_)
        have hC : ([3, 4, 5] : List Nat).map (fun i => (wd_HS_stone cA q0 q1 q2 q3 q4 q5 q6 q7 q8 q9 q10 q11 q12 q13 q14 q15 q16 q17 q18 q19 q20 q21 q22 q23 u0 u1 u2 u3 u4 u5 u6 i_hill_columns_many i_latestStatus i_hill_changes i_refusals i_hill_columns_heights i_hill_columns_weights)[i]?) = (wd_Columns_put cA q13 q22 q23 i_hill_columns_many i_hill_columns_heights i_hill_columns_weights).map some := rfl
        refine xv_afterI (ws' := (wd_HS_stone cA q0 q1 q2 q3 q4 q5 q6 q7 q8 q9 q10 q11 q12 q13 q14 q15 q16 q17 q18 q19 q20 q21 q22 q23 u0 u1 u2 u3 u4 u5 u6 i_hill_columns_many i_latestStatus i_hill_changes i_refusals a3 a4)) (isC := [3, 4, 5]) (ps := [none, none, none, some 0, some 1, some 2]) (va_runV (As := [.int (Int32.ofInt x1), .int (Int32.ofInt x2)]) (rest := []) ⟨hx, hb, hml, hown, hts⟩ (c_Columns_put l ev dC dI cA q13 q22 q23 hg H.size) (cwV 2 hts (zgV zw_550 zw_551 zw_552 zw_106 zw_553) rfl rfl rfl hd_Columns_put ⟨Nat.le_of_ble_eq_true rfl, Nat.le_of_ble_eq_true rfl⟩) (xv_preV (T := TX1) (N := 3) hE hA hS hK hP hD (isC := [3, 4, 5]) (by decide +kernel) hC (q0 := 3) (ci := 1) rfl rfl) rfl rfl hl.1 rfl (lv_room (Nat.le_of_ble_eq_true rfl)) (zdt zkX10_stone 47 rfl) ⟨Nat.le_refl _, Nat.le_refl _⟩) hP hD hS hA (by decide +kernel) rfl hC rfl rfl (fun H locs hP hD hS => ?_)
        refine xi_if_ne (tgt := 60) hx hb (zdt zkX10_stone 50 rfl) (by decide) hf (fun hf => ?_) (fun hf => ?_)
        · refine lv_aload_n hx hb (zdt zkX10_stone 60 rfl) rfl (lv_at hl 0 rfl) ?_
          refine lv_aload_n hx hb (zdt zkX10_stone 61 rfl) rfl (lv_at hl 0 rfl) ?_
          refine va_get (D := (dC, dI)) (ci := 10) (v := .ref q1) (C := RX10) (T := TX10) (N := 16) hx hb hz zi_X10 hown hK hP 0 rfl rfl 0 (by decide) (hz _ zw_477) (fun _ h9 => h9) rfl (zdt zkX10_stone 62 rfl) ?_
          refine va_getN (D := (dC, dI)) (ci := 2) (v := .ref q13) (C := RX2) (T := TX2) (N := 14) hx hb hz zi_X2 hown hK hP 1 rfl rfl 0 (by decide) (va_Nw.use rfl (hE.1.1 _ zw_169)) (fun _ h9 => h9) rfl (zdt zkX10_stone 65 rfl) ?_
          refine lv_iload_n hx hb (zdt zkX10_stone 68 rfl) rfl (lv_at hl 1 rfl) ?_
          refine xe_d1 hf (fun v5 hg hf => ?_)
          have hC : ([3, 4] : List Nat).map (fun i => (wd_HS_stone cA q0 q1 q2 q3 q4 q5 q6 q7 q8 q9 q10 q11 q12 q13 q14 q15 q16 q17 q18 q19 q20 q21 q22 q23 u0 u1 u2 u3 u4 u5 u6 i_hill_columns_many i_latestStatus i_hill_changes i_refusals a3 a4)[i]?) = (wd_Columns_high cA q13 q22 q23 i_hill_columns_many a3).map some := rfl
          refine xv_afterI (ws' := (wd_HS_stone cA q0 q1 q2 q3 q4 q5 q6 q7 q8 q9 q10 q11 q12 q13 q14 q15 q16 q17 q18 q19 q20 q21 q22 q23 u0 u1 u2 u3 u4 u5 u6 i_hill_columns_many i_latestStatus i_hill_changes i_refusals a3 a4)) (isC := [3, 4]) (ps := [none, none, none, some 0, some 1, none]) (va_runV (As := [.int (Int32.ofInt x1)]) (rest := [.ref q0]) ⟨hx, hb, hml, hown, hts⟩ (c_Columns_high l ev dC dI cA q13 q22 q23 hg H.size) (cwV 1 hts (zgV zw_555 zw_556 zw_557 zw_106 zw_558) rfl rfl rfl hd_Columns_high ⟨Nat.le_of_ble_eq_true rfl, Nat.le_of_ble_eq_true rfl⟩) (xv_preV (T := TX1) (N := 3) hE hA hS hK hP hD (isC := [3, 4]) (by decide +kernel) hC (q0 := 3) (ci := 1) rfl rfl) rfl rfl hl.1 rfl (lv_room (Nat.le_of_ble_eq_true rfl)) (zdt zkX10_stone 69 rfl) ⟨Nat.le_refl _, Nat.le_refl _⟩) hP hD hS hA (by decide +kernel) rfl hC rfl rfl (fun H locs hP hD hS => ?_)
          refine xe_d3 hf (fun v6 v7 v8 hg hf => ?_)
          have hC : ([0, 1] : List Nat).map (fun i => (wd_HS_stone cA q0 q1 q2 q3 q4 q5 q6 q7 q8 q9 q10 q11 q12 q13 q14 q15 q16 q17 q18 q19 q20 q21 q22 q23 u0 u1 u2 u3 u4 u5 u6 i_hill_columns_many i_latestStatus i_hill_changes i_refusals a3 a4)[i]?) = (wd_HS_accept cA q0 q1 q2 q3 q4 q5 q6 q7 q8 q9 q10 q11 q12 q13 q14 q15 q16 q17 q18 q19 q20 q21 u0 u1 u2 u3 u4 u5 u6 i_latestStatus i_hill_changes).map some := rfl
          refine xv_afterI (ws' := (wd_HS_stone cA q0 q1 q2 q3 q4 q5 q6 q7 q8 q9 q10 q11 q12 q13 q14 q15 q16 q17 q18 q19 q20 q21 q22 q23 u0 u1 u2 u3 u4 u5 u6 i_hill_columns_many v7 v8 i_refusals a3 a4)) (isC := [0, 1]) (ps := [some 0, some 1, none, none, none, none]) (va_runV (As := [.int (Int32.ofInt v5)]) (rest := []) ⟨hx, hb, hml, hown, hts⟩ (c_HS_accept l ev dC dI cA q0 q1 q2 q3 q4 q5 q6 q7 q8 q9 q10 q11 q12 q13 q14 q15 q16 q17 q18 q19 q20 q21 u0 u1 u2 u3 u4 u5 u6 hg H.size) (cwV 1 hts (zgV zw_538 zw_540 zw_1 zw_104 zw_541) rfl rfl rfl hd_HS_accept ⟨Nat.le_of_ble_eq_true rfl, Nat.le_of_ble_eq_true rfl⟩) (xv_preV (T := TX10) (N := 16) hE hA hS hK hP hD (isC := [0, 1]) (by decide +kernel) hC (q0 := 0) (ci := 10) rfl rfl) rfl rfl hl.1 rfl (lv_room (Nat.le_of_ble_eq_true rfl)) (zdt zkX10_stone 72 rfl) ⟨Nat.le_refl _, Nat.le_refl _⟩) hP hD hS hA (by decide +kernel) rfl hC rfl rfl (fun H locs hP hD hS => ?_)
          obtain rfl := Option.some.inj hf
          exact hret _ _ _ _ rfl (zdt zkX10_stone 75 rfl) hP hD hS
        · refine lv_aload_n hx hb (zdt zkX10_stone 53 rfl) rfl (lv_at hl 0 rfl) ?_
          refine lv_bipush (v := Int32.ofInt (-5)) hx hb (zdt zkX10_stone 54 rfl) (by decide) ?_
          refine xe_d3 hf (fun v9 v10 a11 hg hf => ?_)
          have hC : ([0, 2] : List Nat).map (fun i => (wd_HS_stone cA q0 q1 q2 q3 q4 q5 q6 q7 q8 q9 q10 q11 q12 q13 q14 q15 q16 q17 q18 q19 q20 q21 q22 q23 u0 u1 u2 u3 u4 u5 u6 i_hill_columns_many i_latestStatus i_hill_changes i_refusals a3 a4)[i]?) = (wd_HS_refuse cA q0 q1 q2 q3 q4 q5 q6 q7 q8 q9 q10 q11 q12 u0 u1 u2 i_latestStatus i_refusals).map some := rfl
          refine xv_afterI (ws' := (wd_HS_stone cA q0 q1 q2 q3 q4 q5 q6 q7 q8 q9 q10 q11 q12 q13 q14 q15 q16 q17 q18 q19 q20 q21 q22 q23 u0 u1 u2 u3 u4 u5 u6 i_hill_columns_many v10 i_hill_changes a11 a3 a4)) (isC := [0, 2]) (ps := [some 0, none, some 1, none, none, none]) (va_runV (As := [.int (Int32.ofInt (-5))]) (rest := []) ⟨hx, hb, hml, hown, hts⟩ (c_HS_refuse l ev dC dI cA q0 q1 q2 q3 q4 q5 q6 q7 q8 q9 q10 q11 q12 u0 u1 u2 hg H.size) (cwV 1 hts (zgV zw_534 zw_536 zw_0 zw_104 zw_537) rfl rfl rfl hd_HS_refuse ⟨Nat.le_of_ble_eq_true rfl, Nat.le_of_ble_eq_true rfl⟩) (xv_preV (T := TX10) (N := 16) hE hA hS hK hP hD (isC := [0, 2]) (by decide +kernel) hC (q0 := 0) (ci := 10) rfl rfl) rfl rfl hl.1 rfl (lv_room (Nat.le_of_ble_eq_true rfl)) (zdt zkX10_stone 56 rfl) ⟨Nat.le_refl _, Nat.le_refl _⟩) hP hD hS hA (by decide +kernel) rfl hC rfl rfl (fun H locs hP hD hS => ?_)
          obtain rfl := Option.some.inj hf
          exact hret _ _ _ _ rfl (zdt zkX10_stone 59 rfl) hP hD hS
      · refine lv_aload_n hx hb (zdt zkX10_stone 31 rfl) rfl (lv_at hl 0 rfl) ?_
        refine lv_bipush (v := Int32.ofInt (-2)) hx hb (zdt zkX10_stone 32 rfl) (by decide) ?_
        refine xe_d3 hf (fun v12 v13 a14 hg hf => ?_)
        have hC : ([0, 2] : List Nat).map (fun i => (wd_HS_stone cA q0 q1 q2 q3 q4 q5 q6 q7 q8 q9 q10 q11 q12 q13 q14 q15 q16 q17 q18 q19 q20 q21 q22 q23 u0 u1 u2 u3 u4 u5 u6 i_hill_columns_many i_latestStatus i_hill_changes i_refusals i_hill_columns_heights i_hill_columns_weights)[i]?) = (wd_HS_refuse cA q0 q1 q2 q3 q4 q5 q6 q7 q8 q9 q10 q11 q12 u0 u1 u2 i_latestStatus i_refusals).map some := rfl
        refine xv_afterI (ws' := (wd_HS_stone cA q0 q1 q2 q3 q4 q5 q6 q7 q8 q9 q10 q11 q12 q13 q14 q15 q16 q17 q18 q19 q20 q21 q22 q23 u0 u1 u2 u3 u4 u5 u6 i_hill_columns_many v13 i_hill_changes a14 i_hill_columns_heights i_hill_columns_weights)) (isC := [0, 2]) (ps := [some 0, none, some 1, none, none, none]) (va_runV (As := [.int (Int32.ofInt (-2))]) (rest := []) ⟨hx, hb, hml, hown, hts⟩ (c_HS_refuse l ev dC dI cA q0 q1 q2 q3 q4 q5 q6 q7 q8 q9 q10 q11 q12 u0 u1 u2 hg H.size) (cwV 1 hts (zgV zw_534 zw_536 zw_0 zw_104 zw_537) rfl rfl rfl hd_HS_refuse ⟨Nat.le_of_ble_eq_true rfl, Nat.le_of_ble_eq_true rfl⟩) (xv_preV (T := TX10) (N := 16) hE hA hS hK hP hD (isC := [0, 2]) (by decide +kernel) hC (q0 := 0) (ci := 10) rfl rfl) rfl rfl hl.1 rfl (lv_room (Nat.le_of_ble_eq_true rfl)) (zdt zkX10_stone 34 rfl) ⟨Nat.le_refl _, Nat.le_refl _⟩) hP hD hS hA (by decide +kernel) rfl hC rfl rfl (fun H locs hP hD hS => ?_)
        obtain rfl := Option.some.inj hf
        exact hret _ _ _ _ rfl (zdt zkX10_stone 37 rfl) hP hD hS
    · exact b_11  _ _ _ _ _ _ _ _ hf hP hD hS (lv_sub hl [0] rfl)
set_option maxRecDepth 100000 in
noncomputable def ztX1_top (p : Nat) : Option (Jvm.ClassFile.Instr × Nat) := bif Nat.ble 15 p then (bif Nat.ble 21 p then (bif Nat.ble 23 p then (bif Nat.ble 26 p then (bif Nat.ble 27 p then (bif Nat.beq p 27 then some (.ireturn, 1) else none) else (bif Nat.beq p 26 then some (.iconst 0, 1) else none)) else (bif Nat.beq p 23 then some (.goto 4, 3) else none)) else (bif Nat.ble 22 p then (bif Nat.beq p 22 then some (.iaload, 1) else none) else (bif Nat.beq p 21 then some (.isub, 1) else none))) else (bif Nat.ble 18 p then (bif Nat.ble 19 p then (bif Nat.ble 20 p then (bif Nat.beq p 20 then some (.iconst 1, 1) else none) else (bif Nat.beq p 19 then some (.iadd, 1) else none)) else (bif Nat.beq p 18 then some (.iload_n 2, 1) else none)) else (bif Nat.ble 17 p then (bif Nat.beq p 17 then some (.imul, 1) else none) else (bif Nat.beq p 15 then some (.bipush 10, 2) else none)))) else (bif Nat.ble 6 p then (bif Nat.ble 10 p then (bif Nat.ble 11 p then (bif Nat.ble 14 p then (bif Nat.beq p 14 then some (.iload_n 1, 1) else none) else (bif Nat.beq p 11 then some (.getfield 19, 3) else none)) else (bif Nat.beq p 10 then some (.aload_n 0, 1) else none)) else (bif Nat.ble 7 p then (bif Nat.beq p 7 then some (.ifCond .le 19, 3) else none) else (bif Nat.beq p 6 then some (.iload_n 2, 1) else none))) else (bif Nat.ble 2 p then (bif Nat.ble 5 p then (bif Nat.beq p 5 then some (.istore_n 2, 1) else none) else (bif Nat.beq p 2 then some (.invokevirtual 26, 3) else none)) else (bif Nat.ble 1 p then (bif Nat.beq p 1 then some (.iload_n 1, 1) else none) else (bif Nat.beq p 0 then some (.aload_n 0, 1) else none))))
set_option maxRecDepth 100000 in
theorem zkX1_top : (zbig cX1_top.data.toList = 18114954727261275483244882434732819177192904120830583596987157191466 ∧ cX1_top.data.toList.length = 28) ∧ zdk cX1_top 18114954727261275483244882434732819177192904120830583596987157191466 28 ztX1_top 27 = true := by decide +kernel
theorem zw_570 : (Jvm.Cond.code ({ cls := "HillSchool$Columns", name := "top", desc := "(I)I" } : Jvm.MethodName) prog_3_method_6_code (3 : Nat) (Option.some Jvm.ClassFile.FieldType.int)) ∈ zall := zmemG (zmj_2 227 rfl) rfl
theorem zw_571 : (Jvm.Cond.methodLink "HillSchool$Columns" (26 : Nat) ({ cls := "HillSchool$Columns", name := "high", desc := "(I)I" } : Jvm.MethodName)) ∈ zall := zmemG (zmj_2 228 rfl) rfl
noncomputable abbrev w_Columns_top : List Cond := .code yX1_top cX1_top 3 (some .int) :: zall
noncomputable abbrev rm_Columns_top : Room := { frames := 2, cells := 0, slots := 0, locals := 42 }
theorem hd_Columns_top : yX1_top.cls = "HillSchool$Columns" ∧ yX1_top.cls ≠ "java/lang/invoke/MethodHandle" ∧ yX1_top.cls ≠ "java/lang/invoke/VarHandle" ∧ (parseMethodDescriptor yX1_top.desc).map (fun d => d.parameters.length) = some 1 := by decide +kernel
noncomputable def wd_Columns_top (cA : Nat → ClassId) (q0 q1 q2 : Nat) (i_many : Int) (i_heights : Nat → Int) (i_weights : Nat → Int)  : va_W := [(q0, .inr (1, [.int (Int32.ofInt i_many), .ref q1, .ref q2])), (q1, .inl (cA 0, 12, .inl (za i_heights))), (q2, .inl (cA 0, 120, .inl (za i_weights)))]
noncomputable def wf_Columns_top (cA : Nat → ClassId) (q0 q1 q2 : Nat) (i_many : Int) (i_heights : Nat → Int) (i_weights : Nat → Int) (o : Int) : va_W := wd_Columns_top cA q0 q1 q2 i_many i_heights i_weights
noncomputable def f_Columns_top (x1 : Int) (i_many : Int) (i_heights : Nat → Int) (i_weights : Nat → Int) : Option (Int) :=
  zd1 (f_Columns_high x1 i_many i_heights) fun v1 =>
  if zi_w v1 ≤ 0 then
    some 0
  else
    zn (x1 * 10) fun v2 =>
    zn (v2 + v1) fun v3 =>
    zn (v3 - 1) fun v4 =>
    zg 120 i_weights v4 fun v5 =>
    some v5
set_option maxHeartbeats 4000000 in
set_option maxRecDepth 100000 in
theorem c_Columns_top (l : Launch) (ev : zEv) (dC : Nat → ClassId) (dI : Nat → Nat → Nat) (cA : Nat → ClassId) (q0 q1 q2 : Nat) {x1 : Int} {i_many : Int} {i_heights : Nat → Int} {i_weights : Nat → Int} {out : Int} (hf : f_Columns_top x1 i_many i_heights i_weights = some out) : xc_I l ev (dC, dI) vwCl (tyl cA) yX1_top w_Columns_top rm_Columns_top [.ref q0, .int (Int32.ofInt x1)] (wd_Columns_top cA q0 q1 q2 i_many i_heights i_weights) (wf_Columns_top cA q0 q1 q2 i_many i_heights i_weights out) out := by
  refine xv_startI (cc := cX1_top) (maxL := 3) (rt := .int) (by decide +kernel) rfl (Nat.le_of_ble_eq_true rfl) ?_
  intro p e s m args below meth c A Q H ls hx hb hml hts hown hK hA hP hD hS hl hE hret
  have hown : s.vm.findClass "HillSchool$Columns" = some m.cls := hown
  have hz : ∀ w ∈ zall, w.before args s = true := fun w h => hts w (List.mem_cons_of_mem _ h)
  have hl : lv_has ls 3 [(0, .ref q0), (1, .int (Int32.ofInt x1))] := hl
  unfold f_Columns_top at hf
  refine lv_aload_n hx hb (zdt zkX1_top 0 rfl) rfl (lv_at hl 0 rfl) ?_
  refine lv_iload_n hx hb (zdt zkX1_top 1 rfl) rfl (lv_at hl 1 rfl) ?_
  refine xe_d1 hf (fun v1 hg hf => ?_)
  have hC : ([0, 1] : List Nat).map (fun i => (wd_Columns_top cA q0 q1 q2 i_many i_heights i_weights)[i]?) = (wd_Columns_high cA q0 q1 q2 i_many i_heights).map some := rfl
  refine xv_afterI (ws' := (wd_Columns_top cA q0 q1 q2 i_many i_heights i_weights)) (isC := [0, 1]) (ps := [some 0, some 1, none]) (va_runV (As := [.int (Int32.ofInt x1)]) (rest := []) ⟨hx, hb, hml, hown, hts⟩ (c_Columns_high l ev dC dI cA q0 q1 q2 hg H.size) (cwV 1 hts (zgV zw_571 zw_556 zw_557 zw_106 zw_558) rfl rfl rfl hd_Columns_high ⟨Nat.le_of_ble_eq_true rfl, Nat.le_of_ble_eq_true rfl⟩) (xv_preV (T := TX1) (N := 3) hE hA hS hK hP hD (isC := [0, 1]) (by decide +kernel) hC (q0 := 0) (ci := 1) rfl rfl) rfl rfl hl.1 rfl (lv_room (Nat.le_of_ble_eq_true rfl)) (zdt zkX1_top 2 rfl) ⟨Nat.le_refl _, Nat.le_refl _⟩) hP hD hS hA (by decide +kernel) rfl hC rfl rfl (fun H locs hP hD hS => ?_)
  refine lv_istore_n (lv' := [(2, .int (Int32.ofInt v1)), (0, .ref q0), (1, .int (Int32.ofInt x1))]) hx hb (zdt zkX1_top 5 rfl) rfl hl (by decide) rfl (fun ls hl => ?_)
  refine lv_iload_n hx hb (zdt zkX1_top 6 rfl) rfl (lv_at hl 0 rfl) ?_
  refine xi_if_le (tgt := 26) hx hb (zdt zkX1_top 7 rfl) (by decide) hf (fun hf => ?_) (fun hf => ?_)
  · refine lv_iconst (v := Int32.ofInt 0) hx hb (zdt zkX1_top 26 rfl) rfl ?_
    obtain rfl := Option.some.inj hf
    exact hret _ _ _ _ rfl (zdt zkX1_top 27 rfl) hP hD hS
  · refine lv_aload_n hx hb (zdt zkX1_top 10 rfl) rfl (lv_at hl 1 rfl) ?_
    refine va_get (D := (dC, dI)) (ci := 1) (v := .ref q2) (C := RX1) (T := TX1) (N := 3) hx hb hz zi_X1 hown hK hP 0 rfl rfl 2 (by decide) (hz _ zw_150) (fun _ h9 => h9) rfl (zdt zkX1_top 11 rfl) ?_
    refine lv_iload_n hx hb (zdt zkX1_top 14 rfl) rfl (lv_at hl 2 rfl) ?_
    refine lv_bipush (v := Int32.ofInt 10) hx hb (zdt zkX1_top 15 rfl) (by decide) ?_
    refine xi_imul hx hb (zdt zkX1_top 17 rfl) hf (fun v2 hf => ?_)
    refine lv_iload_n hx hb (zdt zkX1_top 18 rfl) rfl (lv_at hl 0 rfl) ?_
    refine xi_iadd hx hb (zdt zkX1_top 19 rfl) hf (fun v3 hf => ?_)
    refine lv_iconst (v := Int32.ofInt 1) hx hb (zdt zkX1_top 20 rfl) rfl ?_
    refine xi_isub hx hb (zdt zkX1_top 21 rfl) hf (fun v4 hf => ?_)
    refine xi_iald hx hb hK hP 2 0 rfl rfl (zdt zkX1_top 22 rfl) hf (fun v5 hf => ?_)
    refine lv_goto (tgt := 27) hx hb (zdt zkX1_top 23 rfl) (by decide) ?_
    obtain rfl := Option.some.inj hf
    exact hret _ _ _ _ rfl (zdt zkX1_top 27 rfl) hP hD hS
set_option maxRecDepth 100000 in
noncomputable def ztX1_take (p : Nat) : Option (Jvm.ClassFile.Instr × Nat) := bif Nat.ble 15 p then (bif Nat.ble 21 p then (bif Nat.ble 23 p then (bif Nat.ble 24 p then (bif Nat.ble 25 p then (bif Nat.beq p 25 then some (.ireturn, 1) else none) else (bif Nat.beq p 24 then some (.iload_n 2, 1) else none)) else (bif Nat.beq p 23 then some (.iastore, 1) else none)) else (bif Nat.ble 22 p then (bif Nat.beq p 22 then some (.isub, 1) else none) else (bif Nat.beq p 21 then some (.iconst 1, 1) else none))) else (bif Nat.ble 19 p then (bif Nat.ble 20 p then (bif Nat.beq p 20 then some (.iaload, 1) else none) else (bif Nat.beq p 19 then some (.dup2, 1) else none)) else (bif Nat.ble 18 p then (bif Nat.beq p 18 then some (.iload_n 1, 1) else none) else (bif Nat.beq p 15 then some (.getfield 15, 3) else none)))) else (bif Nat.ble 6 p then (bif Nat.ble 8 p then (bif Nat.ble 11 p then (bif Nat.ble 14 p then (bif Nat.beq p 14 then some (.aload_n 0, 1) else none) else (bif Nat.beq p 11 then some (.ifCond .le 13, 3) else none)) else (bif Nat.beq p 8 then some (.invokevirtual 26, 3) else none)) else (bif Nat.ble 7 p then (bif Nat.beq p 7 then some (.iload_n 1, 1) else none) else (bif Nat.beq p 6 then some (.aload_n 0, 1) else none))) else (bif Nat.ble 2 p then (bif Nat.ble 5 p then (bif Nat.beq p 5 then some (.istore_n 2, 1) else none) else (bif Nat.beq p 2 then some (.invokevirtual 34, 3) else none)) else (bif Nat.ble 1 p then (bif Nat.beq p 1 then some (.iload_n 1, 1) else none) else (bif Nat.beq p 0 then some (.aload_n 0, 1) else none))))
set_option maxRecDepth 100000 in
theorem zkX1_take : (zbig cX1_take.data.toList = 276571049115162271932449237721237850313351541832170948672232234 ∧ cX1_take.data.toList.length = 26) ∧ zdk cX1_take 276571049115162271932449237721237850313351541832170948672232234 26 ztX1_take 25 = true := by decide +kernel
theorem zw_566 : (Jvm.Cond.code ({ cls := "HillSchool$Columns", name := "take", desc := "(I)I" } : Jvm.MethodName) prog_3_method_10_code (3 : Nat) (Option.some Jvm.ClassFile.FieldType.int)) ∈ zall := zmemG (zmj_2 223 rfl) rfl
theorem zw_567 : (Jvm.Cond.methodLink "HillSchool$Columns" (34 : Nat) ({ cls := "HillSchool$Columns", name := "top", desc := "(I)I" } : Jvm.MethodName)) ∈ zall := zmemG (zmj_2 224 rfl) rfl
theorem zw_568 : (Jvm.Cond.instanceMethod ({ cls := "HillSchool$Columns", name := "top", desc := "(I)I" } : Jvm.MethodName)) ∈ zall := zmemG (zmj_2 225 rfl) rfl
theorem zw_569 : (Jvm.Cond.selects "HillSchool$Columns" ({ cls := "HillSchool$Columns", name := "top", desc := "(I)I" } : Jvm.MethodName) ({ cls := "HillSchool$Columns", name := "top", desc := "(I)I" } : Jvm.MethodName)) ∈ zall := zmemG (zmj_2 226 rfl) rfl
noncomputable abbrev w_Columns_take : List Cond := .code yX1_take cX1_take 3 (some .int) :: zall
noncomputable abbrev rm_Columns_take : Room := { frames := 3, cells := 0, slots := 0, locals := 64 }
theorem hd_Columns_take : yX1_take.cls = "HillSchool$Columns" ∧ yX1_take.cls ≠ "java/lang/invoke/MethodHandle" ∧ yX1_take.cls ≠ "java/lang/invoke/VarHandle" ∧ (parseMethodDescriptor yX1_take.desc).map (fun d => d.parameters.length) = some 1 := by decide +kernel
noncomputable def wd_Columns_take (cA : Nat → ClassId) (q0 q1 q2 : Nat) (i_many : Int) (i_weights : Nat → Int) (i_heights : Nat → Int) : va_W := [(q0, .inr (1, [.int (Int32.ofInt i_many), .ref q1, .ref q2])), (q1, .inl (cA 0, 12, .inl (za i_heights))), (q2, .inl (cA 0, 120, .inl (za i_weights)))]
noncomputable def wf_Columns_take (cA : Nat → ClassId) (q0 q1 q2 : Nat) (i_many : Int) (i_weights : Nat → Int) (o : Int × (Nat → Int)) : va_W := wd_Columns_take cA q0 q1 q2 i_many i_weights o.2
noncomputable def f_Columns_take (x1 : Int) (i_many : Int) (i_weights : Nat → Int) (i_heights : Nat → Int) : Option (Int × (Nat → Int)) :=
  zd1 (f_Columns_top x1 i_many i_heights i_weights) fun v1 =>
  zd1 (f_Columns_high x1 i_many i_heights) fun v2 =>
  if zi_w v2 ≤ 0 then
    some (v1, i_heights)
  else
    zg 12 i_heights x1 fun v3 =>
    zn (v3 - 1) fun v4 =>
    zs 12 i_heights x1 v4 fun a5 =>
    some (v1, a5)
set_option maxHeartbeats 4000000 in
set_option maxRecDepth 100000 in
theorem c_Columns_take (l : Launch) (ev : zEv) (dC : Nat → ClassId) (dI : Nat → Nat → Nat) (cA : Nat → ClassId) (q0 q1 q2 : Nat) {x1 : Int} {i_many : Int} {i_weights : Nat → Int} {i_heights : Nat → Int} {out : Int × (Nat → Int)} (hf : f_Columns_take x1 i_many i_weights i_heights = some out) : xc_I l ev (dC, dI) vwCl (tyl cA) yX1_take w_Columns_take rm_Columns_take [.ref q0, .int (Int32.ofInt x1)] (wd_Columns_take cA q0 q1 q2 i_many i_weights i_heights) (wf_Columns_take cA q0 q1 q2 i_many i_weights out) out.1 := by
  refine xv_startI (cc := cX1_take) (maxL := 3) (rt := .int) (by decide +kernel) rfl (Nat.le_of_ble_eq_true rfl) ?_
  intro p e s m args below meth c A Q H ls hx hb hml hts hown hK hA hP hD hS hl hE hret
  have hown : s.vm.findClass "HillSchool$Columns" = some m.cls := hown
  have hz : ∀ w ∈ zall, w.before args s = true := fun w h => hts w (List.mem_cons_of_mem _ h)
  have hl : lv_has ls 3 [(0, .ref q0), (1, .int (Int32.ofInt x1))] := hl
  unfold f_Columns_take at hf
  refine lv_aload_n hx hb (zdt zkX1_take 0 rfl) rfl (lv_at hl 0 rfl) ?_
  refine lv_iload_n hx hb (zdt zkX1_take 1 rfl) rfl (lv_at hl 1 rfl) ?_
  refine xe_d1 hf (fun v1 hg hf => ?_)
  have hC : ([0, 1, 2] : List Nat).map (fun i => (wd_Columns_take cA q0 q1 q2 i_many i_weights i_heights)[i]?) = (wd_Columns_top cA q0 q1 q2 i_many i_heights i_weights).map some := rfl
  refine xv_afterI (ws' := (wd_Columns_take cA q0 q1 q2 i_many i_weights i_heights)) (isC := [0, 1, 2]) (ps := [some 0, some 1, some 2]) (va_runV (As := [.int (Int32.ofInt x1)]) (rest := []) ⟨hx, hb, hml, hown, hts⟩ (c_Columns_top l ev dC dI cA q0 q1 q2 hg H.size) (cwV 1 hts (zgV zw_567 zw_568 zw_569 zw_106 zw_570) rfl rfl rfl hd_Columns_top ⟨Nat.le_of_ble_eq_true rfl, Nat.le_of_ble_eq_true rfl⟩) (xv_preV (T := TX1) (N := 3) hE hA hS hK hP hD (isC := [0, 1, 2]) (by decide +kernel) hC (q0 := 0) (ci := 1) rfl rfl) rfl rfl hl.1 rfl (lv_room (Nat.le_of_ble_eq_true rfl)) (zdt zkX1_take 2 rfl) ⟨Nat.le_refl _, Nat.le_refl _⟩) hP hD hS hA (by decide +kernel) rfl hC rfl rfl (fun H locs hP hD hS => ?_)
  refine lv_istore_n (lv' := [(2, .int (Int32.ofInt v1)), (0, .ref q0), (1, .int (Int32.ofInt x1))]) hx hb (zdt zkX1_take 5 rfl) rfl hl (by decide) rfl (fun ls hl => ?_)
  refine lv_aload_n hx hb (zdt zkX1_take 6 rfl) rfl (lv_at hl 1 rfl) ?_
  refine lv_iload_n hx hb (zdt zkX1_take 7 rfl) rfl (lv_at hl 2 rfl) ?_
  refine xe_d1 hf (fun v2 hg hf => ?_)
  have hC : ([0, 1] : List Nat).map (fun i => (wd_Columns_take cA q0 q1 q2 i_many i_weights i_heights)[i]?) = (wd_Columns_high cA q0 q1 q2 i_many i_heights).map some := rfl
  refine xv_afterI (ws' := (wd_Columns_take cA q0 q1 q2 i_many i_weights i_heights)) (isC := [0, 1]) (ps := [some 0, some 1, none]) (va_runV (As := [.int (Int32.ofInt x1)]) (rest := []) ⟨hx, hb, hml, hown, hts⟩ (c_Columns_high l ev dC dI cA q0 q1 q2 hg H.size) (cwV 1 hts (zgV zw_571 zw_556 zw_557 zw_106 zw_558) rfl rfl rfl hd_Columns_high ⟨Nat.le_of_ble_eq_true rfl, Nat.le_of_ble_eq_true rfl⟩) (xv_preV (T := TX1) (N := 3) hE hA hS hK hP hD (isC := [0, 1]) (by decide +kernel) hC (q0 := 0) (ci := 1) rfl rfl) rfl rfl hl.1 rfl (lv_room (Nat.le_of_ble_eq_true rfl)) (zdt zkX1_take 8 rfl) ⟨Nat.le_refl _, Nat.le_refl _⟩) hP hD hS hA (by decide +kernel) rfl hC rfl rfl (fun H locs hP hD hS => ?_)
  refine xi_if_le (tgt := 24) hx hb (zdt zkX1_take 11 rfl) (by decide) hf (fun hf => ?_) (fun hf => ?_)
  · refine lv_iload_n hx hb (zdt zkX1_take 24 rfl) rfl (lv_at hl 0 rfl) ?_
    obtain rfl := Option.some.inj hf
    exact hret _ _ _ _ rfl (zdt zkX1_take 25 rfl) hP hD hS
  · refine lv_aload_n hx hb (zdt zkX1_take 14 rfl) rfl (lv_at hl 1 rfl) ?_
    refine va_get (D := (dC, dI)) (ci := 1) (v := .ref q1) (C := RX1) (T := TX1) (N := 3) hx hb hz zi_X1 hown hK hP 0 rfl rfl 1 (by decide) (hz _ zw_149) (fun _ h9 => h9) rfl (zdt zkX1_take 15 rfl) ?_
    refine lv_iload_n hx hb (zdt zkX1_take 18 rfl) rfl (lv_at hl 2 rfl) ?_
    refine lv_dup2_11 hx hb (zdt zkX1_take 19 rfl) rfl rfl ?_
    refine xi_iald hx hb hK hP 1 0 rfl rfl (zdt zkX1_take 20 rfl) hf (fun v3 hf => ?_)
    refine lv_iconst (v := Int32.ofInt 1) hx hb (zdt zkX1_take 21 rfl) rfl ?_
    refine xi_isub hx hb (zdt zkX1_take 22 rfl) hf (fun v4 hf => ?_)
    refine xi_iast hx hb hK hP hD hS 1 0 rfl rfl (zdt zkX1_take 23 rfl) hf (fun a5 H locs hP hD hS hf => ?_)
    refine xw_PD (wd_Columns_take cA q0 q1 q2 i_many i_weights a5) hP hD (fun hP hD => ?_)
    refine lv_iload_n hx hb (zdt zkX1_take 24 rfl) rfl (lv_at hl 0 rfl) ?_
    obtain rfl := Option.some.inj hf
    exact hret _ _ _ _ rfl (zdt zkX1_take 25 rfl) hP hD hS
set_option maxRecDepth 100000 in
noncomputable def ztX10_lift (p : Nat) : Option (Jvm.ClassFile.Instr × Nat) := bif Nat.ble 29 p then (bif Nat.ble 43 p then (bif Nat.ble 50 p then (bif Nat.ble 54 p then (bif Nat.ble 57 p then (bif Nat.beq p 57 then some (.ireturn, 1) else none) else (bif Nat.beq p 54 then some (.invokevirtual 119, 3) else none)) else (bif Nat.ble 51 p then (bif Nat.beq p 51 then some (.invokevirtual 133, 3) else none) else (bif Nat.beq p 50 then some (.iload_n 1, 1) else none))) else (bif Nat.ble 44 p then (bif Nat.ble 47 p then (bif Nat.beq p 47 then some (.getfield 99, 3) else none) else (bif Nat.beq p 44 then some (.getfield 10, 3) else none)) else (bif Nat.beq p 43 then some (.aload_n 0, 1) else none))) else (bif Nat.ble 36 p then (bif Nat.ble 41 p then (bif Nat.ble 42 p then (bif Nat.beq p 42 then some (.aload_n 0, 1) else none) else (bif Nat.beq p 41 then some (.ireturn, 1) else none)) else (bif Nat.ble 38 p then (bif Nat.beq p 38 then some (.invokevirtual 109, 3) else none) else (bif Nat.beq p 36 then some (.bipush (-3), 2) else none))) else (bif Nat.ble 32 p then (bif Nat.ble 35 p then (bif Nat.beq p 35 then some (.aload_n 0, 1) else none) else (bif Nat.beq p 32 then some (.ifCond .ne 10, 3) else none)) else (bif Nat.beq p 29 then some (.invokevirtual 130, 3) else none)))) else (bif Nat.ble 15 p then (bif Nat.ble 21 p then (bif Nat.ble 25 p then (bif Nat.ble 28 p then (bif Nat.beq p 28 then some (.iload_n 1, 1) else none) else (bif Nat.beq p 25 then some (.getfield 99, 3) else none)) else (bif Nat.ble 22 p then (bif Nat.beq p 22 then some (.getfield 10, 3) else none) else (bif Nat.beq p 21 then some (.aload_n 0, 1) else none))) else (bif Nat.ble 17 p then (bif Nat.ble 20 p then (bif Nat.beq p 20 then some (.ireturn, 1) else none) else (bif Nat.beq p 17 then some (.invokevirtual 109, 3) else none)) else (bif Nat.beq p 15 then some (.bipush (-2), 2) else none))) else (bif Nat.ble 7 p then (bif Nat.ble 11 p then (bif Nat.ble 14 p then (bif Nat.beq p 14 then some (.aload_n 0, 1) else none) else (bif Nat.beq p 11 then some (.ifCond .ne 10, 3) else none)) else (bif Nat.ble 8 p then (bif Nat.beq p 8 then some (.invokevirtual 122, 3) else none) else (bif Nat.beq p 7 then some (.iload_n 1, 1) else none))) else (bif Nat.ble 1 p then (bif Nat.ble 4 p then (bif Nat.beq p 4 then some (.getfield 99, 3) else none) else (bif Nat.beq p 1 then some (.getfield 10, 3) else none)) else (bif Nat.beq p 0 then some (.aload_n 0, 1) else none))))
set_option maxRecDepth 100000 in
theorem zkX10_lift : (zbig cX10_lift.data.toList = 32090658540640951735596930284392697761141584589347743880045072285946826801346040016426571520174441950558834410447469012726199715985033835562 ∧ cX10_lift.data.toList.length = 58) ∧ zdk cX10_lift 32090658540640951735596930284392697761141584589347743880045072285946826801346040016426571520174441950558834410447469012726199715985033835562 58 ztX10_lift 57 = true := by decide +kernel
theorem zw_562 : (Jvm.Cond.code ({ cls := "HillSchool", name := "lift", desc := "(I)I" } : Jvm.MethodName) prog_1_method_4_code (2 : Nat) (Option.some Jvm.ClassFile.FieldType.int)) ∈ zall := zmemG (zmj_2 219 rfl) rfl
theorem zw_563 : (Jvm.Cond.methodLink "HillSchool" (133 : Nat) ({ cls := "HillSchool$Columns", name := "take", desc := "(I)I" } : Jvm.MethodName)) ∈ zall := zmemG (zmj_2 220 rfl) rfl
theorem zw_564 : (Jvm.Cond.instanceMethod ({ cls := "HillSchool$Columns", name := "take", desc := "(I)I" } : Jvm.MethodName)) ∈ zall := zmemG (zmj_2 221 rfl) rfl
theorem zw_565 : (Jvm.Cond.selects "HillSchool$Columns" ({ cls := "HillSchool$Columns", name := "take", desc := "(I)I" } : Jvm.MethodName) ({ cls := "HillSchool$Columns", name := "take", desc := "(I)I" } : Jvm.MethodName)) ∈ zall := zmemG (zmj_2 222 rfl) rfl
noncomputable abbrev w_HS_lift : List Cond := .code yX10_lift cX10_lift 2 (some .int) :: zall
noncomputable abbrev rm_HS_lift : Room := { frames := 4, cells := 0, slots := 0, locals := 86 }
theorem hd_HS_lift : yX10_lift.cls = "HillSchool" ∧ yX10_lift.cls ≠ "java/lang/invoke/MethodHandle" ∧ yX10_lift.cls ≠ "java/lang/invoke/VarHandle" ∧ (parseMethodDescriptor yX10_lift.desc).map (fun d => d.parameters.length) = some 1 := by decide +kernel
noncomputable def wd_HS_lift (cA : Nat → ClassId) (q0 q1 q2 q3 q4 q5 q6 q7 q8 q9 q10 q11 q12 q13 q14 q15 q16 q17 q18 q19 q20 q21 q22 q23 : Nat) (u0 u1 u2 u3 u4 u5 u6 : Int) (i_hill_columns_many : Int) (i_hill_columns_weights : Nat → Int) (i_latestStatus : Int) (i_hill_changes : Int) (i_refusals : Nat → Int) (i_hill_columns_heights : Nat → Int) : va_W := [(q0, .inr (10, [.ref q1, .ref q2, .ref q3, .ref q4, .int (Int32.ofInt u0), .int (Int32.ofInt u1), .int (Int32.ofInt u2), .ref q5, .int (Int32.ofInt i_latestStatus), .ref q6, .ref q7, .ref q8, .ref q9, .ref q10, .ref q11, .ref q12])), (q1, .inr (2, [.ref q13, .int (Int32.ofInt u3), .ref q14, .ref q15, .ref q16, .int (Int32.ofInt u4), .ref q17, .ref q18, .ref q19, .int (Int32.ofInt u5), .ref q20, .ref q21, .int (Int32.ofInt u6), .int (Int32.ofInt i_hill_changes)])), (q5, .inl (cA 0, 7, .inl (za i_refusals))), (q13, .inr (1, [.int (Int32.ofInt i_hill_columns_many), .ref q22, .ref q23])), (q22, .inl (cA 0, 12, .inl (za i_hill_columns_heights))), (q23, .inl (cA 0, 120, .inl (za i_hill_columns_weights)))]
noncomputable def wf_HS_lift (cA : Nat → ClassId) (q0 q1 q2 q3 q4 q5 q6 q7 q8 q9 q10 q11 q12 q13 q14 q15 q16 q17 q18 q19 q20 q21 q22 q23 : Nat) (u0 u1 u2 u3 u4 u5 u6 : Int) (i_hill_columns_many : Int) (i_hill_columns_weights : Nat → Int) (o : Int × Int × Int × (Nat → Int) × (Nat → Int)) : va_W := wd_HS_lift cA q0 q1 q2 q3 q4 q5 q6 q7 q8 q9 q10 q11 q12 q13 q14 q15 q16 q17 q18 q19 q20 q21 q22 q23 u0 u1 u2 u3 u4 u5 u6 i_hill_columns_many i_hill_columns_weights o.2.1 o.2.2.1 o.2.2.2.1 o.2.2.2.2
noncomputable def f_HS_lift (x1 : Int) (i_hill_columns_many : Int) (i_hill_columns_weights : Nat → Int) (i_latestStatus : Int) (i_hill_changes : Int) (i_refusals : Nat → Int) (i_hill_columns_heights : Nat → Int) : Option (Int × Int × Int × (Nat → Int) × (Nat → Int)) :=
  zd1 (f_Columns_has x1 i_hill_columns_many) fun v1 =>
  if zi_w v1 ≠ 0 then
    zd1 (f_Columns_high x1 i_hill_columns_many i_hill_columns_heights) fun v2 =>
    if zi_w v2 ≠ 0 then
      zd2 (f_Columns_take x1 i_hill_columns_many i_hill_columns_weights i_hill_columns_heights) fun v3 a4 =>
      zd3 (f_HS_accept v3 i_latestStatus i_hill_changes) fun v5 v6 v7 =>
      some (v5, v6, v7, i_refusals, a4)
    else
      zd3 (f_HS_refuse (-3) i_latestStatus i_refusals) fun v8 v9 a10 =>
      some (v8, v9, i_hill_changes, a10, i_hill_columns_heights)
  else
    zd3 (f_HS_refuse (-2) i_latestStatus i_refusals) fun v11 v12 a13 =>
    some (v11, v12, i_hill_changes, a13, i_hill_columns_heights)
set_option maxHeartbeats 4000000 in
set_option maxRecDepth 100000 in
theorem c_HS_lift (l : Launch) (ev : zEv) (dC : Nat → ClassId) (dI : Nat → Nat → Nat) (cA : Nat → ClassId) (q0 q1 q2 q3 q4 q5 q6 q7 q8 q9 q10 q11 q12 q13 q14 q15 q16 q17 q18 q19 q20 q21 q22 q23 : Nat) (u0 u1 u2 u3 u4 u5 u6 : Int) {x1 : Int} {i_hill_columns_many : Int} {i_hill_columns_weights : Nat → Int} {i_latestStatus : Int} {i_hill_changes : Int} {i_refusals : Nat → Int} {i_hill_columns_heights : Nat → Int} {out : Int × Int × Int × (Nat → Int) × (Nat → Int)} (hf : f_HS_lift x1 i_hill_columns_many i_hill_columns_weights i_latestStatus i_hill_changes i_refusals i_hill_columns_heights = some out) : xc_I l ev (dC, dI) vwCl (tyl cA) yX10_lift w_HS_lift rm_HS_lift [.ref q0, .int (Int32.ofInt x1)] (wd_HS_lift cA q0 q1 q2 q3 q4 q5 q6 q7 q8 q9 q10 q11 q12 q13 q14 q15 q16 q17 q18 q19 q20 q21 q22 q23 u0 u1 u2 u3 u4 u5 u6 i_hill_columns_many i_hill_columns_weights i_latestStatus i_hill_changes i_refusals i_hill_columns_heights) (wf_HS_lift cA q0 q1 q2 q3 q4 q5 q6 q7 q8 q9 q10 q11 q12 q13 q14 q15 q16 q17 q18 q19 q20 q21 q22 q23 u0 u1 u2 u3 u4 u5 u6 i_hill_columns_many i_hill_columns_weights out) out.1 := by
  refine xv_startI (cc := cX10_lift) (maxL := 2) (rt := .int) (by decide +kernel) rfl (Nat.le_of_ble_eq_true rfl) ?_
  intro p e s m args below meth c A Q H ls hx hb hml hts hown hK hA hP hD hS hl hE hret
  have hown : s.vm.findClass "HillSchool" = some m.cls := hown
  have hz : ∀ w ∈ zall, w.before args s = true := fun w h => hts w (List.mem_cons_of_mem _ h)
  have hl : lv_has ls 2 [(0, .ref q0), (1, .int (Int32.ofInt x1))] := hl
  unfold f_HS_lift at hf
  refine lv_aload_n hx hb (zdt zkX10_lift 0 rfl) rfl (lv_at hl 0 rfl) ?_
  refine va_get (D := (dC, dI)) (ci := 10) (v := .ref q1) (C := RX10) (T := TX10) (N := 16) hx hb hz zi_X10 hown hK hP 0 rfl rfl 0 (by decide) (hz _ zw_477) (fun _ h9 => h9) rfl (zdt zkX10_lift 1 rfl) ?_
  refine va_getN (D := (dC, dI)) (ci := 2) (v := .ref q13) (C := RX2) (T := TX2) (N := 14) hx hb hz zi_X2 hown hK hP 1 rfl rfl 0 (by decide) (va_Nw.use rfl (hE.1.1 _ zw_169)) (fun _ h9 => h9) rfl (zdt zkX10_lift 4 rfl) ?_
  refine lv_iload_n hx hb (zdt zkX10_lift 7 rfl) rfl (lv_at hl 1 rfl) ?_
  refine xe_d1 hf (fun v1 hg hf => ?_)
  have hC : ([3] : List Nat).map (fun i => (wd_HS_lift cA q0 q1 q2 q3 q4 q5 q6 q7 q8 q9 q10 q11 q12 q13 q14 q15 q16 q17 q18 q19 q20 q21 q22 q23 u0 u1 u2 u3 u4 u5 u6 i_hill_columns_many i_hill_columns_weights i_latestStatus i_hill_changes i_refusals i_hill_columns_heights)[i]?) = (wd_Columns_has cA q13 q22 q23 i_hill_columns_many).map some := rfl
  refine xv_afterI (ws' := (wd_HS_lift cA q0 q1 q2 q3 q4 q5 q6 q7 q8 q9 q10 q11 q12 q13 q14 q15 q16 q17 q18 q19 q20 q21 q22 q23 u0 u1 u2 u3 u4 u5 u6 i_hill_columns_many i_hill_columns_weights i_latestStatus i_hill_changes i_refusals i_hill_columns_heights)) (isC := [3]) (ps := [none, none, none, some 0, none, none]) (va_runV (As := [.int (Int32.ofInt x1)]) (rest := []) ⟨hx, hb, hml, hown, hts⟩ (c_Columns_has l ev dC dI cA q13 q22 q23 hg H.size) (cwV 1 hts (zgV zw_546 zw_547 zw_548 zw_106 zw_549) rfl rfl rfl hd_Columns_has ⟨Nat.le_of_ble_eq_true rfl, Nat.le_of_ble_eq_true rfl⟩) (xv_preV (T := TX1) (N := 3) hE hA hS hK hP hD (isC := [3]) (by decide +kernel) hC (q0 := 3) (ci := 1) rfl rfl) rfl rfl hl.1 rfl (lv_room (Nat.le_of_ble_eq_true rfl)) (zdt zkX10_lift 8 rfl) ⟨Nat.le_refl _, Nat.le_refl _⟩) hP hD hS hA (by decide +kernel) rfl hC rfl rfl (fun H locs hP hD hS => ?_)
  refine xi_if_ne (tgt := 21) hx hb (zdt zkX10_lift 11 rfl) (by decide) hf (fun hf => ?_) (fun hf => ?_)
  · refine lv_aload_n hx hb (zdt zkX10_lift 21 rfl) rfl (lv_at hl 0 rfl) ?_
    refine va_get (D := (dC, dI)) (ci := 10) (v := .ref q1) (C := RX10) (T := TX10) (N := 16) hx hb hz zi_X10 hown hK hP 0 rfl rfl 0 (by decide) (hz _ zw_477) (fun _ h9 => h9) rfl (zdt zkX10_lift 22 rfl) ?_
    refine va_getN (D := (dC, dI)) (ci := 2) (v := .ref q13) (C := RX2) (T := TX2) (N := 14) hx hb hz zi_X2 hown hK hP 1 rfl rfl 0 (by decide) (va_Nw.use rfl (hE.1.1 _ zw_169)) (fun _ h9 => h9) rfl (zdt zkX10_lift 25 rfl) ?_
    refine lv_iload_n hx hb (zdt zkX10_lift 28 rfl) rfl (lv_at hl 1 rfl) ?_
    refine xe_d1 hf (fun v2 hg hf => ?_)
    have hC : ([3, 4] : List Nat).map (fun i => (wd_HS_lift cA q0 q1 q2 q3 q4 q5 q6 q7 q8 q9 q10 q11 q12 q13 q14 q15 q16 q17 q18 q19 q20 q21 q22 q23 u0 u1 u2 u3 u4 u5 u6 i_hill_columns_many i_hill_columns_weights i_latestStatus i_hill_changes i_refusals i_hill_columns_heights)[i]?) = (wd_Columns_high cA q13 q22 q23 i_hill_columns_many i_hill_columns_heights).map some := rfl
    refine xv_afterI (ws' := (wd_HS_lift cA q0 q1 q2 q3 q4 q5 q6 q7 q8 q9 q10 q11 q12 q13 q14 q15 q16 q17 q18 q19 q20 q21 q22 q23 u0 u1 u2 u3 u4 u5 u6 i_hill_columns_many i_hill_columns_weights i_latestStatus i_hill_changes i_refusals i_hill_columns_heights)) (isC := [3, 4]) (ps := [none, none, none, some 0, some 1, none]) (va_runV (As := [.int (Int32.ofInt x1)]) (rest := []) ⟨hx, hb, hml, hown, hts⟩ (c_Columns_high l ev dC dI cA q13 q22 q23 hg H.size) (cwV 1 hts (zgV zw_555 zw_556 zw_557 zw_106 zw_558) rfl rfl rfl hd_Columns_high ⟨Nat.le_of_ble_eq_true rfl, Nat.le_of_ble_eq_true rfl⟩) (xv_preV (T := TX1) (N := 3) hE hA hS hK hP hD (isC := [3, 4]) (by decide +kernel) hC (q0 := 3) (ci := 1) rfl rfl) rfl rfl hl.1 rfl (lv_room (Nat.le_of_ble_eq_true rfl)) (zdt zkX10_lift 29 rfl) ⟨Nat.le_refl _, Nat.le_refl _⟩) hP hD hS hA (by decide +kernel) rfl hC rfl rfl (fun H locs hP hD hS => ?_)
    refine xi_if_ne (tgt := 42) hx hb (zdt zkX10_lift 32 rfl) (by decide) hf (fun hf => ?_) (fun hf => ?_)
    · refine lv_aload_n hx hb (zdt zkX10_lift 42 rfl) rfl (lv_at hl 0 rfl) ?_
      refine lv_aload_n hx hb (zdt zkX10_lift 43 rfl) rfl (lv_at hl 0 rfl) ?_
      refine va_get (D := (dC, dI)) (ci := 10) (v := .ref q1) (C := RX10) (T := TX10) (N := 16) hx hb hz zi_X10 hown hK hP 0 rfl rfl 0 (by decide) (hz _ zw_477) (fun _ h9 => h9) rfl (zdt zkX10_lift 44 rfl) ?_
      refine va_getN (D := (dC, dI)) (ci := 2) (v := .ref q13) (C := RX2) (T := TX2) (N := 14) hx hb hz zi_X2 hown hK hP 1 rfl rfl 0 (by decide) (va_Nw.use rfl (hE.1.1 _ zw_169)) (fun _ h9 => h9) rfl (zdt zkX10_lift 47 rfl) ?_
      refine lv_iload_n hx hb (zdt zkX10_lift 50 rfl) rfl (lv_at hl 1 rfl) ?_
      refine xe_d2 hf (fun v3 a4 hg hf => ?_)
      have hC : ([3, 4, 5] : List Nat).map (fun i => (wd_HS_lift cA q0 q1 q2 q3 q4 q5 q6 q7 q8 q9 q10 q11 q12 q13 q14 q15 q16 q17 q18 q19 q20 q21 q22 q23 u0 u1 u2 u3 u4 u5 u6 i_hill_columns_many i_hill_columns_weights i_latestStatus i_hill_changes i_refusals i_hill_columns_heights)[i]?) = (wd_Columns_take cA q13 q22 q23 i_hill_columns_many i_hill_columns_weights i_hill_columns_heights).map some := rfl
      refine xv_afterI (ws' := (wd_HS_lift cA q0 q1 q2 q3 q4 q5 q6 q7 q8 q9 q10 q11 q12 q13 q14 q15 q16 q17 q18 q19 q20 q21 q22 q23 u0 u1 u2 u3 u4 u5 u6 i_hill_columns_many i_hill_columns_weights i_latestStatus i_hill_changes i_refusals a4)) (isC := [3, 4, 5]) (ps := [none, none, none, some 0, some 1, some 2]) (va_runV (As := [.int (Int32.ofInt x1)]) (rest := [.ref q0]) ⟨hx, hb, hml, hown, hts⟩ (c_Columns_take l ev dC dI cA q13 q22 q23 hg H.size) (cwV 1 hts (zgV zw_563 zw_564 zw_565 zw_106 zw_566) rfl rfl rfl hd_Columns_take ⟨Nat.le_of_ble_eq_true rfl, Nat.le_of_ble_eq_true rfl⟩) (xv_preV (T := TX1) (N := 3) hE hA hS hK hP hD (isC := [3, 4, 5]) (by decide +kernel) hC (q0 := 3) (ci := 1) rfl rfl) rfl rfl hl.1 rfl (lv_room (Nat.le_of_ble_eq_true rfl)) (zdt zkX10_lift 51 rfl) ⟨Nat.le_refl _, Nat.le_refl _⟩) hP hD hS hA (by decide +kernel) rfl hC rfl rfl (fun H locs hP hD hS => ?_)
      refine xe_d3 hf (fun v5 v6 v7 hg hf => ?_)
      have hC : ([0, 1] : List Nat).map (fun i => (wd_HS_lift cA q0 q1 q2 q3 q4 q5 q6 q7 q8 q9 q10 q11 q12 q13 q14 q15 q16 q17 q18 q19 q20 q21 q22 q23 u0 u1 u2 u3 u4 u5 u6 i_hill_columns_many i_hill_columns_weights i_latestStatus i_hill_changes i_refusals a4)[i]?) = (wd_HS_accept cA q0 q1 q2 q3 q4 q5 q6 q7 q8 q9 q10 q11 q12 q13 q14 q15 q16 q17 q18 q19 q20 q21 u0 u1 u2 u3 u4 u5 u6 i_latestStatus i_hill_changes).map some := rfl
      refine xv_afterI (ws' := (wd_HS_lift cA q0 q1 q2 q3 q4 q5 q6 q7 q8 q9 q10 q11 q12 q13 q14 q15 q16 q17 q18 q19 q20 q21 q22 q23 u0 u1 u2 u3 u4 u5 u6 i_hill_columns_many i_hill_columns_weights v6 v7 i_refusals a4)) (isC := [0, 1]) (ps := [some 0, some 1, none, none, none, none]) (va_runV (As := [.int (Int32.ofInt v3)]) (rest := []) ⟨hx, hb, hml, hown, hts⟩ (c_HS_accept l ev dC dI cA q0 q1 q2 q3 q4 q5 q6 q7 q8 q9 q10 q11 q12 q13 q14 q15 q16 q17 q18 q19 q20 q21 u0 u1 u2 u3 u4 u5 u6 hg H.size) (cwV 1 hts (zgV zw_538 zw_540 zw_1 zw_104 zw_541) rfl rfl rfl hd_HS_accept ⟨Nat.le_of_ble_eq_true rfl, Nat.le_of_ble_eq_true rfl⟩) (xv_preV (T := TX10) (N := 16) hE hA hS hK hP hD (isC := [0, 1]) (by decide +kernel) hC (q0 := 0) (ci := 10) rfl rfl) rfl rfl hl.1 rfl (lv_room (Nat.le_of_ble_eq_true rfl)) (zdt zkX10_lift 54 rfl) ⟨Nat.le_refl _, Nat.le_refl _⟩) hP hD hS hA (by decide +kernel) rfl hC rfl rfl (fun H locs hP hD hS => ?_)
      obtain rfl := Option.some.inj hf
      exact hret _ _ _ _ rfl (zdt zkX10_lift 57 rfl) hP hD hS
    · refine lv_aload_n hx hb (zdt zkX10_lift 35 rfl) rfl (lv_at hl 0 rfl) ?_
      refine lv_bipush (v := Int32.ofInt (-3)) hx hb (zdt zkX10_lift 36 rfl) (by decide) ?_
      refine xe_d3 hf (fun v8 v9 a10 hg hf => ?_)
      have hC : ([0, 2] : List Nat).map (fun i => (wd_HS_lift cA q0 q1 q2 q3 q4 q5 q6 q7 q8 q9 q10 q11 q12 q13 q14 q15 q16 q17 q18 q19 q20 q21 q22 q23 u0 u1 u2 u3 u4 u5 u6 i_hill_columns_many i_hill_columns_weights i_latestStatus i_hill_changes i_refusals i_hill_columns_heights)[i]?) = (wd_HS_refuse cA q0 q1 q2 q3 q4 q5 q6 q7 q8 q9 q10 q11 q12 u0 u1 u2 i_latestStatus i_refusals).map some := rfl
      refine xv_afterI (ws' := (wd_HS_lift cA q0 q1 q2 q3 q4 q5 q6 q7 q8 q9 q10 q11 q12 q13 q14 q15 q16 q17 q18 q19 q20 q21 q22 q23 u0 u1 u2 u3 u4 u5 u6 i_hill_columns_many i_hill_columns_weights v9 i_hill_changes a10 i_hill_columns_heights)) (isC := [0, 2]) (ps := [some 0, none, some 1, none, none, none]) (va_runV (As := [.int (Int32.ofInt (-3))]) (rest := []) ⟨hx, hb, hml, hown, hts⟩ (c_HS_refuse l ev dC dI cA q0 q1 q2 q3 q4 q5 q6 q7 q8 q9 q10 q11 q12 u0 u1 u2 hg H.size) (cwV 1 hts (zgV zw_534 zw_536 zw_0 zw_104 zw_537) rfl rfl rfl hd_HS_refuse ⟨Nat.le_of_ble_eq_true rfl, Nat.le_of_ble_eq_true rfl⟩) (xv_preV (T := TX10) (N := 16) hE hA hS hK hP hD (isC := [0, 2]) (by decide +kernel) hC (q0 := 0) (ci := 10) rfl rfl) rfl rfl hl.1 rfl (lv_room (Nat.le_of_ble_eq_true rfl)) (zdt zkX10_lift 38 rfl) ⟨Nat.le_refl _, Nat.le_refl _⟩) hP hD hS hA (by decide +kernel) rfl hC rfl rfl (fun H locs hP hD hS => ?_)
      obtain rfl := Option.some.inj hf
      exact hret _ _ _ _ rfl (zdt zkX10_lift 41 rfl) hP hD hS
  · refine lv_aload_n hx hb (zdt zkX10_lift 14 rfl) rfl (lv_at hl 0 rfl) ?_
    refine lv_bipush (v := Int32.ofInt (-2)) hx hb (zdt zkX10_lift 15 rfl) (by decide) ?_
    refine xe_d3 hf (fun v11 v12 a13 hg hf => ?_)
    have hC : ([0, 2] : List Nat).map (fun i => (wd_HS_lift cA q0 q1 q2 q3 q4 q5 q6 q7 q8 q9 q10 q11 q12 q13 q14 q15 q16 q17 q18 q19 q20 q21 q22 q23 u0 u1 u2 u3 u4 u5 u6 i_hill_columns_many i_hill_columns_weights i_latestStatus i_hill_changes i_refusals i_hill_columns_heights)[i]?) = (wd_HS_refuse cA q0 q1 q2 q3 q4 q5 q6 q7 q8 q9 q10 q11 q12 u0 u1 u2 i_latestStatus i_refusals).map some := rfl
    refine xv_afterI (ws' := (wd_HS_lift cA q0 q1 q2 q3 q4 q5 q6 q7 q8 q9 q10 q11 q12 q13 q14 q15 q16 q17 q18 q19 q20 q21 q22 q23 u0 u1 u2 u3 u4 u5 u6 i_hill_columns_many i_hill_columns_weights v12 i_hill_changes a13 i_hill_columns_heights)) (isC := [0, 2]) (ps := [some 0, none, some 1, none, none, none]) (va_runV (As := [.int (Int32.ofInt (-2))]) (rest := []) ⟨hx, hb, hml, hown, hts⟩ (c_HS_refuse l ev dC dI cA q0 q1 q2 q3 q4 q5 q6 q7 q8 q9 q10 q11 q12 u0 u1 u2 hg H.size) (cwV 1 hts (zgV zw_534 zw_536 zw_0 zw_104 zw_537) rfl rfl rfl hd_HS_refuse ⟨Nat.le_of_ble_eq_true rfl, Nat.le_of_ble_eq_true rfl⟩) (xv_preV (T := TX10) (N := 16) hE hA hS hK hP hD (isC := [0, 2]) (by decide +kernel) hC (q0 := 0) (ci := 10) rfl rfl) rfl rfl hl.1 rfl (lv_room (Nat.le_of_ble_eq_true rfl)) (zdt zkX10_lift 17 rfl) ⟨Nat.le_refl _, Nat.le_refl _⟩) hP hD hS hA (by decide +kernel) rfl hC rfl rfl (fun H locs hP hD hS => ?_)
    obtain rfl := Option.some.inj hf
    exact hret _ _ _ _ rfl (zdt zkX10_lift 20 rfl) hP hD hS
set_option maxRecDepth 100000 in
noncomputable def ztX1_heft (p : Nat) : Option (Jvm.ClassFile.Instr × Nat) := bif Nat.ble 17 p then (bif Nat.ble 22 p then (bif Nat.ble 24 p then (bif Nat.ble 27 p then (bif Nat.ble 28 p then (bif Nat.beq p 28 then some (.ireturn, 1) else none) else (bif Nat.beq p 27 then some (.iconst 0, 1) else none)) else (bif Nat.beq p 24 then some (.goto 4, 3) else none)) else (bif Nat.ble 23 p then (bif Nat.beq p 23 then some (.iaload, 1) else none) else (bif Nat.beq p 22 then some (.iadd, 1) else none))) else (bif Nat.ble 20 p then (bif Nat.ble 21 p then (bif Nat.beq p 21 then some (.iload_n 2, 1) else none) else (bif Nat.beq p 20 then some (.imul, 1) else none)) else (bif Nat.ble 18 p then (bif Nat.beq p 18 then some (.bipush 10, 2) else none) else (bif Nat.beq p 17 then some (.iload_n 1, 1) else none)))) else (bif Nat.ble 6 p then (bif Nat.ble 10 p then (bif Nat.ble 13 p then (bif Nat.ble 14 p then (bif Nat.beq p 14 then some (.getfield 19, 3) else none) else (bif Nat.beq p 13 then some (.aload_n 0, 1) else none)) else (bif Nat.beq p 10 then some (.if_icmp .ge 17, 3) else none)) else (bif Nat.ble 7 p then (bif Nat.beq p 7 then some (.invokevirtual 26, 3) else none) else (bif Nat.beq p 6 then some (.iload_n 1, 1) else none))) else (bif Nat.ble 4 p then (bif Nat.ble 5 p then (bif Nat.beq p 5 then some (.aload_n 0, 1) else none) else (bif Nat.beq p 4 then some (.iload_n 2, 1) else none)) else (bif Nat.ble 1 p then (bif Nat.beq p 1 then some (.ifCond .lt 26, 3) else none) else (bif Nat.beq p 0 then some (.iload_n 2, 1) else none))))
set_option maxRecDepth 100000 in
theorem zkX1_heft : (zbig cX1_heft.data.toList = 4637428410178886149577858036861544228340952333743977291831358169062172 ∧ cX1_heft.data.toList.length = 29) ∧ zdk cX1_heft 4637428410178886149577858036861544228340952333743977291831358169062172 29 ztX1_heft 28 = true := by decide +kernel
theorem zw_579 : (Jvm.Cond.code ({ cls := "HillSchool$Columns", name := "heft", desc := "(II)I" } : Jvm.MethodName) prog_3_method_5_code (3 : Nat) (Option.some Jvm.ClassFile.FieldType.int)) ∈ zall := zmemG (zmj_2 236 rfl) rfl
noncomputable abbrev w_Columns_heft : List Cond := .code yX1_heft cX1_heft 3 (some .int) :: zall
noncomputable abbrev rm_Columns_heft : Room := { frames := 2, cells := 0, slots := 0, locals := 42 }
theorem hd_Columns_heft : yX1_heft.cls = "HillSchool$Columns" ∧ yX1_heft.cls ≠ "java/lang/invoke/MethodHandle" ∧ yX1_heft.cls ≠ "java/lang/invoke/VarHandle" ∧ (parseMethodDescriptor yX1_heft.desc).map (fun d => d.parameters.length) = some 2 := by decide +kernel
noncomputable def wd_Columns_heft (cA : Nat → ClassId) (q0 q1 q2 : Nat) (i_many : Int) (i_heights : Nat → Int) (i_weights : Nat → Int)  : va_W := [(q0, .inr (1, [.int (Int32.ofInt i_many), .ref q1, .ref q2])), (q1, .inl (cA 0, 12, .inl (za i_heights))), (q2, .inl (cA 0, 120, .inl (za i_weights)))]
noncomputable def wf_Columns_heft (cA : Nat → ClassId) (q0 q1 q2 : Nat) (i_many : Int) (i_heights : Nat → Int) (i_weights : Nat → Int) (o : Int) : va_W := wd_Columns_heft cA q0 q1 q2 i_many i_heights i_weights
noncomputable def f_Columns_heft (x1 : Int) (x2 : Int) (i_many : Int) (i_heights : Nat → Int) (i_weights : Nat → Int) : Option (Int) :=
  if zi_w x2 < 0 then
    some 0
  else
    zd1 (f_Columns_high x1 i_many i_heights) fun v1 =>
    if zi_w v1 ≤ zi_w x2 then
      some 0
    else
      zn (x1 * 10) fun v2 =>
      zn (v2 + x2) fun v3 =>
      zg 120 i_weights v3 fun v4 =>
      some v4
set_option maxHeartbeats 4000000 in
set_option maxRecDepth 100000 in
theorem c_Columns_heft (l : Launch) (ev : zEv) (dC : Nat → ClassId) (dI : Nat → Nat → Nat) (cA : Nat → ClassId) (q0 q1 q2 : Nat) {x1 x2 : Int} {i_many : Int} {i_heights : Nat → Int} {i_weights : Nat → Int} {out : Int} (hf : f_Columns_heft x1 x2 i_many i_heights i_weights = some out) : xc_I l ev (dC, dI) vwCl (tyl cA) yX1_heft w_Columns_heft rm_Columns_heft [.ref q0, .int (Int32.ofInt x1), .int (Int32.ofInt x2)] (wd_Columns_heft cA q0 q1 q2 i_many i_heights i_weights) (wf_Columns_heft cA q0 q1 q2 i_many i_heights i_weights out) out := by
  refine xv_startI (cc := cX1_heft) (maxL := 3) (rt := .int) (by decide +kernel) rfl (Nat.le_of_ble_eq_true rfl) ?_
  intro p e s m args below meth c A Q H ls hx hb hml hts hown hK hA hP hD hS hl hE hret
  have hown : s.vm.findClass "HillSchool$Columns" = some m.cls := hown
  have hz : ∀ w ∈ zall, w.before args s = true := fun w h => hts w (List.mem_cons_of_mem _ h)
  have hl : lv_has ls 3 [(0, .ref q0), (1, .int (Int32.ofInt x1)), (2, .int (Int32.ofInt x2))] := hl
  unfold f_Columns_heft at hf
  refine lv_iload_n hx hb (zdt zkX1_heft 0 rfl) rfl (lv_at hl 2 rfl) ?_
  refine xi_if_lt (tgt := 27) hx hb (zdt zkX1_heft 1 rfl) (by decide) hf (fun hf => ?_) (fun hf => ?_)
  · refine lv_iconst (v := Int32.ofInt 0) hx hb (zdt zkX1_heft 27 rfl) rfl ?_
    obtain rfl := Option.some.inj hf
    exact hret _ _ _ _ rfl (zdt zkX1_heft 28 rfl) hP hD hS
  · refine lv_iload_n hx hb (zdt zkX1_heft 4 rfl) rfl (lv_at hl 2 rfl) ?_
    refine lv_aload_n hx hb (zdt zkX1_heft 5 rfl) rfl (lv_at hl 0 rfl) ?_
    refine lv_iload_n hx hb (zdt zkX1_heft 6 rfl) rfl (lv_at hl 1 rfl) ?_
    refine xe_d1 hf (fun v1 hg hf => ?_)
    have hC : ([0, 1] : List Nat).map (fun i => (wd_Columns_heft cA q0 q1 q2 i_many i_heights i_weights)[i]?) = (wd_Columns_high cA q0 q1 q2 i_many i_heights).map some := rfl
    refine xv_afterI (ws' := (wd_Columns_heft cA q0 q1 q2 i_many i_heights i_weights)) (isC := [0, 1]) (ps := [some 0, some 1, none]) (va_runV (As := [.int (Int32.ofInt x1)]) (rest := [.int (Int32.ofInt x2)]) ⟨hx, hb, hml, hown, hts⟩ (c_Columns_high l ev dC dI cA q0 q1 q2 hg H.size) (cwV 1 hts (zgV zw_571 zw_556 zw_557 zw_106 zw_558) rfl rfl rfl hd_Columns_high ⟨Nat.le_of_ble_eq_true rfl, Nat.le_of_ble_eq_true rfl⟩) (xv_preV (T := TX1) (N := 3) hE hA hS hK hP hD (isC := [0, 1]) (by decide +kernel) hC (q0 := 0) (ci := 1) rfl rfl) rfl rfl hl.1 rfl (lv_room (Nat.le_of_ble_eq_true rfl)) (zdt zkX1_heft 7 rfl) ⟨Nat.le_refl _, Nat.le_refl _⟩) hP hD hS hA (by decide +kernel) rfl hC rfl rfl (fun H locs hP hD hS => ?_)
    refine xi_icmp_ge (tgt := 27) hx hb (zdt zkX1_heft 10 rfl) (by decide) hf (fun hf => ?_) (fun hf => ?_)
    · refine lv_iconst (v := Int32.ofInt 0) hx hb (zdt zkX1_heft 27 rfl) rfl ?_
      obtain rfl := Option.some.inj hf
      exact hret _ _ _ _ rfl (zdt zkX1_heft 28 rfl) hP hD hS
    · refine lv_aload_n hx hb (zdt zkX1_heft 13 rfl) rfl (lv_at hl 0 rfl) ?_
      refine va_get (D := (dC, dI)) (ci := 1) (v := .ref q2) (C := RX1) (T := TX1) (N := 3) hx hb hz zi_X1 hown hK hP 0 rfl rfl 2 (by decide) (hz _ zw_150) (fun _ h9 => h9) rfl (zdt zkX1_heft 14 rfl) ?_
      refine lv_iload_n hx hb (zdt zkX1_heft 17 rfl) rfl (lv_at hl 1 rfl) ?_
      refine lv_bipush (v := Int32.ofInt 10) hx hb (zdt zkX1_heft 18 rfl) (by decide) ?_
      refine xi_imul hx hb (zdt zkX1_heft 20 rfl) hf (fun v2 hf => ?_)
      refine lv_iload_n hx hb (zdt zkX1_heft 21 rfl) rfl (lv_at hl 2 rfl) ?_
      refine xi_iadd hx hb (zdt zkX1_heft 22 rfl) hf (fun v3 hf => ?_)
      refine xi_iald hx hb hK hP 2 0 rfl rfl (zdt zkX1_heft 23 rfl) hf (fun v4 hf => ?_)
      refine lv_goto (tgt := 28) hx hb (zdt zkX1_heft 24 rfl) (by decide) ?_
      obtain rfl := Option.some.inj hf
      exact hret _ _ _ _ rfl (zdt zkX1_heft 28 rfl) hP hD hS
set_option maxRecDepth 100000 in
noncomputable def ztX10_of (p : Nat) : Option (Jvm.ClassFile.Instr × Nat) := bif Nat.ble 33 p then (bif Nat.ble 52 p then (bif Nat.ble 58 p then (bif Nat.ble 62 p then (bif Nat.ble 63 p then (bif Nat.ble 66 p then (bif Nat.beq p 66 then some (.ireturn, 1) else none) else (bif Nat.beq p 63 then some (.invokevirtual 136, 3) else none)) else (bif Nat.beq p 62 then some (.iload_n 2, 1) else none)) else (bif Nat.ble 61 p then (bif Nat.beq p 61 then some (.iload_n 1, 1) else none) else (bif Nat.beq p 58 then some (.getfield 99, 3) else none))) else (bif Nat.ble 54 p then (bif Nat.ble 55 p then (bif Nat.beq p 55 then some (.getfield 10, 3) else none) else (bif Nat.beq p 54 then some (.aload_n 0, 1) else none)) else (bif Nat.ble 53 p then (bif Nat.beq p 53 then some (.ireturn, 1) else none) else (bif Nat.beq p 52 then some (.iconst (-1), 1) else none)))) else (bif Nat.ble 39 p then (bif Nat.ble 45 p then (bif Nat.ble 46 p then (bif Nat.ble 49 p then (bif Nat.beq p 49 then some (.if_icmp .lt 5, 3) else none) else (bif Nat.beq p 46 then some (.invokevirtual 130, 3) else none)) else (bif Nat.beq p 45 then some (.iload_n 1, 1) else none)) else (bif Nat.ble 42 p then (bif Nat.beq p 42 then some (.getfield 99, 3) else none) else (bif Nat.beq p 39 then some (.getfield 10, 3) else none))) else (bif Nat.ble 37 p then (bif Nat.ble 38 p then (bif Nat.beq p 38 then some (.aload_n 0, 1) else none) else (bif Nat.beq p 37 then some (.iload_n 2, 1) else none)) else (bif Nat.ble 34 p then (bif Nat.beq p 34 then some (.ifCond .lt 18, 3) else none) else (bif Nat.beq p 33 then some (.iload_n 2, 1) else none))))) else (bif Nat.ble 16 p then (bif Nat.ble 22 p then (bif Nat.ble 28 p then (bif Nat.ble 29 p then (bif Nat.ble 32 p then (bif Nat.beq p 32 then some (.ireturn, 1) else none) else (bif Nat.beq p 29 then some (.invokevirtual 130, 3) else none)) else (bif Nat.beq p 28 then some (.iload_n 1, 1) else none)) else (bif Nat.ble 25 p then (bif Nat.beq p 25 then some (.getfield 99, 3) else none) else (bif Nat.beq p 22 then some (.getfield 10, 3) else none))) else (bif Nat.ble 18 p then (bif Nat.ble 21 p then (bif Nat.beq p 21 then some (.aload_n 0, 1) else none) else (bif Nat.beq p 18 then some (.if_icmp .ne 15, 3) else none)) else (bif Nat.ble 17 p then (bif Nat.beq p 17 then some (.iconst (-1), 1) else none) else (bif Nat.beq p 16 then some (.iload_n 2, 1) else none)))) else (bif Nat.ble 8 p then (bif Nat.ble 14 p then (bif Nat.ble 15 p then (bif Nat.beq p 15 then some (.ireturn, 1) else none) else (bif Nat.beq p 14 then some (.iconst (-1), 1) else none)) else (bif Nat.ble 11 p then (bif Nat.beq p 11 then some (.ifCond .ne 5, 3) else none) else (bif Nat.beq p 8 then some (.invokevirtual 122, 3) else none))) else (bif Nat.ble 4 p then (bif Nat.ble 7 p then (bif Nat.beq p 7 then some (.iload_n 1, 1) else none) else (bif Nat.beq p 4 then some (.getfield 99, 3) else none)) else (bif Nat.ble 1 p then (bif Nat.beq p 1 then some (.getfield 10, 3) else none) else (bif Nat.beq p 0 then some (.aload_n 0, 1) else none)))))
set_option maxRecDepth 100000 in
theorem zkX10_of : (zbig cX10_of.data.toList = 151602201064188155290705936112423759266171818894651805153149397883204371898705979268483739104675256157020527161945922028342893226309999207084573449732637862179882 ∧ cX10_of.data.toList.length = 67) ∧ zdk cX10_of 151602201064188155290705936112423759266171818894651805153149397883204371898705979268483739104675256157020527161945922028342893226309999207084573449732637862179882 67 ztX10_of 66 = true := by decide +kernel
theorem zw_575 : (Jvm.Cond.code ({ cls := "HillSchool", name := "of", desc := "(II)I" } : Jvm.MethodName) prog_1_method_5_code (3 : Nat) (Option.some Jvm.ClassFile.FieldType.int)) ∈ zall := zmemG (zmj_2 232 rfl) rfl
theorem zw_576 : (Jvm.Cond.methodLink "HillSchool" (136 : Nat) ({ cls := "HillSchool$Columns", name := "heft", desc := "(II)I" } : Jvm.MethodName)) ∈ zall := zmemG (zmj_2 233 rfl) rfl
theorem zw_577 : (Jvm.Cond.instanceMethod ({ cls := "HillSchool$Columns", name := "heft", desc := "(II)I" } : Jvm.MethodName)) ∈ zall := zmemG (zmj_2 234 rfl) rfl
theorem zw_578 : (Jvm.Cond.selects "HillSchool$Columns" ({ cls := "HillSchool$Columns", name := "heft", desc := "(II)I" } : Jvm.MethodName) ({ cls := "HillSchool$Columns", name := "heft", desc := "(II)I" } : Jvm.MethodName)) ∈ zall := zmemG (zmj_2 235 rfl) rfl
noncomputable abbrev w_HS_of : List Cond := .code yX10_of cX10_of 3 (some .int) :: zall
noncomputable abbrev rm_HS_of : Room := { frames := 3, cells := 0, slots := 0, locals := 64 }
theorem hd_HS_of : yX10_of.cls = "HillSchool" ∧ yX10_of.cls ≠ "java/lang/invoke/MethodHandle" ∧ yX10_of.cls ≠ "java/lang/invoke/VarHandle" ∧ (parseMethodDescriptor yX10_of.desc).map (fun d => d.parameters.length) = some 2 := by decide +kernel
noncomputable def wd_HS_of (cA : Nat → ClassId) (q0 q1 q2 q3 q4 q5 q6 q7 q8 q9 q10 q11 q12 q13 q14 q15 q16 q17 q18 q19 q20 q21 q22 q23 : Nat) (u0 u1 u2 u3 u4 u5 u6 u7 u8 : Int) (i_hill_columns_many : Int) (i_hill_columns_heights : Nat → Int) (i_hill_columns_weights : Nat → Int)  : va_W := [(q0, .inr (10, [.ref q1, .ref q2, .ref q3, .ref q4, .int (Int32.ofInt u0), .int (Int32.ofInt u1), .int (Int32.ofInt u2), .ref q5, .int (Int32.ofInt u3), .ref q6, .ref q7, .ref q8, .ref q9, .ref q10, .ref q11, .ref q12])), (q1, .inr (2, [.ref q13, .int (Int32.ofInt u4), .ref q14, .ref q15, .ref q16, .int (Int32.ofInt u5), .ref q17, .ref q18, .ref q19, .int (Int32.ofInt u6), .ref q20, .ref q21, .int (Int32.ofInt u7), .int (Int32.ofInt u8)])), (q13, .inr (1, [.int (Int32.ofInt i_hill_columns_many), .ref q22, .ref q23])), (q22, .inl (cA 0, 12, .inl (za i_hill_columns_heights))), (q23, .inl (cA 0, 120, .inl (za i_hill_columns_weights)))]
noncomputable def wf_HS_of (cA : Nat → ClassId) (q0 q1 q2 q3 q4 q5 q6 q7 q8 q9 q10 q11 q12 q13 q14 q15 q16 q17 q18 q19 q20 q21 q22 q23 : Nat) (u0 u1 u2 u3 u4 u5 u6 u7 u8 : Int) (i_hill_columns_many : Int) (i_hill_columns_heights : Nat → Int) (i_hill_columns_weights : Nat → Int) (o : Int) : va_W := wd_HS_of cA q0 q1 q2 q3 q4 q5 q6 q7 q8 q9 q10 q11 q12 q13 q14 q15 q16 q17 q18 q19 q20 q21 q22 q23 u0 u1 u2 u3 u4 u5 u6 u7 u8 i_hill_columns_many i_hill_columns_heights i_hill_columns_weights
noncomputable def f_HS_of (x1 : Int) (x2 : Int) (i_hill_columns_many : Int) (i_hill_columns_heights : Nat → Int) (i_hill_columns_weights : Nat → Int) : Option (Int) :=
  zd1 (f_Columns_has x1 i_hill_columns_many) fun v1 =>
  if zi_w v1 ≠ 0 then
    if zi_w x2 ≠ zi_w (-1) then
      if zi_w x2 < 0 then
        some (-1)
      else
        zd1 (f_Columns_high x1 i_hill_columns_many i_hill_columns_heights) fun v2 =>
        if zi_w x2 < zi_w v2 then
          zd1 (f_Columns_heft x1 x2 i_hill_columns_many i_hill_columns_heights i_hill_columns_weights) fun v3 =>
          some v3
        else
          some (-1)
    else
      zd1 (f_Columns_high x1 i_hill_columns_many i_hill_columns_heights) fun v4 =>
      some v4
  else
    some (-1)
set_option maxHeartbeats 4000000 in
set_option maxRecDepth 100000 in
theorem c_HS_of (l : Launch) (ev : zEv) (dC : Nat → ClassId) (dI : Nat → Nat → Nat) (cA : Nat → ClassId) (q0 q1 q2 q3 q4 q5 q6 q7 q8 q9 q10 q11 q12 q13 q14 q15 q16 q17 q18 q19 q20 q21 q22 q23 : Nat) (u0 u1 u2 u3 u4 u5 u6 u7 u8 : Int) {x1 x2 : Int} {i_hill_columns_many : Int} {i_hill_columns_heights : Nat → Int} {i_hill_columns_weights : Nat → Int} {out : Int} (hf : f_HS_of x1 x2 i_hill_columns_many i_hill_columns_heights i_hill_columns_weights = some out) : xc_I l ev (dC, dI) vwCl (tyl cA) yX10_of w_HS_of rm_HS_of [.ref q0, .int (Int32.ofInt x1), .int (Int32.ofInt x2)] (wd_HS_of cA q0 q1 q2 q3 q4 q5 q6 q7 q8 q9 q10 q11 q12 q13 q14 q15 q16 q17 q18 q19 q20 q21 q22 q23 u0 u1 u2 u3 u4 u5 u6 u7 u8 i_hill_columns_many i_hill_columns_heights i_hill_columns_weights) (wf_HS_of cA q0 q1 q2 q3 q4 q5 q6 q7 q8 q9 q10 q11 q12 q13 q14 q15 q16 q17 q18 q19 q20 q21 q22 q23 u0 u1 u2 u3 u4 u5 u6 u7 u8 i_hill_columns_many i_hill_columns_heights i_hill_columns_weights out) out := by
  refine xv_startI (cc := cX10_of) (maxL := 3) (rt := .int) (by decide +kernel) rfl (Nat.le_of_ble_eq_true rfl) ?_
  intro p e s m args below meth c A Q H ls hx hb hml hts hown hK hA hP hD hS hl hE hret
  have hown : s.vm.findClass "HillSchool" = some m.cls := hown
  have hz : ∀ w ∈ zall, w.before args s = true := fun w h => hts w (List.mem_cons_of_mem _ h)
  have hl : lv_has ls 3 [(0, .ref q0), (1, .int (Int32.ofInt x1)), (2, .int (Int32.ofInt x2))] := hl
  unfold f_HS_of at hf
  refine lv_aload_n hx hb (zdt zkX10_of 0 rfl) rfl (lv_at hl 0 rfl) ?_
  refine va_get (D := (dC, dI)) (ci := 10) (v := .ref q1) (C := RX10) (T := TX10) (N := 16) hx hb hz zi_X10 hown hK hP 0 rfl rfl 0 (by decide) (hz _ zw_477) (fun _ h9 => h9) rfl (zdt zkX10_of 1 rfl) ?_
  refine va_getN (D := (dC, dI)) (ci := 2) (v := .ref q13) (C := RX2) (T := TX2) (N := 14) hx hb hz zi_X2 hown hK hP 1 rfl rfl 0 (by decide) (va_Nw.use rfl (hE.1.1 _ zw_169)) (fun _ h9 => h9) rfl (zdt zkX10_of 4 rfl) ?_
  refine lv_iload_n hx hb (zdt zkX10_of 7 rfl) rfl (lv_at hl 1 rfl) ?_
  refine xe_d1 hf (fun v1 hg hf => ?_)
  have hC : ([2] : List Nat).map (fun i => (wd_HS_of cA q0 q1 q2 q3 q4 q5 q6 q7 q8 q9 q10 q11 q12 q13 q14 q15 q16 q17 q18 q19 q20 q21 q22 q23 u0 u1 u2 u3 u4 u5 u6 u7 u8 i_hill_columns_many i_hill_columns_heights i_hill_columns_weights)[i]?) = (wd_Columns_has cA q13 q22 q23 i_hill_columns_many).map some := rfl
  refine xv_afterI (ws' := (wd_HS_of cA q0 q1 q2 q3 q4 q5 q6 q7 q8 q9 q10 q11 q12 q13 q14 q15 q16 q17 q18 q19 q20 q21 q22 q23 u0 u1 u2 u3 u4 u5 u6 u7 u8 i_hill_columns_many i_hill_columns_heights i_hill_columns_weights)) (isC := [2]) (ps := [none, none, some 0, none, none]) (va_runV (As := [.int (Int32.ofInt x1)]) (rest := []) ⟨hx, hb, hml, hown, hts⟩ (c_Columns_has l ev dC dI cA q13 q22 q23 hg H.size) (cwV 1 hts (zgV zw_546 zw_547 zw_548 zw_106 zw_549) rfl rfl rfl hd_Columns_has ⟨Nat.le_of_ble_eq_true rfl, Nat.le_of_ble_eq_true rfl⟩) (xv_preV (T := TX1) (N := 3) hE hA hS hK hP hD (isC := [2]) (by decide +kernel) hC (q0 := 2) (ci := 1) rfl rfl) rfl rfl hl.1 rfl (lv_room (Nat.le_of_ble_eq_true rfl)) (zdt zkX10_of 8 rfl) ⟨Nat.le_refl _, Nat.le_refl _⟩) hP hD hS hA (by decide +kernel) rfl hC rfl rfl (fun H locs hP hD hS => ?_)
  refine xi_if_ne (tgt := 16) hx hb (zdt zkX10_of 11 rfl) (by decide) hf (fun hf => ?_) (fun hf => ?_)
  · refine lv_iload_n hx hb (zdt zkX10_of 16 rfl) rfl (lv_at hl 2 rfl) ?_
    refine lv_iconst (v := Int32.ofInt (-1)) hx hb (zdt zkX10_of 17 rfl) rfl ?_
    refine xi_icmp_ne (tgt := 33) hx hb (zdt zkX10_of 18 rfl) (by decide) hf (fun hf => ?_) (fun hf => ?_)
    · refine lv_iload_n hx hb (zdt zkX10_of 33 rfl) rfl (lv_at hl 2 rfl) ?_
      refine xi_if_lt (tgt := 52) hx hb (zdt zkX10_of 34 rfl) (by decide) hf (fun hf => ?_) (fun hf => ?_)
      · refine lv_iconst (v := Int32.ofInt (-1)) hx hb (zdt zkX10_of 52 rfl) rfl ?_
        obtain rfl := Option.some.inj hf
        exact hret _ _ _ _ rfl (zdt zkX10_of 53 rfl) hP hD hS
      · refine lv_iload_n hx hb (zdt zkX10_of 37 rfl) rfl (lv_at hl 2 rfl) ?_
        refine lv_aload_n hx hb (zdt zkX10_of 38 rfl) rfl (lv_at hl 0 rfl) ?_
        refine va_get (D := (dC, dI)) (ci := 10) (v := .ref q1) (C := RX10) (T := TX10) (N := 16) hx hb hz zi_X10 hown hK hP 0 rfl rfl 0 (by decide) (hz _ zw_477) (fun _ h9 => h9) rfl (zdt zkX10_of 39 rfl) ?_
        refine va_getN (D := (dC, dI)) (ci := 2) (v := .ref q13) (C := RX2) (T := TX2) (N := 14) hx hb hz zi_X2 hown hK hP 1 rfl rfl 0 (by decide) (va_Nw.use rfl (hE.1.1 _ zw_169)) (fun _ h9 => h9) rfl (zdt zkX10_of 42 rfl) ?_
        refine lv_iload_n hx hb (zdt zkX10_of 45 rfl) rfl (lv_at hl 1 rfl) ?_
        refine xe_d1 hf (fun v2 hg hf => ?_)
        have hC : ([2, 3] : List Nat).map (fun i => (wd_HS_of cA q0 q1 q2 q3 q4 q5 q6 q7 q8 q9 q10 q11 q12 q13 q14 q15 q16 q17 q18 q19 q20 q21 q22 q23 u0 u1 u2 u3 u4 u5 u6 u7 u8 i_hill_columns_many i_hill_columns_heights i_hill_columns_weights)[i]?) = (wd_Columns_high cA q13 q22 q23 i_hill_columns_many i_hill_columns_heights).map some := rfl
        refine xv_afterI (ws' := (wd_HS_of cA q0 q1 q2 q3 q4 q5 q6 q7 q8 q9 q10 q11 q12 q13 q14 q15 q16 q17 q18 q19 q20 q21 q22 q23 u0 u1 u2 u3 u4 u5 u6 u7 u8 i_hill_columns_many i_hill_columns_heights i_hill_columns_weights)) (isC := [2, 3]) (ps := [none, none, some 0, some 1, none]) (va_runV (As := [.int (Int32.ofInt x1)]) (rest := [.int (Int32.ofInt x2)]) ⟨hx, hb, hml, hown, hts⟩ (c_Columns_high l ev dC dI cA q13 q22 q23 hg H.size) (cwV 1 hts (zgV zw_555 zw_556 zw_557 zw_106 zw_558) rfl rfl rfl hd_Columns_high ⟨Nat.le_of_ble_eq_true rfl, Nat.le_of_ble_eq_true rfl⟩) (xv_preV (T := TX1) (N := 3) hE hA hS hK hP hD (isC := [2, 3]) (by decide +kernel) hC (q0 := 2) (ci := 1) rfl rfl) rfl rfl hl.1 rfl (lv_room (Nat.le_of_ble_eq_true rfl)) (zdt zkX10_of 46 rfl) ⟨Nat.le_refl _, Nat.le_refl _⟩) hP hD hS hA (by decide +kernel) rfl hC rfl rfl (fun H locs hP hD hS => ?_)
        refine xi_icmp_lt (tgt := 54) hx hb (zdt zkX10_of 49 rfl) (by decide) hf (fun hf => ?_) (fun hf => ?_)
        · refine lv_aload_n hx hb (zdt zkX10_of 54 rfl) rfl (lv_at hl 0 rfl) ?_
          refine va_get (D := (dC, dI)) (ci := 10) (v := .ref q1) (C := RX10) (T := TX10) (N := 16) hx hb hz zi_X10 hown hK hP 0 rfl rfl 0 (by decide) (hz _ zw_477) (fun _ h9 => h9) rfl (zdt zkX10_of 55 rfl) ?_
          refine va_getN (D := (dC, dI)) (ci := 2) (v := .ref q13) (C := RX2) (T := TX2) (N := 14) hx hb hz zi_X2 hown hK hP 1 rfl rfl 0 (by decide) (va_Nw.use rfl (hE.1.1 _ zw_169)) (fun _ h9 => h9) rfl (zdt zkX10_of 58 rfl) ?_
          refine lv_iload_n hx hb (zdt zkX10_of 61 rfl) rfl (lv_at hl 1 rfl) ?_
          refine lv_iload_n hx hb (zdt zkX10_of 62 rfl) rfl (lv_at hl 2 rfl) ?_
          refine xe_d1 hf (fun v3 hg hf => ?_)
          have hC : ([2, 3, 4] : List Nat).map (fun i => (wd_HS_of cA q0 q1 q2 q3 q4 q5 q6 q7 q8 q9 q10 q11 q12 q13 q14 q15 q16 q17 q18 q19 q20 q21 q22 q23 u0 u1 u2 u3 u4 u5 u6 u7 u8 i_hill_columns_many i_hill_columns_heights i_hill_columns_weights)[i]?) = (wd_Columns_heft cA q13 q22 q23 i_hill_columns_many i_hill_columns_heights i_hill_columns_weights).map some := rfl
          refine xv_afterI (ws' := (wd_HS_of cA q0 q1 q2 q3 q4 q5 q6 q7 q8 q9 q10 q11 q12 q13 q14 q15 q16 q17 q18 q19 q20 q21 q22 q23 u0 u1 u2 u3 u4 u5 u6 u7 u8 i_hill_columns_many i_hill_columns_heights i_hill_columns_weights)) (isC := [2, 3, 4]) (ps := [none, none, some 0, some 1, some 2]) (va_runV (As := [.int (Int32.ofInt x1), .int (Int32.ofInt x2)]) (rest := []) ⟨hx, hb, hml, hown, hts⟩ (c_Columns_heft l ev dC dI cA q13 q22 q23 hg H.size) (cwV 2 hts (zgV zw_576 zw_577 zw_578 zw_106 zw_579) rfl rfl rfl hd_Columns_heft ⟨Nat.le_of_ble_eq_true rfl, Nat.le_of_ble_eq_true rfl⟩) (xv_preV (T := TX1) (N := 3) hE hA hS hK hP hD (isC := [2, 3, 4]) (by decide +kernel) hC (q0 := 2) (ci := 1) rfl rfl) rfl rfl hl.1 rfl (lv_room (Nat.le_of_ble_eq_true rfl)) (zdt zkX10_of 63 rfl) ⟨Nat.le_refl _, Nat.le_refl _⟩) hP hD hS hA (by decide +kernel) rfl hC rfl rfl (fun H locs hP hD hS => ?_)
          obtain rfl := Option.some.inj hf
          exact hret _ _ _ _ rfl (zdt zkX10_of 66 rfl) hP hD hS
        · refine lv_iconst (v := Int32.ofInt (-1)) hx hb (zdt zkX10_of 52 rfl) rfl ?_
          obtain rfl := Option.some.inj hf
          exact hret _ _ _ _ rfl (zdt zkX10_of 53 rfl) hP hD hS
    · refine lv_aload_n hx hb (zdt zkX10_of 21 rfl) rfl (lv_at hl 0 rfl) ?_
      refine va_get (D := (dC, dI)) (ci := 10) (v := .ref q1) (C := RX10) (T := TX10) (N := 16) hx hb hz zi_X10 hown hK hP 0 rfl rfl 0 (by decide) (hz _ zw_477) (fun _ h9 => h9) rfl (zdt zkX10_of 22 rfl) ?_
      refine va_getN (D := (dC, dI)) (ci := 2) (v := .ref q13) (C := RX2) (T := TX2) (N := 14) hx hb hz zi_X2 hown hK hP 1 rfl rfl 0 (by decide) (va_Nw.use rfl (hE.1.1 _ zw_169)) (fun _ h9 => h9) rfl (zdt zkX10_of 25 rfl) ?_
      refine lv_iload_n hx hb (zdt zkX10_of 28 rfl) rfl (lv_at hl 1 rfl) ?_
      refine xe_d1 hf (fun v4 hg hf => ?_)
      have hC : ([2, 3] : List Nat).map (fun i => (wd_HS_of cA q0 q1 q2 q3 q4 q5 q6 q7 q8 q9 q10 q11 q12 q13 q14 q15 q16 q17 q18 q19 q20 q21 q22 q23 u0 u1 u2 u3 u4 u5 u6 u7 u8 i_hill_columns_many i_hill_columns_heights i_hill_columns_weights)[i]?) = (wd_Columns_high cA q13 q22 q23 i_hill_columns_many i_hill_columns_heights).map some := rfl
      refine xv_afterI (ws' := (wd_HS_of cA q0 q1 q2 q3 q4 q5 q6 q7 q8 q9 q10 q11 q12 q13 q14 q15 q16 q17 q18 q19 q20 q21 q22 q23 u0 u1 u2 u3 u4 u5 u6 u7 u8 i_hill_columns_many i_hill_columns_heights i_hill_columns_weights)) (isC := [2, 3]) (ps := [none, none, some 0, some 1, none]) (va_runV (As := [.int (Int32.ofInt x1)]) (rest := []) ⟨hx, hb, hml, hown, hts⟩ (c_Columns_high l ev dC dI cA q13 q22 q23 hg H.size) (cwV 1 hts (zgV zw_555 zw_556 zw_557 zw_106 zw_558) rfl rfl rfl hd_Columns_high ⟨Nat.le_of_ble_eq_true rfl, Nat.le_of_ble_eq_true rfl⟩) (xv_preV (T := TX1) (N := 3) hE hA hS hK hP hD (isC := [2, 3]) (by decide +kernel) hC (q0 := 2) (ci := 1) rfl rfl) rfl rfl hl.1 rfl (lv_room (Nat.le_of_ble_eq_true rfl)) (zdt zkX10_of 29 rfl) ⟨Nat.le_refl _, Nat.le_refl _⟩) hP hD hS hA (by decide +kernel) rfl hC rfl rfl (fun H locs hP hD hS => ?_)
      obtain rfl := Option.some.inj hf
      exact hret _ _ _ _ rfl (zdt zkX10_of 32 rfl) hP hD hS
  · refine lv_iconst (v := Int32.ofInt (-1)) hx hb (zdt zkX10_of 14 rfl) rfl ?_
    obtain rfl := Option.some.inj hf
    exact hret _ _ _ _ rfl (zdt zkX10_of 15 rfl) hP hD hS
set_option maxRecDepth 100000 in
noncomputable def ztX1_load (p : Nat) : Option (Jvm.ClassFile.Instr × Nat) := bif Nat.ble 14 p then (bif Nat.ble 21 p then (bif Nat.ble 25 p then (bif Nat.ble 28 p then (bif Nat.ble 29 p then (bif Nat.beq p 29 then some (.ireturn, 1) else none) else (bif Nat.beq p 28 then some (.iload_n 2, 1) else none)) else (bif Nat.beq p 25 then some (.goto (-21), 3) else none)) else (bif Nat.ble 22 p then (bif Nat.beq p 22 then some (.iinc 3 1, 3) else none) else (bif Nat.beq p 21 then some (.istore_n 2, 1) else none))) else (bif Nat.ble 16 p then (bif Nat.ble 17 p then (bif Nat.ble 20 p then (bif Nat.beq p 20 then some (.iadd, 1) else none) else (bif Nat.beq p 17 then some (.invokevirtual 30, 3) else none)) else (bif Nat.beq p 16 then some (.iload_n 3, 1) else none)) else (bif Nat.ble 15 p then (bif Nat.beq p 15 then some (.iload_n 1, 1) else none) else (bif Nat.beq p 14 then some (.aload_n 0, 1) else none)))) else (bif Nat.ble 5 p then (bif Nat.ble 7 p then (bif Nat.ble 10 p then (bif Nat.ble 13 p then (bif Nat.beq p 13 then some (.iload_n 2, 1) else none) else (bif Nat.beq p 10 then some (.if_icmp .ge 18, 3) else none)) else (bif Nat.beq p 7 then some (.invokevirtual 26, 3) else none)) else (bif Nat.ble 6 p then (bif Nat.beq p 6 then some (.iload_n 1, 1) else none) else (bif Nat.beq p 5 then some (.aload_n 0, 1) else none))) else (bif Nat.ble 2 p then (bif Nat.ble 3 p then (bif Nat.ble 4 p then (bif Nat.beq p 4 then some (.iload_n 3, 1) else none) else (bif Nat.beq p 3 then some (.istore_n 3, 1) else none)) else (bif Nat.beq p 2 then some (.iconst 0, 1) else none)) else (bif Nat.ble 1 p then (bif Nat.beq p 1 then some (.istore_n 2, 1) else none) else (bif Nat.beq p 0 then some (.iconst 0, 1) else none))))
set_option maxRecDepth 100000 in
theorem zkX1_load : (zbig cX1_load.data.toList = 1187880103712479846237612104263726377632584638960551937647130914981100803 ∧ cX1_load.data.toList.length = 30) ∧ zdk cX1_load 1187880103712479846237612104263726377632584638960551937647130914981100803 30 ztX1_load 29 = true := by decide +kernel
theorem zw_587 : (Jvm.Cond.code ({ cls := "HillSchool$Columns", name := "load", desc := "(I)I" } : Jvm.MethodName) prog_3_method_7_code (4 : Nat) (Option.some Jvm.ClassFile.FieldType.int)) ∈ zall := zmemG (zmj_3 4 rfl) rfl
theorem zw_588 : (Jvm.Cond.methodLink "HillSchool$Columns" (30 : Nat) ({ cls := "HillSchool$Columns", name := "heft", desc := "(II)I" } : Jvm.MethodName)) ∈ zall := zmemG (zmj_3 5 rfl) rfl
noncomputable abbrev w_Columns_load : List Cond := .code yX1_load cX1_load 4 (some .int) :: zall
noncomputable abbrev rm_Columns_load : Room := { frames := 3, cells := 0, slots := 0, locals := 64 }
theorem hd_Columns_load : yX1_load.cls = "HillSchool$Columns" ∧ yX1_load.cls ≠ "java/lang/invoke/MethodHandle" ∧ yX1_load.cls ≠ "java/lang/invoke/VarHandle" ∧ (parseMethodDescriptor yX1_load.desc).map (fun d => d.parameters.length) = some 1 := by decide +kernel
noncomputable def wd_Columns_load (cA : Nat → ClassId) (q0 q1 q2 : Nat) (i_many : Int) (i_heights : Nat → Int) (i_weights : Nat → Int)  : va_W := [(q0, .inr (1, [.int (Int32.ofInt i_many), .ref q1, .ref q2])), (q1, .inl (cA 0, 12, .inl (za i_heights))), (q2, .inl (cA 0, 120, .inl (za i_weights)))]
noncomputable def wf_Columns_load (cA : Nat → ClassId) (q0 q1 q2 : Nat) (i_many : Int) (i_heights : Nat → Int) (i_weights : Nat → Int) (o : Int) : va_W := wd_Columns_load cA q0 q1 q2 i_many i_heights i_weights
noncomputable def f_Columns_load_4_b (i_many : Int) (i_heights : Nat → Int) (i_weights : Nat → Int) (k4 : Int → Int → Int → Option (Int)) (x1 : Int) (x2 : Int) (x3 : Int) : Option (Int) :=
  zd1 (f_Columns_high x1 i_many i_heights) fun v1 =>
  if zi_w v1 ≤ zi_w x3 then
    some x2
  else
    zd1 (f_Columns_heft x1 x3 i_many i_heights i_weights) fun v2 =>
    zn (x2 + v2) fun v3 =>
    zn (x3 + 1) fun v4 =>
    k4 x1 v3 v4
noncomputable def f_Columns_load_4 (i_many : Int) (i_heights : Nat → Int) (i_weights : Nat → Int) : Nat → Int → Int → Int → Option (Int)
  | 0 => fun _ _ _ => none
  | n + 1 => fun y0 y1 y2 => f_Columns_load_4_b i_many i_heights i_weights (f_Columns_load_4 i_many i_heights i_weights n) y0 y1 y2
noncomputable def f_Columns_load (x1 : Int) (i_many : Int) (i_heights : Nat → Int) (i_weights : Nat → Int) : Option (Int) :=
  f_Columns_load_4 i_many i_heights i_weights zfu x1 0 0
set_option maxHeartbeats 4000000 in
set_option maxRecDepth 100000 in
theorem c_Columns_load (l : Launch) (ev : zEv) (dC : Nat → ClassId) (dI : Nat → Nat → Nat) (cA : Nat → ClassId) (q0 q1 q2 : Nat) {x1 : Int} {i_many : Int} {i_heights : Nat → Int} {i_weights : Nat → Int} {out : Int} (hf : f_Columns_load x1 i_many i_heights i_weights = some out) : xc_I l ev (dC, dI) vwCl (tyl cA) yX1_load w_Columns_load rm_Columns_load [.ref q0, .int (Int32.ofInt x1)] (wd_Columns_load cA q0 q1 q2 i_many i_heights i_weights) (wf_Columns_load cA q0 q1 q2 i_many i_heights i_weights out) out := by
  refine xv_startI (cc := cX1_load) (maxL := 4) (rt := .int) (by decide +kernel) rfl (Nat.le_of_ble_eq_true rfl) ?_
  intro p e s m args below meth c A Q H ls hx hb hml hts hown hK hA hP hD hS hl hE hret
  have hown : s.vm.findClass "HillSchool$Columns" = some m.cls := hown
  have hz : ∀ w ∈ zall, w.before args s = true := fun w h => hts w (List.mem_cons_of_mem _ h)
  have hl : lv_has ls 4 [(0, .ref q0), (1, .int (Int32.ofInt x1))] := hl
  have b_4 : ∀ (k4 : Int → Int → Int → Option (Int)) (_ : ∀ (x1 : Int) (x2 : Int) (x3 : Int) (H : Heap) (locs : List Loc) (ls : Array Slot), k4 x1 x2 x3 = some out → va_P (dC, dI) vwCl (wd_Columns_load cA q0 q1 q2 i_many i_heights i_weights) H → va_D A (wd_Columns_load cA q0 q1 q2 i_many i_heights i_weights) → va_S A s.heap H locs → lv_has ls 4 [(0, .ref q0), (1, .int (Int32.ofInt x1)), (2, .int (Int32.ofInt x2)), (3, .int (Int32.ofInt x3))] → W p l e rm_Columns_load s m args below meth c H locs 0 0 Q (F0 m 4 ls [])), ∀ (x1 : Int) (x2 : Int) (x3 : Int) (H : Heap) (locs : List Loc) (ls : Array Slot), f_Columns_load_4_b i_many i_heights i_weights k4 x1 x2 x3 = some out → va_P (dC, dI) vwCl (wd_Columns_load cA q0 q1 q2 i_many i_heights i_weights) H → va_D A (wd_Columns_load cA q0 q1 q2 i_many i_heights i_weights) → va_S A s.heap H locs → lv_has ls 4 [(0, .ref q0), (1, .int (Int32.ofInt x1)), (2, .int (Int32.ofInt x2)), (3, .int (Int32.ofInt x3))] → W p l e rm_Columns_load s m args below meth c H locs 0 0 Q (F0 m 4 ls []) := by
    intro k4 ih4 x1 x2 x3 H locs ls hf hP hD hS hl
    unfold f_Columns_load_4_b at hf
    refine lv_iload_n hx hb (zdt zkX1_load 4 rfl) rfl (lv_at hl 3 rfl) ?_
    refine lv_aload_n hx hb (zdt zkX1_load 5 rfl) rfl (lv_at hl 0 rfl) ?_
    refine lv_iload_n hx hb (zdt zkX1_load 6 rfl) rfl (lv_at hl 1 rfl) ?_
    refine xe_d1 hf (fun v1 hg hf => ?_)
    have hC : ([0, 1] : List Nat).map (fun i => (wd_Columns_load cA q0 q1 q2 i_many i_heights i_weights)[i]?) = (wd_Columns_high cA q0 q1 q2 i_many i_heights).map some := rfl
    refine xv_afterI (ws' := (wd_Columns_load cA q0 q1 q2 i_many i_heights i_weights)) (isC := [0, 1]) (ps := [some 0, some 1, none]) (va_runV (As := [.int (Int32.ofInt x1)]) (rest := [.int (Int32.ofInt x3)]) ⟨hx, hb, hml, hown, hts⟩ (c_Columns_high l ev dC dI cA q0 q1 q2 hg H.size) (cwV 1 hts (zgV zw_571 zw_556 zw_557 zw_106 zw_558) rfl rfl rfl hd_Columns_high ⟨Nat.le_of_ble_eq_true rfl, Nat.le_of_ble_eq_true rfl⟩) (xv_preV (T := TX1) (N := 3) hE hA hS hK hP hD (isC := [0, 1]) (by decide +kernel) hC (q0 := 0) (ci := 1) rfl rfl) rfl rfl hl.1 rfl (lv_room (Nat.le_of_ble_eq_true rfl)) (zdt zkX1_load 7 rfl) ⟨Nat.le_refl _, Nat.le_refl _⟩) hP hD hS hA (by decide +kernel) rfl hC rfl rfl (fun H locs hP hD hS => ?_)
    refine xi_icmp_ge (tgt := 28) hx hb (zdt zkX1_load 10 rfl) (by decide) hf (fun hf => ?_) (fun hf => ?_)
    · refine lv_iload_n hx hb (zdt zkX1_load 28 rfl) rfl (lv_at hl 2 rfl) ?_
      obtain rfl := Option.some.inj hf
      exact hret _ _ _ _ rfl (zdt zkX1_load 29 rfl) hP hD hS
    · refine lv_iload_n hx hb (zdt zkX1_load 13 rfl) rfl (lv_at hl 2 rfl) ?_
      refine lv_aload_n hx hb (zdt zkX1_load 14 rfl) rfl (lv_at hl 0 rfl) ?_
      refine lv_iload_n hx hb (zdt zkX1_load 15 rfl) rfl (lv_at hl 1 rfl) ?_
      refine lv_iload_n hx hb (zdt zkX1_load 16 rfl) rfl (lv_at hl 3 rfl) ?_
      refine xe_d1 hf (fun v2 hg hf => ?_)
      have hC : ([0, 1, 2] : List Nat).map (fun i => (wd_Columns_load cA q0 q1 q2 i_many i_heights i_weights)[i]?) = (wd_Columns_heft cA q0 q1 q2 i_many i_heights i_weights).map some := rfl
      refine xv_afterI (ws' := (wd_Columns_load cA q0 q1 q2 i_many i_heights i_weights)) (isC := [0, 1, 2]) (ps := [some 0, some 1, some 2]) (va_runV (As := [.int (Int32.ofInt x1), .int (Int32.ofInt x3)]) (rest := [.int (Int32.ofInt x2)]) ⟨hx, hb, hml, hown, hts⟩ (c_Columns_heft l ev dC dI cA q0 q1 q2 hg H.size) (cwV 2 hts (zgV zw_588 zw_577 zw_578 zw_106 zw_579) rfl rfl rfl hd_Columns_heft ⟨Nat.le_of_ble_eq_true rfl, Nat.le_of_ble_eq_true rfl⟩) (xv_preV (T := TX1) (N := 3) hE hA hS hK hP hD (isC := [0, 1, 2]) (by decide +kernel) hC (q0 := 0) (ci := 1) rfl rfl) rfl rfl hl.1 rfl (lv_room (Nat.le_of_ble_eq_true rfl)) (zdt zkX1_load 17 rfl) ⟨Nat.le_refl _, Nat.le_refl _⟩) hP hD hS hA (by decide +kernel) rfl hC rfl rfl (fun H locs hP hD hS => ?_)
      refine xi_iadd hx hb (zdt zkX1_load 20 rfl) hf (fun v3 hf => ?_)
      refine lv_istore_n (lv' := [(2, .int (Int32.ofInt v3)), (0, .ref q0), (1, .int (Int32.ofInt x1)), (3, .int (Int32.ofInt x3))]) hx hb (zdt zkX1_load 21 rfl) rfl hl (by decide) rfl (fun ls hl => ?_)
      refine xi_iinc hx hb (zdt zkX1_load 22 rfl) hl (k := 3) rfl (by decide) hf (fun v4 ls hl hf => ?_)
      have hl : lv_has ls 4 [(3, .int (Int32.ofInt v4)), (2, .int (Int32.ofInt v3)), (0, .ref q0), (1, .int (Int32.ofInt x1))] := hl
      refine lv_goto (tgt := 4) hx hb (zdt zkX1_load 25 rfl) (by decide) ?_
      exact ih4 _ _ _ _ _ _ hf hP hD hS (lv_sub hl [2, 3, 1, 0] rfl)
  have l_4 : ∀ (n : Nat), ∀ (x1 : Int) (x2 : Int) (x3 : Int) (H : Heap) (locs : List Loc) (ls : Array Slot), f_Columns_load_4 i_many i_heights i_weights n x1 x2 x3 = some out → va_P (dC, dI) vwCl (wd_Columns_load cA q0 q1 q2 i_many i_heights i_weights) H → va_D A (wd_Columns_load cA q0 q1 q2 i_many i_heights i_weights) → va_S A s.heap H locs → lv_has ls 4 [(0, .ref q0), (1, .int (Int32.ofInt x1)), (2, .int (Int32.ofInt x2)), (3, .int (Int32.ofInt x3))] → W p l e rm_Columns_load s m args below meth c H locs 0 0 Q (F0 m 4 ls []) := by
    intro n
    induction n with
    | zero => intro x1 x2 x3 H locs ls hf hP hD hS hl; exact nomatch hf
    | succ n ih => intro x1 x2 x3 H locs ls hf hP hD hS hl; exact b_4 (f_Columns_load_4 i_many i_heights i_weights n) ih x1 x2 x3 H locs ls hf hP hD hS hl
  unfold f_Columns_load at hf
  refine lv_iconst (v := Int32.ofInt 0) hx hb (zdt zkX1_load 0 rfl) rfl ?_
  refine lv_istore_n (lv' := [(2, .int (Int32.ofInt 0)), (0, .ref q0), (1, .int (Int32.ofInt x1))]) hx hb (zdt zkX1_load 1 rfl) rfl hl (by decide) rfl (fun ls hl => ?_)
  refine lv_iconst (v := Int32.ofInt 0) hx hb (zdt zkX1_load 2 rfl) rfl ?_
  refine lv_istore_n (lv' := [(3, .int (Int32.ofInt 0)), (2, .int (Int32.ofInt 0)), (0, .ref q0), (1, .int (Int32.ofInt x1))]) hx hb (zdt zkX1_load 3 rfl) rfl hl (by decide) rfl (fun ls hl => ?_)
  exact l_4  _ _ _ _ _ _ _ hf hP hD hS (lv_sub hl [2, 3, 1, 0] rfl)
set_option maxRecDepth 100000 in
noncomputable def ztX10_weight (p : Nat) : Option (Jvm.ClassFile.Instr × Nat) := bif Nat.ble 15 p then (bif Nat.ble 22 p then (bif Nat.ble 28 p then (bif Nat.ble 29 p then (bif Nat.beq p 29 then some (.ireturn, 1) else none) else (bif Nat.beq p 28 then some (.iconst (-1), 1) else none)) else (bif Nat.ble 25 p then (bif Nat.beq p 25 then some (.goto 4, 3) else none) else (bif Nat.beq p 22 then some (.invokevirtual 140, 3) else none))) else (bif Nat.ble 18 p then (bif Nat.ble 21 p then (bif Nat.beq p 21 then some (.iload_n 1, 1) else none) else (bif Nat.beq p 18 then some (.getfield 99, 3) else none)) else (bif Nat.beq p 15 then some (.getfield 10, 3) else none))) else (bif Nat.ble 7 p then (bif Nat.ble 11 p then (bif Nat.ble 14 p then (bif Nat.beq p 14 then some (.aload_n 0, 1) else none) else (bif Nat.beq p 11 then some (.ifCond .eq 17, 3) else none)) else (bif Nat.ble 8 p then (bif Nat.beq p 8 then some (.invokevirtual 122, 3) else none) else (bif Nat.beq p 7 then some (.iload_n 1, 1) else none))) else (bif Nat.ble 1 p then (bif Nat.ble 4 p then (bif Nat.beq p 4 then some (.getfield 99, 3) else none) else (bif Nat.beq p 1 then some (.getfield 10, 3) else none)) else (bif Nat.beq p 0 then some (.aload_n 0, 1) else none)))
set_option maxRecDepth 100000 in
theorem zkX10_weight : (zbig cX10_weight.data.toList = 1187154713059715412023703014680196053964904314947112525959390738765624362 ∧ cX10_weight.data.toList.length = 30) ∧ zdk cX10_weight 1187154713059715412023703014680196053964904314947112525959390738765624362 30 ztX10_weight 29 = true := by decide +kernel
theorem zw_583 : (Jvm.Cond.code ({ cls := "HillSchool", name := "weight", desc := "(I)I" } : Jvm.MethodName) prog_1_method_6_code (2 : Nat) (Option.some Jvm.ClassFile.FieldType.int)) ∈ zall := zmemG (zmj_3 0 rfl) rfl
theorem zw_584 : (Jvm.Cond.methodLink "HillSchool" (140 : Nat) ({ cls := "HillSchool$Columns", name := "load", desc := "(I)I" } : Jvm.MethodName)) ∈ zall := zmemG (zmj_3 1 rfl) rfl
theorem zw_585 : (Jvm.Cond.instanceMethod ({ cls := "HillSchool$Columns", name := "load", desc := "(I)I" } : Jvm.MethodName)) ∈ zall := zmemG (zmj_3 2 rfl) rfl
theorem zw_586 : (Jvm.Cond.selects "HillSchool$Columns" ({ cls := "HillSchool$Columns", name := "load", desc := "(I)I" } : Jvm.MethodName) ({ cls := "HillSchool$Columns", name := "load", desc := "(I)I" } : Jvm.MethodName)) ∈ zall := zmemG (zmj_3 3 rfl) rfl
noncomputable abbrev w_HS_weight : List Cond := .code yX10_weight cX10_weight 2 (some .int) :: zall
noncomputable abbrev rm_HS_weight : Room := { frames := 4, cells := 0, slots := 0, locals := 87 }
theorem hd_HS_weight : yX10_weight.cls = "HillSchool" ∧ yX10_weight.cls ≠ "java/lang/invoke/MethodHandle" ∧ yX10_weight.cls ≠ "java/lang/invoke/VarHandle" ∧ (parseMethodDescriptor yX10_weight.desc).map (fun d => d.parameters.length) = some 1 := by decide +kernel
noncomputable def wd_HS_weight (cA : Nat → ClassId) (q0 q1 q2 q3 q4 q5 q6 q7 q8 q9 q10 q11 q12 q13 q14 q15 q16 q17 q18 q19 q20 q21 q22 q23 : Nat) (u0 u1 u2 u3 u4 u5 u6 u7 u8 : Int) (i_hill_columns_many : Int) (i_hill_columns_heights : Nat → Int) (i_hill_columns_weights : Nat → Int)  : va_W := [(q0, .inr (10, [.ref q1, .ref q2, .ref q3, .ref q4, .int (Int32.ofInt u0), .int (Int32.ofInt u1), .int (Int32.ofInt u2), .ref q5, .int (Int32.ofInt u3), .ref q6, .ref q7, .ref q8, .ref q9, .ref q10, .ref q11, .ref q12])), (q1, .inr (2, [.ref q13, .int (Int32.ofInt u4), .ref q14, .ref q15, .ref q16, .int (Int32.ofInt u5), .ref q17, .ref q18, .ref q19, .int (Int32.ofInt u6), .ref q20, .ref q21, .int (Int32.ofInt u7), .int (Int32.ofInt u8)])), (q13, .inr (1, [.int (Int32.ofInt i_hill_columns_many), .ref q22, .ref q23])), (q22, .inl (cA 0, 12, .inl (za i_hill_columns_heights))), (q23, .inl (cA 0, 120, .inl (za i_hill_columns_weights)))]
noncomputable def wf_HS_weight (cA : Nat → ClassId) (q0 q1 q2 q3 q4 q5 q6 q7 q8 q9 q10 q11 q12 q13 q14 q15 q16 q17 q18 q19 q20 q21 q22 q23 : Nat) (u0 u1 u2 u3 u4 u5 u6 u7 u8 : Int) (i_hill_columns_many : Int) (i_hill_columns_heights : Nat → Int) (i_hill_columns_weights : Nat → Int) (o : Int) : va_W := wd_HS_weight cA q0 q1 q2 q3 q4 q5 q6 q7 q8 q9 q10 q11 q12 q13 q14 q15 q16 q17 q18 q19 q20 q21 q22 q23 u0 u1 u2 u3 u4 u5 u6 u7 u8 i_hill_columns_many i_hill_columns_heights i_hill_columns_weights
noncomputable def f_HS_weight (x1 : Int) (i_hill_columns_many : Int) (i_hill_columns_heights : Nat → Int) (i_hill_columns_weights : Nat → Int) : Option (Int) :=
  zd1 (f_Columns_has x1 i_hill_columns_many) fun v1 =>
  if zi_w v1 = 0 then
    some (-1)
  else
    zd1 (f_Columns_load x1 i_hill_columns_many i_hill_columns_heights i_hill_columns_weights) fun v2 =>
    some v2
set_option maxHeartbeats 4000000 in
set_option maxRecDepth 100000 in
theorem c_HS_weight (l : Launch) (ev : zEv) (dC : Nat → ClassId) (dI : Nat → Nat → Nat) (cA : Nat → ClassId) (q0 q1 q2 q3 q4 q5 q6 q7 q8 q9 q10 q11 q12 q13 q14 q15 q16 q17 q18 q19 q20 q21 q22 q23 : Nat) (u0 u1 u2 u3 u4 u5 u6 u7 u8 : Int) {x1 : Int} {i_hill_columns_many : Int} {i_hill_columns_heights : Nat → Int} {i_hill_columns_weights : Nat → Int} {out : Int} (hf : f_HS_weight x1 i_hill_columns_many i_hill_columns_heights i_hill_columns_weights = some out) : xc_I l ev (dC, dI) vwCl (tyl cA) yX10_weight w_HS_weight rm_HS_weight [.ref q0, .int (Int32.ofInt x1)] (wd_HS_weight cA q0 q1 q2 q3 q4 q5 q6 q7 q8 q9 q10 q11 q12 q13 q14 q15 q16 q17 q18 q19 q20 q21 q22 q23 u0 u1 u2 u3 u4 u5 u6 u7 u8 i_hill_columns_many i_hill_columns_heights i_hill_columns_weights) (wf_HS_weight cA q0 q1 q2 q3 q4 q5 q6 q7 q8 q9 q10 q11 q12 q13 q14 q15 q16 q17 q18 q19 q20 q21 q22 q23 u0 u1 u2 u3 u4 u5 u6 u7 u8 i_hill_columns_many i_hill_columns_heights i_hill_columns_weights out) out := by
  refine xv_startI (cc := cX10_weight) (maxL := 2) (rt := .int) (by decide +kernel) rfl (Nat.le_of_ble_eq_true rfl) ?_
  intro p e s m args below meth c A Q H ls hx hb hml hts hown hK hA hP hD hS hl hE hret
  have hown : s.vm.findClass "HillSchool" = some m.cls := hown
  have hz : ∀ w ∈ zall, w.before args s = true := fun w h => hts w (List.mem_cons_of_mem _ h)
  have hl : lv_has ls 2 [(0, .ref q0), (1, .int (Int32.ofInt x1))] := hl
  unfold f_HS_weight at hf
  refine lv_aload_n hx hb (zdt zkX10_weight 0 rfl) rfl (lv_at hl 0 rfl) ?_
  refine va_get (D := (dC, dI)) (ci := 10) (v := .ref q1) (C := RX10) (T := TX10) (N := 16) hx hb hz zi_X10 hown hK hP 0 rfl rfl 0 (by decide) (hz _ zw_477) (fun _ h9 => h9) rfl (zdt zkX10_weight 1 rfl) ?_
  refine va_getN (D := (dC, dI)) (ci := 2) (v := .ref q13) (C := RX2) (T := TX2) (N := 14) hx hb hz zi_X2 hown hK hP 1 rfl rfl 0 (by decide) (va_Nw.use rfl (hE.1.1 _ zw_169)) (fun _ h9 => h9) rfl (zdt zkX10_weight 4 rfl) ?_
  refine lv_iload_n hx hb (zdt zkX10_weight 7 rfl) rfl (lv_at hl 1 rfl) ?_
  refine xe_d1 hf (fun v1 hg hf => ?_)
  have hC : ([2] : List Nat).map (fun i => (wd_HS_weight cA q0 q1 q2 q3 q4 q5 q6 q7 q8 q9 q10 q11 q12 q13 q14 q15 q16 q17 q18 q19 q20 q21 q22 q23 u0 u1 u2 u3 u4 u5 u6 u7 u8 i_hill_columns_many i_hill_columns_heights i_hill_columns_weights)[i]?) = (wd_Columns_has cA q13 q22 q23 i_hill_columns_many).map some := rfl
  refine xv_afterI (ws' := (wd_HS_weight cA q0 q1 q2 q3 q4 q5 q6 q7 q8 q9 q10 q11 q12 q13 q14 q15 q16 q17 q18 q19 q20 q21 q22 q23 u0 u1 u2 u3 u4 u5 u6 u7 u8 i_hill_columns_many i_hill_columns_heights i_hill_columns_weights)) (isC := [2]) (ps := [none, none, some 0, none, none]) (va_runV (As := [.int (Int32.ofInt x1)]) (rest := []) ⟨hx, hb, hml, hown, hts⟩ (c_Columns_has l ev dC dI cA q13 q22 q23 hg H.size) (cwV 1 hts (zgV zw_546 zw_547 zw_548 zw_106 zw_549) rfl rfl rfl hd_Columns_has ⟨Nat.le_of_ble_eq_true rfl, Nat.le_of_ble_eq_true rfl⟩) (xv_preV (T := TX1) (N := 3) hE hA hS hK hP hD (isC := [2]) (by decide +kernel) hC (q0 := 2) (ci := 1) rfl rfl) rfl rfl hl.1 rfl (lv_room (Nat.le_of_ble_eq_true rfl)) (zdt zkX10_weight 8 rfl) ⟨Nat.le_refl _, Nat.le_refl _⟩) hP hD hS hA (by decide +kernel) rfl hC rfl rfl (fun H locs hP hD hS => ?_)
  refine xi_if_eq (tgt := 28) hx hb (zdt zkX10_weight 11 rfl) (by decide) hf (fun hf => ?_) (fun hf => ?_)
  · refine lv_iconst (v := Int32.ofInt (-1)) hx hb (zdt zkX10_weight 28 rfl) rfl ?_
    obtain rfl := Option.some.inj hf
    exact hret _ _ _ _ rfl (zdt zkX10_weight 29 rfl) hP hD hS
  · refine lv_aload_n hx hb (zdt zkX10_weight 14 rfl) rfl (lv_at hl 0 rfl) ?_
    refine va_get (D := (dC, dI)) (ci := 10) (v := .ref q1) (C := RX10) (T := TX10) (N := 16) hx hb hz zi_X10 hown hK hP 0 rfl rfl 0 (by decide) (hz _ zw_477) (fun _ h9 => h9) rfl (zdt zkX10_weight 15 rfl) ?_
    refine va_getN (D := (dC, dI)) (ci := 2) (v := .ref q13) (C := RX2) (T := TX2) (N := 14) hx hb hz zi_X2 hown hK hP 1 rfl rfl 0 (by decide) (va_Nw.use rfl (hE.1.1 _ zw_169)) (fun _ h9 => h9) rfl (zdt zkX10_weight 18 rfl) ?_
    refine lv_iload_n hx hb (zdt zkX10_weight 21 rfl) rfl (lv_at hl 1 rfl) ?_
    refine xe_d1 hf (fun v2 hg hf => ?_)
    have hC : ([2, 3, 4] : List Nat).map (fun i => (wd_HS_weight cA q0 q1 q2 q3 q4 q5 q6 q7 q8 q9 q10 q11 q12 q13 q14 q15 q16 q17 q18 q19 q20 q21 q22 q23 u0 u1 u2 u3 u4 u5 u6 u7 u8 i_hill_columns_many i_hill_columns_heights i_hill_columns_weights)[i]?) = (wd_Columns_load cA q13 q22 q23 i_hill_columns_many i_hill_columns_heights i_hill_columns_weights).map some := rfl
    refine xv_afterI (ws' := (wd_HS_weight cA q0 q1 q2 q3 q4 q5 q6 q7 q8 q9 q10 q11 q12 q13 q14 q15 q16 q17 q18 q19 q20 q21 q22 q23 u0 u1 u2 u3 u4 u5 u6 u7 u8 i_hill_columns_many i_hill_columns_heights i_hill_columns_weights)) (isC := [2, 3, 4]) (ps := [none, none, some 0, some 1, some 2]) (va_runV (As := [.int (Int32.ofInt x1)]) (rest := []) ⟨hx, hb, hml, hown, hts⟩ (c_Columns_load l ev dC dI cA q13 q22 q23 hg H.size) (cwV 1 hts (zgV zw_584 zw_585 zw_586 zw_106 zw_587) rfl rfl rfl hd_Columns_load ⟨Nat.le_of_ble_eq_true rfl, Nat.le_of_ble_eq_true rfl⟩) (xv_preV (T := TX1) (N := 3) hE hA hS hK hP hD (isC := [2, 3, 4]) (by decide +kernel) hC (q0 := 2) (ci := 1) rfl rfl) rfl rfl hl.1 rfl (lv_room (Nat.le_of_ble_eq_true rfl)) (zdt zkX10_weight 22 rfl) ⟨Nat.le_refl _, Nat.le_refl _⟩) hP hD hS hA (by decide +kernel) rfl hC rfl rfl (fun H locs hP hD hS => ?_)
    refine lv_goto (tgt := 29) hx hb (zdt zkX10_weight 25 rfl) (by decide) ?_
    obtain rfl := Option.some.inj hf
    exact hret _ _ _ _ rfl (zdt zkX10_weight 29 rfl) hP hD hS
set_option maxRecDepth 100000 in
noncomputable def ztX2_enroll (p : Nat) : Option (Jvm.ClassFile.Instr × Nat) := bif Nat.ble 24 p then (bif Nat.ble 34 p then (bif Nat.ble 40 p then (bif Nat.ble 44 p then (bif Nat.ble 45 p then (bif Nat.beq p 45 then some (.ireturn, 1) else none) else (bif Nat.beq p 44 then some (.iload_n 2, 1) else none)) else (bif Nat.ble 41 p then (bif Nat.beq p 41 then some (.putfield 18, 3) else none) else (bif Nat.beq p 40 then some (.iadd, 1) else none))) else (bif Nat.ble 36 p then (bif Nat.ble 39 p then (bif Nat.beq p 39 then some (.iconst 1, 1) else none) else (bif Nat.beq p 36 then some (.getfield 18, 3) else none)) else (bif Nat.ble 35 p then (bif Nat.beq p 35 then some (.dup, 1) else none) else (bif Nat.beq p 34 then some (.aload_n 0, 1) else none)))) else (bif Nat.ble 28 p then (bif Nat.ble 32 p then (bif Nat.ble 33 p then (bif Nat.beq p 33 then some (.iastore, 1) else none) else (bif Nat.beq p 32 then some (.iconst 0, 1) else none)) else (bif Nat.ble 31 p then (bif Nat.beq p 31 then some (.iload_n 2, 1) else none) else (bif Nat.beq p 28 then some (.getfield 29, 3) else none))) else (bif Nat.ble 26 p then (bif Nat.ble 27 p then (bif Nat.beq p 27 then some (.aload_n 0, 1) else none) else (bif Nat.beq p 26 then some (.iastore, 1) else none)) else (bif Nat.ble 25 p then (bif Nat.beq p 25 then some (.iconst 0, 1) else none) else (bif Nat.beq p 24 then some (.iload_n 2, 1) else none))))) else (bif Nat.ble 12 p then (bif Nat.ble 18 p then (bif Nat.ble 20 p then (bif Nat.ble 21 p then (bif Nat.beq p 21 then some (.getfield 26, 3) else none) else (bif Nat.beq p 20 then some (.aload_n 0, 1) else none)) else (bif Nat.ble 19 p then (bif Nat.beq p 19 then some (.iastore, 1) else none) else (bif Nat.beq p 18 then some (.iload_n 1, 1) else none))) else (bif Nat.ble 14 p then (bif Nat.ble 17 p then (bif Nat.beq p 17 then some (.iload_n 2, 1) else none) else (bif Nat.beq p 14 then some (.getfield 22, 3) else none)) else (bif Nat.ble 13 p then (bif Nat.beq p 13 then some (.aload_n 0, 1) else none) else (bif Nat.beq p 12 then some (.ireturn, 1) else none)))) else (bif Nat.ble 5 p then (bif Nat.ble 8 p then (bif Nat.ble 11 p then (bif Nat.beq p 11 then some (.iconst (-1), 1) else none) else (bif Nat.beq p 8 then some (.if_icmp .lt 5, 3) else none)) else (bif Nat.ble 6 p then (bif Nat.beq p 6 then some (.bipush 6, 2) else none) else (bif Nat.beq p 5 then some (.iload_n 2, 1) else none))) else (bif Nat.ble 1 p then (bif Nat.ble 4 p then (bif Nat.beq p 4 then some (.istore_n 2, 1) else none) else (bif Nat.beq p 1 then some (.getfield 18, 3) else none)) else (bif Nat.beq p 0 then some (.aload_n 0, 1) else none))))
set_option maxRecDepth 100000 in
theorem zkX2_enroll : (zbig cX2_enroll.data.toList = 404206841227754134427336900926880708407595207146691540128346677260450351965441174251730730820349384070417921066 ∧ cX2_enroll.data.toList.length = 46) ∧ zdk cX2_enroll 404206841227754134427336900926880708407595207146691540128346677260450351965441174251730730820349384070417921066 46 ztX2_enroll 45 = true := by decide +kernel
theorem zw_173 : (Jvm.Cond.fieldLink "HillSchool$Hill" (18 : Nat) "HillSchool$Hill" "children" "I") ∈ zall := zmemG (zmj_1 70 rfl) rfl
theorem zw_177 : (Jvm.Cond.fieldLink "HillSchool$Hill" (22 : Nat) "HillSchool$Hill" "strengths" "[I") ∈ zall := zmemG (zmj_1 74 rfl) rfl
theorem zw_180 : (Jvm.Cond.fieldLink "HillSchool$Hill" (26 : Nat) "HillSchool$Hill" "expelled" "[I") ∈ zall := zmemG (zmj_1 77 rfl) rfl
theorem zw_182 : (Jvm.Cond.fieldLink "HillSchool$Hill" (29 : Nat) "HillSchool$Hill" "trips" "[I") ∈ zall := zmemG (zmj_1 79 rfl) rfl
theorem zw_596 : (Jvm.Cond.code ({ cls := "HillSchool$Hill", name := "enroll", desc := "(I)I" } : Jvm.MethodName) prog_4_method_4_code (3 : Nat) (Option.some Jvm.ClassFile.FieldType.int)) ∈ zall := zmemG (zmj_3 13 rfl) rfl
noncomputable abbrev w_Hill_enroll : List Cond := .code yX2_enroll cX2_enroll 3 (some .int) :: zall
noncomputable abbrev rm_Hill_enroll : Room := { frames := 0, cells := 0, slots := 0, locals := 0 }
theorem hd_Hill_enroll : yX2_enroll.cls = "HillSchool$Hill" ∧ yX2_enroll.cls ≠ "java/lang/invoke/MethodHandle" ∧ yX2_enroll.cls ≠ "java/lang/invoke/VarHandle" ∧ (parseMethodDescriptor yX2_enroll.desc).map (fun d => d.parameters.length) = some 1 := by decide +kernel
noncomputable def wd_Hill_enroll (cA : Nat → ClassId) (q0 q1 q2 q3 q4 q5 q6 q7 q8 q9 : Nat) (u0 u1 u2 u3 : Int)  (i_children : Int) (i_strengths : Nat → Int) (i_expelled : Nat → Int) (i_trips : Nat → Int) : va_W := [(q0, .inr (2, [.ref q1, .int (Int32.ofInt i_children), .ref q2, .ref q3, .ref q4, .int (Int32.ofInt u0), .ref q5, .ref q6, .ref q7, .int (Int32.ofInt u1), .ref q8, .ref q9, .int (Int32.ofInt u2), .int (Int32.ofInt u3)])), (q2, .inl (cA 0, 6, .inl (za i_strengths))), (q3, .inl (cA 0, 6, .inl (za i_expelled))), (q4, .inl (cA 0, 6, .inl (za i_trips)))]
noncomputable def wf_Hill_enroll (cA : Nat → ClassId) (q0 q1 q2 q3 q4 q5 q6 q7 q8 q9 : Nat) (u0 u1 u2 u3 : Int)  (o : Int × Int × (Nat → Int) × (Nat → Int) × (Nat → Int)) : va_W := wd_Hill_enroll cA q0 q1 q2 q3 q4 q5 q6 q7 q8 q9 u0 u1 u2 u3 o.2.1 o.2.2.1 o.2.2.2.1 o.2.2.2.2
noncomputable def f_Hill_enroll (x1 : Int) (i_children : Int) (i_strengths : Nat → Int) (i_expelled : Nat → Int) (i_trips : Nat → Int) : Option (Int × Int × (Nat → Int) × (Nat → Int) × (Nat → Int)) :=
  if zi_w i_children < zi_w 6 then
    zs 6 i_strengths i_children x1 fun a1 =>
    zs 6 i_expelled i_children 0 fun a2 =>
    zs 6 i_trips i_children 0 fun a3 =>
    zn (i_children + 1) fun v4 =>
    some (i_children, v4, a1, a2, a3)
  else
    some ((-1), i_children, i_strengths, i_expelled, i_trips)
set_option maxHeartbeats 4000000 in
set_option maxRecDepth 100000 in
theorem c_Hill_enroll (l : Launch) (ev : zEv) (dC : Nat → ClassId) (dI : Nat → Nat → Nat) (cA : Nat → ClassId) (q0 q1 q2 q3 q4 q5 q6 q7 q8 q9 : Nat) (u0 u1 u2 u3 : Int) {x1 : Int} {i_children : Int} {i_strengths : Nat → Int} {i_expelled : Nat → Int} {i_trips : Nat → Int} {out : Int × Int × (Nat → Int) × (Nat → Int) × (Nat → Int)} (hf : f_Hill_enroll x1 i_children i_strengths i_expelled i_trips = some out) : xc_I l ev (dC, dI) vwCl (tyl cA) yX2_enroll w_Hill_enroll rm_Hill_enroll [.ref q0, .int (Int32.ofInt x1)] (wd_Hill_enroll cA q0 q1 q2 q3 q4 q5 q6 q7 q8 q9 u0 u1 u2 u3 i_children i_strengths i_expelled i_trips) (wf_Hill_enroll cA q0 q1 q2 q3 q4 q5 q6 q7 q8 q9 u0 u1 u2 u3 out) out.1 := by
  refine xv_startI (cc := cX2_enroll) (maxL := 3) (rt := .int) (by decide +kernel) rfl (Nat.le_of_ble_eq_true rfl) ?_
  intro p e s m args below meth c A Q H ls hx hb hml hts hown hK hA hP hD hS hl hE hret
  have hown : s.vm.findClass "HillSchool$Hill" = some m.cls := hown
  have hz : ∀ w ∈ zall, w.before args s = true := fun w h => hts w (List.mem_cons_of_mem _ h)
  have hl : lv_has ls 3 [(0, .ref q0), (1, .int (Int32.ofInt x1))] := hl
  unfold f_Hill_enroll at hf
  refine lv_aload_n hx hb (zdt zkX2_enroll 0 rfl) rfl (lv_at hl 0 rfl) ?_
  refine va_get (D := (dC, dI)) (ci := 2) (v := .int (Int32.ofInt i_children)) (C := RX2) (T := TX2) (N := 14) hx hb hz zi_X2 hown hK hP 0 rfl rfl 1 (by decide) (hz _ zw_173) (fun _ h9 => h9) rfl (zdt zkX2_enroll 1 rfl) ?_
  refine lv_istore_n (lv' := [(2, .int (Int32.ofInt i_children)), (0, .ref q0), (1, .int (Int32.ofInt x1))]) hx hb (zdt zkX2_enroll 4 rfl) rfl hl (by decide) rfl (fun ls hl => ?_)
  refine lv_iload_n hx hb (zdt zkX2_enroll 5 rfl) rfl (lv_at hl 0 rfl) ?_
  refine lv_bipush (v := Int32.ofInt 6) hx hb (zdt zkX2_enroll 6 rfl) (by decide) ?_
  refine xi_icmp_lt (tgt := 13) hx hb (zdt zkX2_enroll 8 rfl) (by decide) hf (fun hf => ?_) (fun hf => ?_)
  · refine lv_aload_n hx hb (zdt zkX2_enroll 13 rfl) rfl (lv_at hl 1 rfl) ?_
    refine va_get (D := (dC, dI)) (ci := 2) (v := .ref q2) (C := RX2) (T := TX2) (N := 14) hx hb hz zi_X2 hown hK hP 0 rfl rfl 2 (by decide) (hz _ zw_177) (fun _ h9 => h9) rfl (zdt zkX2_enroll 14 rfl) ?_
    refine lv_iload_n hx hb (zdt zkX2_enroll 17 rfl) rfl (lv_at hl 0 rfl) ?_
    refine lv_iload_n hx hb (zdt zkX2_enroll 18 rfl) rfl (lv_at hl 2 rfl) ?_
    refine xi_iast hx hb hK hP hD hS 1 0 rfl rfl (zdt zkX2_enroll 19 rfl) hf (fun a1 H locs hP hD hS hf => ?_)
    refine xw_PD (wd_Hill_enroll cA q0 q1 q2 q3 q4 q5 q6 q7 q8 q9 u0 u1 u2 u3 i_children a1 i_expelled i_trips) hP hD (fun hP hD => ?_)
    refine lv_aload_n hx hb (zdt zkX2_enroll 20 rfl) rfl (lv_at hl 1 rfl) ?_
    refine va_get (D := (dC, dI)) (ci := 2) (v := .ref q3) (C := RX2) (T := TX2) (N := 14) hx hb hz zi_X2 hown hK hP 0 rfl rfl 3 (by decide) (hz _ zw_180) (fun _ h9 => h9) rfl (zdt zkX2_enroll 21 rfl) ?_
    refine lv_iload_n hx hb (zdt zkX2_enroll 24 rfl) rfl (lv_at hl 0 rfl) ?_
    refine lv_iconst (v := Int32.ofInt 0) hx hb (zdt zkX2_enroll 25 rfl) rfl ?_
    refine xi_iast hx hb hK hP hD hS 2 0 rfl rfl (zdt zkX2_enroll 26 rfl) hf (fun a2 H locs hP hD hS hf => ?_)
    refine xw_PD (wd_Hill_enroll cA q0 q1 q2 q3 q4 q5 q6 q7 q8 q9 u0 u1 u2 u3 i_children a1 a2 i_trips) hP hD (fun hP hD => ?_)
    refine lv_aload_n hx hb (zdt zkX2_enroll 27 rfl) rfl (lv_at hl 1 rfl) ?_
    refine va_get (D := (dC, dI)) (ci := 2) (v := .ref q4) (C := RX2) (T := TX2) (N := 14) hx hb hz zi_X2 hown hK hP 0 rfl rfl 4 (by decide) (hz _ zw_182) (fun _ h9 => h9) rfl (zdt zkX2_enroll 28 rfl) ?_
    refine lv_iload_n hx hb (zdt zkX2_enroll 31 rfl) rfl (lv_at hl 0 rfl) ?_
    refine lv_iconst (v := Int32.ofInt 0) hx hb (zdt zkX2_enroll 32 rfl) rfl ?_
    refine xi_iast hx hb hK hP hD hS 3 0 rfl rfl (zdt zkX2_enroll 33 rfl) hf (fun a3 H locs hP hD hS hf => ?_)
    refine xw_PD (wd_Hill_enroll cA q0 q1 q2 q3 q4 q5 q6 q7 q8 q9 u0 u1 u2 u3 i_children a1 a2 a3) hP hD (fun hP hD => ?_)
    refine lv_aload_n hx hb (zdt zkX2_enroll 34 rfl) rfl (lv_at hl 1 rfl) ?_
    refine lv_dup hx hb (zdt zkX2_enroll 35 rfl) rfl ?_
    refine va_get (D := (dC, dI)) (ci := 2) (v := .int (Int32.ofInt i_children)) (C := RX2) (T := TX2) (N := 14) hx hb hz zi_X2 hown hK hP 0 rfl rfl 1 (by decide) (hz _ zw_173) (fun _ h9 => h9) rfl (zdt zkX2_enroll 36 rfl) ?_
    refine lv_iconst (v := Int32.ofInt 1) hx hb (zdt zkX2_enroll 39 rfl) rfl ?_
    refine xi_iadd hx hb (zdt zkX2_enroll 40 rfl) hf (fun v4 hf => ?_)
    refine va_put (D := (dC, dI)) (ci := 2) (v := .int (Int32.ofInt v4)) (ty := .int) (C := RX2) (T := TX2) (N := 14) hx hb hz zi_X2 tyX2 tyX2_ok nmX2 hown hK hP hD hS 0 rfl rfl 1 (by decide) (hz _ zw_173) (fun _ h9 => h9) rfl (by decide +kernel) rfl rfl (Nat.le_of_ble_eq_true rfl) (zdt zkX2_enroll 41 rfl) (fun H locs hP hD hS => ?_)
    refine xw_PD (wd_Hill_enroll cA q0 q1 q2 q3 q4 q5 q6 q7 q8 q9 u0 u1 u2 u3 v4 a1 a2 a3) hP hD (fun hP hD => ?_)
    refine lv_iload_n hx hb (zdt zkX2_enroll 44 rfl) rfl (lv_at hl 0 rfl) ?_
    obtain rfl := Option.some.inj hf
    exact hret _ _ _ _ rfl (zdt zkX2_enroll 45 rfl) hP hD hS
  · refine lv_iconst (v := Int32.ofInt (-1)) hx hb (zdt zkX2_enroll 11 rfl) rfl ?_
    obtain rfl := Option.some.inj hf
    exact hret _ _ _ _ rfl (zdt zkX2_enroll 12 rfl) hP hD hS
set_option maxRecDepth 100000 in
noncomputable def ztX10_child (p : Nat) : Option (Jvm.ClassFile.Instr × Nat) := bif Nat.ble 24 p then (bif Nat.ble 36 p then (bif Nat.ble 41 p then (bif Nat.ble 45 p then (bif Nat.ble 48 p then (bif Nat.beq p 48 then some (.ireturn, 1) else none) else (bif Nat.beq p 45 then some (.invokevirtual 119, 3) else none)) else (bif Nat.ble 42 p then (bif Nat.beq p 42 then some (.invokevirtual 146, 3) else none) else (bif Nat.beq p 41 then some (.iload_n 1, 1) else none))) else (bif Nat.ble 37 p then (bif Nat.ble 38 p then (bif Nat.beq p 38 then some (.getfield 10, 3) else none) else (bif Nat.beq p 37 then some (.aload_n 0, 1) else none)) else (bif Nat.beq p 36 then some (.aload_n 0, 1) else none))) else (bif Nat.ble 30 p then (bif Nat.ble 32 p then (bif Nat.ble 35 p then (bif Nat.beq p 35 then some (.ireturn, 1) else none) else (bif Nat.beq p 32 then some (.invokevirtual 109, 3) else none)) else (bif Nat.beq p 30 then some (.bipush (-5), 2) else none)) else (bif Nat.ble 26 p then (bif Nat.ble 29 p then (bif Nat.beq p 29 then some (.aload_n 0, 1) else none) else (bif Nat.beq p 26 then some (.if_icmp .lt 10, 3) else none)) else (bif Nat.beq p 24 then some (.bipush 6, 2) else none)))) else (bif Nat.ble 11 p then (bif Nat.ble 16 p then (bif Nat.ble 18 p then (bif Nat.ble 21 p then (bif Nat.beq p 21 then some (.getfield 143, 3) else none) else (bif Nat.beq p 18 then some (.getfield 10, 3) else none)) else (bif Nat.ble 17 p then (bif Nat.beq p 17 then some (.aload_n 0, 1) else none) else (bif Nat.beq p 16 then some (.ireturn, 1) else none))) else (bif Nat.ble 12 p then (bif Nat.ble 13 p then (bif Nat.beq p 13 then some (.invokevirtual 109, 3) else none) else (bif Nat.beq p 12 then some (.iconst (-1), 1) else none)) else (bif Nat.beq p 11 then some (.aload_n 0, 1) else none))) else (bif Nat.ble 5 p then (bif Nat.ble 6 p then (bif Nat.ble 8 p then (bif Nat.beq p 8 then some (.if_icmp .le 9, 3) else none) else (bif Nat.beq p 6 then some (.bipush 60, 2) else none)) else (bif Nat.beq p 5 then some (.iload_n 1, 1) else none)) else (bif Nat.ble 1 p then (bif Nat.ble 2 p then (bif Nat.beq p 2 then some (.if_icmp .lt 9, 3) else none) else (bif Nat.beq p 1 then some (.iconst 1, 1) else none)) else (bif Nat.beq p 0 then some (.iload_n 1, 1) else none))))
set_option maxRecDepth 100000 in
theorem zkX10_child : (zbig cX10_child.data.toList = 6795461270871884419165927378136929230563264942791348201886506667077738871731040811215384208808746502324620007806403611 ∧ cX10_child.data.toList.length = 49) ∧ zdk cX10_child 6795461270871884419165927378136929230563264942791348201886506667077738871731040811215384208808746502324620007806403611 49 ztX10_child 48 = true := by decide +kernel
theorem zw_105 : (Jvm.Cond.initialized "HillSchool$Hill") ∈ zall := zmemG (zmj_1 2 rfl) rfl
theorem zw_176 : (Jvm.Cond.fieldLinkNest "HillSchool" (143 : Nat) "HillSchool$Hill" "children" "I" "HillSchool") ∈ znest := zmemH (zmj_1 73 rfl) rfl
theorem zw_592 : (Jvm.Cond.code ({ cls := "HillSchool", name := "child", desc := "(I)I" } : Jvm.MethodName) prog_1_method_7_code (2 : Nat) (Option.some Jvm.ClassFile.FieldType.int)) ∈ zall := zmemG (zmj_3 9 rfl) rfl
theorem zw_593 : (Jvm.Cond.methodLink "HillSchool" (146 : Nat) ({ cls := "HillSchool$Hill", name := "enroll", desc := "(I)I" } : Jvm.MethodName)) ∈ zall := zmemG (zmj_3 10 rfl) rfl
theorem zw_594 : (Jvm.Cond.instanceMethod ({ cls := "HillSchool$Hill", name := "enroll", desc := "(I)I" } : Jvm.MethodName)) ∈ zall := zmemG (zmj_3 11 rfl) rfl
theorem zw_595 : (Jvm.Cond.selects "HillSchool$Hill" ({ cls := "HillSchool$Hill", name := "enroll", desc := "(I)I" } : Jvm.MethodName) ({ cls := "HillSchool$Hill", name := "enroll", desc := "(I)I" } : Jvm.MethodName)) ∈ zall := zmemG (zmj_3 12 rfl) rfl
noncomputable abbrev w_HS_child : List Cond := .code yX10_child cX10_child 2 (some .int) :: zall
noncomputable abbrev rm_HS_child : Room := { frames := 1, cells := 0, slots := 0, locals := 22 }
theorem hd_HS_child : yX10_child.cls = "HillSchool" ∧ yX10_child.cls ≠ "java/lang/invoke/MethodHandle" ∧ yX10_child.cls ≠ "java/lang/invoke/VarHandle" ∧ (parseMethodDescriptor yX10_child.desc).map (fun d => d.parameters.length) = some 1 := by decide +kernel
noncomputable def wd_HS_child (cA : Nat → ClassId) (q0 q1 q2 q3 q4 q5 q6 q7 q8 q9 q10 q11 q12 q13 q14 q15 q16 q17 q18 q19 q20 q21 : Nat) (u0 u1 u2 u3 u4 u5 : Int)  (i_latestStatus : Int) (i_hill_children : Int) (i_hill_changes : Int) (i_refusals : Nat → Int) (i_hill_strengths : Nat → Int) (i_hill_expelled : Nat → Int) (i_hill_trips : Nat → Int) : va_W := [(q0, .inr (10, [.ref q1, .ref q2, .ref q3, .ref q4, .int (Int32.ofInt u0), .int (Int32.ofInt u1), .int (Int32.ofInt u2), .ref q5, .int (Int32.ofInt i_latestStatus), .ref q6, .ref q7, .ref q8, .ref q9, .ref q10, .ref q11, .ref q12])), (q1, .inr (2, [.ref q13, .int (Int32.ofInt i_hill_children), .ref q14, .ref q15, .ref q16, .int (Int32.ofInt u3), .ref q17, .ref q18, .ref q19, .int (Int32.ofInt u4), .ref q20, .ref q21, .int (Int32.ofInt u5), .int (Int32.ofInt i_hill_changes)])), (q5, .inl (cA 0, 7, .inl (za i_refusals))), (q14, .inl (cA 0, 6, .inl (za i_hill_strengths))), (q15, .inl (cA 0, 6, .inl (za i_hill_expelled))), (q16, .inl (cA 0, 6, .inl (za i_hill_trips)))]
noncomputable def wf_HS_child (cA : Nat → ClassId) (q0 q1 q2 q3 q4 q5 q6 q7 q8 q9 q10 q11 q12 q13 q14 q15 q16 q17 q18 q19 q20 q21 : Nat) (u0 u1 u2 u3 u4 u5 : Int)  (o : Int × Int × Int × Int × (Nat → Int) × (Nat → Int) × (Nat → Int) × (Nat → Int)) : va_W := wd_HS_child cA q0 q1 q2 q3 q4 q5 q6 q7 q8 q9 q10 q11 q12 q13 q14 q15 q16 q17 q18 q19 q20 q21 u0 u1 u2 u3 u4 u5 o.2.1 o.2.2.1 o.2.2.2.1 o.2.2.2.2.1 o.2.2.2.2.2.1 o.2.2.2.2.2.2.1 o.2.2.2.2.2.2.2
noncomputable def f_HS_child_11  (i_latestStatus : Int) (i_hill_children : Int) (i_hill_changes : Int) (i_refusals : Nat → Int) (i_hill_strengths : Nat → Int) (i_hill_expelled : Nat → Int) (i_hill_trips : Nat → Int) : Option (Int × Int × Int × Int × (Nat → Int) × (Nat → Int) × (Nat → Int) × (Nat → Int)) :=
  zd3 (f_HS_refuse (-1) i_latestStatus i_refusals) fun v1 v2 a3 =>
  some (v1, v2, i_hill_children, i_hill_changes, a3, i_hill_strengths, i_hill_expelled, i_hill_trips)
noncomputable def f_HS_child (x1 : Int) (i_latestStatus : Int) (i_hill_children : Int) (i_hill_changes : Int) (i_refusals : Nat → Int) (i_hill_strengths : Nat → Int) (i_hill_expelled : Nat → Int) (i_hill_trips : Nat → Int) : Option (Int × Int × Int × Int × (Nat → Int) × (Nat → Int) × (Nat → Int) × (Nat → Int)) :=
  if zi_w x1 < zi_w 1 then
    f_HS_child_11 i_latestStatus i_hill_children i_hill_changes i_refusals i_hill_strengths i_hill_expelled i_hill_trips
  else
    if zi_w x1 ≤ zi_w 60 then
      if zi_w i_hill_children < zi_w 6 then
        zd5 (f_Hill_enroll x1 i_hill_children i_hill_strengths i_hill_expelled i_hill_trips) fun v1 v2 a3 a4 a5 =>
        zd3 (f_HS_accept v1 i_latestStatus i_hill_changes) fun v6 v7 v8 =>
        some (v6, v7, v2, v8, i_refusals, a3, a4, a5)
      else
        zd3 (f_HS_refuse (-5) i_latestStatus i_refusals) fun v9 v10 a11 =>
        some (v9, v10, i_hill_children, i_hill_changes, a11, i_hill_strengths, i_hill_expelled, i_hill_trips)
    else
      f_HS_child_11 i_latestStatus i_hill_children i_hill_changes i_refusals i_hill_strengths i_hill_expelled i_hill_trips
set_option maxHeartbeats 4000000 in
set_option maxRecDepth 100000 in
theorem c_HS_child (l : Launch) (ev : zEv) (dC : Nat → ClassId) (dI : Nat → Nat → Nat) (cA : Nat → ClassId) (q0 q1 q2 q3 q4 q5 q6 q7 q8 q9 q10 q11 q12 q13 q14 q15 q16 q17 q18 q19 q20 q21 : Nat) (u0 u1 u2 u3 u4 u5 : Int) {x1 : Int} {i_latestStatus : Int} {i_hill_children : Int} {i_hill_changes : Int} {i_refusals : Nat → Int} {i_hill_strengths : Nat → Int} {i_hill_expelled : Nat → Int} {i_hill_trips : Nat → Int} {out : Int × Int × Int × Int × (Nat → Int) × (Nat → Int) × (Nat → Int) × (Nat → Int)} (hf : f_HS_child x1 i_latestStatus i_hill_children i_hill_changes i_refusals i_hill_strengths i_hill_expelled i_hill_trips = some out) : xc_I l ev (dC, dI) vwCl (tyl cA) yX10_child w_HS_child rm_HS_child [.ref q0, .int (Int32.ofInt x1)] (wd_HS_child cA q0 q1 q2 q3 q4 q5 q6 q7 q8 q9 q10 q11 q12 q13 q14 q15 q16 q17 q18 q19 q20 q21 u0 u1 u2 u3 u4 u5 i_latestStatus i_hill_children i_hill_changes i_refusals i_hill_strengths i_hill_expelled i_hill_trips) (wf_HS_child cA q0 q1 q2 q3 q4 q5 q6 q7 q8 q9 q10 q11 q12 q13 q14 q15 q16 q17 q18 q19 q20 q21 u0 u1 u2 u3 u4 u5 out) out.1 := by
  refine xv_startI (cc := cX10_child) (maxL := 2) (rt := .int) (by decide +kernel) rfl (Nat.le_of_ble_eq_true rfl) ?_
  intro p e s m args below meth c A Q H ls hx hb hml hts hown hK hA hP hD hS hl hE hret
  have hown : s.vm.findClass "HillSchool" = some m.cls := hown
  have hz : ∀ w ∈ zall, w.before args s = true := fun w h => hts w (List.mem_cons_of_mem _ h)
  have hl : lv_has ls 2 [(0, .ref q0), (1, .int (Int32.ofInt x1))] := hl
  have b_11 : ∀ (i_latestStatus : Int) (i_hill_children : Int) (i_hill_changes : Int) (i_refusals : Nat → Int) (i_hill_strengths : Nat → Int) (i_hill_expelled : Nat → Int) (i_hill_trips : Nat → Int) (H : Heap) (locs : List Loc) (ls : Array Slot), f_HS_child_11 i_latestStatus i_hill_children i_hill_changes i_refusals i_hill_strengths i_hill_expelled i_hill_trips = some out → va_P (dC, dI) vwCl (wd_HS_child cA q0 q1 q2 q3 q4 q5 q6 q7 q8 q9 q10 q11 q12 q13 q14 q15 q16 q17 q18 q19 q20 q21 u0 u1 u2 u3 u4 u5 i_latestStatus i_hill_children i_hill_changes i_refusals i_hill_strengths i_hill_expelled i_hill_trips) H → va_D A (wd_HS_child cA q0 q1 q2 q3 q4 q5 q6 q7 q8 q9 q10 q11 q12 q13 q14 q15 q16 q17 q18 q19 q20 q21 u0 u1 u2 u3 u4 u5 i_latestStatus i_hill_children i_hill_changes i_refusals i_hill_strengths i_hill_expelled i_hill_trips) → va_S A s.heap H locs → lv_has ls 2 [(0, .ref q0)] → W p l e rm_HS_child s m args below meth c H locs 0 0 Q (F0 m 11 ls []) := by
    intro i_latestStatus i_hill_children i_hill_changes i_refusals i_hill_strengths i_hill_expelled i_hill_trips H locs ls hf hP hD hS hl
    unfold f_HS_child_11 at hf
    refine lv_aload_n hx hb (zdt zkX10_child 11 rfl) rfl (lv_at hl 0 rfl) ?_
    refine lv_iconst (v := Int32.ofInt (-1)) hx hb (zdt zkX10_child 12 rfl) rfl ?_
    refine xe_d3 hf (fun v1 v2 a3 hg hf => ?_)
    have hC : ([0, 2] : List Nat).map (fun i => (wd_HS_child cA q0 q1 q2 q3 q4 q5 q6 q7 q8 q9 q10 q11 q12 q13 q14 q15 q16 q17 q18 q19 q20 q21 u0 u1 u2 u3 u4 u5 i_latestStatus i_hill_children i_hill_changes i_refusals i_hill_strengths i_hill_expelled i_hill_trips)[i]?) = (wd_HS_refuse cA q0 q1 q2 q3 q4 q5 q6 q7 q8 q9 q10 q11 q12 u0 u1 u2 i_latestStatus i_refusals).map some := rfl
    refine xv_afterI (ws' := (wd_HS_child cA q0 q1 q2 q3 q4 q5 q6 q7 q8 q9 q10 q11 q12 q13 q14 q15 q16 q17 q18 q19 q20 q21 u0 u1 u2 u3 u4 u5 v2 i_hill_children i_hill_changes a3 i_hill_strengths i_hill_expelled i_hill_trips)) (isC := [0, 2]) (ps := [some 0, none, some 1, none, none, none]) (va_runV (As := [.int (Int32.ofInt (-1))]) (rest := []) ⟨hx, hb, hml, hown, hts⟩ (c_HS_refuse l ev dC dI cA q0 q1 q2 q3 q4 q5 q6 q7 q8 q9 q10 q11 q12 u0 u1 u2 hg H.size) (cwV 1 hts (zgV zw_534 zw_536 zw_0 zw_104 zw_537) rfl rfl rfl hd_HS_refuse ⟨Nat.le_of_ble_eq_true rfl, Nat.le_of_ble_eq_true rfl⟩) (xv_preV (T := TX10) (N := 16) hE hA hS hK hP hD (isC := [0, 2]) (by decide +kernel) hC (q0 := 0) (ci := 10) rfl rfl) rfl rfl hl.1 rfl (lv_room (Nat.le_of_ble_eq_true rfl)) (zdt zkX10_child 13 rfl) ⟨Nat.le_refl _, Nat.le_refl _⟩) hP hD hS hA (by decide +kernel) rfl hC rfl rfl (fun H locs hP hD hS => ?_)
    obtain rfl := Option.some.inj hf
    exact hret _ _ _ _ rfl (zdt zkX10_child 16 rfl) hP hD hS
  unfold f_HS_child at hf
  refine lv_iload_n hx hb (zdt zkX10_child 0 rfl) rfl (lv_at hl 1 rfl) ?_
  refine lv_iconst (v := Int32.ofInt 1) hx hb (zdt zkX10_child 1 rfl) rfl ?_
  refine xi_icmp_lt (tgt := 11) hx hb (zdt zkX10_child 2 rfl) (by decide) hf (fun hf => ?_) (fun hf => ?_)
  · exact b_11  _ _ _ _ _ _ _ _ _ _ hf hP hD hS (lv_sub hl [0] rfl)
  · refine lv_iload_n hx hb (zdt zkX10_child 5 rfl) rfl (lv_at hl 1 rfl) ?_
    refine lv_bipush (v := Int32.ofInt 60) hx hb (zdt zkX10_child 6 rfl) (by decide) ?_
    refine xi_icmp_le (tgt := 17) hx hb (zdt zkX10_child 8 rfl) (by decide) hf (fun hf => ?_) (fun hf => ?_)
    · refine lv_aload_n hx hb (zdt zkX10_child 17 rfl) rfl (lv_at hl 0 rfl) ?_
      refine va_get (D := (dC, dI)) (ci := 10) (v := .ref q1) (C := RX10) (T := TX10) (N := 16) hx hb hz zi_X10 hown hK hP 0 rfl rfl 0 (by decide) (hz _ zw_477) (fun _ h9 => h9) rfl (zdt zkX10_child 18 rfl) ?_
      refine va_getN (D := (dC, dI)) (ci := 2) (v := .int (Int32.ofInt i_hill_children)) (C := RX2) (T := TX2) (N := 14) hx hb hz zi_X2 hown hK hP 1 rfl rfl 1 (by decide) (va_Nw.use rfl (hE.1.1 _ zw_176)) (fun _ h9 => h9) rfl (zdt zkX10_child 21 rfl) ?_
      refine lv_bipush (v := Int32.ofInt 6) hx hb (zdt zkX10_child 24 rfl) (by decide) ?_
      refine xi_icmp_lt (tgt := 36) hx hb (zdt zkX10_child 26 rfl) (by decide) hf (fun hf => ?_) (fun hf => ?_)
      · refine lv_aload_n hx hb (zdt zkX10_child 36 rfl) rfl (lv_at hl 0 rfl) ?_
        refine lv_aload_n hx hb (zdt zkX10_child 37 rfl) rfl (lv_at hl 0 rfl) ?_
        refine va_get (D := (dC, dI)) (ci := 10) (v := .ref q1) (C := RX10) (T := TX10) (N := 16) hx hb hz zi_X10 hown hK hP 0 rfl rfl 0 (by decide) (hz _ zw_477) (fun _ h9 => h9) rfl (zdt zkX10_child 38 rfl) ?_
        refine lv_iload_n hx hb (zdt zkX10_child 41 rfl) rfl (lv_at hl 1 rfl) ?_
        refine xe_d5 hf (fun v1 v2 a3 a4 a5 hg hf => ?_)
        have hC : ([1, 3, 4, 5] : List Nat).map (fun i => (wd_HS_child cA q0 q1 q2 q3 q4 q5 q6 q7 q8 q9 q10 q11 q12 q13 q14 q15 q16 q17 q18 q19 q20 q21 u0 u1 u2 u3 u4 u5 i_latestStatus i_hill_children i_hill_changes i_refusals i_hill_strengths i_hill_expelled i_hill_trips)[i]?) = (wd_Hill_enroll cA q1 q13 q14 q15 q16 q17 q18 q19 q20 q21 u3 u4 u5 i_hill_changes i_hill_children i_hill_strengths i_hill_expelled i_hill_trips).map some := rfl
        refine xv_afterI (ws' := (wd_HS_child cA q0 q1 q2 q3 q4 q5 q6 q7 q8 q9 q10 q11 q12 q13 q14 q15 q16 q17 q18 q19 q20 q21 u0 u1 u2 u3 u4 u5 i_latestStatus v2 i_hill_changes i_refusals a3 a4 a5)) (isC := [1, 3, 4, 5]) (ps := [none, some 0, none, some 1, some 2, some 3]) (va_runV (As := [.int (Int32.ofInt x1)]) (rest := [.ref q0]) ⟨hx, hb, hml, hown, hts⟩ (c_Hill_enroll l ev dC dI cA q1 q13 q14 q15 q16 q17 q18 q19 q20 q21 u3 u4 u5 i_hill_changes hg H.size) (cwV 1 hts (zgV zw_593 zw_594 zw_595 zw_105 zw_596) rfl rfl rfl hd_Hill_enroll ⟨Nat.le_of_ble_eq_true rfl, Nat.le_of_ble_eq_true rfl⟩) (xv_preV (T := TX2) (N := 14) hE hA hS hK hP hD (isC := [1, 3, 4, 5]) (by decide +kernel) hC (q0 := 1) (ci := 2) rfl rfl) rfl rfl hl.1 rfl (lv_room (Nat.le_of_ble_eq_true rfl)) (zdt zkX10_child 42 rfl) ⟨Nat.le_refl _, Nat.le_refl _⟩) hP hD hS hA (by decide +kernel) rfl hC rfl rfl (fun H locs hP hD hS => ?_)
        refine xe_d3 hf (fun v6 v7 v8 hg hf => ?_)
        have hC : ([0, 1] : List Nat).map (fun i => (wd_HS_child cA q0 q1 q2 q3 q4 q5 q6 q7 q8 q9 q10 q11 q12 q13 q14 q15 q16 q17 q18 q19 q20 q21 u0 u1 u2 u3 u4 u5 i_latestStatus v2 i_hill_changes i_refusals a3 a4 a5)[i]?) = (wd_HS_accept cA q0 q1 q2 q3 q4 q5 q6 q7 q8 q9 q10 q11 q12 q13 q14 q15 q16 q17 q18 q19 q20 q21 u0 u1 u2 v2 u3 u4 u5 i_latestStatus i_hill_changes).map some := rfl
        refine xv_afterI (ws' := (wd_HS_child cA q0 q1 q2 q3 q4 q5 q6 q7 q8 q9 q10 q11 q12 q13 q14 q15 q16 q17 q18 q19 q20 q21 u0 u1 u2 u3 u4 u5 v7 v2 v8 i_refusals a3 a4 a5)) (isC := [0, 1]) (ps := [some 0, some 1, none, none, none, none]) (va_runV (As := [.int (Int32.ofInt v1)]) (rest := []) ⟨hx, hb, hml, hown, hts⟩ (c_HS_accept l ev dC dI cA q0 q1 q2 q3 q4 q5 q6 q7 q8 q9 q10 q11 q12 q13 q14 q15 q16 q17 q18 q19 q20 q21 u0 u1 u2 v2 u3 u4 u5 hg H.size) (cwV 1 hts (zgV zw_538 zw_540 zw_1 zw_104 zw_541) rfl rfl rfl hd_HS_accept ⟨Nat.le_of_ble_eq_true rfl, Nat.le_of_ble_eq_true rfl⟩) (xv_preV (T := TX10) (N := 16) hE hA hS hK hP hD (isC := [0, 1]) (by decide +kernel) hC (q0 := 0) (ci := 10) rfl rfl) rfl rfl hl.1 rfl (lv_room (Nat.le_of_ble_eq_true rfl)) (zdt zkX10_child 45 rfl) ⟨Nat.le_refl _, Nat.le_refl _⟩) hP hD hS hA (by decide +kernel) rfl hC rfl rfl (fun H locs hP hD hS => ?_)
        obtain rfl := Option.some.inj hf
        exact hret _ _ _ _ rfl (zdt zkX10_child 48 rfl) hP hD hS
      · refine lv_aload_n hx hb (zdt zkX10_child 29 rfl) rfl (lv_at hl 0 rfl) ?_
        refine lv_bipush (v := Int32.ofInt (-5)) hx hb (zdt zkX10_child 30 rfl) (by decide) ?_
        refine xe_d3 hf (fun v9 v10 a11 hg hf => ?_)
        have hC : ([0, 2] : List Nat).map (fun i => (wd_HS_child cA q0 q1 q2 q3 q4 q5 q6 q7 q8 q9 q10 q11 q12 q13 q14 q15 q16 q17 q18 q19 q20 q21 u0 u1 u2 u3 u4 u5 i_latestStatus i_hill_children i_hill_changes i_refusals i_hill_strengths i_hill_expelled i_hill_trips)[i]?) = (wd_HS_refuse cA q0 q1 q2 q3 q4 q5 q6 q7 q8 q9 q10 q11 q12 u0 u1 u2 i_latestStatus i_refusals).map some := rfl
        refine xv_afterI (ws' := (wd_HS_child cA q0 q1 q2 q3 q4 q5 q6 q7 q8 q9 q10 q11 q12 q13 q14 q15 q16 q17 q18 q19 q20 q21 u0 u1 u2 u3 u4 u5 v10 i_hill_children i_hill_changes a11 i_hill_strengths i_hill_expelled i_hill_trips)) (isC := [0, 2]) (ps := [some 0, none, some 1, none, none, none]) (va_runV (As := [.int (Int32.ofInt (-5))]) (rest := []) ⟨hx, hb, hml, hown, hts⟩ (c_HS_refuse l ev dC dI cA q0 q1 q2 q3 q4 q5 q6 q7 q8 q9 q10 q11 q12 u0 u1 u2 hg H.size) (cwV 1 hts (zgV zw_534 zw_536 zw_0 zw_104 zw_537) rfl rfl rfl hd_HS_refuse ⟨Nat.le_of_ble_eq_true rfl, Nat.le_of_ble_eq_true rfl⟩) (xv_preV (T := TX10) (N := 16) hE hA hS hK hP hD (isC := [0, 2]) (by decide +kernel) hC (q0 := 0) (ci := 10) rfl rfl) rfl rfl hl.1 rfl (lv_room (Nat.le_of_ble_eq_true rfl)) (zdt zkX10_child 32 rfl) ⟨Nat.le_refl _, Nat.le_refl _⟩) hP hD hS hA (by decide +kernel) rfl hC rfl rfl (fun H locs hP hD hS => ?_)
        obtain rfl := Option.some.inj hf
        exact hret _ _ _ _ rfl (zdt zkX10_child 35 rfl) hP hD hS
    · exact b_11  _ _ _ _ _ _ _ _ _ _ hf hP hD hS (lv_sub hl [0] rfl)
set_option maxRecDepth 100000 in
noncomputable def ztX2_hasChild (p : Nat) : Option (Jvm.ClassFile.Instr × Nat) := bif Nat.ble 9 p then (bif Nat.ble 13 p then (bif Nat.ble 16 p then (bif Nat.ble 17 p then (bif Nat.beq p 17 then some (.ireturn, 1) else none) else (bif Nat.beq p 16 then some (.iconst 0, 1) else none)) else (bif Nat.beq p 13 then some (.goto 4, 3) else none)) else (bif Nat.ble 12 p then (bif Nat.beq p 12 then some (.iconst 1, 1) else none) else (bif Nat.beq p 9 then some (.if_icmp .ge 7, 3) else none))) else (bif Nat.ble 4 p then (bif Nat.ble 5 p then (bif Nat.ble 6 p then (bif Nat.beq p 6 then some (.getfield 18, 3) else none) else (bif Nat.beq p 5 then some (.aload_n 0, 1) else none)) else (bif Nat.beq p 4 then some (.iload_n 1, 1) else none)) else (bif Nat.ble 1 p then (bif Nat.beq p 1 then some (.ifCond .lt 15, 3) else none) else (bif Nat.beq p 0 then some (.iload_n 1, 1) else none)))
set_option maxRecDepth 100000 in
theorem zkX2_hasChild : (zbig cX2_hasChild.data.toList = 14984339347662989861893502683381201335524123 ∧ cX2_hasChild.data.toList.length = 18) ∧ zdk cX2_hasChild 14984339347662989861893502683381201335524123 18 ztX2_hasChild 17 = true := by decide +kernel
theorem zw_604 : (Jvm.Cond.code ({ cls := "HillSchool$Hill", name := "hasChild", desc := "(I)Z" } : Jvm.MethodName) prog_4_method_2_code (2 : Nat) (Option.some Jvm.ClassFile.FieldType.boolean)) ∈ zall := zmemG (zmj_3 21 rfl) rfl
noncomputable abbrev w_Hill_hasChild : List Cond := .code yX2_hasChild cX2_hasChild 2 (some .boolean) :: zall
noncomputable abbrev rm_Hill_hasChild : Room := { frames := 0, cells := 0, slots := 0, locals := 0 }
theorem hd_Hill_hasChild : yX2_hasChild.cls = "HillSchool$Hill" ∧ yX2_hasChild.cls ≠ "java/lang/invoke/MethodHandle" ∧ yX2_hasChild.cls ≠ "java/lang/invoke/VarHandle" ∧ (parseMethodDescriptor yX2_hasChild.desc).map (fun d => d.parameters.length) = some 1 := by decide +kernel
noncomputable def wd_Hill_hasChild (cA : Nat → ClassId) (q0 q1 q2 q3 q4 q5 q6 q7 q8 q9 : Nat) (u0 u1 u2 u3 : Int) (i_children : Int)  : va_W := [(q0, .inr (2, [.ref q1, .int (Int32.ofInt i_children), .ref q2, .ref q3, .ref q4, .int (Int32.ofInt u0), .ref q5, .ref q6, .ref q7, .int (Int32.ofInt u1), .ref q8, .ref q9, .int (Int32.ofInt u2), .int (Int32.ofInt u3)]))]
noncomputable def wf_Hill_hasChild (cA : Nat → ClassId) (q0 q1 q2 q3 q4 q5 q6 q7 q8 q9 : Nat) (u0 u1 u2 u3 : Int) (i_children : Int) (o : Int) : va_W := wd_Hill_hasChild cA q0 q1 q2 q3 q4 q5 q6 q7 q8 q9 u0 u1 u2 u3 i_children
noncomputable def f_Hill_hasChild (x1 : Int) (i_children : Int) : Option (Int) :=
  if zi_w x1 < 0 then
    some 0
  else
    if zi_w i_children ≤ zi_w x1 then
      some 0
    else
      some 1
set_option maxHeartbeats 4000000 in
set_option maxRecDepth 100000 in
theorem c_Hill_hasChild (l : Launch) (ev : zEv) (dC : Nat → ClassId) (dI : Nat → Nat → Nat) (cA : Nat → ClassId) (q0 q1 q2 q3 q4 q5 q6 q7 q8 q9 : Nat) (u0 u1 u2 u3 : Int) {x1 : Int} {i_children : Int} {out : Int} (hf : f_Hill_hasChild x1 i_children = some out) : xc_I l ev (dC, dI) vwCl (tyl cA) yX2_hasChild w_Hill_hasChild rm_Hill_hasChild [.ref q0, .int (Int32.ofInt x1)] (wd_Hill_hasChild cA q0 q1 q2 q3 q4 q5 q6 q7 q8 q9 u0 u1 u2 u3 i_children) (wf_Hill_hasChild cA q0 q1 q2 q3 q4 q5 q6 q7 q8 q9 u0 u1 u2 u3 i_children out) out := by
  refine xv_startI (cc := cX2_hasChild) (maxL := 2) (rt := .boolean) (by decide +kernel) rfl (Nat.le_of_ble_eq_true rfl) ?_
  intro p e s m args below meth c A Q H ls hx hb hml hts hown hK hA hP hD hS hl hE hret
  have hown : s.vm.findClass "HillSchool$Hill" = some m.cls := hown
  have hz : ∀ w ∈ zall, w.before args s = true := fun w h => hts w (List.mem_cons_of_mem _ h)
  have hl : lv_has ls 2 [(0, .ref q0), (1, .int (Int32.ofInt x1))] := hl
  unfold f_Hill_hasChild at hf
  refine lv_iload_n hx hb (zdt zkX2_hasChild 0 rfl) rfl (lv_at hl 1 rfl) ?_
  refine xi_if_lt (tgt := 16) hx hb (zdt zkX2_hasChild 1 rfl) (by decide) hf (fun hf => ?_) (fun hf => ?_)
  · refine lv_iconst (v := Int32.ofInt 0) hx hb (zdt zkX2_hasChild 16 rfl) rfl ?_
    obtain rfl := Option.some.inj hf
    exact hret _ _ _ _ zz_b0 (zdt zkX2_hasChild 17 rfl) hP hD hS
  · refine lv_iload_n hx hb (zdt zkX2_hasChild 4 rfl) rfl (lv_at hl 1 rfl) ?_
    refine lv_aload_n hx hb (zdt zkX2_hasChild 5 rfl) rfl (lv_at hl 0 rfl) ?_
    refine va_get (D := (dC, dI)) (ci := 2) (v := .int (Int32.ofInt i_children)) (C := RX2) (T := TX2) (N := 14) hx hb hz zi_X2 hown hK hP 0 rfl rfl 1 (by decide) (hz _ zw_173) (fun _ h9 => h9) rfl (zdt zkX2_hasChild 6 rfl) ?_
    refine xi_icmp_ge (tgt := 16) hx hb (zdt zkX2_hasChild 9 rfl) (by decide) hf (fun hf => ?_) (fun hf => ?_)
    · refine lv_iconst (v := Int32.ofInt 0) hx hb (zdt zkX2_hasChild 16 rfl) rfl ?_
      obtain rfl := Option.some.inj hf
      exact hret _ _ _ _ zz_b0 (zdt zkX2_hasChild 17 rfl) hP hD hS
    · refine lv_iconst (v := Int32.ofInt 1) hx hb (zdt zkX2_hasChild 12 rfl) rfl ?_
      refine lv_goto (tgt := 17) hx hb (zdt zkX2_hasChild 13 rfl) (by decide) ?_
      obtain rfl := Option.some.inj hf
      exact hret _ _ _ _ zz_b1 (zdt zkX2_hasChild 17 rfl) hP hD hS
set_option maxRecDepth 100000 in
noncomputable def ztX10_expel (p : Nat) : Option (Jvm.ClassFile.Instr × Nat) := bif Nat.ble 32 p then (bif Nat.ble 44 p then (bif Nat.ble 52 p then (bif Nat.ble 54 p then (bif Nat.ble 55 p then (bif Nat.ble 58 p then (bif Nat.beq p 58 then some (.ireturn, 1) else none) else (bif Nat.beq p 55 then some (.invokevirtual 119, 3) else none)) else (bif Nat.beq p 54 then some (.iload_n 3, 1) else none)) else (bif Nat.ble 53 p then (bif Nat.beq p 53 then some (.aload_n 0, 1) else none) else (bif Nat.beq p 52 then some (.iastore, 1) else none))) else (bif Nat.ble 50 p then (bif Nat.ble 51 p then (bif Nat.beq p 51 then some (.iload_n 2, 1) else none) else (bif Nat.beq p 50 then some (.iload_n 1, 1) else none)) else (bif Nat.ble 47 p then (bif Nat.beq p 47 then some (.getfield 152, 3) else none) else (bif Nat.beq p 44 then some (.getfield 10, 3) else none)))) else (bif Nat.ble 40 p then (bif Nat.ble 42 p then (bif Nat.ble 43 p then (bif Nat.beq p 43 then some (.aload_n 0, 1) else none) else (bif Nat.beq p 42 then some (.istore_n 3, 1) else none)) else (bif Nat.ble 41 p then (bif Nat.beq p 41 then some (.iaload, 1) else none) else (bif Nat.beq p 40 then some (.iload_n 1, 1) else none))) else (bif Nat.ble 34 p then (bif Nat.ble 37 p then (bif Nat.beq p 37 then some (.getfield 152, 3) else none) else (bif Nat.beq p 34 then some (.getfield 10, 3) else none)) else (bif Nat.ble 33 p then (bif Nat.beq p 33 then some (.aload_n 0, 1) else none) else (bif Nat.beq p 32 then some (.ireturn, 1) else none))))) else (bif Nat.ble 14 p then (bif Nat.ble 20 p then (bif Nat.ble 26 p then (bif Nat.ble 27 p then (bif Nat.ble 29 p then (bif Nat.beq p 29 then some (.invokevirtual 109, 3) else none) else (bif Nat.beq p 27 then some (.bipush (-2), 2) else none)) else (bif Nat.beq p 26 then some (.aload_n 0, 1) else none)) else (bif Nat.ble 23 p then (bif Nat.beq p 23 then some (.ifCond .ne 10, 3) else none) else (bif Nat.beq p 20 then some (.invokevirtual 149, 3) else none))) else (bif Nat.ble 16 p then (bif Nat.ble 19 p then (bif Nat.beq p 19 then some (.iload_n 1, 1) else none) else (bif Nat.beq p 16 then some (.getfield 10, 3) else none)) else (bif Nat.ble 15 p then (bif Nat.beq p 15 then some (.aload_n 0, 1) else none) else (bif Nat.beq p 14 then some (.ireturn, 1) else none)))) else (bif Nat.ble 6 p then (bif Nat.ble 10 p then (bif Nat.ble 11 p then (bif Nat.beq p 11 then some (.invokevirtual 109, 3) else none) else (bif Nat.beq p 10 then some (.iconst (-1), 1) else none)) else (bif Nat.ble 9 p then (bif Nat.beq p 9 then some (.aload_n 0, 1) else none) else (bif Nat.beq p 6 then some (.if_icmp .le 9, 3) else none))) else (bif Nat.ble 4 p then (bif Nat.ble 5 p then (bif Nat.beq p 5 then some (.iconst 1, 1) else none) else (bif Nat.beq p 4 then some (.iload_n 2, 1) else none)) else (bif Nat.ble 1 p then (bif Nat.beq p 1 then some (.ifCond .lt 8, 3) else none) else (bif Nat.beq p 0 then some (.iload_n 2, 1) else none)))))
set_option maxRecDepth 100000 in
theorem zkX10_expel : (zbig cX10_expel.data.toList = 8215208585252455185798197016939426965055777608864407157974256463598631289568145031980821951306855720979462250805735949606795603458483080436508 ∧ cX10_expel.data.toList.length = 59) ∧ zdk cX10_expel 8215208585252455185798197016939426965055777608864407157974256463598631289568145031980821951306855720979462250805735949606795603458483080436508 59 ztX10_expel 58 = true := by decide +kernel
theorem zw_181 : (Jvm.Cond.fieldLinkNest "HillSchool" (152 : Nat) "HillSchool$Hill" "expelled" "[I" "HillSchool") ∈ znest := zmemH (zmj_1 78 rfl) rfl
theorem zw_600 : (Jvm.Cond.code ({ cls := "HillSchool", name := "expel", desc := "(II)I" } : Jvm.MethodName) prog_1_method_8_code (4 : Nat) (Option.some Jvm.ClassFile.FieldType.int)) ∈ zall := zmemG (zmj_3 17 rfl) rfl
theorem zw_601 : (Jvm.Cond.methodLink "HillSchool" (149 : Nat) ({ cls := "HillSchool$Hill", name := "hasChild", desc := "(I)Z" } : Jvm.MethodName)) ∈ zall := zmemG (zmj_3 18 rfl) rfl
theorem zw_602 : (Jvm.Cond.instanceMethod ({ cls := "HillSchool$Hill", name := "hasChild", desc := "(I)Z" } : Jvm.MethodName)) ∈ zall := zmemG (zmj_3 19 rfl) rfl
theorem zw_603 : (Jvm.Cond.selects "HillSchool$Hill" ({ cls := "HillSchool$Hill", name := "hasChild", desc := "(I)Z" } : Jvm.MethodName) ({ cls := "HillSchool$Hill", name := "hasChild", desc := "(I)Z" } : Jvm.MethodName)) ∈ zall := zmemG (zmj_3 20 rfl) rfl
noncomputable abbrev w_HS_expel : List Cond := .code yX10_expel cX10_expel 4 (some .int) :: zall
noncomputable abbrev rm_HS_expel : Room := { frames := 1, cells := 0, slots := 0, locals := 21 }
theorem hd_HS_expel : yX10_expel.cls = "HillSchool" ∧ yX10_expel.cls ≠ "java/lang/invoke/MethodHandle" ∧ yX10_expel.cls ≠ "java/lang/invoke/VarHandle" ∧ (parseMethodDescriptor yX10_expel.desc).map (fun d => d.parameters.length) = some 2 := by decide +kernel
noncomputable def wd_HS_expel (cA : Nat → ClassId) (q0 q1 q2 q3 q4 q5 q6 q7 q8 q9 q10 q11 q12 q13 q14 q15 q16 q17 q18 q19 q20 q21 : Nat) (u0 u1 u2 u3 u4 u5 : Int) (i_hill_children : Int) (i_latestStatus : Int) (i_hill_changes : Int) (i_refusals : Nat → Int) (i_hill_expelled : Nat → Int) : va_W := [(q0, .inr (10, [.ref q1, .ref q2, .ref q3, .ref q4, .int (Int32.ofInt u0), .int (Int32.ofInt u1), .int (Int32.ofInt u2), .ref q5, .int (Int32.ofInt i_latestStatus), .ref q6, .ref q7, .ref q8, .ref q9, .ref q10, .ref q11, .ref q12])), (q1, .inr (2, [.ref q13, .int (Int32.ofInt i_hill_children), .ref q14, .ref q15, .ref q16, .int (Int32.ofInt u3), .ref q17, .ref q18, .ref q19, .int (Int32.ofInt u4), .ref q20, .ref q21, .int (Int32.ofInt u5), .int (Int32.ofInt i_hill_changes)])), (q5, .inl (cA 0, 7, .inl (za i_refusals))), (q15, .inl (cA 0, 6, .inl (za i_hill_expelled)))]
noncomputable def wf_HS_expel (cA : Nat → ClassId) (q0 q1 q2 q3 q4 q5 q6 q7 q8 q9 q10 q11 q12 q13 q14 q15 q16 q17 q18 q19 q20 q21 : Nat) (u0 u1 u2 u3 u4 u5 : Int) (i_hill_children : Int) (o : Int × Int × Int × (Nat → Int) × (Nat → Int)) : va_W := wd_HS_expel cA q0 q1 q2 q3 q4 q5 q6 q7 q8 q9 q10 q11 q12 q13 q14 q15 q16 q17 q18 q19 q20 q21 u0 u1 u2 u3 u4 u5 i_hill_children o.2.1 o.2.2.1 o.2.2.2.1 o.2.2.2.2
noncomputable def f_HS_expel_9 (i_hill_children : Int) (i_latestStatus : Int) (i_hill_changes : Int) (i_refusals : Nat → Int) (i_hill_expelled : Nat → Int) : Option (Int × Int × Int × (Nat → Int) × (Nat → Int)) :=
  zd3 (f_HS_refuse (-1) i_latestStatus i_refusals) fun v1 v2 a3 =>
  some (v1, v2, i_hill_changes, a3, i_hill_expelled)
noncomputable def f_HS_expel (x1 : Int) (x2 : Int) (i_hill_children : Int) (i_latestStatus : Int) (i_hill_changes : Int) (i_refusals : Nat → Int) (i_hill_expelled : Nat → Int) : Option (Int × Int × Int × (Nat → Int) × (Nat → Int)) :=
  if zi_w x2 < 0 then
    f_HS_expel_9 i_hill_children i_latestStatus i_hill_changes i_refusals i_hill_expelled
  else
    if zi_w x2 ≤ zi_w 1 then
      zd1 (f_Hill_hasChild x1 i_hill_children) fun v1 =>
      if zi_w v1 ≠ 0 then
        zg 6 i_hill_expelled x1 fun v2 =>
        zs 6 i_hill_expelled x1 x2 fun a3 =>
        zd3 (f_HS_accept v2 i_latestStatus i_hill_changes) fun v4 v5 v6 =>
        some (v4, v5, v6, i_refusals, a3)
      else
        zd3 (f_HS_refuse (-2) i_latestStatus i_refusals) fun v7 v8 a9 =>
        some (v7, v8, i_hill_changes, a9, i_hill_expelled)
    else
      f_HS_expel_9 i_hill_children i_latestStatus i_hill_changes i_refusals i_hill_expelled
set_option maxHeartbeats 4000000 in
set_option maxRecDepth 100000 in
theorem c_HS_expel (l : Launch) (ev : zEv) (dC : Nat → ClassId) (dI : Nat → Nat → Nat) (cA : Nat → ClassId) (q0 q1 q2 q3 q4 q5 q6 q7 q8 q9 q10 q11 q12 q13 q14 q15 q16 q17 q18 q19 q20 q21 : Nat) (u0 u1 u2 u3 u4 u5 : Int) {x1 x2 : Int} {i_hill_children : Int} {i_latestStatus : Int} {i_hill_changes : Int} {i_refusals : Nat → Int} {i_hill_expelled : Nat → Int} {out : Int × Int × Int × (Nat → Int) × (Nat → Int)} (hf : f_HS_expel x1 x2 i_hill_children i_latestStatus i_hill_changes i_refusals i_hill_expelled = some out) : xc_I l ev (dC, dI) vwCl (tyl cA) yX10_expel w_HS_expel rm_HS_expel [.ref q0, .int (Int32.ofInt x1), .int (Int32.ofInt x2)] (wd_HS_expel cA q0 q1 q2 q3 q4 q5 q6 q7 q8 q9 q10 q11 q12 q13 q14 q15 q16 q17 q18 q19 q20 q21 u0 u1 u2 u3 u4 u5 i_hill_children i_latestStatus i_hill_changes i_refusals i_hill_expelled) (wf_HS_expel cA q0 q1 q2 q3 q4 q5 q6 q7 q8 q9 q10 q11 q12 q13 q14 q15 q16 q17 q18 q19 q20 q21 u0 u1 u2 u3 u4 u5 i_hill_children out) out.1 := by
  refine xv_startI (cc := cX10_expel) (maxL := 4) (rt := .int) (by decide +kernel) rfl (Nat.le_of_ble_eq_true rfl) ?_
  intro p e s m args below meth c A Q H ls hx hb hml hts hown hK hA hP hD hS hl hE hret
  have hown : s.vm.findClass "HillSchool" = some m.cls := hown
  have hz : ∀ w ∈ zall, w.before args s = true := fun w h => hts w (List.mem_cons_of_mem _ h)
  have hl : lv_has ls 4 [(0, .ref q0), (1, .int (Int32.ofInt x1)), (2, .int (Int32.ofInt x2))] := hl
  have b_9 : ∀ (i_latestStatus : Int) (i_hill_changes : Int) (i_refusals : Nat → Int) (i_hill_expelled : Nat → Int) (H : Heap) (locs : List Loc) (ls : Array Slot), f_HS_expel_9 i_hill_children i_latestStatus i_hill_changes i_refusals i_hill_expelled = some out → va_P (dC, dI) vwCl (wd_HS_expel cA q0 q1 q2 q3 q4 q5 q6 q7 q8 q9 q10 q11 q12 q13 q14 q15 q16 q17 q18 q19 q20 q21 u0 u1 u2 u3 u4 u5 i_hill_children i_latestStatus i_hill_changes i_refusals i_hill_expelled) H → va_D A (wd_HS_expel cA q0 q1 q2 q3 q4 q5 q6 q7 q8 q9 q10 q11 q12 q13 q14 q15 q16 q17 q18 q19 q20 q21 u0 u1 u2 u3 u4 u5 i_hill_children i_latestStatus i_hill_changes i_refusals i_hill_expelled) → va_S A s.heap H locs → lv_has ls 4 [(0, .ref q0)] → W p l e rm_HS_expel s m args below meth c H locs 0 0 Q (F0 m 9 ls []) := by
    intro i_latestStatus i_hill_changes i_refusals i_hill_expelled H locs ls hf hP hD hS hl
    unfold f_HS_expel_9 at hf
    refine lv_aload_n hx hb (zdt zkX10_expel 9 rfl) rfl (lv_at hl 0 rfl) ?_
    refine lv_iconst (v := Int32.ofInt (-1)) hx hb (zdt zkX10_expel 10 rfl) rfl ?_
    refine xe_d3 hf (fun v1 v2 a3 hg hf => ?_)
    have hC : ([0, 2] : List Nat).map (fun i => (wd_HS_expel cA q0 q1 q2 q3 q4 q5 q6 q7 q8 q9 q10 q11 q12 q13 q14 q15 q16 q17 q18 q19 q20 q21 u0 u1 u2 u3 u4 u5 i_hill_children i_latestStatus i_hill_changes i_refusals i_hill_expelled)[i]?) = (wd_HS_refuse cA q0 q1 q2 q3 q4 q5 q6 q7 q8 q9 q10 q11 q12 u0 u1 u2 i_latestStatus i_refusals).map some := rfl
    refine xv_afterI (ws' := (wd_HS_expel cA q0 q1 q2 q3 q4 q5 q6 q7 q8 q9 q10 q11 q12 q13 q14 q15 q16 q17 q18 q19 q20 q21 u0 u1 u2 u3 u4 u5 i_hill_children v2 i_hill_changes a3 i_hill_expelled)) (isC := [0, 2]) (ps := [some 0, none, some 1, none]) (va_runV (As := [.int (Int32.ofInt (-1))]) (rest := []) ⟨hx, hb, hml, hown, hts⟩ (c_HS_refuse l ev dC dI cA q0 q1 q2 q3 q4 q5 q6 q7 q8 q9 q10 q11 q12 u0 u1 u2 hg H.size) (cwV 1 hts (zgV zw_534 zw_536 zw_0 zw_104 zw_537) rfl rfl rfl hd_HS_refuse ⟨Nat.le_of_ble_eq_true rfl, Nat.le_of_ble_eq_true rfl⟩) (xv_preV (T := TX10) (N := 16) hE hA hS hK hP hD (isC := [0, 2]) (by decide +kernel) hC (q0 := 0) (ci := 10) rfl rfl) rfl rfl hl.1 rfl (lv_room (Nat.le_of_ble_eq_true rfl)) (zdt zkX10_expel 11 rfl) ⟨Nat.le_refl _, Nat.le_refl _⟩) hP hD hS hA (by decide +kernel) rfl hC rfl rfl (fun H locs hP hD hS => ?_)
    obtain rfl := Option.some.inj hf
    exact hret _ _ _ _ rfl (zdt zkX10_expel 14 rfl) hP hD hS
  unfold f_HS_expel at hf
  refine lv_iload_n hx hb (zdt zkX10_expel 0 rfl) rfl (lv_at hl 2 rfl) ?_
  refine xi_if_lt (tgt := 9) hx hb (zdt zkX10_expel 1 rfl) (by decide) hf (fun hf => ?_) (fun hf => ?_)
  · exact b_9  _ _ _ _ _ _ _ hf hP hD hS (lv_sub hl [0] rfl)
  · refine lv_iload_n hx hb (zdt zkX10_expel 4 rfl) rfl (lv_at hl 2 rfl) ?_
    refine lv_iconst (v := Int32.ofInt 1) hx hb (zdt zkX10_expel 5 rfl) rfl ?_
    refine xi_icmp_le (tgt := 15) hx hb (zdt zkX10_expel 6 rfl) (by decide) hf (fun hf => ?_) (fun hf => ?_)
    · refine lv_aload_n hx hb (zdt zkX10_expel 15 rfl) rfl (lv_at hl 0 rfl) ?_
      refine va_get (D := (dC, dI)) (ci := 10) (v := .ref q1) (C := RX10) (T := TX10) (N := 16) hx hb hz zi_X10 hown hK hP 0 rfl rfl 0 (by decide) (hz _ zw_477) (fun _ h9 => h9) rfl (zdt zkX10_expel 16 rfl) ?_
      refine lv_iload_n hx hb (zdt zkX10_expel 19 rfl) rfl (lv_at hl 1 rfl) ?_
      refine xe_d1 hf (fun v1 hg hf => ?_)
      have hC : ([1] : List Nat).map (fun i => (wd_HS_expel cA q0 q1 q2 q3 q4 q5 q6 q7 q8 q9 q10 q11 q12 q13 q14 q15 q16 q17 q18 q19 q20 q21 u0 u1 u2 u3 u4 u5 i_hill_children i_latestStatus i_hill_changes i_refusals i_hill_expelled)[i]?) = (wd_Hill_hasChild cA q1 q13 q14 q15 q16 q17 q18 q19 q20 q21 u3 u4 u5 i_hill_changes i_hill_children).map some := rfl
      refine xv_afterI (ws' := (wd_HS_expel cA q0 q1 q2 q3 q4 q5 q6 q7 q8 q9 q10 q11 q12 q13 q14 q15 q16 q17 q18 q19 q20 q21 u0 u1 u2 u3 u4 u5 i_hill_children i_latestStatus i_hill_changes i_refusals i_hill_expelled)) (isC := [1]) (ps := [none, some 0, none, none]) (va_runV (As := [.int (Int32.ofInt x1)]) (rest := []) ⟨hx, hb, hml, hown, hts⟩ (c_Hill_hasChild l ev dC dI cA q1 q13 q14 q15 q16 q17 q18 q19 q20 q21 u3 u4 u5 i_hill_changes hg H.size) (cwV 1 hts (zgV zw_601 zw_602 zw_603 zw_105 zw_604) rfl rfl rfl hd_Hill_hasChild ⟨Nat.le_of_ble_eq_true rfl, Nat.le_of_ble_eq_true rfl⟩) (xv_preV (T := TX2) (N := 14) hE hA hS hK hP hD (isC := [1]) (by decide +kernel) hC (q0 := 1) (ci := 2) rfl rfl) rfl rfl hl.1 rfl (lv_room (Nat.le_of_ble_eq_true rfl)) (zdt zkX10_expel 20 rfl) ⟨Nat.le_refl _, Nat.le_refl _⟩) hP hD hS hA (by decide +kernel) rfl hC rfl rfl (fun H locs hP hD hS => ?_)
      refine xi_if_ne (tgt := 33) hx hb (zdt zkX10_expel 23 rfl) (by decide) hf (fun hf => ?_) (fun hf => ?_)
      · refine lv_aload_n hx hb (zdt zkX10_expel 33 rfl) rfl (lv_at hl 0 rfl) ?_
        refine va_get (D := (dC, dI)) (ci := 10) (v := .ref q1) (C := RX10) (T := TX10) (N := 16) hx hb hz zi_X10 hown hK hP 0 rfl rfl 0 (by decide) (hz _ zw_477) (fun _ h9 => h9) rfl (zdt zkX10_expel 34 rfl) ?_
        refine va_getN (D := (dC, dI)) (ci := 2) (v := .ref q15) (C := RX2) (T := TX2) (N := 14) hx hb hz zi_X2 hown hK hP 1 rfl rfl 3 (by decide) (va_Nw.use rfl (hE.1.1 _ zw_181)) (fun _ h9 => h9) rfl (zdt zkX10_expel 37 rfl) ?_
        refine lv_iload_n hx hb (zdt zkX10_expel 40 rfl) rfl (lv_at hl 1 rfl) ?_
        refine xi_iald hx hb hK hP 3 0 rfl rfl (zdt zkX10_expel 41 rfl) hf (fun v2 hf => ?_)
        refine lv_istore_n (lv' := [(3, .int (Int32.ofInt v2)), (0, .ref q0), (1, .int (Int32.ofInt x1)), (2, .int (Int32.ofInt x2))]) hx hb (zdt zkX10_expel 42 rfl) rfl hl (by decide) rfl (fun ls hl => ?_)
        refine lv_aload_n hx hb (zdt zkX10_expel 43 rfl) rfl (lv_at hl 1 rfl) ?_
        refine va_get (D := (dC, dI)) (ci := 10) (v := .ref q1) (C := RX10) (T := TX10) (N := 16) hx hb hz zi_X10 hown hK hP 0 rfl rfl 0 (by decide) (hz _ zw_477) (fun _ h9 => h9) rfl (zdt zkX10_expel 44 rfl) ?_
        refine va_getN (D := (dC, dI)) (ci := 2) (v := .ref q15) (C := RX2) (T := TX2) (N := 14) hx hb hz zi_X2 hown hK hP 1 rfl rfl 3 (by decide) (va_Nw.use rfl (hE.1.1 _ zw_181)) (fun _ h9 => h9) rfl (zdt zkX10_expel 47 rfl) ?_
        refine lv_iload_n hx hb (zdt zkX10_expel 50 rfl) rfl (lv_at hl 2 rfl) ?_
        refine lv_iload_n hx hb (zdt zkX10_expel 51 rfl) rfl (lv_at hl 3 rfl) ?_
        refine xi_iast hx hb hK hP hD hS 3 0 rfl rfl (zdt zkX10_expel 52 rfl) hf (fun a3 H locs hP hD hS hf => ?_)
        refine xw_PD (wd_HS_expel cA q0 q1 q2 q3 q4 q5 q6 q7 q8 q9 q10 q11 q12 q13 q14 q15 q16 q17 q18 q19 q20 q21 u0 u1 u2 u3 u4 u5 i_hill_children i_latestStatus i_hill_changes i_refusals a3) hP hD (fun hP hD => ?_)
        refine lv_aload_n hx hb (zdt zkX10_expel 53 rfl) rfl (lv_at hl 1 rfl) ?_
        refine lv_iload_n hx hb (zdt zkX10_expel 54 rfl) rfl (lv_at hl 0 rfl) ?_
        refine xe_d3 hf (fun v4 v5 v6 hg hf => ?_)
        have hC : ([0, 1] : List Nat).map (fun i => (wd_HS_expel cA q0 q1 q2 q3 q4 q5 q6 q7 q8 q9 q10 q11 q12 q13 q14 q15 q16 q17 q18 q19 q20 q21 u0 u1 u2 u3 u4 u5 i_hill_children i_latestStatus i_hill_changes i_refusals a3)[i]?) = (wd_HS_accept cA q0 q1 q2 q3 q4 q5 q6 q7 q8 q9 q10 q11 q12 q13 q14 q15 q16 q17 q18 q19 q20 q21 u0 u1 u2 i_hill_children u3 u4 u5 i_latestStatus i_hill_changes).map some := rfl
        refine xv_afterI (ws' := (wd_HS_expel cA q0 q1 q2 q3 q4 q5 q6 q7 q8 q9 q10 q11 q12 q13 q14 q15 q16 q17 q18 q19 q20 q21 u0 u1 u2 u3 u4 u5 i_hill_children v5 v6 i_refusals a3)) (isC := [0, 1]) (ps := [some 0, some 1, none, none]) (va_runV (As := [.int (Int32.ofInt v2)]) (rest := []) ⟨hx, hb, hml, hown, hts⟩ (c_HS_accept l ev dC dI cA q0 q1 q2 q3 q4 q5 q6 q7 q8 q9 q10 q11 q12 q13 q14 q15 q16 q17 q18 q19 q20 q21 u0 u1 u2 i_hill_children u3 u4 u5 hg H.size) (cwV 1 hts (zgV zw_538 zw_540 zw_1 zw_104 zw_541) rfl rfl rfl hd_HS_accept ⟨Nat.le_of_ble_eq_true rfl, Nat.le_of_ble_eq_true rfl⟩) (xv_preV (T := TX10) (N := 16) hE hA hS hK hP hD (isC := [0, 1]) (by decide +kernel) hC (q0 := 0) (ci := 10) rfl rfl) rfl rfl hl.1 rfl (lv_room (Nat.le_of_ble_eq_true rfl)) (zdt zkX10_expel 55 rfl) ⟨Nat.le_refl _, Nat.le_refl _⟩) hP hD hS hA (by decide +kernel) rfl hC rfl rfl (fun H locs hP hD hS => ?_)
        obtain rfl := Option.some.inj hf
        exact hret _ _ _ _ rfl (zdt zkX10_expel 58 rfl) hP hD hS
      · refine lv_aload_n hx hb (zdt zkX10_expel 26 rfl) rfl (lv_at hl 0 rfl) ?_
        refine lv_bipush (v := Int32.ofInt (-2)) hx hb (zdt zkX10_expel 27 rfl) (by decide) ?_
        refine xe_d3 hf (fun v7 v8 a9 hg hf => ?_)
        have hC : ([0, 2] : List Nat).map (fun i => (wd_HS_expel cA q0 q1 q2 q3 q4 q5 q6 q7 q8 q9 q10 q11 q12 q13 q14 q15 q16 q17 q18 q19 q20 q21 u0 u1 u2 u3 u4 u5 i_hill_children i_latestStatus i_hill_changes i_refusals i_hill_expelled)[i]?) = (wd_HS_refuse cA q0 q1 q2 q3 q4 q5 q6 q7 q8 q9 q10 q11 q12 u0 u1 u2 i_latestStatus i_refusals).map some := rfl
        refine xv_afterI (ws' := (wd_HS_expel cA q0 q1 q2 q3 q4 q5 q6 q7 q8 q9 q10 q11 q12 q13 q14 q15 q16 q17 q18 q19 q20 q21 u0 u1 u2 u3 u4 u5 i_hill_children v8 i_hill_changes a9 i_hill_expelled)) (isC := [0, 2]) (ps := [some 0, none, some 1, none]) (va_runV (As := [.int (Int32.ofInt (-2))]) (rest := []) ⟨hx, hb, hml, hown, hts⟩ (c_HS_refuse l ev dC dI cA q0 q1 q2 q3 q4 q5 q6 q7 q8 q9 q10 q11 q12 u0 u1 u2 hg H.size) (cwV 1 hts (zgV zw_534 zw_536 zw_0 zw_104 zw_537) rfl rfl rfl hd_HS_refuse ⟨Nat.le_of_ble_eq_true rfl, Nat.le_of_ble_eq_true rfl⟩) (xv_preV (T := TX10) (N := 16) hE hA hS hK hP hD (isC := [0, 2]) (by decide +kernel) hC (q0 := 0) (ci := 10) rfl rfl) rfl rfl hl.1 rfl (lv_room (Nat.le_of_ble_eq_true rfl)) (zdt zkX10_expel 29 rfl) ⟨Nat.le_refl _, Nat.le_refl _⟩) hP hD hS hA (by decide +kernel) rfl hC rfl rfl (fun H locs hP hD hS => ?_)
        obtain rfl := Option.some.inj hf
        exact hret _ _ _ _ rfl (zdt zkX10_expel 32 rfl) hP hD hS
    · exact b_9  _ _ _ _ _ _ _ hf hP hD hS (lv_sub hl [0] rfl)
end
section
set_option maxRecDepth 100000 in
noncomputable def ztX10_fact (p : Nat) : Option (Jvm.ClassFile.Instr × Nat) := bif Nat.ble 49 p then (bif Nat.ble 60 p then (bif Nat.ble 68 p then (bif Nat.ble 70 p then (bif Nat.ble 71 p then (bif Nat.beq p 71 then some (.ireturn, 1) else none) else (bif Nat.beq p 70 then some (.iconst (-1), 1) else none)) else (bif Nat.ble 69 p then (bif Nat.beq p 69 then some (.ireturn, 1) else none) else (bif Nat.beq p 68 then some (.iaload, 1) else none))) else (bif Nat.ble 64 p then (bif Nat.ble 67 p then (bif Nat.beq p 67 then some (.iload_n 1, 1) else none) else (bif Nat.beq p 64 then some (.getfield 158, 3) else none)) else (bif Nat.ble 61 p then (bif Nat.beq p 61 then some (.getfield 10, 3) else none) else (bif Nat.beq p 60 then some (.aload_n 0, 1) else none)))) else (bif Nat.ble 54 p then (bif Nat.ble 58 p then (bif Nat.ble 59 p then (bif Nat.beq p 59 then some (.ireturn, 1) else none) else (bif Nat.beq p 58 then some (.iaload, 1) else none)) else (bif Nat.ble 57 p then (bif Nat.beq p 57 then some (.iload_n 1, 1) else none) else (bif Nat.beq p 54 then some (.getfield 152, 3) else none))) else (bif Nat.ble 50 p then (bif Nat.ble 51 p then (bif Nat.beq p 51 then some (.getfield 10, 3) else none) else (bif Nat.beq p 50 then some (.aload_n 0, 1) else none)) else (bif Nat.beq p 49 then some (.ireturn, 1) else none)))) else (bif Nat.ble 13 p then (bif Nat.ble 41 p then (bif Nat.ble 47 p then (bif Nat.ble 48 p then (bif Nat.beq p 48 then some (.iaload, 1) else none) else (bif Nat.beq p 47 then some (.iload_n 1, 1) else none)) else (bif Nat.ble 44 p then (bif Nat.beq p 44 then some (.getfield 155, 3) else none) else (bif Nat.beq p 41 then some (.getfield 10, 3) else none))) else (bif Nat.ble 14 p then (bif Nat.ble 40 p then (bif Nat.beq p 40 then some (.aload_n 0, 1) else none) else (bif Nat.beq p 14 then some (.tableswitch 56 0 2 #[26, 36, 46], 26) else none)) else (bif Nat.beq p 13 then some (.iload_n 2, 1) else none))) else (bif Nat.ble 5 p then (bif Nat.ble 11 p then (bif Nat.ble 12 p then (bif Nat.beq p 12 then some (.ireturn, 1) else none) else (bif Nat.beq p 11 then some (.iconst (-1), 1) else none)) else (bif Nat.ble 8 p then (bif Nat.beq p 8 then some (.ifCond .ne 5, 3) else none) else (bif Nat.beq p 5 then some (.invokevirtual 149, 3) else none))) else (bif Nat.ble 1 p then (bif Nat.ble 4 p then (bif Nat.beq p 4 then some (.iload_n 1, 1) else none) else (bif Nat.beq p 1 then some (.getfield 10, 3) else none)) else (bif Nat.beq p 0 then some (.aload_n 0, 1) else none))))
set_option maxRecDepth 100000 in
theorem zkX10_fact : (zbig cX10_fact.data.toList = 166185199700768740809175792350553747515515448302453796175697022507362059736647592297937441235682976135715709256994617167253976741551443693342862679219712446973848472455787562 ∧ cX10_fact.data.toList.length = 72) ∧ zdk cX10_fact 166185199700768740809175792350553747515515448302453796175697022507362059736647592297937441235682976135715709256994617167253976741551443693342862679219712446973848472455787562 72 ztX10_fact 71 = true := by decide +kernel
theorem zw_179 : (Jvm.Cond.fieldLinkNest "HillSchool" (155 : Nat) "HillSchool$Hill" "strengths" "[I" "HillSchool") ∈ znest := zmemH (zmj_1 76 rfl) rfl
theorem zw_184 : (Jvm.Cond.fieldLinkNest "HillSchool" (158 : Nat) "HillSchool$Hill" "trips" "[I" "HillSchool") ∈ znest := zmemH (zmj_1 81 rfl) rfl
theorem zw_608 : (Jvm.Cond.code ({ cls := "HillSchool", name := "fact", desc := "(II)I" } : Jvm.MethodName) prog_1_method_9_code (3 : Nat) (Option.some Jvm.ClassFile.FieldType.int)) ∈ zall := zmemG (zmj_3 25 rfl) rfl
noncomputable abbrev w_HS_fact : List Cond := .code yX10_fact cX10_fact 3 (some .int) :: zall
noncomputable abbrev rm_HS_fact : Room := { frames := 1, cells := 0, slots := 0, locals := 21 }
theorem hd_HS_fact : yX10_fact.cls = "HillSchool" ∧ yX10_fact.cls ≠ "java/lang/invoke/MethodHandle" ∧ yX10_fact.cls ≠ "java/lang/invoke/VarHandle" ∧ (parseMethodDescriptor yX10_fact.desc).map (fun d => d.parameters.length) = some 2 := by decide +kernel
noncomputable def wd_HS_fact (cA : Nat → ClassId) (q0 q1 q2 q3 q4 q5 q6 q7 q8 q9 q10 q11 q12 q13 q14 q15 q16 q17 q18 q19 q20 q21 : Nat) (u0 u1 u2 u3 u4 u5 u6 u7 : Int) (i_hill_children : Int) (i_hill_strengths : Nat → Int) (i_hill_expelled : Nat → Int) (i_hill_trips : Nat → Int)  : va_W := [(q0, .inr (10, [.ref q1, .ref q2, .ref q3, .ref q4, .int (Int32.ofInt u0), .int (Int32.ofInt u1), .int (Int32.ofInt u2), .ref q5, .int (Int32.ofInt u3), .ref q6, .ref q7, .ref q8, .ref q9, .ref q10, .ref q11, .ref q12])), (q1, .inr (2, [.ref q13, .int (Int32.ofInt i_hill_children), .ref q14, .ref q15, .ref q16, .int (Int32.ofInt u4), .ref q17, .ref q18, .ref q19, .int (Int32.ofInt u5), .ref q20, .ref q21, .int (Int32.ofInt u6), .int (Int32.ofInt u7)])), (q14, .inl (cA 0, 6, .inl (za i_hill_strengths))), (q15, .inl (cA 0, 6, .inl (za i_hill_expelled))), (q16, .inl (cA 0, 6, .inl (za i_hill_trips)))]
noncomputable def wf_HS_fact (cA : Nat → ClassId) (q0 q1 q2 q3 q4 q5 q6 q7 q8 q9 q10 q11 q12 q13 q14 q15 q16 q17 q18 q19 q20 q21 : Nat) (u0 u1 u2 u3 u4 u5 u6 u7 : Int) (i_hill_children : Int) (i_hill_strengths : Nat → Int) (i_hill_expelled : Nat → Int) (i_hill_trips : Nat → Int) (o : Int) : va_W := wd_HS_fact cA q0 q1 q2 q3 q4 q5 q6 q7 q8 q9 q10 q11 q12 q13 q14 q15 q16 q17 q18 q19 q20 q21 u0 u1 u2 u3 u4 u5 u6 u7 i_hill_children i_hill_strengths i_hill_expelled i_hill_trips
noncomputable def f_HS_fact (x1 : Int) (x2 : Int) (i_hill_children : Int) (i_hill_strengths : Nat → Int) (i_hill_expelled : Nat → Int) (i_hill_trips : Nat → Int) : Option (Int) :=
  zd1 (f_Hill_hasChild x1 i_hill_children) fun v1 =>
  if zi_w v1 ≠ 0 then
    if zi_w x2 = 0 then
      zg 6 i_hill_strengths x1 fun v2 =>
      some v2
    else if zi_w x2 = 1 then
      zg 6 i_hill_expelled x1 fun v3 =>
      some v3
    else if zi_w x2 = 2 then
      zg 6 i_hill_trips x1 fun v4 =>
      some v4
    else
      some (-1)
  else
    some (-1)
set_option maxHeartbeats 4000000 in
set_option maxRecDepth 100000 in
theorem c_HS_fact (l : Launch) (ev : zEv) (dC : Nat → ClassId) (dI : Nat → Nat → Nat) (cA : Nat → ClassId) (q0 q1 q2 q3 q4 q5 q6 q7 q8 q9 q10 q11 q12 q13 q14 q15 q16 q17 q18 q19 q20 q21 : Nat) (u0 u1 u2 u3 u4 u5 u6 u7 : Int) {x1 x2 : Int} {i_hill_children : Int} {i_hill_strengths : Nat → Int} {i_hill_expelled : Nat → Int} {i_hill_trips : Nat → Int} {out : Int} (hf : f_HS_fact x1 x2 i_hill_children i_hill_strengths i_hill_expelled i_hill_trips = some out) : xc_I l ev (dC, dI) vwCl (tyl cA) yX10_fact w_HS_fact rm_HS_fact [.ref q0, .int (Int32.ofInt x1), .int (Int32.ofInt x2)] (wd_HS_fact cA q0 q1 q2 q3 q4 q5 q6 q7 q8 q9 q10 q11 q12 q13 q14 q15 q16 q17 q18 q19 q20 q21 u0 u1 u2 u3 u4 u5 u6 u7 i_hill_children i_hill_strengths i_hill_expelled i_hill_trips) (wf_HS_fact cA q0 q1 q2 q3 q4 q5 q6 q7 q8 q9 q10 q11 q12 q13 q14 q15 q16 q17 q18 q19 q20 q21 u0 u1 u2 u3 u4 u5 u6 u7 i_hill_children i_hill_strengths i_hill_expelled i_hill_trips out) out := by
  refine xv_startI (cc := cX10_fact) (maxL := 3) (rt := .int) (by decide +kernel) rfl (Nat.le_of_ble_eq_true rfl) ?_
  intro p e s m args below meth c A Q H ls hx hb hml hts hown hK hA hP hD hS hl hE hret
  have hown : s.vm.findClass "HillSchool" = some m.cls := hown
  have hz : ∀ w ∈ zall, w.before args s = true := fun w h => hts w (List.mem_cons_of_mem _ h)
  have hl : lv_has ls 3 [(0, .ref q0), (1, .int (Int32.ofInt x1)), (2, .int (Int32.ofInt x2))] := hl
  unfold f_HS_fact at hf
  refine lv_aload_n hx hb (zdt zkX10_fact 0 rfl) rfl (lv_at hl 0 rfl) ?_
  refine va_get (D := (dC, dI)) (ci := 10) (v := .ref q1) (C := RX10) (T := TX10) (N := 16) hx hb hz zi_X10 hown hK hP 0 rfl rfl 0 (by decide) (hz _ zw_477) (fun _ h9 => h9) rfl (zdt zkX10_fact 1 rfl) ?_
  refine lv_iload_n hx hb (zdt zkX10_fact 4 rfl) rfl (lv_at hl 1 rfl) ?_
  refine xe_d1 hf (fun v1 hg hf => ?_)
  have hC : ([1] : List Nat).map (fun i => (wd_HS_fact cA q0 q1 q2 q3 q4 q5 q6 q7 q8 q9 q10 q11 q12 q13 q14 q15 q16 q17 q18 q19 q20 q21 u0 u1 u2 u3 u4 u5 u6 u7 i_hill_children i_hill_strengths i_hill_expelled i_hill_trips)[i]?) = (wd_Hill_hasChild cA q1 q13 q14 q15 q16 q17 q18 q19 q20 q21 u4 u5 u6 u7 i_hill_children).map some := rfl
  refine xv_afterI (ws' := (wd_HS_fact cA q0 q1 q2 q3 q4 q5 q6 q7 q8 q9 q10 q11 q12 q13 q14 q15 q16 q17 q18 q19 q20 q21 u0 u1 u2 u3 u4 u5 u6 u7 i_hill_children i_hill_strengths i_hill_expelled i_hill_trips)) (isC := [1]) (ps := [none, some 0, none, none, none]) (va_runV (As := [.int (Int32.ofInt x1)]) (rest := []) ⟨hx, hb, hml, hown, hts⟩ (c_Hill_hasChild l ev dC dI cA q1 q13 q14 q15 q16 q17 q18 q19 q20 q21 u4 u5 u6 u7 hg H.size) (cwV 1 hts (zgV zw_601 zw_602 zw_603 zw_105 zw_604) rfl rfl rfl hd_Hill_hasChild ⟨Nat.le_of_ble_eq_true rfl, Nat.le_of_ble_eq_true rfl⟩) (xv_preV (T := TX2) (N := 14) hE hA hS hK hP hD (isC := [1]) (by decide +kernel) hC (q0 := 1) (ci := 2) rfl rfl) rfl rfl hl.1 rfl (lv_room (Nat.le_of_ble_eq_true rfl)) (zdt zkX10_fact 5 rfl) ⟨Nat.le_refl _, Nat.le_refl _⟩) hP hD hS hA (by decide +kernel) rfl hC rfl rfl (fun H locs hP hD hS => ?_)
  refine xi_if_ne (tgt := 13) hx hb (zdt zkX10_fact 8 rfl) (by decide) hf (fun hf => ?_) (fun hf => ?_)
  · refine lv_iload_n hx hb (zdt zkX10_fact 13 rfl) rfl (lv_at hl 2 rfl) ?_
    refine xz_if hf (fun hc hf => ?_) (fun hn0 hf => ?_)
    · refine xi_tin (tgt := 40) hx hb (zdt zkX10_fact 14 rfl) hc (by decide) (by decide) rfl (by decide) ?_
      refine lv_aload_n hx hb (zdt zkX10_fact 40 rfl) rfl (lv_at hl 0 rfl) ?_
      refine va_get (D := (dC, dI)) (ci := 10) (v := .ref q1) (C := RX10) (T := TX10) (N := 16) hx hb hz zi_X10 hown hK hP 0 rfl rfl 0 (by decide) (hz _ zw_477) (fun _ h9 => h9) rfl (zdt zkX10_fact 41 rfl) ?_
      refine va_getN (D := (dC, dI)) (ci := 2) (v := .ref q14) (C := RX2) (T := TX2) (N := 14) hx hb hz zi_X2 hown hK hP 1 rfl rfl 2 (by decide) (va_Nw.use rfl (hE.1.1 _ zw_179)) (fun _ h9 => h9) rfl (zdt zkX10_fact 44 rfl) ?_
      refine lv_iload_n hx hb (zdt zkX10_fact 47 rfl) rfl (lv_at hl 1 rfl) ?_
      refine xi_iald hx hb hK hP 2 0 rfl rfl (zdt zkX10_fact 48 rfl) hf (fun v2 hf => ?_)
      obtain rfl := Option.some.inj hf
      exact hret _ _ _ _ rfl (zdt zkX10_fact 49 rfl) hP hD hS
    refine xz_if hf (fun hc hf => ?_) (fun hn1 hf => ?_)
    · refine xi_tin (tgt := 50) hx hb (zdt zkX10_fact 14 rfl) hc (by decide) (by decide) rfl (by decide) ?_
      refine lv_aload_n hx hb (zdt zkX10_fact 50 rfl) rfl (lv_at hl 0 rfl) ?_
      refine va_get (D := (dC, dI)) (ci := 10) (v := .ref q1) (C := RX10) (T := TX10) (N := 16) hx hb hz zi_X10 hown hK hP 0 rfl rfl 0 (by decide) (hz _ zw_477) (fun _ h9 => h9) rfl (zdt zkX10_fact 51 rfl) ?_
      refine va_getN (D := (dC, dI)) (ci := 2) (v := .ref q15) (C := RX2) (T := TX2) (N := 14) hx hb hz zi_X2 hown hK hP 1 rfl rfl 3 (by decide) (va_Nw.use rfl (hE.1.1 _ zw_181)) (fun _ h9 => h9) rfl (zdt zkX10_fact 54 rfl) ?_
      refine lv_iload_n hx hb (zdt zkX10_fact 57 rfl) rfl (lv_at hl 1 rfl) ?_
      refine xi_iald hx hb hK hP 3 0 rfl rfl (zdt zkX10_fact 58 rfl) hf (fun v3 hf => ?_)
      obtain rfl := Option.some.inj hf
      exact hret _ _ _ _ rfl (zdt zkX10_fact 59 rfl) hP hD hS
    refine xz_if hf (fun hc hf => ?_) (fun hn2 hf => ?_)
    · refine xi_tin (tgt := 60) hx hb (zdt zkX10_fact 14 rfl) hc (by decide) (by decide) rfl (by decide) ?_
      refine lv_aload_n hx hb (zdt zkX10_fact 60 rfl) rfl (lv_at hl 0 rfl) ?_
      refine va_get (D := (dC, dI)) (ci := 10) (v := .ref q1) (C := RX10) (T := TX10) (N := 16) hx hb hz zi_X10 hown hK hP 0 rfl rfl 0 (by decide) (hz _ zw_477) (fun _ h9 => h9) rfl (zdt zkX10_fact 61 rfl) ?_
      refine va_getN (D := (dC, dI)) (ci := 2) (v := .ref q16) (C := RX2) (T := TX2) (N := 14) hx hb hz zi_X2 hown hK hP 1 rfl rfl 4 (by decide) (va_Nw.use rfl (hE.1.1 _ zw_184)) (fun _ h9 => h9) rfl (zdt zkX10_fact 64 rfl) ?_
      refine lv_iload_n hx hb (zdt zkX10_fact 67 rfl) rfl (lv_at hl 1 rfl) ?_
      refine xi_iald hx hb hK hP 4 0 rfl rfl (zdt zkX10_fact 68 rfl) hf (fun v4 hf => ?_)
      obtain rfl := Option.some.inj hf
      exact hret _ _ _ _ rfl (zdt zkX10_fact 69 rfl) hP hD hS
    refine xi_tout (tgt := 70) hx hb (zdt zkX10_fact 14 rfl) (by omega) (by decide) ?_
    refine lv_iconst (v := Int32.ofInt (-1)) hx hb (zdt zkX10_fact 70 rfl) rfl ?_
    obtain rfl := Option.some.inj hf
    exact hret _ _ _ _ rfl (zdt zkX10_fact 71 rfl) hP hD hS
  · refine lv_iconst (v := Int32.ofInt (-1)) hx hb (zdt zkX10_fact 11 rfl) rfl ?_
    obtain rfl := Option.some.inj hf
    exact hret _ _ _ _ rfl (zdt zkX10_fact 12 rfl) hP hD hS
set_option maxRecDepth 100000 in
noncomputable def ztX10_parish (p : Nat) : Option (Jvm.ClassFile.Instr × Nat) := bif Nat.ble 41 p then (bif Nat.ble 59 p then (bif Nat.ble 68 p then (bif Nat.ble 72 p then (bif Nat.ble 73 p then (bif Nat.ble 76 p then (bif Nat.beq p 76 then some (.ireturn, 1) else none) else (bif Nat.beq p 73 then some (.invokevirtual 119, 3) else none)) else (bif Nat.beq p 72 then some (.iload_n 2, 1) else none)) else (bif Nat.ble 71 p then (bif Nat.beq p 71 then some (.aload_n 0, 1) else none) else (bif Nat.beq p 68 then some (.putfield 161, 3) else none))) else (bif Nat.ble 63 p then (bif Nat.ble 66 p then (bif Nat.ble 67 p then (bif Nat.beq p 67 then some (.iadd, 1) else none) else (bif Nat.beq p 66 then some (.iconst 1, 1) else none)) else (bif Nat.beq p 63 then some (.getfield 161, 3) else none)) else (bif Nat.ble 62 p then (bif Nat.beq p 62 then some (.dup, 1) else none) else (bif Nat.beq p 59 then some (.getfield 10, 3) else none)))) else (bif Nat.ble 52 p then (bif Nat.ble 56 p then (bif Nat.ble 57 p then (bif Nat.ble 58 p then (bif Nat.beq p 58 then some (.aload_n 0, 1) else none) else (bif Nat.beq p 57 then some (.iastore, 1) else none)) else (bif Nat.beq p 56 then some (.iload_n 1, 1) else none)) else (bif Nat.ble 55 p then (bif Nat.beq p 55 then some (.iload_n 2, 1) else none) else (bif Nat.beq p 52 then some (.getfield 164, 3) else none))) else (bif Nat.ble 47 p then (bif Nat.ble 48 p then (bif Nat.ble 49 p then (bif Nat.beq p 49 then some (.getfield 10, 3) else none) else (bif Nat.beq p 48 then some (.aload_n 0, 1) else none)) else (bif Nat.beq p 47 then some (.istore_n 2, 1) else none)) else (bif Nat.ble 44 p then (bif Nat.beq p 44 then some (.getfield 161, 3) else none) else (bif Nat.beq p 41 then some (.getfield 10, 3) else none))))) else (bif Nat.ble 21 p then (bif Nat.ble 33 p then (bif Nat.ble 36 p then (bif Nat.ble 39 p then (bif Nat.ble 40 p then (bif Nat.beq p 40 then some (.aload_n 0, 1) else none) else (bif Nat.beq p 39 then some (.ireturn, 1) else none)) else (bif Nat.beq p 36 then some (.invokevirtual 109, 3) else none)) else (bif Nat.ble 34 p then (bif Nat.beq p 34 then some (.bipush (-5), 2) else none) else (bif Nat.beq p 33 then some (.aload_n 0, 1) else none))) else (bif Nat.ble 25 p then (bif Nat.ble 28 p then (bif Nat.ble 30 p then (bif Nat.beq p 30 then some (.if_icmp .lt 10, 3) else none) else (bif Nat.beq p 28 then some (.bipush 6, 2) else none)) else (bif Nat.beq p 25 then some (.getfield 161, 3) else none)) else (bif Nat.ble 22 p then (bif Nat.beq p 22 then some (.getfield 10, 3) else none) else (bif Nat.beq p 21 then some (.aload_n 0, 1) else none)))) else (bif Nat.ble 11 p then (bif Nat.ble 15 p then (bif Nat.ble 17 p then (bif Nat.ble 20 p then (bif Nat.beq p 20 then some (.ireturn, 1) else none) else (bif Nat.beq p 17 then some (.invokevirtual 109, 3) else none)) else (bif Nat.beq p 15 then some (.bipush (-2), 2) else none)) else (bif Nat.ble 14 p then (bif Nat.beq p 14 then some (.aload_n 0, 1) else none) else (bif Nat.beq p 11 then some (.ifCond .ne 10, 3) else none))) else (bif Nat.ble 4 p then (bif Nat.ble 7 p then (bif Nat.ble 8 p then (bif Nat.beq p 8 then some (.invokevirtual 122, 3) else none) else (bif Nat.beq p 7 then some (.iload_n 1, 1) else none)) else (bif Nat.beq p 4 then some (.getfield 99, 3) else none)) else (bif Nat.ble 1 p then (bif Nat.beq p 1 then some (.getfield 10, 3) else none) else (bif Nat.beq p 0 then some (.aload_n 0, 1) else none)))))
set_option maxRecDepth 100000 in
theorem zkX10_parish : (zbig cX10_parish.data.toList = 183205273412249222049801457304046541930343910936670675960776255322969856674141398544551529473582270629331439578188984231496969629955658812916469165991011967543616918115721808227806000170 ∧ cX10_parish.data.toList.length = 77) ∧ zdk cX10_parish 183205273412249222049801457304046541930343910936670675960776255322969856674141398544551529473582270629331439578188984231496969629955658812916469165991011967543616918115721808227806000170 77 ztX10_parish 76 = true := by decide +kernel
theorem zw_186 : (Jvm.Cond.fieldLinkNest "HillSchool" (161 : Nat) "HillSchool$Hill" "parishes" "I" "HillSchool") ∈ znest := zmemH (zmj_1 83 rfl) rfl
theorem zw_188 : (Jvm.Cond.fieldLinkNest "HillSchool" (164 : Nat) "HillSchool$Hill" "places" "[I" "HillSchool") ∈ znest := zmemH (zmj_1 85 rfl) rfl
theorem zw_612 : (Jvm.Cond.code ({ cls := "HillSchool", name := "parish", desc := "(I)I" } : Jvm.MethodName) prog_1_method_10_code (3 : Nat) (Option.some Jvm.ClassFile.FieldType.int)) ∈ zall := zmemG (zmj_3 29 rfl) rfl
noncomputable abbrev w_HS_parish : List Cond := .code yX10_parish cX10_parish 3 (some .int) :: zall
noncomputable abbrev rm_HS_parish : Room := { frames := 1, cells := 0, slots := 0, locals := 21 }
theorem hd_HS_parish : yX10_parish.cls = "HillSchool" ∧ yX10_parish.cls ≠ "java/lang/invoke/MethodHandle" ∧ yX10_parish.cls ≠ "java/lang/invoke/VarHandle" ∧ (parseMethodDescriptor yX10_parish.desc).map (fun d => d.parameters.length) = some 1 := by decide +kernel
noncomputable def wd_HS_parish (cA : Nat → ClassId) (q0 q1 q2 q3 q4 q5 q6 q7 q8 q9 q10 q11 q12 q13 q14 q15 q16 q17 q18 q19 q20 q21 q22 q23 : Nat) (u0 u1 u2 u3 u4 u5 : Int) (i_hill_columns_many : Int) (i_latestStatus : Int) (i_hill_parishes : Int) (i_hill_changes : Int) (i_refusals : Nat → Int) (i_hill_places : Nat → Int) : va_W := [(q0, .inr (10, [.ref q1, .ref q2, .ref q3, .ref q4, .int (Int32.ofInt u0), .int (Int32.ofInt u1), .int (Int32.ofInt u2), .ref q5, .int (Int32.ofInt i_latestStatus), .ref q6, .ref q7, .ref q8, .ref q9, .ref q10, .ref q11, .ref q12])), (q1, .inr (2, [.ref q13, .int (Int32.ofInt u3), .ref q14, .ref q15, .ref q16, .int (Int32.ofInt i_hill_parishes), .ref q17, .ref q18, .ref q19, .int (Int32.ofInt u4), .ref q20, .ref q21, .int (Int32.ofInt u5), .int (Int32.ofInt i_hill_changes)])), (q5, .inl (cA 0, 7, .inl (za i_refusals))), (q13, .inr (1, [.int (Int32.ofInt i_hill_columns_many), .ref q22, .ref q23])), (q17, .inl (cA 0, 6, .inl (za i_hill_places)))]
noncomputable def wf_HS_parish (cA : Nat → ClassId) (q0 q1 q2 q3 q4 q5 q6 q7 q8 q9 q10 q11 q12 q13 q14 q15 q16 q17 q18 q19 q20 q21 q22 q23 : Nat) (u0 u1 u2 u3 u4 u5 : Int) (i_hill_columns_many : Int) (o : Int × Int × Int × Int × (Nat → Int) × (Nat → Int)) : va_W := wd_HS_parish cA q0 q1 q2 q3 q4 q5 q6 q7 q8 q9 q10 q11 q12 q13 q14 q15 q16 q17 q18 q19 q20 q21 q22 q23 u0 u1 u2 u3 u4 u5 i_hill_columns_many o.2.1 o.2.2.1 o.2.2.2.1 o.2.2.2.2.1 o.2.2.2.2.2
noncomputable def f_HS_parish (x1 : Int) (i_hill_columns_many : Int) (i_latestStatus : Int) (i_hill_parishes : Int) (i_hill_changes : Int) (i_refusals : Nat → Int) (i_hill_places : Nat → Int) : Option (Int × Int × Int × Int × (Nat → Int) × (Nat → Int)) :=
  zd1 (f_Columns_has x1 i_hill_columns_many) fun v1 =>
  if zi_w v1 ≠ 0 then
    if zi_w i_hill_parishes < zi_w 6 then
      zs 6 i_hill_places i_hill_parishes x1 fun a2 =>
      zn (i_hill_parishes + 1) fun v3 =>
      zd3 (f_HS_accept i_hill_parishes i_latestStatus i_hill_changes) fun v4 v5 v6 =>
      some (v4, v5, v3, v6, i_refusals, a2)
    else
      zd3 (f_HS_refuse (-5) i_latestStatus i_refusals) fun v7 v8 a9 =>
      some (v7, v8, i_hill_parishes, i_hill_changes, a9, i_hill_places)
  else
    zd3 (f_HS_refuse (-2) i_latestStatus i_refusals) fun v10 v11 a12 =>
    some (v10, v11, i_hill_parishes, i_hill_changes, a12, i_hill_places)
set_option maxHeartbeats 4000000 in
set_option maxRecDepth 100000 in
theorem c_HS_parish (l : Launch) (ev : zEv) (dC : Nat → ClassId) (dI : Nat → Nat → Nat) (cA : Nat → ClassId) (q0 q1 q2 q3 q4 q5 q6 q7 q8 q9 q10 q11 q12 q13 q14 q15 q16 q17 q18 q19 q20 q21 q22 q23 : Nat) (u0 u1 u2 u3 u4 u5 : Int) {x1 : Int} {i_hill_columns_many : Int} {i_latestStatus : Int} {i_hill_parishes : Int} {i_hill_changes : Int} {i_refusals : Nat → Int} {i_hill_places : Nat → Int} {out : Int × Int × Int × Int × (Nat → Int) × (Nat → Int)} (hf : f_HS_parish x1 i_hill_columns_many i_latestStatus i_hill_parishes i_hill_changes i_refusals i_hill_places = some out) : xc_I l ev (dC, dI) vwCl (tyl cA) yX10_parish w_HS_parish rm_HS_parish [.ref q0, .int (Int32.ofInt x1)] (wd_HS_parish cA q0 q1 q2 q3 q4 q5 q6 q7 q8 q9 q10 q11 q12 q13 q14 q15 q16 q17 q18 q19 q20 q21 q22 q23 u0 u1 u2 u3 u4 u5 i_hill_columns_many i_latestStatus i_hill_parishes i_hill_changes i_refusals i_hill_places) (wf_HS_parish cA q0 q1 q2 q3 q4 q5 q6 q7 q8 q9 q10 q11 q12 q13 q14 q15 q16 q17 q18 q19 q20 q21 q22 q23 u0 u1 u2 u3 u4 u5 i_hill_columns_many out) out.1 := by
  refine xv_startI (cc := cX10_parish) (maxL := 3) (rt := .int) (by decide +kernel) rfl (Nat.le_of_ble_eq_true rfl) ?_
  intro p e s m args below meth c A Q H ls hx hb hml hts hown hK hA hP hD hS hl hE hret
  have hown : s.vm.findClass "HillSchool" = some m.cls := hown
  have hz : ∀ w ∈ zall, w.before args s = true := fun w h => hts w (List.mem_cons_of_mem _ h)
  have hl : lv_has ls 3 [(0, .ref q0), (1, .int (Int32.ofInt x1))] := hl
  unfold f_HS_parish at hf
  refine lv_aload_n hx hb (zdt zkX10_parish 0 rfl) rfl (lv_at hl 0 rfl) ?_
  refine va_get (D := (dC, dI)) (ci := 10) (v := .ref q1) (C := RX10) (T := TX10) (N := 16) hx hb hz zi_X10 hown hK hP 0 rfl rfl 0 (by decide) (hz _ zw_477) (fun _ h9 => h9) rfl (zdt zkX10_parish 1 rfl) ?_
  refine va_getN (D := (dC, dI)) (ci := 2) (v := .ref q13) (C := RX2) (T := TX2) (N := 14) hx hb hz zi_X2 hown hK hP 1 rfl rfl 0 (by decide) (va_Nw.use rfl (hE.1.1 _ zw_169)) (fun _ h9 => h9) rfl (zdt zkX10_parish 4 rfl) ?_
  refine lv_iload_n hx hb (zdt zkX10_parish 7 rfl) rfl (lv_at hl 1 rfl) ?_
  refine xe_d1 hf (fun v1 hg hf => ?_)
  have hC : ([3] : List Nat).map (fun i => (wd_HS_parish cA q0 q1 q2 q3 q4 q5 q6 q7 q8 q9 q10 q11 q12 q13 q14 q15 q16 q17 q18 q19 q20 q21 q22 q23 u0 u1 u2 u3 u4 u5 i_hill_columns_many i_latestStatus i_hill_parishes i_hill_changes i_refusals i_hill_places)[i]?) = (wd_Columns_has cA q13 q22 q23 i_hill_columns_many).map some := rfl
  refine xv_afterI (ws' := (wd_HS_parish cA q0 q1 q2 q3 q4 q5 q6 q7 q8 q9 q10 q11 q12 q13 q14 q15 q16 q17 q18 q19 q20 q21 q22 q23 u0 u1 u2 u3 u4 u5 i_hill_columns_many i_latestStatus i_hill_parishes i_hill_changes i_refusals i_hill_places)) (isC := [3]) (ps := [none, none, none, some 0, none]) (va_runV (As := [.int (Int32.ofInt x1)]) (rest := []) ⟨hx, hb, hml, hown, hts⟩ (c_Columns_has l ev dC dI cA q13 q22 q23 hg H.size) (cwV 1 hts (zgV zw_546 zw_547 zw_548 zw_106 zw_549) rfl rfl rfl hd_Columns_has ⟨Nat.le_of_ble_eq_true rfl, Nat.le_of_ble_eq_true rfl⟩) (xv_preV (T := TX1) (N := 3) hE hA hS hK hP hD (isC := [3]) (by decide +kernel) hC (q0 := 3) (ci := 1) rfl rfl) rfl rfl hl.1 rfl (lv_room (Nat.le_of_ble_eq_true rfl)) (zdt zkX10_parish 8 rfl) ⟨Nat.le_refl _, Nat.le_refl _⟩) hP hD hS hA (by decide +kernel) rfl hC rfl rfl (fun H locs hP hD hS => ?_)
  refine xi_if_ne (tgt := 21) hx hb (zdt zkX10_parish 11 rfl) (by decide) hf (fun hf => ?_) (fun hf => ?_)
  · refine lv_aload_n hx hb (zdt zkX10_parish 21 rfl) rfl (lv_at hl 0 rfl) ?_
    refine va_get (D := (dC, dI)) (ci := 10) (v := .ref q1) (C := RX10) (T := TX10) (N := 16) hx hb hz zi_X10 hown hK hP 0 rfl rfl 0 (by decide) (hz _ zw_477) (fun _ h9 => h9) rfl (zdt zkX10_parish 22 rfl) ?_
    refine va_getN (D := (dC, dI)) (ci := 2) (v := .int (Int32.ofInt i_hill_parishes)) (C := RX2) (T := TX2) (N := 14) hx hb hz zi_X2 hown hK hP 1 rfl rfl 5 (by decide) (va_Nw.use rfl (hE.1.1 _ zw_186)) (fun _ h9 => h9) rfl (zdt zkX10_parish 25 rfl) ?_
    refine lv_bipush (v := Int32.ofInt 6) hx hb (zdt zkX10_parish 28 rfl) (by decide) ?_
    refine xi_icmp_lt (tgt := 40) hx hb (zdt zkX10_parish 30 rfl) (by decide) hf (fun hf => ?_) (fun hf => ?_)
    · refine lv_aload_n hx hb (zdt zkX10_parish 40 rfl) rfl (lv_at hl 0 rfl) ?_
      refine va_get (D := (dC, dI)) (ci := 10) (v := .ref q1) (C := RX10) (T := TX10) (N := 16) hx hb hz zi_X10 hown hK hP 0 rfl rfl 0 (by decide) (hz _ zw_477) (fun _ h9 => h9) rfl (zdt zkX10_parish 41 rfl) ?_
      refine va_getN (D := (dC, dI)) (ci := 2) (v := .int (Int32.ofInt i_hill_parishes)) (C := RX2) (T := TX2) (N := 14) hx hb hz zi_X2 hown hK hP 1 rfl rfl 5 (by decide) (va_Nw.use rfl (hE.1.1 _ zw_186)) (fun _ h9 => h9) rfl (zdt zkX10_parish 44 rfl) ?_
      refine lv_istore_n (lv' := [(2, .int (Int32.ofInt i_hill_parishes)), (0, .ref q0), (1, .int (Int32.ofInt x1))]) hx hb (zdt zkX10_parish 47 rfl) rfl hl (by decide) rfl (fun ls hl => ?_)
      refine lv_aload_n hx hb (zdt zkX10_parish 48 rfl) rfl (lv_at hl 1 rfl) ?_
      refine va_get (D := (dC, dI)) (ci := 10) (v := .ref q1) (C := RX10) (T := TX10) (N := 16) hx hb hz zi_X10 hown hK hP 0 rfl rfl 0 (by decide) (hz _ zw_477) (fun _ h9 => h9) rfl (zdt zkX10_parish 49 rfl) ?_
      refine va_getN (D := (dC, dI)) (ci := 2) (v := .ref q17) (C := RX2) (T := TX2) (N := 14) hx hb hz zi_X2 hown hK hP 1 rfl rfl 6 (by decide) (va_Nw.use rfl (hE.1.1 _ zw_188)) (fun _ h9 => h9) rfl (zdt zkX10_parish 52 rfl) ?_
      refine lv_iload_n hx hb (zdt zkX10_parish 55 rfl) rfl (lv_at hl 0 rfl) ?_
      refine lv_iload_n hx hb (zdt zkX10_parish 56 rfl) rfl (lv_at hl 2 rfl) ?_
      refine xi_iast hx hb hK hP hD hS 4 0 rfl rfl (zdt zkX10_parish 57 rfl) hf (fun a2 H locs hP hD hS hf => ?_)
      refine xw_PD (wd_HS_parish cA q0 q1 q2 q3 q4 q5 q6 q7 q8 q9 q10 q11 q12 q13 q14 q15 q16 q17 q18 q19 q20 q21 q22 q23 u0 u1 u2 u3 u4 u5 i_hill_columns_many i_latestStatus i_hill_parishes i_hill_changes i_refusals a2) hP hD (fun hP hD => ?_)
      refine lv_aload_n hx hb (zdt zkX10_parish 58 rfl) rfl (lv_at hl 1 rfl) ?_
      refine va_get (D := (dC, dI)) (ci := 10) (v := .ref q1) (C := RX10) (T := TX10) (N := 16) hx hb hz zi_X10 hown hK hP 0 rfl rfl 0 (by decide) (hz _ zw_477) (fun _ h9 => h9) rfl (zdt zkX10_parish 59 rfl) ?_
      refine lv_dup hx hb (zdt zkX10_parish 62 rfl) rfl ?_
      refine va_getN (D := (dC, dI)) (ci := 2) (v := .int (Int32.ofInt i_hill_parishes)) (C := RX2) (T := TX2) (N := 14) hx hb hz zi_X2 hown hK hP 1 rfl rfl 5 (by decide) (va_Nw.use rfl (hE.1.1 _ zw_186)) (fun _ h9 => h9) rfl (zdt zkX10_parish 63 rfl) ?_
      refine lv_iconst (v := Int32.ofInt 1) hx hb (zdt zkX10_parish 66 rfl) rfl ?_
      refine xi_iadd hx hb (zdt zkX10_parish 67 rfl) hf (fun v3 hf => ?_)
      refine va_putN (D := (dC, dI)) (ci := 2) (v := .int (Int32.ofInt v3)) (ty := .int) (C := RX2) (T := TX2) (N := 14) hx hb hz zi_X2 tyX2 tyX2_ok nmX2 hown hK hP hD hS 1 rfl rfl 5 (by decide) (va_Nw.use rfl (hE.1.1 _ zw_186)) (fun _ h9 => h9) rfl (by decide +kernel) rfl rfl (Nat.le_of_ble_eq_true rfl) (zdt zkX10_parish 68 rfl) (fun H locs hP hD hS => ?_)
      refine xw_PD (wd_HS_parish cA q0 q1 q2 q3 q4 q5 q6 q7 q8 q9 q10 q11 q12 q13 q14 q15 q16 q17 q18 q19 q20 q21 q22 q23 u0 u1 u2 u3 u4 u5 i_hill_columns_many i_latestStatus v3 i_hill_changes i_refusals a2) hP hD (fun hP hD => ?_)
      refine lv_aload_n hx hb (zdt zkX10_parish 71 rfl) rfl (lv_at hl 1 rfl) ?_
      refine lv_iload_n hx hb (zdt zkX10_parish 72 rfl) rfl (lv_at hl 0 rfl) ?_
      refine xe_d3 hf (fun v4 v5 v6 hg hf => ?_)
      have hC : ([0, 1] : List Nat).map (fun i => (wd_HS_parish cA q0 q1 q2 q3 q4 q5 q6 q7 q8 q9 q10 q11 q12 q13 q14 q15 q16 q17 q18 q19 q20 q21 q22 q23 u0 u1 u2 u3 u4 u5 i_hill_columns_many i_latestStatus v3 i_hill_changes i_refusals a2)[i]?) = (wd_HS_accept cA q0 q1 q2 q3 q4 q5 q6 q7 q8 q9 q10 q11 q12 q13 q14 q15 q16 q17 q18 q19 q20 q21 u0 u1 u2 u3 v3 u4 u5 i_latestStatus i_hill_changes).map some := rfl
      refine xv_afterI (ws' := (wd_HS_parish cA q0 q1 q2 q3 q4 q5 q6 q7 q8 q9 q10 q11 q12 q13 q14 q15 q16 q17 q18 q19 q20 q21 q22 q23 u0 u1 u2 u3 u4 u5 i_hill_columns_many v5 v3 v6 i_refusals a2)) (isC := [0, 1]) (ps := [some 0, some 1, none, none, none]) (va_runV (As := [.int (Int32.ofInt i_hill_parishes)]) (rest := []) ⟨hx, hb, hml, hown, hts⟩ (c_HS_accept l ev dC dI cA q0 q1 q2 q3 q4 q5 q6 q7 q8 q9 q10 q11 q12 q13 q14 q15 q16 q17 q18 q19 q20 q21 u0 u1 u2 u3 v3 u4 u5 hg H.size) (cwV 1 hts (zgV zw_538 zw_540 zw_1 zw_104 zw_541) rfl rfl rfl hd_HS_accept ⟨Nat.le_of_ble_eq_true rfl, Nat.le_of_ble_eq_true rfl⟩) (xv_preV (T := TX10) (N := 16) hE hA hS hK hP hD (isC := [0, 1]) (by decide +kernel) hC (q0 := 0) (ci := 10) rfl rfl) rfl rfl hl.1 rfl (lv_room (Nat.le_of_ble_eq_true rfl)) (zdt zkX10_parish 73 rfl) ⟨Nat.le_refl _, Nat.le_refl _⟩) hP hD hS hA (by decide +kernel) rfl hC rfl rfl (fun H locs hP hD hS => ?_)
      obtain rfl := Option.some.inj hf
      exact hret _ _ _ _ rfl (zdt zkX10_parish 76 rfl) hP hD hS
    · refine lv_aload_n hx hb (zdt zkX10_parish 33 rfl) rfl (lv_at hl 0 rfl) ?_
      refine lv_bipush (v := Int32.ofInt (-5)) hx hb (zdt zkX10_parish 34 rfl) (by decide) ?_
      refine xe_d3 hf (fun v7 v8 a9 hg hf => ?_)
      have hC : ([0, 2] : List Nat).map (fun i => (wd_HS_parish cA q0 q1 q2 q3 q4 q5 q6 q7 q8 q9 q10 q11 q12 q13 q14 q15 q16 q17 q18 q19 q20 q21 q22 q23 u0 u1 u2 u3 u4 u5 i_hill_columns_many i_latestStatus i_hill_parishes i_hill_changes i_refusals i_hill_places)[i]?) = (wd_HS_refuse cA q0 q1 q2 q3 q4 q5 q6 q7 q8 q9 q10 q11 q12 u0 u1 u2 i_latestStatus i_refusals).map some := rfl
      refine xv_afterI (ws' := (wd_HS_parish cA q0 q1 q2 q3 q4 q5 q6 q7 q8 q9 q10 q11 q12 q13 q14 q15 q16 q17 q18 q19 q20 q21 q22 q23 u0 u1 u2 u3 u4 u5 i_hill_columns_many v8 i_hill_parishes i_hill_changes a9 i_hill_places)) (isC := [0, 2]) (ps := [some 0, none, some 1, none, none]) (va_runV (As := [.int (Int32.ofInt (-5))]) (rest := []) ⟨hx, hb, hml, hown, hts⟩ (c_HS_refuse l ev dC dI cA q0 q1 q2 q3 q4 q5 q6 q7 q8 q9 q10 q11 q12 u0 u1 u2 hg H.size) (cwV 1 hts (zgV zw_534 zw_536 zw_0 zw_104 zw_537) rfl rfl rfl hd_HS_refuse ⟨Nat.le_of_ble_eq_true rfl, Nat.le_of_ble_eq_true rfl⟩) (xv_preV (T := TX10) (N := 16) hE hA hS hK hP hD (isC := [0, 2]) (by decide +kernel) hC (q0 := 0) (ci := 10) rfl rfl) rfl rfl hl.1 rfl (lv_room (Nat.le_of_ble_eq_true rfl)) (zdt zkX10_parish 36 rfl) ⟨Nat.le_refl _, Nat.le_refl _⟩) hP hD hS hA (by decide +kernel) rfl hC rfl rfl (fun H locs hP hD hS => ?_)
      obtain rfl := Option.some.inj hf
      exact hret _ _ _ _ rfl (zdt zkX10_parish 39 rfl) hP hD hS
  · refine lv_aload_n hx hb (zdt zkX10_parish 14 rfl) rfl (lv_at hl 0 rfl) ?_
    refine lv_bipush (v := Int32.ofInt (-2)) hx hb (zdt zkX10_parish 15 rfl) (by decide) ?_
    refine xe_d3 hf (fun v10 v11 a12 hg hf => ?_)
    have hC : ([0, 2] : List Nat).map (fun i => (wd_HS_parish cA q0 q1 q2 q3 q4 q5 q6 q7 q8 q9 q10 q11 q12 q13 q14 q15 q16 q17 q18 q19 q20 q21 q22 q23 u0 u1 u2 u3 u4 u5 i_hill_columns_many i_latestStatus i_hill_parishes i_hill_changes i_refusals i_hill_places)[i]?) = (wd_HS_refuse cA q0 q1 q2 q3 q4 q5 q6 q7 q8 q9 q10 q11 q12 u0 u1 u2 i_latestStatus i_refusals).map some := rfl
    refine xv_afterI (ws' := (wd_HS_parish cA q0 q1 q2 q3 q4 q5 q6 q7 q8 q9 q10 q11 q12 q13 q14 q15 q16 q17 q18 q19 q20 q21 q22 q23 u0 u1 u2 u3 u4 u5 i_hill_columns_many v11 i_hill_parishes i_hill_changes a12 i_hill_places)) (isC := [0, 2]) (ps := [some 0, none, some 1, none, none]) (va_runV (As := [.int (Int32.ofInt (-2))]) (rest := []) ⟨hx, hb, hml, hown, hts⟩ (c_HS_refuse l ev dC dI cA q0 q1 q2 q3 q4 q5 q6 q7 q8 q9 q10 q11 q12 u0 u1 u2 hg H.size) (cwV 1 hts (zgV zw_534 zw_536 zw_0 zw_104 zw_537) rfl rfl rfl hd_HS_refuse ⟨Nat.le_of_ble_eq_true rfl, Nat.le_of_ble_eq_true rfl⟩) (xv_preV (T := TX10) (N := 16) hE hA hS hK hP hD (isC := [0, 2]) (by decide +kernel) hC (q0 := 0) (ci := 10) rfl rfl) rfl rfl hl.1 rfl (lv_room (Nat.le_of_ble_eq_true rfl)) (zdt zkX10_parish 17 rfl) ⟨Nat.le_refl _, Nat.le_refl _⟩) hP hD hS hA (by decide +kernel) rfl hC rfl rfl (fun H locs hP hD hS => ?_)
    obtain rfl := Option.some.inj hf
    exact hret _ _ _ _ rfl (zdt zkX10_parish 20 rfl) hP hD hS
set_option maxRecDepth 100000 in
noncomputable def ztX10_terms (p : Nat) : Option (Jvm.ClassFile.Instr × Nat) := bif Nat.ble 32 p then (bif Nat.ble 47 p then (bif Nat.ble 55 p then (bif Nat.ble 57 p then (bif Nat.ble 58 p then (bif Nat.ble 61 p then (bif Nat.beq p 61 then some (.ireturn, 1) else none) else (bif Nat.beq p 58 then some (.invokevirtual 119, 3) else none)) else (bif Nat.beq p 57 then some (.iload_n 3, 1) else none)) else (bif Nat.ble 56 p then (bif Nat.beq p 56 then some (.aload_n 0, 1) else none) else (bif Nat.beq p 55 then some (.iastore, 1) else none))) else (bif Nat.ble 53 p then (bif Nat.ble 54 p then (bif Nat.beq p 54 then some (.iload_n 2, 1) else none) else (bif Nat.beq p 53 then some (.iload_n 1, 1) else none)) else (bif Nat.ble 50 p then (bif Nat.beq p 50 then some (.getfield 176, 3) else none) else (bif Nat.beq p 47 then some (.getfield 10, 3) else none)))) else (bif Nat.ble 40 p then (bif Nat.ble 44 p then (bif Nat.ble 45 p then (bif Nat.ble 46 p then (bif Nat.beq p 46 then some (.aload_n 0, 1) else none) else (bif Nat.beq p 45 then some (.istore_n 3, 1) else none)) else (bif Nat.beq p 44 then some (.iaload, 1) else none)) else (bif Nat.ble 43 p then (bif Nat.beq p 43 then some (.iload_n 1, 1) else none) else (bif Nat.beq p 40 then some (.getfield 176, 3) else none))) else (bif Nat.ble 36 p then (bif Nat.ble 37 p then (bif Nat.beq p 37 then some (.getfield 10, 3) else none) else (bif Nat.beq p 36 then some (.aload_n 0, 1) else none)) else (bif Nat.ble 35 p then (bif Nat.beq p 35 then some (.ireturn, 1) else none) else (bif Nat.beq p 32 then some (.invokevirtual 109, 3) else none))))) else (bif Nat.ble 17 p then (bif Nat.ble 25 p then (bif Nat.ble 27 p then (bif Nat.ble 30 p then (bif Nat.ble 31 p then (bif Nat.beq p 31 then some (.iconst (-1), 1) else none) else (bif Nat.beq p 30 then some (.aload_n 0, 1) else none)) else (bif Nat.beq p 27 then some (.if_icmp .le 9, 3) else none)) else (bif Nat.ble 26 p then (bif Nat.beq p 26 then some (.iaload, 1) else none) else (bif Nat.beq p 25 then some (.iload_n 1, 1) else none))) else (bif Nat.ble 21 p then (bif Nat.ble 22 p then (bif Nat.beq p 22 then some (.getstatic 173, 3) else none) else (bif Nat.beq p 21 then some (.iload_n 2, 1) else none)) else (bif Nat.ble 18 p then (bif Nat.beq p 18 then some (.if_icmp .lt 12, 3) else none) else (bif Nat.beq p 17 then some (.iaload, 1) else none)))) else (bif Nat.ble 8 p then (bif Nat.ble 12 p then (bif Nat.ble 13 p then (bif Nat.ble 16 p then (bif Nat.beq p 16 then some (.iload_n 1, 1) else none) else (bif Nat.beq p 13 then some (.getstatic 170, 3) else none)) else (bif Nat.beq p 12 then some (.iload_n 2, 1) else none)) else (bif Nat.ble 9 p then (bif Nat.beq p 9 then some (.if_icmp .ge 21, 3) else none) else (bif Nat.beq p 8 then some (.arraylength, 1) else none))) else (bif Nat.ble 4 p then (bif Nat.ble 5 p then (bif Nat.beq p 5 then some (.getstatic 167, 3) else none) else (bif Nat.beq p 4 then some (.iload_n 1, 1) else none)) else (bif Nat.ble 1 p then (bif Nat.beq p 1 then some (.ifCond .lt 29, 3) else none) else (bif Nat.beq p 0 then some (.iload_n 1, 1) else none)))))
set_option maxRecDepth 100000 in
theorem zkX10_terms : (zbig cX10_terms.data.toList = 137828328919834855182460545291620672396357193562893844059815635163398670300170139390948581537674774327626024717727390644231619362906288891737829055259 ∧ cX10_terms.data.toList.length = 62) ∧ zdk cX10_terms 137828328919834855182460545291620672396357193562893844059815635163398670300170139390948581537674774327626024717727390644231619362906288891737829055259 62 ztX10_terms 61 = true := by decide +kernel
theorem zw_191 : (Jvm.Cond.fieldLinkNest "HillSchool" (176 : Nat) "HillSchool$Hill" "terms" "[I" "HillSchool") ∈ znest := zmemH (zmj_1 88 rfl) rfl
theorem zw_616 : (Jvm.Cond.code ({ cls := "HillSchool", name := "terms", desc := "(II)I" } : Jvm.MethodName) prog_1_method_11_code (4 : Nat) (Option.some Jvm.ClassFile.FieldType.int)) ∈ zall := zmemG (zmj_3 33 rfl) rfl
theorem zw_617 : (Jvm.Cond.fieldLink "HillSchool" (167 : Nat) "HillSchool" "FIRST_TERMS" "[I") ∈ zall := zmemG (zmj_3 34 rfl) rfl
theorem zw_618 : (Jvm.Cond.fieldLink "HillSchool" (170 : Nat) "HillSchool" "LEAST_TERMS" "[I") ∈ zall := zmemG (zmj_3 35 rfl) rfl
theorem zw_620 : (Jvm.Cond.fieldLink "HillSchool" (173 : Nat) "HillSchool" "MOST_TERMS" "[I") ∈ zall := zmemG (zmj_3 37 rfl) rfl
noncomputable abbrev w_HS_terms : List Cond := .code yX10_terms cX10_terms 4 (some .int) :: zall
noncomputable abbrev rm_HS_terms : Room := { frames := 1, cells := 0, slots := 0, locals := 21 }
theorem hd_HS_terms : yX10_terms.cls = "HillSchool" ∧ yX10_terms.cls ≠ "java/lang/invoke/MethodHandle" ∧ yX10_terms.cls ≠ "java/lang/invoke/VarHandle" ∧ (parseMethodDescriptor yX10_terms.desc).map (fun d => d.parameters.length) = some 2 := by decide +kernel
noncomputable def wd_HS_terms (cA : Nat → ClassId) (q0 q1 q2 q3 q4 q5 q6 q7 q8 q9 q10 q11 q12 q13 q14 q15 q16 q17 q18 q19 q20 q21 : Nat) (u0 u1 u2 u3 u4 u5 u6 : Int)  (i_latestStatus : Int) (i_hill_changes : Int) (i_refusals : Nat → Int) (i_hill_terms : Nat → Int) : va_W := [(q0, .inr (10, [.ref q1, .ref q2, .ref q3, .ref q4, .int (Int32.ofInt u0), .int (Int32.ofInt u1), .int (Int32.ofInt u2), .ref q5, .int (Int32.ofInt i_latestStatus), .ref q6, .ref q7, .ref q8, .ref q9, .ref q10, .ref q11, .ref q12])), (q1, .inr (2, [.ref q13, .int (Int32.ofInt u3), .ref q14, .ref q15, .ref q16, .int (Int32.ofInt u4), .ref q17, .ref q18, .ref q19, .int (Int32.ofInt u5), .ref q20, .ref q21, .int (Int32.ofInt u6), .int (Int32.ofInt i_hill_changes)])), (q5, .inl (cA 0, 7, .inl (za i_refusals))), (q18, .inl (cA 0, 4, .inl (za i_hill_terms)))]
noncomputable def wf_HS_terms (cA : Nat → ClassId) (q0 q1 q2 q3 q4 q5 q6 q7 q8 q9 q10 q11 q12 q13 q14 q15 q16 q17 q18 q19 q20 q21 : Nat) (u0 u1 u2 u3 u4 u5 u6 : Int)  (o : Int × Int × Int × (Nat → Int) × (Nat → Int)) : va_W := wd_HS_terms cA q0 q1 q2 q3 q4 q5 q6 q7 q8 q9 q10 q11 q12 q13 q14 q15 q16 q17 q18 q19 q20 q21 u0 u1 u2 u3 u4 u5 u6 o.2.1 o.2.2.1 o.2.2.2.1 o.2.2.2.2
noncomputable def f_HS_terms_30  (i_latestStatus : Int) (i_hill_changes : Int) (i_refusals : Nat → Int) (i_hill_terms : Nat → Int) : Option (Int × Int × Int × (Nat → Int) × (Nat → Int)) :=
  zd3 (f_HS_refuse (-1) i_latestStatus i_refusals) fun v1 v2 a3 =>
  some (v1, v2, i_hill_changes, a3, i_hill_terms)
noncomputable def f_HS_terms (x1 : Int) (x2 : Int) (i_latestStatus : Int) (i_hill_changes : Int) (i_refusals : Nat → Int) (i_hill_terms : Nat → Int) : Option (Int × Int × Int × (Nat → Int) × (Nat → Int)) :=
  if zi_w x1 < 0 then
    f_HS_terms_30 i_latestStatus i_hill_changes i_refusals i_hill_terms
  else
    if zi_w 4 ≤ zi_w x1 then
      f_HS_terms_30 i_latestStatus i_hill_changes i_refusals i_hill_terms
    else
      zg 4 (zk 0) x1 fun v1 =>
      if zi_w x2 < zi_w v1 then
        f_HS_terms_30 i_latestStatus i_hill_changes i_refusals i_hill_terms
      else
        zg 4 (zk 1) x1 fun v2 =>
        if zi_w x2 ≤ zi_w v2 then
          zg 4 i_hill_terms x1 fun v3 =>
          zs 4 i_hill_terms x1 x2 fun a4 =>
          zd3 (f_HS_accept v3 i_latestStatus i_hill_changes) fun v5 v6 v7 =>
          some (v5, v6, v7, i_refusals, a4)
        else
          f_HS_terms_30 i_latestStatus i_hill_changes i_refusals i_hill_terms
set_option maxHeartbeats 4000000 in
set_option maxRecDepth 100000 in
theorem c_HS_terms (l : Launch) (ev : zEv) (dC : Nat → ClassId) (dI : Nat → Nat → Nat) (cA : Nat → ClassId) (q0 q1 q2 q3 q4 q5 q6 q7 q8 q9 q10 q11 q12 q13 q14 q15 q16 q17 q18 q19 q20 q21 : Nat) (u0 u1 u2 u3 u4 u5 u6 : Int) {x1 x2 : Int} {i_latestStatus : Int} {i_hill_changes : Int} {i_refusals : Nat → Int} {i_hill_terms : Nat → Int} {out : Int × Int × Int × (Nat → Int) × (Nat → Int)} (hf : f_HS_terms x1 x2 i_latestStatus i_hill_changes i_refusals i_hill_terms = some out) : xc_I l ev (dC, dI) vwCl (tyl cA) yX10_terms w_HS_terms rm_HS_terms [.ref q0, .int (Int32.ofInt x1), .int (Int32.ofInt x2)] (wd_HS_terms cA q0 q1 q2 q3 q4 q5 q6 q7 q8 q9 q10 q11 q12 q13 q14 q15 q16 q17 q18 q19 q20 q21 u0 u1 u2 u3 u4 u5 u6 i_latestStatus i_hill_changes i_refusals i_hill_terms) (wf_HS_terms cA q0 q1 q2 q3 q4 q5 q6 q7 q8 q9 q10 q11 q12 q13 q14 q15 q16 q17 q18 q19 q20 q21 u0 u1 u2 u3 u4 u5 u6 out) out.1 := by
  refine xv_startI (cc := cX10_terms) (maxL := 4) (rt := .int) (by decide +kernel) rfl (Nat.le_of_ble_eq_true rfl) ?_
  intro p e s m args below meth c A Q H ls hx hb hml hts hown hK hA hP hD hS hl hE hret
  have hown : s.vm.findClass "HillSchool" = some m.cls := hown
  have hz : ∀ w ∈ zall, w.before args s = true := fun w h => hts w (List.mem_cons_of_mem _ h)
  have hl : lv_has ls 4 [(0, .ref q0), (1, .int (Int32.ofInt x1)), (2, .int (Int32.ofInt x2))] := hl
  have b_30 : ∀ (i_latestStatus : Int) (i_hill_changes : Int) (i_refusals : Nat → Int) (i_hill_terms : Nat → Int) (H : Heap) (locs : List Loc) (ls : Array Slot), f_HS_terms_30 i_latestStatus i_hill_changes i_refusals i_hill_terms = some out → va_P (dC, dI) vwCl (wd_HS_terms cA q0 q1 q2 q3 q4 q5 q6 q7 q8 q9 q10 q11 q12 q13 q14 q15 q16 q17 q18 q19 q20 q21 u0 u1 u2 u3 u4 u5 u6 i_latestStatus i_hill_changes i_refusals i_hill_terms) H → va_D A (wd_HS_terms cA q0 q1 q2 q3 q4 q5 q6 q7 q8 q9 q10 q11 q12 q13 q14 q15 q16 q17 q18 q19 q20 q21 u0 u1 u2 u3 u4 u5 u6 i_latestStatus i_hill_changes i_refusals i_hill_terms) → va_S A s.heap H locs → lv_has ls 4 [(0, .ref q0)] → W p l e rm_HS_terms s m args below meth c H locs 0 0 Q (F0 m 30 ls []) := by
    intro i_latestStatus i_hill_changes i_refusals i_hill_terms H locs ls hf hP hD hS hl
    unfold f_HS_terms_30 at hf
    refine lv_aload_n hx hb (zdt zkX10_terms 30 rfl) rfl (lv_at hl 0 rfl) ?_
    refine lv_iconst (v := Int32.ofInt (-1)) hx hb (zdt zkX10_terms 31 rfl) rfl ?_
    refine xe_d3 hf (fun v1 v2 a3 hg hf => ?_)
    have hC : ([0, 2] : List Nat).map (fun i => (wd_HS_terms cA q0 q1 q2 q3 q4 q5 q6 q7 q8 q9 q10 q11 q12 q13 q14 q15 q16 q17 q18 q19 q20 q21 u0 u1 u2 u3 u4 u5 u6 i_latestStatus i_hill_changes i_refusals i_hill_terms)[i]?) = (wd_HS_refuse cA q0 q1 q2 q3 q4 q5 q6 q7 q8 q9 q10 q11 q12 u0 u1 u2 i_latestStatus i_refusals).map some := rfl
    refine xv_afterI (ws' := (wd_HS_terms cA q0 q1 q2 q3 q4 q5 q6 q7 q8 q9 q10 q11 q12 q13 q14 q15 q16 q17 q18 q19 q20 q21 u0 u1 u2 u3 u4 u5 u6 v2 i_hill_changes a3 i_hill_terms)) (isC := [0, 2]) (ps := [some 0, none, some 1, none]) (va_runV (As := [.int (Int32.ofInt (-1))]) (rest := []) ⟨hx, hb, hml, hown, hts⟩ (c_HS_refuse l ev dC dI cA q0 q1 q2 q3 q4 q5 q6 q7 q8 q9 q10 q11 q12 u0 u1 u2 hg H.size) (cwV 1 hts (zgV zw_534 zw_536 zw_0 zw_104 zw_537) rfl rfl rfl hd_HS_refuse ⟨Nat.le_of_ble_eq_true rfl, Nat.le_of_ble_eq_true rfl⟩) (xv_preV (T := TX10) (N := 16) hE hA hS hK hP hD (isC := [0, 2]) (by decide +kernel) hC (q0 := 0) (ci := 10) rfl rfl) rfl rfl hl.1 rfl (lv_room (Nat.le_of_ble_eq_true rfl)) (zdt zkX10_terms 32 rfl) ⟨Nat.le_refl _, Nat.le_refl _⟩) hP hD hS hA (by decide +kernel) rfl hC rfl rfl (fun H locs hP hD hS => ?_)
    obtain rfl := Option.some.inj hf
    exact hret _ _ _ _ rfl (zdt zkX10_terms 35 rfl) hP hD hS
  unfold f_HS_terms at hf
  refine lv_iload_n hx hb (zdt zkX10_terms 0 rfl) rfl (lv_at hl 1 rfl) ?_
  refine xi_if_lt (tgt := 30) hx hb (zdt zkX10_terms 1 rfl) (by decide) hf (fun hf => ?_) (fun hf => ?_)
  · exact b_30  _ _ _ _ _ _ _ hf hP hD hS (lv_sub hl [0] rfl)
  · refine lv_iload_n hx hb (zdt zkX10_terms 4 rfl) rfl (lv_at hl 1 rfl) ?_
    refine va_gets (C := "HillSchool") (n := "FIRST_TERMS") (d := "[I") (v := .ref (ev.1 2)) hx hb (hE.2.1 2 (by decide)).1 hS hown (hz _ zw_617) (fun _ h9 => h9) (zdt zkX10_terms 5 rfl) ?_
    refine va_tlen (v := Int32.ofInt 4) hx hb (hE.2.1 2 (by decide)).2.1 hS (by decide +kernel) (zdt zkX10_terms 8 rfl) ?_
    refine xi_icmp_ge (tgt := 30) hx hb (zdt zkX10_terms 9 rfl) (by decide) hf (fun hf => ?_) (fun hf => ?_)
    · exact b_30  _ _ _ _ _ _ _ hf hP hD hS (lv_sub hl [0] rfl)
    · refine lv_iload_n hx hb (zdt zkX10_terms 12 rfl) rfl (lv_at hl 2 rfl) ?_
      refine va_gets (C := "HillSchool") (n := "LEAST_TERMS") (d := "[I") (v := .ref (ev.1 0)) hx hb (hE.2.1 0 (by decide)).1 hS hown (hz _ zw_618) (fun _ h9 => h9) (zdt zkX10_terms 13 rfl) ?_
      refine lv_iload_n hx hb (zdt zkX10_terms 16 rfl) rfl (lv_at hl 1 rfl) ?_
      refine xi_kald hx hb (hE.2.1 0 (by decide)).2.1 hS (zdt zkX10_terms 17 rfl) hf (fun v1 hf => ?_)
      refine xi_icmp_lt (tgt := 30) hx hb (zdt zkX10_terms 18 rfl) (by decide) hf (fun hf => ?_) (fun hf => ?_)
      · exact b_30  _ _ _ _ _ _ _ hf hP hD hS (lv_sub hl [0] rfl)
      · refine lv_iload_n hx hb (zdt zkX10_terms 21 rfl) rfl (lv_at hl 2 rfl) ?_
        refine va_gets (C := "HillSchool") (n := "MOST_TERMS") (d := "[I") (v := .ref (ev.1 1)) hx hb (hE.2.1 1 (by decide)).1 hS hown (hz _ zw_620) (fun _ h9 => h9) (zdt zkX10_terms 22 rfl) ?_
        refine lv_iload_n hx hb (zdt zkX10_terms 25 rfl) rfl (lv_at hl 1 rfl) ?_
        refine xi_kald hx hb (hE.2.1 1 (by decide)).2.1 hS (zdt zkX10_terms 26 rfl) hf (fun v2 hf => ?_)
        refine xi_icmp_le (tgt := 36) hx hb (zdt zkX10_terms 27 rfl) (by decide) hf (fun hf => ?_) (fun hf => ?_)
        · refine lv_aload_n hx hb (zdt zkX10_terms 36 rfl) rfl (lv_at hl 0 rfl) ?_
          refine va_get (D := (dC, dI)) (ci := 10) (v := .ref q1) (C := RX10) (T := TX10) (N := 16) hx hb hz zi_X10 hown hK hP 0 rfl rfl 0 (by decide) (hz _ zw_477) (fun _ h9 => h9) rfl (zdt zkX10_terms 37 rfl) ?_
          refine va_getN (D := (dC, dI)) (ci := 2) (v := .ref q18) (C := RX2) (T := TX2) (N := 14) hx hb hz zi_X2 hown hK hP 1 rfl rfl 7 (by decide) (va_Nw.use rfl (hE.1.1 _ zw_191)) (fun _ h9 => h9) rfl (zdt zkX10_terms 40 rfl) ?_
          refine lv_iload_n hx hb (zdt zkX10_terms 43 rfl) rfl (lv_at hl 1 rfl) ?_
          refine xi_iald hx hb hK hP 3 0 rfl rfl (zdt zkX10_terms 44 rfl) hf (fun v3 hf => ?_)
          refine lv_istore_n (lv' := [(3, .int (Int32.ofInt v3)), (0, .ref q0), (1, .int (Int32.ofInt x1)), (2, .int (Int32.ofInt x2))]) hx hb (zdt zkX10_terms 45 rfl) rfl hl (by decide) rfl (fun ls hl => ?_)
          refine lv_aload_n hx hb (zdt zkX10_terms 46 rfl) rfl (lv_at hl 1 rfl) ?_
          refine va_get (D := (dC, dI)) (ci := 10) (v := .ref q1) (C := RX10) (T := TX10) (N := 16) hx hb hz zi_X10 hown hK hP 0 rfl rfl 0 (by decide) (hz _ zw_477) (fun _ h9 => h9) rfl (zdt zkX10_terms 47 rfl) ?_
          refine va_getN (D := (dC, dI)) (ci := 2) (v := .ref q18) (C := RX2) (T := TX2) (N := 14) hx hb hz zi_X2 hown hK hP 1 rfl rfl 7 (by decide) (va_Nw.use rfl (hE.1.1 _ zw_191)) (fun _ h9 => h9) rfl (zdt zkX10_terms 50 rfl) ?_
          refine lv_iload_n hx hb (zdt zkX10_terms 53 rfl) rfl (lv_at hl 2 rfl) ?_
          refine lv_iload_n hx hb (zdt zkX10_terms 54 rfl) rfl (lv_at hl 3 rfl) ?_
          refine xi_iast hx hb hK hP hD hS 3 0 rfl rfl (zdt zkX10_terms 55 rfl) hf (fun a4 H locs hP hD hS hf => ?_)
          refine xw_PD (wd_HS_terms cA q0 q1 q2 q3 q4 q5 q6 q7 q8 q9 q10 q11 q12 q13 q14 q15 q16 q17 q18 q19 q20 q21 u0 u1 u2 u3 u4 u5 u6 i_latestStatus i_hill_changes i_refusals a4) hP hD (fun hP hD => ?_)
          refine lv_aload_n hx hb (zdt zkX10_terms 56 rfl) rfl (lv_at hl 1 rfl) ?_
          refine lv_iload_n hx hb (zdt zkX10_terms 57 rfl) rfl (lv_at hl 0 rfl) ?_
          refine xe_d3 hf (fun v5 v6 v7 hg hf => ?_)
          have hC : ([0, 1] : List Nat).map (fun i => (wd_HS_terms cA q0 q1 q2 q3 q4 q5 q6 q7 q8 q9 q10 q11 q12 q13 q14 q15 q16 q17 q18 q19 q20 q21 u0 u1 u2 u3 u4 u5 u6 i_latestStatus i_hill_changes i_refusals a4)[i]?) = (wd_HS_accept cA q0 q1 q2 q3 q4 q5 q6 q7 q8 q9 q10 q11 q12 q13 q14 q15 q16 q17 q18 q19 q20 q21 u0 u1 u2 u3 u4 u5 u6 i_latestStatus i_hill_changes).map some := rfl
          refine xv_afterI (ws' := (wd_HS_terms cA q0 q1 q2 q3 q4 q5 q6 q7 q8 q9 q10 q11 q12 q13 q14 q15 q16 q17 q18 q19 q20 q21 u0 u1 u2 u3 u4 u5 u6 v6 v7 i_refusals a4)) (isC := [0, 1]) (ps := [some 0, some 1, none, none]) (va_runV (As := [.int (Int32.ofInt v3)]) (rest := []) ⟨hx, hb, hml, hown, hts⟩ (c_HS_accept l ev dC dI cA q0 q1 q2 q3 q4 q5 q6 q7 q8 q9 q10 q11 q12 q13 q14 q15 q16 q17 q18 q19 q20 q21 u0 u1 u2 u3 u4 u5 u6 hg H.size) (cwV 1 hts (zgV zw_538 zw_540 zw_1 zw_104 zw_541) rfl rfl rfl hd_HS_accept ⟨Nat.le_of_ble_eq_true rfl, Nat.le_of_ble_eq_true rfl⟩) (xv_preV (T := TX10) (N := 16) hE hA hS hK hP hD (isC := [0, 1]) (by decide +kernel) hC (q0 := 0) (ci := 10) rfl rfl) rfl rfl hl.1 rfl (lv_room (Nat.le_of_ble_eq_true rfl)) (zdt zkX10_terms 58 rfl) ⟨Nat.le_refl _, Nat.le_refl _⟩) hP hD hS hA (by decide +kernel) rfl hC rfl rfl (fun H locs hP hD hS => ?_)
          obtain rfl := Option.some.inj hf
          exact hret _ _ _ _ rfl (zdt zkX10_terms 61 rfl) hP hD hS
        · exact b_30  _ _ _ _ _ _ _ hf hP hD hS (lv_sub hl [0] rfl)
set_option maxRecDepth 100000 in
noncomputable def ztX10_feedFour (p : Nat) : Option (Jvm.ClassFile.Instr × Nat) := bif Nat.ble 26 p then (bif Nat.ble 35 p then (bif Nat.ble 40 p then (bif Nat.ble 46 p then (bif Nat.ble 49 p then (bif Nat.beq p 49 then some (.return_, 1) else none) else (bif Nat.beq p 46 then some (.goto (-43), 3) else none)) else (bif Nat.ble 43 p then (bif Nat.beq p 43 then some (.iinc 2 (-8), 3) else none) else (bif Nat.beq p 40 then some (.putfield 28, 3) else none))) else (bif Nat.ble 38 p then (bif Nat.ble 39 p then (bif Nat.beq p 39 then some (.iadd, 1) else none) else (bif Nat.beq p 38 then some (.iconst 1, 1) else none)) else (bif Nat.beq p 35 then some (.getfield 28, 3) else none))) else (bif Nat.ble 31 p then (bif Nat.ble 33 p then (bif Nat.ble 34 p then (bif Nat.beq p 34 then some (.dup, 1) else none) else (bif Nat.beq p 33 then some (.aload_n 0, 1) else none)) else (bif Nat.ble 32 p then (bif Nat.beq p 32 then some (.iastore, 1) else none) else (bif Nat.beq p 31 then some (.iand, 1) else none))) else (bif Nat.ble 27 p then (bif Nat.ble 28 p then (bif Nat.beq p 28 then some (.sipush 255, 3) else none) else (bif Nat.beq p 27 then some (.iushr, 1) else none)) else (bif Nat.beq p 26 then some (.iload_n 2, 1) else none)))) else (bif Nat.ble 11 p then (bif Nat.ble 18 p then (bif Nat.ble 22 p then (bif Nat.ble 25 p then (bif Nat.beq p 25 then some (.iload_n 1, 1) else none) else (bif Nat.beq p 22 then some (.getfield 28, 3) else none)) else (bif Nat.ble 21 p then (bif Nat.beq p 21 then some (.aload_n 0, 1) else none) else (bif Nat.beq p 18 then some (.getfield 24, 3) else none))) else (bif Nat.ble 14 p then (bif Nat.ble 17 p then (bif Nat.beq p 17 then some (.aload_n 0, 1) else none) else (bif Nat.beq p 14 then some (.if_icmp .ge 35, 3) else none)) else (bif Nat.beq p 11 then some (.sipush 400, 3) else none))) else (bif Nat.ble 4 p then (bif Nat.ble 7 p then (bif Nat.ble 8 p then (bif Nat.beq p 8 then some (.getfield 28, 3) else none) else (bif Nat.beq p 7 then some (.aload_n 0, 1) else none)) else (bif Nat.beq p 4 then some (.ifCond .lt 45, 3) else none)) else (bif Nat.ble 2 p then (bif Nat.ble 3 p then (bif Nat.beq p 3 then some (.iload_n 2, 1) else none) else (bif Nat.beq p 2 then some (.istore_n 2, 1) else none)) else (bif Nat.beq p 0 then some (.bipush 24, 2) else none))))
set_option maxRecDepth 100000 in
theorem zkX10_feedFour : (zbig cX10_feedFour.data.toList = 1793815681170322497476874069570122006073566570822132715409955851538749520886374697351231240495963289442164072769577097232 ∧ cX10_feedFour.data.toList.length = 50) ∧ zdk cX10_feedFour 1793815681170322497476874069570122006073566570822132715409955851538749520886374697351231240495963289442164072769577097232 50 ztX10_feedFour 49 = true := by decide +kernel
theorem zw_480 : (Jvm.Cond.fieldLink "HillSchool" (24 : Nat) "HillSchool" "tape" "[I") ∈ zall := zmemG (zmj_2 137 rfl) rfl
theorem zw_481 : (Jvm.Cond.fieldLink "HillSchool" (28 : Nat) "HillSchool" "taped" "I") ∈ zall := zmemG (zmj_2 138 rfl) rfl
theorem zw_629 : (Jvm.Cond.code ({ cls := "HillSchool", name := "feedFour", desc := "(I)V" } : Jvm.MethodName) prog_1_method_42_code (3 : Nat) (Option.none : Option Jvm.ClassFile.FieldType)) ∈ zall := zmemG (zmj_3 46 rfl) rfl
noncomputable abbrev w_HS_feedFour : List Cond := .code yX10_feedFour cX10_feedFour 3 none :: zall
noncomputable abbrev rm_HS_feedFour : Room := { frames := 0, cells := 0, slots := 0, locals := 0 }
theorem hd_HS_feedFour : yX10_feedFour.cls = "HillSchool" ∧ yX10_feedFour.cls ≠ "java/lang/invoke/MethodHandle" ∧ yX10_feedFour.cls ≠ "java/lang/invoke/VarHandle" ∧ (parseMethodDescriptor yX10_feedFour.desc).map (fun d => d.parameters.length) = some 1 := by decide +kernel
noncomputable def wd_HS_feedFour (cA : Nat → ClassId) (q0 q1 q2 q3 q4 q5 q6 q7 q8 q9 q10 q11 q12 : Nat) (u0 u1 u2 : Int)  (i_taped : Int) (i_tape : Nat → Int) : va_W := [(q0, .inr (10, [.ref q1, .ref q2, .ref q3, .ref q4, .int (Int32.ofInt i_taped), .int (Int32.ofInt u0), .int (Int32.ofInt u1), .ref q5, .int (Int32.ofInt u2), .ref q6, .ref q7, .ref q8, .ref q9, .ref q10, .ref q11, .ref q12])), (q4, .inl (cA 0, 400, .inl (za i_tape)))]
noncomputable def wf_HS_feedFour (cA : Nat → ClassId) (q0 q1 q2 q3 q4 q5 q6 q7 q8 q9 q10 q11 q12 : Nat) (u0 u1 u2 : Int)  (o : Int × (Nat → Int)) : va_W := wd_HS_feedFour cA q0 q1 q2 q3 q4 q5 q6 q7 q8 q9 q10 q11 q12 u0 u1 u2 o.1 o.2
noncomputable def f_HS_feedFour_3_b  (k3 : Int → Int → Int → (Nat → Int) → Option (Int × (Nat → Int))) (x1 : Int) (x2 : Int) (i_taped : Int) (i_tape : Nat → Int) : Option (Int × (Nat → Int)) :=
  if zi_w x2 < 0 then
    some (i_taped, i_tape)
  else
    if zi_w 400 ≤ zi_w i_taped then
      some (i_taped, i_tape)
    else
      zn (zi_ushr x1 x2) fun v1 =>
      zn (zi_and v1 255) fun v2 =>
      zs 400 i_tape i_taped v2 fun a3 =>
      zn (i_taped + 1) fun v4 =>
      zn (x2 + (-8)) fun v5 =>
      k3 x1 v5 v4 a3
noncomputable def f_HS_feedFour_3  : Nat → Int → Int → Int → (Nat → Int) → Option (Int × (Nat → Int))
  | 0 => fun _ _ _ _ => none
  | n + 1 => fun y0 y1 y2 y3 => f_HS_feedFour_3_b  (f_HS_feedFour_3  n) y0 y1 y2 y3
noncomputable def f_HS_feedFour (x1 : Int) (i_taped : Int) (i_tape : Nat → Int) : Option (Int × (Nat → Int)) :=
  f_HS_feedFour_3 zfu x1 24 i_taped i_tape
set_option maxHeartbeats 4000000 in
set_option maxRecDepth 100000 in
theorem c_HS_feedFour (l : Launch) (ev : zEv) (dC : Nat → ClassId) (dI : Nat → Nat → Nat) (cA : Nat → ClassId) (q0 q1 q2 q3 q4 q5 q6 q7 q8 q9 q10 q11 q12 : Nat) (u0 u1 u2 : Int) {x1 : Int} {i_taped : Int} {i_tape : Nat → Int} {out : Int × (Nat → Int)} (hf : f_HS_feedFour x1 i_taped i_tape = some out) : xc_V l ev (dC, dI) vwCl (tyl cA) yX10_feedFour w_HS_feedFour rm_HS_feedFour [.ref q0, .int (Int32.ofInt x1)] (wd_HS_feedFour cA q0 q1 q2 q3 q4 q5 q6 q7 q8 q9 q10 q11 q12 u0 u1 u2 i_taped i_tape) (wf_HS_feedFour cA q0 q1 q2 q3 q4 q5 q6 q7 q8 q9 q10 q11 q12 u0 u1 u2 out) := by
  refine xv_startV (cc := cX10_feedFour) (maxL := 3) (by decide +kernel) rfl (Nat.le_of_ble_eq_true rfl) ?_
  intro p e s m args below meth c A Q H ls hx hb hml hts hown hK hA hP hD hS hl hE hret
  have hown : s.vm.findClass "HillSchool" = some m.cls := hown
  have hz : ∀ w ∈ zall, w.before args s = true := fun w h => hts w (List.mem_cons_of_mem _ h)
  have hl : lv_has ls 3 [(0, .ref q0), (1, .int (Int32.ofInt x1))] := hl
  have b_3 : ∀ (k3 : Int → Int → Int → (Nat → Int) → Option (Int × (Nat → Int))) (_ : ∀ (x1 : Int) (x2 : Int) (i_taped : Int) (i_tape : Nat → Int) (H : Heap) (locs : List Loc) (ls : Array Slot), k3 x1 x2 i_taped i_tape = some out → va_P (dC, dI) vwCl (wd_HS_feedFour cA q0 q1 q2 q3 q4 q5 q6 q7 q8 q9 q10 q11 q12 u0 u1 u2 i_taped i_tape) H → va_D A (wd_HS_feedFour cA q0 q1 q2 q3 q4 q5 q6 q7 q8 q9 q10 q11 q12 u0 u1 u2 i_taped i_tape) → va_S A s.heap H locs → lv_has ls 3 [(0, .ref q0), (1, .int (Int32.ofInt x1)), (2, .int (Int32.ofInt x2))] → W p l e rm_HS_feedFour s m args below meth c H locs 0 0 Q (F0 m 3 ls [])), ∀ (x1 : Int) (x2 : Int) (i_taped : Int) (i_tape : Nat → Int) (H : Heap) (locs : List Loc) (ls : Array Slot), f_HS_feedFour_3_b k3 x1 x2 i_taped i_tape = some out → va_P (dC, dI) vwCl (wd_HS_feedFour cA q0 q1 q2 q3 q4 q5 q6 q7 q8 q9 q10 q11 q12 u0 u1 u2 i_taped i_tape) H → va_D A (wd_HS_feedFour cA q0 q1 q2 q3 q4 q5 q6 q7 q8 q9 q10 q11 q12 u0 u1 u2 i_taped i_tape) → va_S A s.heap H locs → lv_has ls 3 [(0, .ref q0), (1, .int (Int32.ofInt x1)), (2, .int (Int32.ofInt x2))] → W p l e rm_HS_feedFour s m args below meth c H locs 0 0 Q (F0 m 3 ls []) := by
    intro k3 ih3 x1 x2 i_taped i_tape H locs ls hf hP hD hS hl
    unfold f_HS_feedFour_3_b at hf
    refine lv_iload_n hx hb (zdt zkX10_feedFour 3 rfl) rfl (lv_at hl 2 rfl) ?_
    refine xi_if_lt (tgt := 49) hx hb (zdt zkX10_feedFour 4 rfl) (by decide) hf (fun hf => ?_) (fun hf => ?_)
    · obtain rfl := Option.some.inj hf
      exact hret _ _ _ _ (zdt zkX10_feedFour 49 rfl) hP hD hS
    · refine lv_aload_n hx hb (zdt zkX10_feedFour 7 rfl) rfl (lv_at hl 0 rfl) ?_
      refine va_get (D := (dC, dI)) (ci := 10) (v := .int (Int32.ofInt i_taped)) (C := RX10) (T := TX10) (N := 16) hx hb hz zi_X10 hown hK hP 0 rfl rfl 4 (by decide) (hz _ zw_481) (fun _ h9 => h9) rfl (zdt zkX10_feedFour 8 rfl) ?_
      refine lv_sipush (v := Int32.ofInt 400) hx hb (zdt zkX10_feedFour 11 rfl) (by decide) ?_
      refine xi_icmp_ge (tgt := 49) hx hb (zdt zkX10_feedFour 14 rfl) (by decide) hf (fun hf => ?_) (fun hf => ?_)
      · obtain rfl := Option.some.inj hf
        exact hret _ _ _ _ (zdt zkX10_feedFour 49 rfl) hP hD hS
      · refine lv_aload_n hx hb (zdt zkX10_feedFour 17 rfl) rfl (lv_at hl 0 rfl) ?_
        refine va_get (D := (dC, dI)) (ci := 10) (v := .ref q4) (C := RX10) (T := TX10) (N := 16) hx hb hz zi_X10 hown hK hP 0 rfl rfl 3 (by decide) (hz _ zw_480) (fun _ h9 => h9) rfl (zdt zkX10_feedFour 18 rfl) ?_
        refine lv_aload_n hx hb (zdt zkX10_feedFour 21 rfl) rfl (lv_at hl 0 rfl) ?_
        refine va_get (D := (dC, dI)) (ci := 10) (v := .int (Int32.ofInt i_taped)) (C := RX10) (T := TX10) (N := 16) hx hb hz zi_X10 hown hK hP 0 rfl rfl 4 (by decide) (hz _ zw_481) (fun _ h9 => h9) rfl (zdt zkX10_feedFour 22 rfl) ?_
        refine lv_iload_n hx hb (zdt zkX10_feedFour 25 rfl) rfl (lv_at hl 1 rfl) ?_
        refine lv_iload_n hx hb (zdt zkX10_feedFour 26 rfl) rfl (lv_at hl 2 rfl) ?_
        refine xi_iushr hx hb (zdt zkX10_feedFour 27 rfl) hf (fun v1 hf => ?_)
        refine lv_sipush (v := Int32.ofInt 255) hx hb (zdt zkX10_feedFour 28 rfl) (by decide) ?_
        refine xi_iand hx hb (zdt zkX10_feedFour 31 rfl) hf (fun v2 hf => ?_)
        refine xi_iast hx hb hK hP hD hS 1 0 rfl rfl (zdt zkX10_feedFour 32 rfl) hf (fun a3 H locs hP hD hS hf => ?_)
        refine xw_PD (wd_HS_feedFour cA q0 q1 q2 q3 q4 q5 q6 q7 q8 q9 q10 q11 q12 u0 u1 u2 i_taped a3) hP hD (fun hP hD => ?_)
        refine lv_aload_n hx hb (zdt zkX10_feedFour 33 rfl) rfl (lv_at hl 0 rfl) ?_
        refine lv_dup hx hb (zdt zkX10_feedFour 34 rfl) rfl ?_
        refine va_get (D := (dC, dI)) (ci := 10) (v := .int (Int32.ofInt i_taped)) (C := RX10) (T := TX10) (N := 16) hx hb hz zi_X10 hown hK hP 0 rfl rfl 4 (by decide) (hz _ zw_481) (fun _ h9 => h9) rfl (zdt zkX10_feedFour 35 rfl) ?_
        refine lv_iconst (v := Int32.ofInt 1) hx hb (zdt zkX10_feedFour 38 rfl) rfl ?_
        refine xi_iadd hx hb (zdt zkX10_feedFour 39 rfl) hf (fun v4 hf => ?_)
        refine va_put (D := (dC, dI)) (ci := 10) (v := .int (Int32.ofInt v4)) (ty := .int) (C := RX10) (T := TX10) (N := 16) hx hb hz zi_X10 tyX10 tyX10_ok nmX10 hown hK hP hD hS 0 rfl rfl 4 (by decide) (hz _ zw_481) (fun _ h9 => h9) rfl (by decide +kernel) rfl rfl (Nat.le_of_ble_eq_true rfl) (zdt zkX10_feedFour 40 rfl) (fun H locs hP hD hS => ?_)
        refine xw_PD (wd_HS_feedFour cA q0 q1 q2 q3 q4 q5 q6 q7 q8 q9 q10 q11 q12 u0 u1 u2 v4 a3) hP hD (fun hP hD => ?_)
        refine xi_iinc hx hb (zdt zkX10_feedFour 43 rfl) hl (k := 2) rfl (by decide) hf (fun v5 ls hl hf => ?_)
        have hl : lv_has ls 3 [(2, .int (Int32.ofInt v5)), (0, .ref q0), (1, .int (Int32.ofInt x1))] := hl
        refine lv_goto (tgt := 3) hx hb (zdt zkX10_feedFour 46 rfl) (by decide) ?_
        exact ih3 _ _ _ _ _ _ _ hf hP hD hS (lv_sub hl [1, 2, 0] rfl)
  have l_3 : ∀ (n : Nat), ∀ (x1 : Int) (x2 : Int) (i_taped : Int) (i_tape : Nat → Int) (H : Heap) (locs : List Loc) (ls : Array Slot), f_HS_feedFour_3 n x1 x2 i_taped i_tape = some out → va_P (dC, dI) vwCl (wd_HS_feedFour cA q0 q1 q2 q3 q4 q5 q6 q7 q8 q9 q10 q11 q12 u0 u1 u2 i_taped i_tape) H → va_D A (wd_HS_feedFour cA q0 q1 q2 q3 q4 q5 q6 q7 q8 q9 q10 q11 q12 u0 u1 u2 i_taped i_tape) → va_S A s.heap H locs → lv_has ls 3 [(0, .ref q0), (1, .int (Int32.ofInt x1)), (2, .int (Int32.ofInt x2))] → W p l e rm_HS_feedFour s m args below meth c H locs 0 0 Q (F0 m 3 ls []) := by
    intro n
    induction n with
    | zero => intro x1 x2 i_taped i_tape H locs ls hf hP hD hS hl; exact nomatch hf
    | succ n ih => intro x1 x2 i_taped i_tape H locs ls hf hP hD hS hl; exact b_3 (f_HS_feedFour_3 n) ih x1 x2 i_taped i_tape H locs ls hf hP hD hS hl
  unfold f_HS_feedFour at hf
  refine lv_bipush (v := Int32.ofInt 24) hx hb (zdt zkX10_feedFour 0 rfl) (by decide) ?_
  refine lv_istore_n (lv' := [(2, .int (Int32.ofInt 24)), (0, .ref q0), (1, .int (Int32.ofInt x1))]) hx hb (zdt zkX10_feedFour 2 rfl) rfl hl (by decide) rfl (fun ls hl => ?_)
  exact l_3  _ _ _ _ _ _ _ _ hf hP hD hS (lv_sub hl [1, 2, 0] rfl)
set_option maxRecDepth 100000 in
noncomputable def ztX10_feed (p : Nat) : Option (Jvm.ClassFile.Instr × Nat) := bif Nat.ble 22 p then (bif Nat.ble 33 p then (bif Nat.ble 39 p then (bif Nat.ble 43 p then (bif Nat.ble 46 p then (bif Nat.beq p 46 then some (.ireturn, 1) else none) else (bif Nat.beq p 43 then some (.getfield 28, 3) else none)) else (bif Nat.ble 42 p then (bif Nat.beq p 42 then some (.aload_n 0, 1) else none) else (bif Nat.beq p 39 then some (.invokevirtual 179, 3) else none))) else (bif Nat.ble 36 p then (bif Nat.ble 37 p then (bif Nat.beq p 37 then some (.iload 5, 2) else none) else (bif Nat.beq p 36 then some (.aload_n 0, 1) else none)) else (bif Nat.beq p 33 then some (.invokevirtual 179, 3) else none))) else (bif Nat.ble 27 p then (bif Nat.ble 30 p then (bif Nat.ble 31 p then (bif Nat.beq p 31 then some (.iload 4, 2) else none) else (bif Nat.beq p 30 then some (.aload_n 0, 1) else none)) else (bif Nat.beq p 27 then some (.invokevirtual 179, 3) else none)) else (bif Nat.ble 25 p then (bif Nat.ble 26 p then (bif Nat.beq p 26 then some (.iload_n 3, 1) else none) else (bif Nat.beq p 25 then some (.aload_n 0, 1) else none)) else (bif Nat.beq p 22 then some (.invokevirtual 179, 3) else none)))) else (bif Nat.ble 13 p then (bif Nat.ble 16 p then (bif Nat.ble 20 p then (bif Nat.ble 21 p then (bif Nat.beq p 21 then some (.iload_n 2, 1) else none) else (bif Nat.beq p 20 then some (.aload_n 0, 1) else none)) else (bif Nat.ble 17 p then (bif Nat.beq p 17 then some (.invokevirtual 179, 3) else none) else (bif Nat.beq p 16 then some (.iload_n 1, 1) else none))) else (bif Nat.ble 14 p then (bif Nat.ble 15 p then (bif Nat.beq p 15 then some (.aload_n 0, 1) else none) else (bif Nat.beq p 14 then some (.ireturn, 1) else none)) else (bif Nat.beq p 13 then some (.iconst (-1), 1) else none))) else (bif Nat.ble 6 p then (bif Nat.ble 7 p then (bif Nat.ble 10 p then (bif Nat.beq p 10 then some (.if_icmp .le 5, 3) else none) else (bif Nat.beq p 7 then some (.sipush 400, 3) else none)) else (bif Nat.beq p 6 then some (.iadd, 1) else none)) else (bif Nat.ble 1 p then (bif Nat.ble 4 p then (bif Nat.beq p 4 then some (.bipush 20, 2) else none) else (bif Nat.beq p 1 then some (.getfield 28, 3) else none)) else (bif Nat.beq p 0 then some (.aload_n 0, 1) else none))))
set_option maxRecDepth 100000 in
theorem zkX10_feed : (zbig cX10_feed.data.toList = 103476792653457160429756358409467678904256810136187480955345459810101237783241126257010074620491364620660346237994 ∧ cX10_feed.data.toList.length = 47) ∧ zdk cX10_feed 103476792653457160429756358409467678904256810136187480955345459810101237783241126257010074620491364620660346237994 47 ztX10_feed 46 = true := by decide +kernel
theorem zw_2 : (Jvm.Cond.selects "HillSchool" ({ cls := "HillSchool", name := "feedFour", desc := "(I)V" } : Jvm.MethodName) ({ cls := "HillSchool", name := "feedFour", desc := "(I)V" } : Jvm.MethodName)) ∈ zall := zmemG (zmj_0 2 rfl) rfl
theorem zw_625 : (Jvm.Cond.code ({ cls := "HillSchool", name := "feed", desc := "(IIIII)I" } : Jvm.MethodName) prog_1_method_12_code (6 : Nat) (Option.some Jvm.ClassFile.FieldType.int)) ∈ zall := zmemG (zmj_3 42 rfl) rfl
theorem zw_626 : (Jvm.Cond.methodLink "HillSchool" (179 : Nat) ({ cls := "HillSchool", name := "feedFour", desc := "(I)V" } : Jvm.MethodName)) ∈ zall := zmemG (zmj_3 43 rfl) rfl
theorem zw_628 : (Jvm.Cond.instanceMethod ({ cls := "HillSchool", name := "feedFour", desc := "(I)V" } : Jvm.MethodName)) ∈ zall := zmemG (zmj_3 45 rfl) rfl
noncomputable abbrev w_HS_feed : List Cond := .code yX10_feed cX10_feed 6 (some .int) :: zall
noncomputable abbrev rm_HS_feed : Room := { frames := 1, cells := 0, slots := 0, locals := 22 }
theorem hd_HS_feed : yX10_feed.cls = "HillSchool" ∧ yX10_feed.cls ≠ "java/lang/invoke/MethodHandle" ∧ yX10_feed.cls ≠ "java/lang/invoke/VarHandle" ∧ (parseMethodDescriptor yX10_feed.desc).map (fun d => d.parameters.length) = some 5 := by decide +kernel
noncomputable def wd_HS_feed (cA : Nat → ClassId) (q0 q1 q2 q3 q4 q5 q6 q7 q8 q9 q10 q11 q12 : Nat) (u0 u1 u2 : Int)  (i_taped : Int) (i_tape : Nat → Int) : va_W := [(q0, .inr (10, [.ref q1, .ref q2, .ref q3, .ref q4, .int (Int32.ofInt i_taped), .int (Int32.ofInt u0), .int (Int32.ofInt u1), .ref q5, .int (Int32.ofInt u2), .ref q6, .ref q7, .ref q8, .ref q9, .ref q10, .ref q11, .ref q12])), (q4, .inl (cA 0, 400, .inl (za i_tape)))]
noncomputable def wf_HS_feed (cA : Nat → ClassId) (q0 q1 q2 q3 q4 q5 q6 q7 q8 q9 q10 q11 q12 : Nat) (u0 u1 u2 : Int)  (o : Int × Int × (Nat → Int)) : va_W := wd_HS_feed cA q0 q1 q2 q3 q4 q5 q6 q7 q8 q9 q10 q11 q12 u0 u1 u2 o.2.1 o.2.2
noncomputable def f_HS_feed (x1 : Int) (x2 : Int) (x3 : Int) (x4 : Int) (x5 : Int) (i_taped : Int) (i_tape : Nat → Int) : Option (Int × Int × (Nat → Int)) :=
  zn (i_taped + 20) fun v1 =>
  if zi_w v1 ≤ zi_w 400 then
    zd2 (f_HS_feedFour x1 i_taped i_tape) fun v2 a3 =>
    zd2 (f_HS_feedFour x2 v2 a3) fun v4 a5 =>
    zd2 (f_HS_feedFour x3 v4 a5) fun v6 a7 =>
    zd2 (f_HS_feedFour x4 v6 a7) fun v8 a9 =>
    zd2 (f_HS_feedFour x5 v8 a9) fun v10 a11 =>
    some (v10, v10, a11)
  else
    some ((-1), i_taped, i_tape)
set_option maxHeartbeats 4000000 in
set_option maxRecDepth 100000 in
theorem c_HS_feed (l : Launch) (ev : zEv) (dC : Nat → ClassId) (dI : Nat → Nat → Nat) (cA : Nat → ClassId) (q0 q1 q2 q3 q4 q5 q6 q7 q8 q9 q10 q11 q12 : Nat) (u0 u1 u2 : Int) {x1 x2 x3 x4 x5 : Int} {i_taped : Int} {i_tape : Nat → Int} {out : Int × Int × (Nat → Int)} (hf : f_HS_feed x1 x2 x3 x4 x5 i_taped i_tape = some out) : xc_I l ev (dC, dI) vwCl (tyl cA) yX10_feed w_HS_feed rm_HS_feed [.ref q0, .int (Int32.ofInt x1), .int (Int32.ofInt x2), .int (Int32.ofInt x3), .int (Int32.ofInt x4), .int (Int32.ofInt x5)] (wd_HS_feed cA q0 q1 q2 q3 q4 q5 q6 q7 q8 q9 q10 q11 q12 u0 u1 u2 i_taped i_tape) (wf_HS_feed cA q0 q1 q2 q3 q4 q5 q6 q7 q8 q9 q10 q11 q12 u0 u1 u2 out) out.1 := by
  refine xv_startI (cc := cX10_feed) (maxL := 6) (rt := .int) (by decide +kernel) rfl (Nat.le_of_ble_eq_true rfl) ?_
  intro p e s m args below meth c A Q H ls hx hb hml hts hown hK hA hP hD hS hl hE hret
  have hown : s.vm.findClass "HillSchool" = some m.cls := hown
  have hz : ∀ w ∈ zall, w.before args s = true := fun w h => hts w (List.mem_cons_of_mem _ h)
  have hl : lv_has ls 6 [(0, .ref q0), (1, .int (Int32.ofInt x1)), (2, .int (Int32.ofInt x2)), (3, .int (Int32.ofInt x3)), (4, .int (Int32.ofInt x4)), (5, .int (Int32.ofInt x5))] := hl
  unfold f_HS_feed at hf
  refine lv_aload_n hx hb (zdt zkX10_feed 0 rfl) rfl (lv_at hl 0 rfl) ?_
  refine va_get (D := (dC, dI)) (ci := 10) (v := .int (Int32.ofInt i_taped)) (C := RX10) (T := TX10) (N := 16) hx hb hz zi_X10 hown hK hP 0 rfl rfl 4 (by decide) (hz _ zw_481) (fun _ h9 => h9) rfl (zdt zkX10_feed 1 rfl) ?_
  refine lv_bipush (v := Int32.ofInt 20) hx hb (zdt zkX10_feed 4 rfl) (by decide) ?_
  refine xi_iadd hx hb (zdt zkX10_feed 6 rfl) hf (fun v1 hf => ?_)
  refine lv_sipush (v := Int32.ofInt 400) hx hb (zdt zkX10_feed 7 rfl) (by decide) ?_
  refine xi_icmp_le (tgt := 15) hx hb (zdt zkX10_feed 10 rfl) (by decide) hf (fun hf => ?_) (fun hf => ?_)
  · refine lv_aload_n hx hb (zdt zkX10_feed 15 rfl) rfl (lv_at hl 0 rfl) ?_
    refine lv_iload_n hx hb (zdt zkX10_feed 16 rfl) rfl (lv_at hl 1 rfl) ?_
    refine xe_d2 hf (fun v2 a3 hg hf => ?_)
    have hC : ([0, 1] : List Nat).map (fun i => (wd_HS_feed cA q0 q1 q2 q3 q4 q5 q6 q7 q8 q9 q10 q11 q12 u0 u1 u2 i_taped i_tape)[i]?) = (wd_HS_feedFour cA q0 q1 q2 q3 q4 q5 q6 q7 q8 q9 q10 q11 q12 u0 u1 u2 i_taped i_tape).map some := rfl
    refine xv_afterV (ws' := (wd_HS_feed cA q0 q1 q2 q3 q4 q5 q6 q7 q8 q9 q10 q11 q12 u0 u1 u2 v2 a3)) (isC := [0, 1]) (ps := [some 0, some 1]) (va_runV (As := [.int (Int32.ofInt x1)]) (rest := []) ⟨hx, hb, hml, hown, hts⟩ (c_HS_feedFour l ev dC dI cA q0 q1 q2 q3 q4 q5 q6 q7 q8 q9 q10 q11 q12 u0 u1 u2 hg H.size) (cwV 1 hts (zgV zw_626 zw_628 zw_2 zw_104 zw_629) rfl rfl rfl hd_HS_feedFour ⟨Nat.le_of_ble_eq_true rfl, Nat.le_of_ble_eq_true rfl⟩) (xv_preV (T := TX10) (N := 16) hE hA hS hK hP hD (isC := [0, 1]) (by decide +kernel) hC (q0 := 0) (ci := 10) rfl rfl) rfl rfl hl.1 rfl (lv_room (Nat.le_of_ble_eq_true rfl)) (zdt zkX10_feed 17 rfl) ⟨Nat.le_refl _, Nat.le_refl _⟩) hP hD hS hA (by decide +kernel) rfl hC rfl rfl (fun H locs hP hD hS => ?_)
    refine lv_aload_n hx hb (zdt zkX10_feed 20 rfl) rfl (lv_at hl 0 rfl) ?_
    refine lv_iload_n hx hb (zdt zkX10_feed 21 rfl) rfl (lv_at hl 2 rfl) ?_
    refine xe_d2 hf (fun v4 a5 hg hf => ?_)
    have hC : ([0, 1] : List Nat).map (fun i => (wd_HS_feed cA q0 q1 q2 q3 q4 q5 q6 q7 q8 q9 q10 q11 q12 u0 u1 u2 v2 a3)[i]?) = (wd_HS_feedFour cA q0 q1 q2 q3 q4 q5 q6 q7 q8 q9 q10 q11 q12 u0 u1 u2 v2 a3).map some := rfl
    refine xv_afterV (ws' := (wd_HS_feed cA q0 q1 q2 q3 q4 q5 q6 q7 q8 q9 q10 q11 q12 u0 u1 u2 v4 a5)) (isC := [0, 1]) (ps := [some 0, some 1]) (va_runV (As := [.int (Int32.ofInt x2)]) (rest := []) ⟨hx, hb, hml, hown, hts⟩ (c_HS_feedFour l ev dC dI cA q0 q1 q2 q3 q4 q5 q6 q7 q8 q9 q10 q11 q12 u0 u1 u2 hg H.size) (cwV 1 hts (zgV zw_626 zw_628 zw_2 zw_104 zw_629) rfl rfl rfl hd_HS_feedFour ⟨Nat.le_of_ble_eq_true rfl, Nat.le_of_ble_eq_true rfl⟩) (xv_preV (T := TX10) (N := 16) hE hA hS hK hP hD (isC := [0, 1]) (by decide +kernel) hC (q0 := 0) (ci := 10) rfl rfl) rfl rfl hl.1 rfl (lv_room (Nat.le_of_ble_eq_true rfl)) (zdt zkX10_feed 22 rfl) ⟨Nat.le_refl _, Nat.le_refl _⟩) hP hD hS hA (by decide +kernel) rfl hC rfl rfl (fun H locs hP hD hS => ?_)
    refine lv_aload_n hx hb (zdt zkX10_feed 25 rfl) rfl (lv_at hl 0 rfl) ?_
    refine lv_iload_n hx hb (zdt zkX10_feed 26 rfl) rfl (lv_at hl 3 rfl) ?_
    refine xe_d2 hf (fun v6 a7 hg hf => ?_)
    have hC : ([0, 1] : List Nat).map (fun i => (wd_HS_feed cA q0 q1 q2 q3 q4 q5 q6 q7 q8 q9 q10 q11 q12 u0 u1 u2 v4 a5)[i]?) = (wd_HS_feedFour cA q0 q1 q2 q3 q4 q5 q6 q7 q8 q9 q10 q11 q12 u0 u1 u2 v4 a5).map some := rfl
    refine xv_afterV (ws' := (wd_HS_feed cA q0 q1 q2 q3 q4 q5 q6 q7 q8 q9 q10 q11 q12 u0 u1 u2 v6 a7)) (isC := [0, 1]) (ps := [some 0, some 1]) (va_runV (As := [.int (Int32.ofInt x3)]) (rest := []) ⟨hx, hb, hml, hown, hts⟩ (c_HS_feedFour l ev dC dI cA q0 q1 q2 q3 q4 q5 q6 q7 q8 q9 q10 q11 q12 u0 u1 u2 hg H.size) (cwV 1 hts (zgV zw_626 zw_628 zw_2 zw_104 zw_629) rfl rfl rfl hd_HS_feedFour ⟨Nat.le_of_ble_eq_true rfl, Nat.le_of_ble_eq_true rfl⟩) (xv_preV (T := TX10) (N := 16) hE hA hS hK hP hD (isC := [0, 1]) (by decide +kernel) hC (q0 := 0) (ci := 10) rfl rfl) rfl rfl hl.1 rfl (lv_room (Nat.le_of_ble_eq_true rfl)) (zdt zkX10_feed 27 rfl) ⟨Nat.le_refl _, Nat.le_refl _⟩) hP hD hS hA (by decide +kernel) rfl hC rfl rfl (fun H locs hP hD hS => ?_)
    refine lv_aload_n hx hb (zdt zkX10_feed 30 rfl) rfl (lv_at hl 0 rfl) ?_
    refine lv_iload hx hb (zdt zkX10_feed 31 rfl) (lv_at hl 4 rfl) ?_
    refine xe_d2 hf (fun v8 a9 hg hf => ?_)
    have hC : ([0, 1] : List Nat).map (fun i => (wd_HS_feed cA q0 q1 q2 q3 q4 q5 q6 q7 q8 q9 q10 q11 q12 u0 u1 u2 v6 a7)[i]?) = (wd_HS_feedFour cA q0 q1 q2 q3 q4 q5 q6 q7 q8 q9 q10 q11 q12 u0 u1 u2 v6 a7).map some := rfl
    refine xv_afterV (ws' := (wd_HS_feed cA q0 q1 q2 q3 q4 q5 q6 q7 q8 q9 q10 q11 q12 u0 u1 u2 v8 a9)) (isC := [0, 1]) (ps := [some 0, some 1]) (va_runV (As := [.int (Int32.ofInt x4)]) (rest := []) ⟨hx, hb, hml, hown, hts⟩ (c_HS_feedFour l ev dC dI cA q0 q1 q2 q3 q4 q5 q6 q7 q8 q9 q10 q11 q12 u0 u1 u2 hg H.size) (cwV 1 hts (zgV zw_626 zw_628 zw_2 zw_104 zw_629) rfl rfl rfl hd_HS_feedFour ⟨Nat.le_of_ble_eq_true rfl, Nat.le_of_ble_eq_true rfl⟩) (xv_preV (T := TX10) (N := 16) hE hA hS hK hP hD (isC := [0, 1]) (by decide +kernel) hC (q0 := 0) (ci := 10) rfl rfl) rfl rfl hl.1 rfl (lv_room (Nat.le_of_ble_eq_true rfl)) (zdt zkX10_feed 33 rfl) ⟨Nat.le_refl _, Nat.le_refl _⟩) hP hD hS hA (by decide +kernel) rfl hC rfl rfl (fun H locs hP hD hS => ?_)
    refine lv_aload_n hx hb (zdt zkX10_feed 36 rfl) rfl (lv_at hl 0 rfl) ?_
    refine lv_iload hx hb (zdt zkX10_feed 37 rfl) (lv_at hl 5 rfl) ?_
    refine xe_d2 hf (fun v10 a11 hg hf => ?_)
    have hC : ([0, 1] : List Nat).map (fun i => (wd_HS_feed cA q0 q1 q2 q3 q4 q5 q6 q7 q8 q9 q10 q11 q12 u0 u1 u2 v8 a9)[i]?) = (wd_HS_feedFour cA q0 q1 q2 q3 q4 q5 q6 q7 q8 q9 q10 q11 q12 u0 u1 u2 v8 a9).map some := rfl
    refine xv_afterV (ws' := (wd_HS_feed cA q0 q1 q2 q3 q4 q5 q6 q7 q8 q9 q10 q11 q12 u0 u1 u2 v10 a11)) (isC := [0, 1]) (ps := [some 0, some 1]) (va_runV (As := [.int (Int32.ofInt x5)]) (rest := []) ⟨hx, hb, hml, hown, hts⟩ (c_HS_feedFour l ev dC dI cA q0 q1 q2 q3 q4 q5 q6 q7 q8 q9 q10 q11 q12 u0 u1 u2 hg H.size) (cwV 1 hts (zgV zw_626 zw_628 zw_2 zw_104 zw_629) rfl rfl rfl hd_HS_feedFour ⟨Nat.le_of_ble_eq_true rfl, Nat.le_of_ble_eq_true rfl⟩) (xv_preV (T := TX10) (N := 16) hE hA hS hK hP hD (isC := [0, 1]) (by decide +kernel) hC (q0 := 0) (ci := 10) rfl rfl) rfl rfl hl.1 rfl (lv_room (Nat.le_of_ble_eq_true rfl)) (zdt zkX10_feed 39 rfl) ⟨Nat.le_refl _, Nat.le_refl _⟩) hP hD hS hA (by decide +kernel) rfl hC rfl rfl (fun H locs hP hD hS => ?_)
    refine lv_aload_n hx hb (zdt zkX10_feed 42 rfl) rfl (lv_at hl 0 rfl) ?_
    refine va_get (D := (dC, dI)) (ci := 10) (v := .int (Int32.ofInt v10)) (C := RX10) (T := TX10) (N := 16) hx hb hz zi_X10 hown hK hP 0 rfl rfl 4 (by decide) (hz _ zw_481) (fun _ h9 => h9) rfl (zdt zkX10_feed 43 rfl) ?_
    obtain rfl := Option.some.inj hf
    exact hret _ _ _ _ rfl (zdt zkX10_feed 46 rfl) hP hD hS
  · refine lv_iconst (v := Int32.ofInt (-1)) hx hb (zdt zkX10_feed 13 rfl) rfl ?_
    obtain rfl := Option.some.inj hf
    exact hret _ _ _ _ rfl (zdt zkX10_feed 14 rfl) hP hD hS
set_option maxRecDepth 100000 in
noncomputable def ztX10_end (p : Nat) : Option (Jvm.ClassFile.Instr × Nat) := bif Nat.ble 12 p then (bif Nat.ble 15 p then (bif Nat.ble 19 p then (bif Nat.ble 20 p then (bif Nat.beq p 20 then some (.ireturn, 1) else none) else (bif Nat.beq p 19 then some (.iload_n 1, 1) else none)) else (bif Nat.ble 16 p then (bif Nat.beq p 16 then some (.putfield 28, 3) else none) else (bif Nat.beq p 15 then some (.iload_n 1, 1) else none))) else (bif Nat.ble 13 p then (bif Nat.ble 14 p then (bif Nat.beq p 14 then some (.aload_n 0, 1) else none) else (bif Nat.beq p 13 then some (.ireturn, 1) else none)) else (bif Nat.beq p 12 then some (.iconst (-1), 1) else none))) else (bif Nat.ble 5 p then (bif Nat.ble 6 p then (bif Nat.ble 9 p then (bif Nat.beq p 9 then some (.if_icmp .le 5, 3) else none) else (bif Nat.beq p 6 then some (.getfield 28, 3) else none)) else (bif Nat.beq p 5 then some (.aload_n 0, 1) else none)) else (bif Nat.ble 1 p then (bif Nat.ble 4 p then (bif Nat.beq p 4 then some (.iload_n 1, 1) else none) else (bif Nat.beq p 1 then some (.ifCond .lt 11, 3) else none)) else (bif Nat.beq p 0 then some (.iload_n 1, 1) else none)))
set_option maxRecDepth 100000 in
theorem zkX10_end : (zbig cX10_end.data.toList = 251533048854220323589414618543362075082230404782875 ∧ cX10_end.data.toList.length = 21) ∧ zdk cX10_end 251533048854220323589414618543362075082230404782875 21 ztX10_end 20 = true := by decide +kernel
theorem zw_633 : (Jvm.Cond.code ({ cls := "HillSchool", name := "end", desc := "(I)I" } : Jvm.MethodName) prog_1_method_13_code (2 : Nat) (Option.some Jvm.ClassFile.FieldType.int)) ∈ zall := zmemG (zmj_3 50 rfl) rfl
noncomputable abbrev w_HS_end : List Cond := .code yX10_end cX10_end 2 (some .int) :: zall
noncomputable abbrev rm_HS_end : Room := { frames := 0, cells := 0, slots := 0, locals := 0 }
theorem hd_HS_end : yX10_end.cls = "HillSchool" ∧ yX10_end.cls ≠ "java/lang/invoke/MethodHandle" ∧ yX10_end.cls ≠ "java/lang/invoke/VarHandle" ∧ (parseMethodDescriptor yX10_end.desc).map (fun d => d.parameters.length) = some 1 := by decide +kernel
noncomputable def wd_HS_end (cA : Nat → ClassId) (q0 q1 q2 q3 q4 q5 q6 q7 q8 q9 q10 q11 q12 : Nat) (u0 u1 u2 : Int)  (i_taped : Int) : va_W := [(q0, .inr (10, [.ref q1, .ref q2, .ref q3, .ref q4, .int (Int32.ofInt i_taped), .int (Int32.ofInt u0), .int (Int32.ofInt u1), .ref q5, .int (Int32.ofInt u2), .ref q6, .ref q7, .ref q8, .ref q9, .ref q10, .ref q11, .ref q12]))]
noncomputable def wf_HS_end (cA : Nat → ClassId) (q0 q1 q2 q3 q4 q5 q6 q7 q8 q9 q10 q11 q12 : Nat) (u0 u1 u2 : Int)  (o : Int × Int) : va_W := wd_HS_end cA q0 q1 q2 q3 q4 q5 q6 q7 q8 q9 q10 q11 q12 u0 u1 u2 o.2
noncomputable def f_HS_end (x1 : Int) (i_taped : Int) : Option (Int × Int) :=
  if zi_w x1 < 0 then
    some ((-1), i_taped)
  else
    if zi_w x1 ≤ zi_w i_taped then
      some (x1, x1)
    else
      some ((-1), i_taped)
set_option maxHeartbeats 4000000 in
set_option maxRecDepth 100000 in
theorem c_HS_end (l : Launch) (ev : zEv) (dC : Nat → ClassId) (dI : Nat → Nat → Nat) (cA : Nat → ClassId) (q0 q1 q2 q3 q4 q5 q6 q7 q8 q9 q10 q11 q12 : Nat) (u0 u1 u2 : Int) {x1 : Int} {i_taped : Int} {out : Int × Int} (hf : f_HS_end x1 i_taped = some out) : xc_I l ev (dC, dI) vwCl (tyl cA) yX10_end w_HS_end rm_HS_end [.ref q0, .int (Int32.ofInt x1)] (wd_HS_end cA q0 q1 q2 q3 q4 q5 q6 q7 q8 q9 q10 q11 q12 u0 u1 u2 i_taped) (wf_HS_end cA q0 q1 q2 q3 q4 q5 q6 q7 q8 q9 q10 q11 q12 u0 u1 u2 out) out.1 := by
  refine xv_startI (cc := cX10_end) (maxL := 2) (rt := .int) (by decide +kernel) rfl (Nat.le_of_ble_eq_true rfl) ?_
  intro p e s m args below meth c A Q H ls hx hb hml hts hown hK hA hP hD hS hl hE hret
  have hown : s.vm.findClass "HillSchool" = some m.cls := hown
  have hz : ∀ w ∈ zall, w.before args s = true := fun w h => hts w (List.mem_cons_of_mem _ h)
  have hl : lv_has ls 2 [(0, .ref q0), (1, .int (Int32.ofInt x1))] := hl
  unfold f_HS_end at hf
  refine lv_iload_n hx hb (zdt zkX10_end 0 rfl) rfl (lv_at hl 1 rfl) ?_
  refine xi_if_lt (tgt := 12) hx hb (zdt zkX10_end 1 rfl) (by decide) hf (fun hf => ?_) (fun hf => ?_)
  · refine lv_iconst (v := Int32.ofInt (-1)) hx hb (zdt zkX10_end 12 rfl) rfl ?_
    obtain rfl := Option.some.inj hf
    exact hret _ _ _ _ rfl (zdt zkX10_end 13 rfl) hP hD hS
  · refine lv_iload_n hx hb (zdt zkX10_end 4 rfl) rfl (lv_at hl 1 rfl) ?_
    refine lv_aload_n hx hb (zdt zkX10_end 5 rfl) rfl (lv_at hl 0 rfl) ?_
    refine va_get (D := (dC, dI)) (ci := 10) (v := .int (Int32.ofInt i_taped)) (C := RX10) (T := TX10) (N := 16) hx hb hz zi_X10 hown hK hP 0 rfl rfl 4 (by decide) (hz _ zw_481) (fun _ h9 => h9) rfl (zdt zkX10_end 6 rfl) ?_
    refine xi_icmp_le (tgt := 14) hx hb (zdt zkX10_end 9 rfl) (by decide) hf (fun hf => ?_) (fun hf => ?_)
    · refine lv_aload_n hx hb (zdt zkX10_end 14 rfl) rfl (lv_at hl 0 rfl) ?_
      refine lv_iload_n hx hb (zdt zkX10_end 15 rfl) rfl (lv_at hl 1 rfl) ?_
      refine va_put (D := (dC, dI)) (ci := 10) (v := .int (Int32.ofInt x1)) (ty := .int) (C := RX10) (T := TX10) (N := 16) hx hb hz zi_X10 tyX10 tyX10_ok nmX10 hown hK hP hD hS 0 rfl rfl 4 (by decide) (hz _ zw_481) (fun _ h9 => h9) rfl (by decide +kernel) rfl rfl (Nat.le_of_ble_eq_true rfl) (zdt zkX10_end 16 rfl) (fun H locs hP hD hS => ?_)
      refine xw_PD (wd_HS_end cA q0 q1 q2 q3 q4 q5 q6 q7 q8 q9 q10 q11 q12 u0 u1 u2 x1) hP hD (fun hP hD => ?_)
      refine lv_iload_n hx hb (zdt zkX10_end 19 rfl) rfl (lv_at hl 1 rfl) ?_
      obtain rfl := Option.some.inj hf
      exact hret _ _ _ _ rfl (zdt zkX10_end 20 rfl) hP hD hS
    · refine lv_iconst (v := Int32.ofInt (-1)) hx hb (zdt zkX10_end 12 rfl) rfl ?_
      obtain rfl := Option.some.inj hf
      exact hret _ _ _ _ rfl (zdt zkX10_end 13 rfl) hP hD hS
set_option maxRecDepth 100000 in
noncomputable def ztX10_row (p : Nat) : Option (Jvm.ClassFile.Instr × Nat) := bif Nat.ble 54 p then (bif Nat.ble 85 p then (bif Nat.ble 103 p then (bif Nat.ble 109 p then (bif Nat.ble 111 p then (bif Nat.ble 114 p then (bif Nat.beq p 114 then some (.ireturn, 1) else none) else (bif Nat.beq p 111 then some (.invokevirtual 119, 3) else none)) else (bif Nat.ble 110 p then (bif Nat.beq p 110 then some (.iload_n 2, 1) else none) else (bif Nat.beq p 109 then some (.aload_n 0, 1) else none))) else (bif Nat.ble 105 p then (bif Nat.ble 106 p then (bif Nat.beq p 106 then some (.putfield 35, 3) else none) else (bif Nat.beq p 105 then some (.isub, 1) else none)) else (bif Nat.ble 104 p then (bif Nat.beq p 104 then some (.iload_n 2, 1) else none) else (bif Nat.beq p 103 then some (.isub, 1) else none)))) else (bif Nat.ble 97 p then (bif Nat.ble 101 p then (bif Nat.ble 102 p then (bif Nat.beq p 102 then some (.iconst 1, 1) else none) else (bif Nat.beq p 101 then some (.iload_n 1, 1) else none)) else (bif Nat.ble 100 p then (bif Nat.beq p 100 then some (.aload_n 0, 1) else none) else (bif Nat.beq p 97 then some (.goto (-53), 3) else none))) else (bif Nat.ble 91 p then (bif Nat.ble 94 p then (bif Nat.beq p 94 then some (.iinc 3 1, 3) else none) else (bif Nat.beq p 91 then some (.iinc 2 1, 3) else none)) else (bif Nat.ble 88 p then (bif Nat.beq p 88 then some (.ifCond .eq 6, 3) else none) else (bif Nat.beq p 85 then some (.invokevirtual 126, 3) else none))))) else (bif Nat.ble 70 p then (bif Nat.ble 78 p then (bif Nat.ble 82 p then (bif Nat.ble 83 p then (bif Nat.beq p 83 then some (.iload 4, 2) else none) else (bif Nat.beq p 82 then some (.iaload, 1) else none)) else (bif Nat.ble 81 p then (bif Nat.beq p 81 then some (.iconst 0, 1) else none) else (bif Nat.beq p 78 then some (.getfield 24, 3) else none))) else (bif Nat.ble 74 p then (bif Nat.ble 77 p then (bif Nat.beq p 77 then some (.aload_n 0, 1) else none) else (bif Nat.beq p 74 then some (.getfield 99, 3) else none)) else (bif Nat.ble 71 p then (bif Nat.beq p 71 then some (.getfield 10, 3) else none) else (bif Nat.beq p 70 then some (.aload_n 0, 1) else none)))) else (bif Nat.ble 60 p then (bif Nat.ble 65 p then (bif Nat.ble 67 p then (bif Nat.beq p 67 then some (.if_icmp .gt 27, 3) else none) else (bif Nat.beq p 65 then some (.bipush 30, 2) else none)) else (bif Nat.ble 63 p then (bif Nat.beq p 63 then some (.iload 4, 2) else none) else (bif Nat.beq p 60 then some (.if_icmp .lt 34, 3) else none))) else (bif Nat.ble 57 p then (bif Nat.ble 59 p then (bif Nat.beq p 59 then some (.iconst 1, 1) else none) else (bif Nat.beq p 57 then some (.iload 4, 2) else none)) else (bif Nat.ble 55 p then (bif Nat.beq p 55 then some (.istore 4, 2) else none) else (bif Nat.beq p 54 then some (.iaload, 1) else none)))))) else (bif Nat.ble 27 p then (bif Nat.ble 42 p then (bif Nat.ble 46 p then (bif Nat.ble 50 p then (bif Nat.ble 53 p then (bif Nat.beq p 53 then some (.iload_n 3, 1) else none) else (bif Nat.beq p 50 then some (.getfield 24, 3) else none)) else (bif Nat.ble 49 p then (bif Nat.beq p 49 then some (.aload_n 0, 1) else none) else (bif Nat.beq p 46 then some (.if_icmp .ge 54, 3) else none))) else (bif Nat.ble 44 p then (bif Nat.ble 45 p then (bif Nat.beq p 45 then some (.iload_n 1, 1) else none) else (bif Nat.beq p 44 then some (.iload_n 3, 1) else none)) else (bif Nat.ble 43 p then (bif Nat.beq p 43 then some (.istore_n 3, 1) else none) else (bif Nat.beq p 42 then some (.iconst 1, 1) else none)))) else (bif Nat.ble 36 p then (bif Nat.ble 40 p then (bif Nat.ble 41 p then (bif Nat.beq p 41 then some (.istore_n 2, 1) else none) else (bif Nat.beq p 40 then some (.iconst 0, 1) else none)) else (bif Nat.ble 39 p then (bif Nat.beq p 39 then some (.ireturn, 1) else none) else (bif Nat.beq p 36 then some (.invokevirtual 109, 3) else none))) else (bif Nat.ble 33 p then (bif Nat.ble 34 p then (bif Nat.beq p 34 then some (.bipush (-6), 2) else none) else (bif Nat.beq p 33 then some (.aload_n 0, 1) else none)) else (bif Nat.ble 30 p then (bif Nat.beq p 30 then some (.ifCond .ne 10, 3) else none) else (bif Nat.beq p 27 then some (.invokevirtual 122, 3) else none))))) else (bif Nat.ble 11 p then (bif Nat.ble 21 p then (bif Nat.ble 25 p then (bif Nat.ble 26 p then (bif Nat.beq p 26 then some (.iaload, 1) else none) else (bif Nat.beq p 25 then some (.iconst 0, 1) else none)) else (bif Nat.ble 22 p then (bif Nat.beq p 22 then some (.getfield 24, 3) else none) else (bif Nat.beq p 21 then some (.aload_n 0, 1) else none))) else (bif Nat.ble 15 p then (bif Nat.ble 18 p then (bif Nat.beq p 18 then some (.getfield 99, 3) else none) else (bif Nat.beq p 15 then some (.getfield 10, 3) else none)) else (bif Nat.ble 14 p then (bif Nat.beq p 14 then some (.aload_n 0, 1) else none) else (bif Nat.beq p 11 then some (.ifCond .eq 22, 3) else none)))) else (bif Nat.ble 5 p then (bif Nat.ble 7 p then (bif Nat.ble 10 p then (bif Nat.beq p 10 then some (.iload_n 1, 1) else none) else (bif Nat.beq p 7 then some (.putfield 28, 3) else none)) else (bif Nat.ble 6 p then (bif Nat.beq p 6 then some (.iconst 0, 1) else none) else (bif Nat.beq p 5 then some (.aload_n 0, 1) else none))) else (bif Nat.ble 1 p then (bif Nat.ble 4 p then (bif Nat.beq p 4 then some (.istore_n 1, 1) else none) else (bif Nat.beq p 1 then some (.getfield 28, 3) else none)) else (bif Nat.beq p 0 then some (.aload_n 0, 1) else none)))))
set_option maxRecDepth 100000 in
theorem zkX10_row : (zbig cX10_row.data.toList = 5971131727919145450096197766257333300079990797380119376402286789128606700522041688271552584647032066110336726542475550976068848655231450051474909800877857060036999027505183081827846038735936081788674377721269808357392110152053686424442552633997674433001150400152770979901256746 ∧ cX10_row.data.toList.length = 115) ∧ zdk cX10_row 5971131727919145450096197766257333300079990797380119376402286789128606700522041688271552584647032066110336726542475550976068848655231450051474909800877857060036999027505183081827846038735936081788674377721269808357392110152053686424442552633997674433001150400152770979901256746 115 ztX10_row 114 = true := by decide +kernel
theorem zw_483 : (Jvm.Cond.fieldLink "HillSchool" (35 : Nat) "HillSchool" "latestGravel" "I") ∈ zall := zmemG (zmj_2 140 rfl) rfl
theorem zw_637 : (Jvm.Cond.code ({ cls := "HillSchool", name := "row", desc := "()I" } : Jvm.MethodName) prog_1_method_14_code (5 : Nat) (Option.some Jvm.ClassFile.FieldType.int)) ∈ zall := zmemG (zmj_3 54 rfl) rfl
noncomputable abbrev w_HS_row : List Cond := .code yX10_row cX10_row 5 (some .int) :: zall
noncomputable abbrev rm_HS_row : Room := { frames := 2, cells := 0, slots := 0, locals := 43 }
theorem hd_HS_row : yX10_row.cls = "HillSchool" ∧ yX10_row.cls ≠ "java/lang/invoke/MethodHandle" ∧ yX10_row.cls ≠ "java/lang/invoke/VarHandle" ∧ (parseMethodDescriptor yX10_row.desc).map (fun d => d.parameters.length) = some 0 := by decide +kernel
noncomputable def wd_HS_row (cA : Nat → ClassId) (q0 q1 q2 q3 q4 q5 q6 q7 q8 q9 q10 q11 q12 q13 q14 q15 q16 q17 q18 q19 q20 q21 q22 q23 : Nat) (u0 u1 u2 u3 u4 : Int) (i_tape : Nat → Int) (i_hill_columns_many : Int) (i_taped : Int) (i_latestGravel : Int) (i_latestStatus : Int) (i_hill_changes : Int) (i_refusals : Nat → Int) (i_hill_columns_heights : Nat → Int) (i_hill_columns_weights : Nat → Int) : va_W := [(q0, .inr (10, [.ref q1, .ref q2, .ref q3, .ref q4, .int (Int32.ofInt i_taped), .int (Int32.ofInt u0), .int (Int32.ofInt i_latestGravel), .ref q5, .int (Int32.ofInt i_latestStatus), .ref q6, .ref q7, .ref q8, .ref q9, .ref q10, .ref q11, .ref q12])), (q1, .inr (2, [.ref q13, .int (Int32.ofInt u1), .ref q14, .ref q15, .ref q16, .int (Int32.ofInt u2), .ref q17, .ref q18, .ref q19, .int (Int32.ofInt u3), .ref q20, .ref q21, .int (Int32.ofInt u4), .int (Int32.ofInt i_hill_changes)])), (q4, .inl (cA 0, 400, .inl (za i_tape))), (q5, .inl (cA 0, 7, .inl (za i_refusals))), (q13, .inr (1, [.int (Int32.ofInt i_hill_columns_many), .ref q22, .ref q23])), (q22, .inl (cA 0, 12, .inl (za i_hill_columns_heights))), (q23, .inl (cA 0, 120, .inl (za i_hill_columns_weights)))]
noncomputable def wf_HS_row (cA : Nat → ClassId) (q0 q1 q2 q3 q4 q5 q6 q7 q8 q9 q10 q11 q12 q13 q14 q15 q16 q17 q18 q19 q20 q21 q22 q23 : Nat) (u0 u1 u2 u3 u4 : Int) (i_tape : Nat → Int) (i_hill_columns_many : Int) (o : Int × Int × Int × Int × Int × (Nat → Int) × (Nat → Int) × (Nat → Int)) : va_W := wd_HS_row cA q0 q1 q2 q3 q4 q5 q6 q7 q8 q9 q10 q11 q12 q13 q14 q15 q16 q17 q18 q19 q20 q21 q22 q23 u0 u1 u2 u3 u4 i_tape i_hill_columns_many o.2.1 o.2.2.1 o.2.2.2.1 o.2.2.2.2.1 o.2.2.2.2.2.1 o.2.2.2.2.2.2.1 o.2.2.2.2.2.2.2
noncomputable def f_HS_row_33 (i_tape : Nat → Int) (i_hill_columns_many : Int) (i_taped : Int) (i_latestGravel : Int) (i_latestStatus : Int) (i_hill_changes : Int) (i_refusals : Nat → Int) (i_hill_columns_heights : Nat → Int) (i_hill_columns_weights : Nat → Int) : Option (Int × Int × Int × Int × Int × (Nat → Int) × (Nat → Int) × (Nat → Int)) :=
  zd3 (f_HS_refuse (-6) i_latestStatus i_refusals) fun v1 v2 a3 =>
  some (v1, i_taped, i_latestGravel, v2, i_hill_changes, a3, i_hill_columns_heights, i_hill_columns_weights)
noncomputable def f_HS_row_94 (i_tape : Nat → Int) (i_hill_columns_many : Int) (k44 : Int → Int → Int → Int → Int → Int → Int → (Nat → Int) → (Nat → Int) → (Nat → Int) → Option (Int × Int × Int × Int × Int × (Nat → Int) × (Nat → Int) × (Nat → Int))) (x1 : Int) (x2 : Int) (x3 : Int) (i_taped : Int) (i_latestGravel : Int) (i_latestStatus : Int) (i_hill_changes : Int) (i_refusals : Nat → Int) (i_hill_columns_heights : Nat → Int) (i_hill_columns_weights : Nat → Int) : Option (Int × Int × Int × Int × Int × (Nat → Int) × (Nat → Int) × (Nat → Int)) :=
  zn (x3 + 1) fun v1 =>
  k44 x1 x2 v1 i_taped i_latestGravel i_latestStatus i_hill_changes i_refusals i_hill_columns_heights i_hill_columns_weights
noncomputable def f_HS_row_44_b (i_tape : Nat → Int) (i_hill_columns_many : Int) (k44 : Int → Int → Int → Int → Int → Int → Int → (Nat → Int) → (Nat → Int) → (Nat → Int) → Option (Int × Int × Int × Int × Int × (Nat → Int) × (Nat → Int) × (Nat → Int))) (x1 : Int) (x2 : Int) (x3 : Int) (i_taped : Int) (i_latestGravel : Int) (i_latestStatus : Int) (i_hill_changes : Int) (i_refusals : Nat → Int) (i_hill_columns_heights : Nat → Int) (i_hill_columns_weights : Nat → Int) : Option (Int × Int × Int × Int × Int × (Nat → Int) × (Nat → Int) × (Nat → Int)) :=
  if zi_w x1 ≤ zi_w x3 then
    zn (x1 - 1) fun v1 =>
    zn (v1 - x2) fun v2 =>
    zd3 (f_HS_accept x2 i_latestStatus i_hill_changes) fun v3 v4 v5 =>
    some (v3, i_taped, v2, v4, v5, i_refusals, i_hill_columns_heights, i_hill_columns_weights)
  else
    zg 400 i_tape x3 fun v6 =>
    if zi_w v6 < zi_w 1 then
      f_HS_row_94 i_tape i_hill_columns_many k44 x1 x2 x3 i_taped i_latestGravel i_latestStatus i_hill_changes i_refusals i_hill_columns_heights i_hill_columns_weights
    else
      if zi_w 30 < zi_w v6 then
        f_HS_row_94 i_tape i_hill_columns_many k44 x1 x2 x3 i_taped i_latestGravel i_latestStatus i_hill_changes i_refusals i_hill_columns_heights i_hill_columns_weights
      else
        zg 400 i_tape 0 fun v7 =>
        zd3 (f_Columns_put v7 v6 i_hill_columns_many i_hill_columns_heights i_hill_columns_weights) fun v8 a9 a10 =>
        if zi_w v8 = 0 then
          f_HS_row_94 i_tape i_hill_columns_many k44 x1 x2 x3 i_taped i_latestGravel i_latestStatus i_hill_changes i_refusals a9 a10
        else
          zn (x2 + 1) fun v11 =>
          f_HS_row_94 i_tape i_hill_columns_many k44 x1 v11 x3 i_taped i_latestGravel i_latestStatus i_hill_changes i_refusals a9 a10
noncomputable def f_HS_row_44 (i_tape : Nat → Int) (i_hill_columns_many : Int) : Nat → Int → Int → Int → Int → Int → Int → Int → (Nat → Int) → (Nat → Int) → (Nat → Int) → Option (Int × Int × Int × Int × Int × (Nat → Int) × (Nat → Int) × (Nat → Int))
  | 0 => fun _ _ _ _ _ _ _ _ _ _ => none
  | n + 1 => fun y0 y1 y2 y3 y4 y5 y6 y7 y8 y9 => f_HS_row_44_b i_tape i_hill_columns_many (f_HS_row_44 i_tape i_hill_columns_many n) y0 y1 y2 y3 y4 y5 y6 y7 y8 y9
noncomputable def f_HS_row (i_tape : Nat → Int) (i_hill_columns_many : Int) (i_taped : Int) (i_latestGravel : Int) (i_latestStatus : Int) (i_hill_changes : Int) (i_refusals : Nat → Int) (i_hill_columns_heights : Nat → Int) (i_hill_columns_weights : Nat → Int) : Option (Int × Int × Int × Int × Int × (Nat → Int) × (Nat → Int) × (Nat → Int)) :=
  if zi_w i_taped = 0 then
    f_HS_row_33 i_tape i_hill_columns_many 0 i_latestGravel i_latestStatus i_hill_changes i_refusals i_hill_columns_heights i_hill_columns_weights
  else
    zg 400 i_tape 0 fun v1 =>
    zd1 (f_Columns_has v1 i_hill_columns_many) fun v2 =>
    if zi_w v2 ≠ 0 then
      f_HS_row_44 i_tape i_hill_columns_many zfu i_taped 0 1 0 i_latestGravel i_latestStatus i_hill_changes i_refusals i_hill_columns_heights i_hill_columns_weights
    else
      f_HS_row_33 i_tape i_hill_columns_many 0 i_latestGravel i_latestStatus i_hill_changes i_refusals i_hill_columns_heights i_hill_columns_weights
set_option maxHeartbeats 4000000 in
set_option maxRecDepth 100000 in
theorem c_HS_row (l : Launch) (ev : zEv) (dC : Nat → ClassId) (dI : Nat → Nat → Nat) (cA : Nat → ClassId) (q0 q1 q2 q3 q4 q5 q6 q7 q8 q9 q10 q11 q12 q13 q14 q15 q16 q17 q18 q19 q20 q21 q22 q23 : Nat) (u0 u1 u2 u3 u4 : Int) {i_tape : Nat → Int} {i_hill_columns_many : Int} {i_taped : Int} {i_latestGravel : Int} {i_latestStatus : Int} {i_hill_changes : Int} {i_refusals : Nat → Int} {i_hill_columns_heights : Nat → Int} {i_hill_columns_weights : Nat → Int} {out : Int × Int × Int × Int × Int × (Nat → Int) × (Nat → Int) × (Nat → Int)} (hf : f_HS_row i_tape i_hill_columns_many i_taped i_latestGravel i_latestStatus i_hill_changes i_refusals i_hill_columns_heights i_hill_columns_weights = some out) : xc_I l ev (dC, dI) vwCl (tyl cA) yX10_row w_HS_row rm_HS_row [.ref q0] (wd_HS_row cA q0 q1 q2 q3 q4 q5 q6 q7 q8 q9 q10 q11 q12 q13 q14 q15 q16 q17 q18 q19 q20 q21 q22 q23 u0 u1 u2 u3 u4 i_tape i_hill_columns_many i_taped i_latestGravel i_latestStatus i_hill_changes i_refusals i_hill_columns_heights i_hill_columns_weights) (wf_HS_row cA q0 q1 q2 q3 q4 q5 q6 q7 q8 q9 q10 q11 q12 q13 q14 q15 q16 q17 q18 q19 q20 q21 q22 q23 u0 u1 u2 u3 u4 i_tape i_hill_columns_many out) out.1 := by
  refine xv_startI (cc := cX10_row) (maxL := 5) (rt := .int) (by decide +kernel) rfl (Nat.le_of_ble_eq_true rfl) ?_
  intro p e s m args below meth c A Q H ls hx hb hml hts hown hK hA hP hD hS hl hE hret
  have hown : s.vm.findClass "HillSchool" = some m.cls := hown
  have hz : ∀ w ∈ zall, w.before args s = true := fun w h => hts w (List.mem_cons_of_mem _ h)
  have hl : lv_has ls 5 [(0, .ref q0)] := hl
  have b_33 : ∀ (i_taped : Int) (i_latestGravel : Int) (i_latestStatus : Int) (i_hill_changes : Int) (i_refusals : Nat → Int) (i_hill_columns_heights : Nat → Int) (i_hill_columns_weights : Nat → Int) (H : Heap) (locs : List Loc) (ls : Array Slot), f_HS_row_33 i_tape i_hill_columns_many i_taped i_latestGravel i_latestStatus i_hill_changes i_refusals i_hill_columns_heights i_hill_columns_weights = some out → va_P (dC, dI) vwCl (wd_HS_row cA q0 q1 q2 q3 q4 q5 q6 q7 q8 q9 q10 q11 q12 q13 q14 q15 q16 q17 q18 q19 q20 q21 q22 q23 u0 u1 u2 u3 u4 i_tape i_hill_columns_many i_taped i_latestGravel i_latestStatus i_hill_changes i_refusals i_hill_columns_heights i_hill_columns_weights) H → va_D A (wd_HS_row cA q0 q1 q2 q3 q4 q5 q6 q7 q8 q9 q10 q11 q12 q13 q14 q15 q16 q17 q18 q19 q20 q21 q22 q23 u0 u1 u2 u3 u4 i_tape i_hill_columns_many i_taped i_latestGravel i_latestStatus i_hill_changes i_refusals i_hill_columns_heights i_hill_columns_weights) → va_S A s.heap H locs → lv_has ls 5 [(0, .ref q0)] → W p l e rm_HS_row s m args below meth c H locs 0 0 Q (F0 m 33 ls []) := by
    intro i_taped i_latestGravel i_latestStatus i_hill_changes i_refusals i_hill_columns_heights i_hill_columns_weights H locs ls hf hP hD hS hl
    unfold f_HS_row_33 at hf
    refine lv_aload_n hx hb (zdt zkX10_row 33 rfl) rfl (lv_at hl 0 rfl) ?_
    refine lv_bipush (v := Int32.ofInt (-6)) hx hb (zdt zkX10_row 34 rfl) (by decide) ?_
    refine xe_d3 hf (fun v1 v2 a3 hg hf => ?_)
    have hC : ([0, 3] : List Nat).map (fun i => (wd_HS_row cA q0 q1 q2 q3 q4 q5 q6 q7 q8 q9 q10 q11 q12 q13 q14 q15 q16 q17 q18 q19 q20 q21 q22 q23 u0 u1 u2 u3 u4 i_tape i_hill_columns_many i_taped i_latestGravel i_latestStatus i_hill_changes i_refusals i_hill_columns_heights i_hill_columns_weights)[i]?) = (wd_HS_refuse cA q0 q1 q2 q3 q4 q5 q6 q7 q8 q9 q10 q11 q12 i_taped u0 i_latestGravel i_latestStatus i_refusals).map some := rfl
    refine xv_afterI (ws' := (wd_HS_row cA q0 q1 q2 q3 q4 q5 q6 q7 q8 q9 q10 q11 q12 q13 q14 q15 q16 q17 q18 q19 q20 q21 q22 q23 u0 u1 u2 u3 u4 i_tape i_hill_columns_many i_taped i_latestGravel v2 i_hill_changes a3 i_hill_columns_heights i_hill_columns_weights)) (isC := [0, 3]) (ps := [some 0, none, none, some 1, none, none, none]) (va_runV (As := [.int (Int32.ofInt (-6))]) (rest := []) ⟨hx, hb, hml, hown, hts⟩ (c_HS_refuse l ev dC dI cA q0 q1 q2 q3 q4 q5 q6 q7 q8 q9 q10 q11 q12 i_taped u0 i_latestGravel hg H.size) (cwV 1 hts (zgV zw_534 zw_536 zw_0 zw_104 zw_537) rfl rfl rfl hd_HS_refuse ⟨Nat.le_of_ble_eq_true rfl, Nat.le_of_ble_eq_true rfl⟩) (xv_preV (T := TX10) (N := 16) hE hA hS hK hP hD (isC := [0, 3]) (by decide +kernel) hC (q0 := 0) (ci := 10) rfl rfl) rfl rfl hl.1 rfl (lv_room (Nat.le_of_ble_eq_true rfl)) (zdt zkX10_row 36 rfl) ⟨Nat.le_refl _, Nat.le_refl _⟩) hP hD hS hA (by decide +kernel) rfl hC rfl rfl (fun H locs hP hD hS => ?_)
    obtain rfl := Option.some.inj hf
    exact hret _ _ _ _ rfl (zdt zkX10_row 39 rfl) hP hD hS
  have b_94 : ∀ (k44 : Int → Int → Int → Int → Int → Int → Int → (Nat → Int) → (Nat → Int) → (Nat → Int) → Option (Int × Int × Int × Int × Int × (Nat → Int) × (Nat → Int) × (Nat → Int))) (_ : ∀ (x1 : Int) (x2 : Int) (x3 : Int) (i_taped : Int) (i_latestGravel : Int) (i_latestStatus : Int) (i_hill_changes : Int) (i_refusals : Nat → Int) (i_hill_columns_heights : Nat → Int) (i_hill_columns_weights : Nat → Int) (H : Heap) (locs : List Loc) (ls : Array Slot), k44 x1 x2 x3 i_taped i_latestGravel i_latestStatus i_hill_changes i_refusals i_hill_columns_heights i_hill_columns_weights = some out → va_P (dC, dI) vwCl (wd_HS_row cA q0 q1 q2 q3 q4 q5 q6 q7 q8 q9 q10 q11 q12 q13 q14 q15 q16 q17 q18 q19 q20 q21 q22 q23 u0 u1 u2 u3 u4 i_tape i_hill_columns_many i_taped i_latestGravel i_latestStatus i_hill_changes i_refusals i_hill_columns_heights i_hill_columns_weights) H → va_D A (wd_HS_row cA q0 q1 q2 q3 q4 q5 q6 q7 q8 q9 q10 q11 q12 q13 q14 q15 q16 q17 q18 q19 q20 q21 q22 q23 u0 u1 u2 u3 u4 i_tape i_hill_columns_many i_taped i_latestGravel i_latestStatus i_hill_changes i_refusals i_hill_columns_heights i_hill_columns_weights) → va_S A s.heap H locs → lv_has ls 5 [(0, .ref q0), (1, .int (Int32.ofInt x1)), (2, .int (Int32.ofInt x2)), (3, .int (Int32.ofInt x3))] → W p l e rm_HS_row s m args below meth c H locs 0 0 Q (F0 m 44 ls [])), ∀ (x1 : Int) (x2 : Int) (x3 : Int) (i_taped : Int) (i_latestGravel : Int) (i_latestStatus : Int) (i_hill_changes : Int) (i_refusals : Nat → Int) (i_hill_columns_heights : Nat → Int) (i_hill_columns_weights : Nat → Int) (H : Heap) (locs : List Loc) (ls : Array Slot), f_HS_row_94 i_tape i_hill_columns_many k44 x1 x2 x3 i_taped i_latestGravel i_latestStatus i_hill_changes i_refusals i_hill_columns_heights i_hill_columns_weights = some out → va_P (dC, dI) vwCl (wd_HS_row cA q0 q1 q2 q3 q4 q5 q6 q7 q8 q9 q10 q11 q12 q13 q14 q15 q16 q17 q18 q19 q20 q21 q22 q23 u0 u1 u2 u3 u4 i_tape i_hill_columns_many i_taped i_latestGravel i_latestStatus i_hill_changes i_refusals i_hill_columns_heights i_hill_columns_weights) H → va_D A (wd_HS_row cA q0 q1 q2 q3 q4 q5 q6 q7 q8 q9 q10 q11 q12 q13 q14 q15 q16 q17 q18 q19 q20 q21 q22 q23 u0 u1 u2 u3 u4 i_tape i_hill_columns_many i_taped i_latestGravel i_latestStatus i_hill_changes i_refusals i_hill_columns_heights i_hill_columns_weights) → va_S A s.heap H locs → lv_has ls 5 [(0, .ref q0), (1, .int (Int32.ofInt x1)), (2, .int (Int32.ofInt x2)), (3, .int (Int32.ofInt x3))] → W p l e rm_HS_row s m args below meth c H locs 0 0 Q (F0 m 94 ls []) := by
    intro k44 ih44 x1 x2 x3 i_taped i_latestGravel i_latestStatus i_hill_changes i_refusals i_hill_columns_heights i_hill_columns_weights H locs ls hf hP hD hS hl
    unfold f_HS_row_94 at hf
    refine xi_iinc hx hb (zdt zkX10_row 94 rfl) hl (k := 3) rfl (by decide) hf (fun v1 ls hl hf => ?_)
    have hl : lv_has ls 5 [(3, .int (Int32.ofInt v1)), (0, .ref q0), (1, .int (Int32.ofInt x1)), (2, .int (Int32.ofInt x2))] := hl
    refine lv_goto (tgt := 44) hx hb (zdt zkX10_row 97 rfl) (by decide) ?_
    exact ih44 _ _ _ _ _ _ _ _ _ _ _ _ _ hf hP hD hS (lv_sub hl [1, 2, 3, 0] rfl)
  have b_44 : ∀ (k44 : Int → Int → Int → Int → Int → Int → Int → (Nat → Int) → (Nat → Int) → (Nat → Int) → Option (Int × Int × Int × Int × Int × (Nat → Int) × (Nat → Int) × (Nat → Int))) (_ : ∀ (x1 : Int) (x2 : Int) (x3 : Int) (i_taped : Int) (i_latestGravel : Int) (i_latestStatus : Int) (i_hill_changes : Int) (i_refusals : Nat → Int) (i_hill_columns_heights : Nat → Int) (i_hill_columns_weights : Nat → Int) (H : Heap) (locs : List Loc) (ls : Array Slot), k44 x1 x2 x3 i_taped i_latestGravel i_latestStatus i_hill_changes i_refusals i_hill_columns_heights i_hill_columns_weights = some out → va_P (dC, dI) vwCl (wd_HS_row cA q0 q1 q2 q3 q4 q5 q6 q7 q8 q9 q10 q11 q12 q13 q14 q15 q16 q17 q18 q19 q20 q21 q22 q23 u0 u1 u2 u3 u4 i_tape i_hill_columns_many i_taped i_latestGravel i_latestStatus i_hill_changes i_refusals i_hill_columns_heights i_hill_columns_weights) H → va_D A (wd_HS_row cA q0 q1 q2 q3 q4 q5 q6 q7 q8 q9 q10 q11 q12 q13 q14 q15 q16 q17 q18 q19 q20 q21 q22 q23 u0 u1 u2 u3 u4 i_tape i_hill_columns_many i_taped i_latestGravel i_latestStatus i_hill_changes i_refusals i_hill_columns_heights i_hill_columns_weights) → va_S A s.heap H locs → lv_has ls 5 [(0, .ref q0), (1, .int (Int32.ofInt x1)), (2, .int (Int32.ofInt x2)), (3, .int (Int32.ofInt x3))] → W p l e rm_HS_row s m args below meth c H locs 0 0 Q (F0 m 44 ls [])), ∀ (x1 : Int) (x2 : Int) (x3 : Int) (i_taped : Int) (i_latestGravel : Int) (i_latestStatus : Int) (i_hill_changes : Int) (i_refusals : Nat → Int) (i_hill_columns_heights : Nat → Int) (i_hill_columns_weights : Nat → Int) (H : Heap) (locs : List Loc) (ls : Array Slot), f_HS_row_44_b i_tape i_hill_columns_many k44 x1 x2 x3 i_taped i_latestGravel i_latestStatus i_hill_changes i_refusals i_hill_columns_heights i_hill_columns_weights = some out → va_P (dC, dI) vwCl (wd_HS_row cA q0 q1 q2 q3 q4 q5 q6 q7 q8 q9 q10 q11 q12 q13 q14 q15 q16 q17 q18 q19 q20 q21 q22 q23 u0 u1 u2 u3 u4 i_tape i_hill_columns_many i_taped i_latestGravel i_latestStatus i_hill_changes i_refusals i_hill_columns_heights i_hill_columns_weights) H → va_D A (wd_HS_row cA q0 q1 q2 q3 q4 q5 q6 q7 q8 q9 q10 q11 q12 q13 q14 q15 q16 q17 q18 q19 q20 q21 q22 q23 u0 u1 u2 u3 u4 i_tape i_hill_columns_many i_taped i_latestGravel i_latestStatus i_hill_changes i_refusals i_hill_columns_heights i_hill_columns_weights) → va_S A s.heap H locs → lv_has ls 5 [(0, .ref q0), (1, .int (Int32.ofInt x1)), (2, .int (Int32.ofInt x2)), (3, .int (Int32.ofInt x3))] → W p l e rm_HS_row s m args below meth c H locs 0 0 Q (F0 m 44 ls []) := by
    intro k44 ih44 x1 x2 x3 i_taped i_latestGravel i_latestStatus i_hill_changes i_refusals i_hill_columns_heights i_hill_columns_weights H locs ls hf hP hD hS hl
    unfold f_HS_row_44_b at hf
    refine lv_iload_n hx hb (zdt zkX10_row 44 rfl) rfl (lv_at hl 3 rfl) ?_
    refine lv_iload_n hx hb (zdt zkX10_row 45 rfl) rfl (lv_at hl 1 rfl) ?_
    refine xi_icmp_ge (tgt := 100) hx hb (zdt zkX10_row 46 rfl) (by decide) hf (fun hf => ?_) (fun hf => ?_)
    · refine lv_aload_n hx hb (zdt zkX10_row 100 rfl) rfl (lv_at hl 0 rfl) ?_
      refine lv_iload_n hx hb (zdt zkX10_row 101 rfl) rfl (lv_at hl 1 rfl) ?_
      refine lv_iconst (v := Int32.ofInt 1) hx hb (zdt zkX10_row 102 rfl) rfl ?_
      refine xi_isub hx hb (zdt zkX10_row 103 rfl) hf (fun v1 hf => ?_)
      refine lv_iload_n hx hb (zdt zkX10_row 104 rfl) rfl (lv_at hl 2 rfl) ?_
      refine xi_isub hx hb (zdt zkX10_row 105 rfl) hf (fun v2 hf => ?_)
      refine va_put (D := (dC, dI)) (ci := 10) (v := .int (Int32.ofInt v2)) (ty := .int) (C := RX10) (T := TX10) (N := 16) hx hb hz zi_X10 tyX10 tyX10_ok nmX10 hown hK hP hD hS 0 rfl rfl 6 (by decide) (hz _ zw_483) (fun _ h9 => h9) rfl (by decide +kernel) rfl rfl (Nat.le_of_ble_eq_true rfl) (zdt zkX10_row 106 rfl) (fun H locs hP hD hS => ?_)
      refine xw_PD (wd_HS_row cA q0 q1 q2 q3 q4 q5 q6 q7 q8 q9 q10 q11 q12 q13 q14 q15 q16 q17 q18 q19 q20 q21 q22 q23 u0 u1 u2 u3 u4 i_tape i_hill_columns_many i_taped v2 i_latestStatus i_hill_changes i_refusals i_hill_columns_heights i_hill_columns_weights) hP hD (fun hP hD => ?_)
      refine lv_aload_n hx hb (zdt zkX10_row 109 rfl) rfl (lv_at hl 0 rfl) ?_
      refine lv_iload_n hx hb (zdt zkX10_row 110 rfl) rfl (lv_at hl 2 rfl) ?_
      refine xe_d3 hf (fun v3 v4 v5 hg hf => ?_)
      have hC : ([0, 1] : List Nat).map (fun i => (wd_HS_row cA q0 q1 q2 q3 q4 q5 q6 q7 q8 q9 q10 q11 q12 q13 q14 q15 q16 q17 q18 q19 q20 q21 q22 q23 u0 u1 u2 u3 u4 i_tape i_hill_columns_many i_taped v2 i_latestStatus i_hill_changes i_refusals i_hill_columns_heights i_hill_columns_weights)[i]?) = (wd_HS_accept cA q0 q1 q2 q3 q4 q5 q6 q7 q8 q9 q10 q11 q12 q13 q14 q15 q16 q17 q18 q19 q20 q21 i_taped u0 v2 u1 u2 u3 u4 i_latestStatus i_hill_changes).map some := rfl
      refine xv_afterI (ws' := (wd_HS_row cA q0 q1 q2 q3 q4 q5 q6 q7 q8 q9 q10 q11 q12 q13 q14 q15 q16 q17 q18 q19 q20 q21 q22 q23 u0 u1 u2 u3 u4 i_tape i_hill_columns_many i_taped v2 v4 v5 i_refusals i_hill_columns_heights i_hill_columns_weights)) (isC := [0, 1]) (ps := [some 0, some 1, none, none, none, none, none]) (va_runV (As := [.int (Int32.ofInt x2)]) (rest := []) ⟨hx, hb, hml, hown, hts⟩ (c_HS_accept l ev dC dI cA q0 q1 q2 q3 q4 q5 q6 q7 q8 q9 q10 q11 q12 q13 q14 q15 q16 q17 q18 q19 q20 q21 i_taped u0 v2 u1 u2 u3 u4 hg H.size) (cwV 1 hts (zgV zw_538 zw_540 zw_1 zw_104 zw_541) rfl rfl rfl hd_HS_accept ⟨Nat.le_of_ble_eq_true rfl, Nat.le_of_ble_eq_true rfl⟩) (xv_preV (T := TX10) (N := 16) hE hA hS hK hP hD (isC := [0, 1]) (by decide +kernel) hC (q0 := 0) (ci := 10) rfl rfl) rfl rfl hl.1 rfl (lv_room (Nat.le_of_ble_eq_true rfl)) (zdt zkX10_row 111 rfl) ⟨Nat.le_refl _, Nat.le_refl _⟩) hP hD hS hA (by decide +kernel) rfl hC rfl rfl (fun H locs hP hD hS => ?_)
      obtain rfl := Option.some.inj hf
      exact hret _ _ _ _ rfl (zdt zkX10_row 114 rfl) hP hD hS
    · refine lv_aload_n hx hb (zdt zkX10_row 49 rfl) rfl (lv_at hl 0 rfl) ?_
      refine va_get (D := (dC, dI)) (ci := 10) (v := .ref q4) (C := RX10) (T := TX10) (N := 16) hx hb hz zi_X10 hown hK hP 0 rfl rfl 3 (by decide) (hz _ zw_480) (fun _ h9 => h9) rfl (zdt zkX10_row 50 rfl) ?_
      refine lv_iload_n hx hb (zdt zkX10_row 53 rfl) rfl (lv_at hl 3 rfl) ?_
      refine xi_iald hx hb hK hP 2 0 rfl rfl (zdt zkX10_row 54 rfl) hf (fun v6 hf => ?_)
      refine lv_istore (lv' := [(4, .int (Int32.ofInt v6)), (0, .ref q0), (1, .int (Int32.ofInt x1)), (2, .int (Int32.ofInt x2)), (3, .int (Int32.ofInt x3))]) hx hb (zdt zkX10_row 55 rfl) hl (by decide) rfl (fun ls hl => ?_)
      refine lv_iload hx hb (zdt zkX10_row 57 rfl) (lv_at hl 0 rfl) ?_
      refine lv_iconst (v := Int32.ofInt 1) hx hb (zdt zkX10_row 59 rfl) rfl ?_
      refine xi_icmp_lt (tgt := 94) hx hb (zdt zkX10_row 60 rfl) (by decide) hf (fun hf => ?_) (fun hf => ?_)
      · exact b_94 _ ih44 _ _ _ _ _ _ _ _ _ _ _ _ _ hf hP hD hS (lv_sub hl [1, 2, 3, 4] rfl)
      · refine lv_iload hx hb (zdt zkX10_row 63 rfl) (lv_at hl 0 rfl) ?_
        refine lv_bipush (v := Int32.ofInt 30) hx hb (zdt zkX10_row 65 rfl) (by decide) ?_
        refine xi_icmp_gt (tgt := 94) hx hb (zdt zkX10_row 67 rfl) (by decide) hf (fun hf => ?_) (fun hf => ?_)
        · exact b_94 _ ih44 _ _ _ _ _ _ _ _ _ _ _ _ _ hf hP hD hS (lv_sub hl [1, 2, 3, 4] rfl)
        · refine lv_aload_n hx hb (zdt zkX10_row 70 rfl) rfl (lv_at hl 1 rfl) ?_
          refine va_get (D := (dC, dI)) (ci := 10) (v := .ref q1) (C := RX10) (T := TX10) (N := 16) hx hb hz zi_X10 hown hK hP 0 rfl rfl 0 (by decide) (hz _ zw_477) (fun _ h9 => h9) rfl (zdt zkX10_row 71 rfl) ?_
          refine va_getN (D := (dC, dI)) (ci := 2) (v := .ref q13) (C := RX2) (T := TX2) (N := 14) hx hb hz zi_X2 hown hK hP 1 rfl rfl 0 (by decide) (va_Nw.use rfl (hE.1.1 _ zw_169)) (fun _ h9 => h9) rfl (zdt zkX10_row 74 rfl) ?_
          refine lv_aload_n hx hb (zdt zkX10_row 77 rfl) rfl (lv_at hl 1 rfl) ?_
          refine va_get (D := (dC, dI)) (ci := 10) (v := .ref q4) (C := RX10) (T := TX10) (N := 16) hx hb hz zi_X10 hown hK hP 0 rfl rfl 3 (by decide) (hz _ zw_480) (fun _ h9 => h9) rfl (zdt zkX10_row 78 rfl) ?_
          refine lv_iconst (v := Int32.ofInt 0) hx hb (zdt zkX10_row 81 rfl) rfl ?_
          refine xi_iald hx hb hK hP 2 0 rfl rfl (zdt zkX10_row 82 rfl) hf (fun v7 hf => ?_)
          refine lv_iload hx hb (zdt zkX10_row 83 rfl) (lv_at hl 0 rfl) ?_
          refine xe_d3 hf (fun v8 a9 a10 hg hf => ?_)
          have hC : ([4, 5, 6] : List Nat).map (fun i => (wd_HS_row cA q0 q1 q2 q3 q4 q5 q6 q7 q8 q9 q10 q11 q12 q13 q14 q15 q16 q17 q18 q19 q20 q21 q22 q23 u0 u1 u2 u3 u4 i_tape i_hill_columns_many i_taped i_latestGravel i_latestStatus i_hill_changes i_refusals i_hill_columns_heights i_hill_columns_weights)[i]?) = (wd_Columns_put cA q13 q22 q23 i_hill_columns_many i_hill_columns_heights i_hill_columns_weights).map some := rfl
          refine xv_afterI (ws' := (wd_HS_row cA q0 q1 q2 q3 q4 q5 q6 q7 q8 q9 q10 q11 q12 q13 q14 q15 q16 q17 q18 q19 q20 q21 q22 q23 u0 u1 u2 u3 u4 i_tape i_hill_columns_many i_taped i_latestGravel i_latestStatus i_hill_changes i_refusals a9 a10)) (isC := [4, 5, 6]) (ps := [none, none, none, none, some 0, some 1, some 2]) (va_runV (As := [.int (Int32.ofInt v7), .int (Int32.ofInt v6)]) (rest := []) ⟨hx, hb, hml, hown, hts⟩ (c_Columns_put l ev dC dI cA q13 q22 q23 hg H.size) (cwV 2 hts (zgV zw_550 zw_551 zw_552 zw_106 zw_553) rfl rfl rfl hd_Columns_put ⟨Nat.le_of_ble_eq_true rfl, Nat.le_of_ble_eq_true rfl⟩) (xv_preV (T := TX1) (N := 3) hE hA hS hK hP hD (isC := [4, 5, 6]) (by decide +kernel) hC (q0 := 4) (ci := 1) rfl rfl) rfl rfl hl.1 rfl (lv_room (Nat.le_of_ble_eq_true rfl)) (zdt zkX10_row 85 rfl) ⟨Nat.le_refl _, Nat.le_refl _⟩) hP hD hS hA (by decide +kernel) rfl hC rfl rfl (fun H locs hP hD hS => ?_)
          refine xi_if_eq (tgt := 94) hx hb (zdt zkX10_row 88 rfl) (by decide) hf (fun hf => ?_) (fun hf => ?_)
          · exact b_94 _ ih44 _ _ _ _ _ _ _ _ _ _ _ _ _ hf hP hD hS (lv_sub hl [1, 2, 3, 4] rfl)
          · refine xi_iinc hx hb (zdt zkX10_row 91 rfl) hl (k := 3) rfl (by decide) hf (fun v11 ls hl hf => ?_)
            have hl : lv_has ls 5 [(2, .int (Int32.ofInt v11)), (4, .int (Int32.ofInt v6)), (0, .ref q0), (1, .int (Int32.ofInt x1)), (3, .int (Int32.ofInt x3))] := hl
            exact b_94 _ ih44 _ _ _ _ _ _ _ _ _ _ _ _ _ hf hP hD hS (lv_sub hl [2, 3, 0, 4] rfl)
  have l_44 : ∀ (n : Nat), ∀ (x1 : Int) (x2 : Int) (x3 : Int) (i_taped : Int) (i_latestGravel : Int) (i_latestStatus : Int) (i_hill_changes : Int) (i_refusals : Nat → Int) (i_hill_columns_heights : Nat → Int) (i_hill_columns_weights : Nat → Int) (H : Heap) (locs : List Loc) (ls : Array Slot), f_HS_row_44 i_tape i_hill_columns_many n x1 x2 x3 i_taped i_latestGravel i_latestStatus i_hill_changes i_refusals i_hill_columns_heights i_hill_columns_weights = some out → va_P (dC, dI) vwCl (wd_HS_row cA q0 q1 q2 q3 q4 q5 q6 q7 q8 q9 q10 q11 q12 q13 q14 q15 q16 q17 q18 q19 q20 q21 q22 q23 u0 u1 u2 u3 u4 i_tape i_hill_columns_many i_taped i_latestGravel i_latestStatus i_hill_changes i_refusals i_hill_columns_heights i_hill_columns_weights) H → va_D A (wd_HS_row cA q0 q1 q2 q3 q4 q5 q6 q7 q8 q9 q10 q11 q12 q13 q14 q15 q16 q17 q18 q19 q20 q21 q22 q23 u0 u1 u2 u3 u4 i_tape i_hill_columns_many i_taped i_latestGravel i_latestStatus i_hill_changes i_refusals i_hill_columns_heights i_hill_columns_weights) → va_S A s.heap H locs → lv_has ls 5 [(0, .ref q0), (1, .int (Int32.ofInt x1)), (2, .int (Int32.ofInt x2)), (3, .int (Int32.ofInt x3))] → W p l e rm_HS_row s m args below meth c H locs 0 0 Q (F0 m 44 ls []) := by
    intro n
    induction n with
    | zero => intro x1 x2 x3 i_taped i_latestGravel i_latestStatus i_hill_changes i_refusals i_hill_columns_heights i_hill_columns_weights H locs ls hf hP hD hS hl; exact nomatch hf
    | succ n ih => intro x1 x2 x3 i_taped i_latestGravel i_latestStatus i_hill_changes i_refusals i_hill_columns_heights i_hill_columns_weights H locs ls hf hP hD hS hl; exact b_44 (f_HS_row_44 i_tape i_hill_columns_many n) ih x1 x2 x3 i_taped i_latestGravel i_latestStatus i_hill_changes i_refusals i_hill_columns_heights i_hill_columns_weights H locs ls hf hP hD hS hl
  unfold f_HS_row at hf
  refine lv_aload_n hx hb (zdt zkX10_row 0 rfl) rfl (lv_at hl 0 rfl) ?_
  refine va_get (D := (dC, dI)) (ci := 10) (v := .int (Int32.ofInt i_taped)) (C := RX10) (T := TX10) (N := 16) hx hb hz zi_X10 hown hK hP 0 rfl rfl 4 (by decide) (hz _ zw_481) (fun _ h9 => h9) rfl (zdt zkX10_row 1 rfl) ?_
  refine lv_istore_n (lv' := [(1, .int (Int32.ofInt i_taped)), (0, .ref q0)]) hx hb (zdt zkX10_row 4 rfl) rfl hl (by decide) rfl (fun ls hl => ?_)
  refine lv_aload_n hx hb (zdt zkX10_row 5 rfl) rfl (lv_at hl 1 rfl) ?_
  refine lv_iconst (v := Int32.ofInt 0) hx hb (zdt zkX10_row 6 rfl) rfl ?_
  refine va_put (D := (dC, dI)) (ci := 10) (v := .int (Int32.ofInt 0)) (ty := .int) (C := RX10) (T := TX10) (N := 16) hx hb hz zi_X10 tyX10 tyX10_ok nmX10 hown hK hP hD hS 0 rfl rfl 4 (by decide) (hz _ zw_481) (fun _ h9 => h9) rfl (by decide +kernel) rfl rfl (Nat.le_of_ble_eq_true rfl) (zdt zkX10_row 7 rfl) (fun H locs hP hD hS => ?_)
  refine xw_PD (wd_HS_row cA q0 q1 q2 q3 q4 q5 q6 q7 q8 q9 q10 q11 q12 q13 q14 q15 q16 q17 q18 q19 q20 q21 q22 q23 u0 u1 u2 u3 u4 i_tape i_hill_columns_many 0 i_latestGravel i_latestStatus i_hill_changes i_refusals i_hill_columns_heights i_hill_columns_weights) hP hD (fun hP hD => ?_)
  refine lv_iload_n hx hb (zdt zkX10_row 10 rfl) rfl (lv_at hl 0 rfl) ?_
  refine xi_if_eq (tgt := 33) hx hb (zdt zkX10_row 11 rfl) (by decide) hf (fun hf => ?_) (fun hf => ?_)
  · exact b_33  _ _ _ _ _ _ _ _ _ _ hf hP hD hS (lv_sub hl [1] rfl)
  · refine lv_aload_n hx hb (zdt zkX10_row 14 rfl) rfl (lv_at hl 1 rfl) ?_
    refine va_get (D := (dC, dI)) (ci := 10) (v := .ref q1) (C := RX10) (T := TX10) (N := 16) hx hb hz zi_X10 hown hK hP 0 rfl rfl 0 (by decide) (hz _ zw_477) (fun _ h9 => h9) rfl (zdt zkX10_row 15 rfl) ?_
    refine va_getN (D := (dC, dI)) (ci := 2) (v := .ref q13) (C := RX2) (T := TX2) (N := 14) hx hb hz zi_X2 hown hK hP 1 rfl rfl 0 (by decide) (va_Nw.use rfl (hE.1.1 _ zw_169)) (fun _ h9 => h9) rfl (zdt zkX10_row 18 rfl) ?_
    refine lv_aload_n hx hb (zdt zkX10_row 21 rfl) rfl (lv_at hl 1 rfl) ?_
    refine va_get (D := (dC, dI)) (ci := 10) (v := .ref q4) (C := RX10) (T := TX10) (N := 16) hx hb hz zi_X10 hown hK hP 0 rfl rfl 3 (by decide) (hz _ zw_480) (fun _ h9 => h9) rfl (zdt zkX10_row 22 rfl) ?_
    refine lv_iconst (v := Int32.ofInt 0) hx hb (zdt zkX10_row 25 rfl) rfl ?_
    refine xi_iald hx hb hK hP 2 0 rfl rfl (zdt zkX10_row 26 rfl) hf (fun v1 hf => ?_)
    refine xe_d1 hf (fun v2 hg hf => ?_)
    have hC : ([4] : List Nat).map (fun i => (wd_HS_row cA q0 q1 q2 q3 q4 q5 q6 q7 q8 q9 q10 q11 q12 q13 q14 q15 q16 q17 q18 q19 q20 q21 q22 q23 u0 u1 u2 u3 u4 i_tape i_hill_columns_many 0 i_latestGravel i_latestStatus i_hill_changes i_refusals i_hill_columns_heights i_hill_columns_weights)[i]?) = (wd_Columns_has cA q13 q22 q23 i_hill_columns_many).map some := rfl
    refine xv_afterI (ws' := (wd_HS_row cA q0 q1 q2 q3 q4 q5 q6 q7 q8 q9 q10 q11 q12 q13 q14 q15 q16 q17 q18 q19 q20 q21 q22 q23 u0 u1 u2 u3 u4 i_tape i_hill_columns_many 0 i_latestGravel i_latestStatus i_hill_changes i_refusals i_hill_columns_heights i_hill_columns_weights)) (isC := [4]) (ps := [none, none, none, none, some 0, none, none]) (va_runV (As := [.int (Int32.ofInt v1)]) (rest := []) ⟨hx, hb, hml, hown, hts⟩ (c_Columns_has l ev dC dI cA q13 q22 q23 hg H.size) (cwV 1 hts (zgV zw_546 zw_547 zw_548 zw_106 zw_549) rfl rfl rfl hd_Columns_has ⟨Nat.le_of_ble_eq_true rfl, Nat.le_of_ble_eq_true rfl⟩) (xv_preV (T := TX1) (N := 3) hE hA hS hK hP hD (isC := [4]) (by decide +kernel) hC (q0 := 4) (ci := 1) rfl rfl) rfl rfl hl.1 rfl (lv_room (Nat.le_of_ble_eq_true rfl)) (zdt zkX10_row 27 rfl) ⟨Nat.le_refl _, Nat.le_refl _⟩) hP hD hS hA (by decide +kernel) rfl hC rfl rfl (fun H locs hP hD hS => ?_)
    refine xi_if_ne (tgt := 40) hx hb (zdt zkX10_row 30 rfl) (by decide) hf (fun hf => ?_) (fun hf => ?_)
    · refine lv_iconst (v := Int32.ofInt 0) hx hb (zdt zkX10_row 40 rfl) rfl ?_
      refine lv_istore_n (lv' := [(2, .int (Int32.ofInt 0)), (1, .int (Int32.ofInt i_taped)), (0, .ref q0)]) hx hb (zdt zkX10_row 41 rfl) rfl hl (by decide) rfl (fun ls hl => ?_)
      refine lv_iconst (v := Int32.ofInt 1) hx hb (zdt zkX10_row 42 rfl) rfl ?_
      refine lv_istore_n (lv' := [(3, .int (Int32.ofInt 1)), (2, .int (Int32.ofInt 0)), (1, .int (Int32.ofInt i_taped)), (0, .ref q0)]) hx hb (zdt zkX10_row 43 rfl) rfl hl (by decide) rfl (fun ls hl => ?_)
      exact l_44  _ _ _ _ _ _ _ _ _ _ _ _ _ _ hf hP hD hS (lv_sub hl [3, 2, 1, 0] rfl)
    · exact b_33  _ _ _ _ _ _ _ _ _ _ hf hP hD hS (lv_sub hl [1] rfl)
set_option maxRecDepth 100000 in
noncomputable def ztX10_gravel (p : Nat) : Option (Jvm.ClassFile.Instr × Nat) := bif Nat.ble 1 p then (bif Nat.ble 4 p then (bif Nat.beq p 4 then some (.ireturn, 1) else none) else (bif Nat.beq p 1 then some (.getfield 35, 3) else none)) else (bif Nat.beq p 0 then some (.aload_n 0, 1) else none)
set_option maxRecDepth 100000 in
theorem zkX10_gravel : (zbig cX10_gravel.data.toList = 739321623594 ∧ cX10_gravel.data.toList.length = 5) ∧ zdk cX10_gravel 739321623594 5 ztX10_gravel 4 = true := by decide +kernel
theorem zw_641 : (Jvm.Cond.code ({ cls := "HillSchool", name := "gravel", desc := "()I" } : Jvm.MethodName) prog_1_method_15_code (1 : Nat) (Option.some Jvm.ClassFile.FieldType.int)) ∈ zall := zmemG (zmj_3 58 rfl) rfl
noncomputable abbrev w_HS_gravel : List Cond := .code yX10_gravel cX10_gravel 1 (some .int) :: zall
noncomputable abbrev rm_HS_gravel : Room := { frames := 0, cells := 0, slots := 0, locals := 0 }
theorem hd_HS_gravel : yX10_gravel.cls = "HillSchool" ∧ yX10_gravel.cls ≠ "java/lang/invoke/MethodHandle" ∧ yX10_gravel.cls ≠ "java/lang/invoke/VarHandle" ∧ (parseMethodDescriptor yX10_gravel.desc).map (fun d => d.parameters.length) = some 0 := by decide +kernel
noncomputable def wd_HS_gravel (cA : Nat → ClassId) (q0 q1 q2 q3 q4 q5 q6 q7 q8 q9 q10 q11 q12 : Nat) (u0 u1 u2 : Int) (i_latestGravel : Int)  : va_W := [(q0, .inr (10, [.ref q1, .ref q2, .ref q3, .ref q4, .int (Int32.ofInt u0), .int (Int32.ofInt u1), .int (Int32.ofInt i_latestGravel), .ref q5, .int (Int32.ofInt u2), .ref q6, .ref q7, .ref q8, .ref q9, .ref q10, .ref q11, .ref q12]))]
noncomputable def wf_HS_gravel (cA : Nat → ClassId) (q0 q1 q2 q3 q4 q5 q6 q7 q8 q9 q10 q11 q12 : Nat) (u0 u1 u2 : Int) (i_latestGravel : Int) (o : Int) : va_W := wd_HS_gravel cA q0 q1 q2 q3 q4 q5 q6 q7 q8 q9 q10 q11 q12 u0 u1 u2 i_latestGravel
noncomputable def f_HS_gravel (i_latestGravel : Int) : Option (Int) :=
  some i_latestGravel
set_option maxHeartbeats 4000000 in
set_option maxRecDepth 100000 in
theorem c_HS_gravel (l : Launch) (ev : zEv) (dC : Nat → ClassId) (dI : Nat → Nat → Nat) (cA : Nat → ClassId) (q0 q1 q2 q3 q4 q5 q6 q7 q8 q9 q10 q11 q12 : Nat) (u0 u1 u2 : Int) {i_latestGravel : Int} {out : Int} (hf : f_HS_gravel i_latestGravel = some out) : xc_I l ev (dC, dI) vwCl (tyl cA) yX10_gravel w_HS_gravel rm_HS_gravel [.ref q0] (wd_HS_gravel cA q0 q1 q2 q3 q4 q5 q6 q7 q8 q9 q10 q11 q12 u0 u1 u2 i_latestGravel) (wf_HS_gravel cA q0 q1 q2 q3 q4 q5 q6 q7 q8 q9 q10 q11 q12 u0 u1 u2 i_latestGravel out) out := by
  refine xv_startI (cc := cX10_gravel) (maxL := 1) (rt := .int) (by decide +kernel) rfl (Nat.le_of_ble_eq_true rfl) ?_
  intro p e s m args below meth c A Q H ls hx hb hml hts hown hK hA hP hD hS hl hE hret
  have hown : s.vm.findClass "HillSchool" = some m.cls := hown
  have hz : ∀ w ∈ zall, w.before args s = true := fun w h => hts w (List.mem_cons_of_mem _ h)
  have hl : lv_has ls 1 [(0, .ref q0)] := hl
  unfold f_HS_gravel at hf
  refine lv_aload_n hx hb (zdt zkX10_gravel 0 rfl) rfl (lv_at hl 0 rfl) ?_
  refine va_get (D := (dC, dI)) (ci := 10) (v := .int (Int32.ofInt i_latestGravel)) (C := RX10) (T := TX10) (N := 16) hx hb hz zi_X10 hown hK hP 0 rfl rfl 6 (by decide) (hz _ zw_483) (fun _ h9 => h9) rfl (zdt zkX10_gravel 1 rfl) ?_
  obtain rfl := Option.some.inj hf
  exact hret _ _ _ _ rfl (zdt zkX10_gravel 4 rfl) hP hD hS
set_option maxRecDepth 100000 in
noncomputable def ztX2_enact (p : Nat) : Option (Jvm.ClassFile.Instr × Nat) := bif Nat.ble 27 p then (bif Nat.ble 43 p then (bif Nat.ble 49 p then (bif Nat.ble 51 p then (bif Nat.ble 54 p then (bif Nat.ble 55 p then (bif Nat.beq p 55 then some (.ireturn, 1) else none) else (bif Nat.beq p 54 then some (.iload_n 2, 1) else none)) else (bif Nat.beq p 51 then some (.putfield 52, 3) else none)) else (bif Nat.ble 50 p then (bif Nat.beq p 50 then some (.iadd, 1) else none) else (bif Nat.beq p 49 then some (.iconst 1, 1) else none))) else (bif Nat.ble 45 p then (bif Nat.ble 46 p then (bif Nat.beq p 46 then some (.getfield 52, 3) else none) else (bif Nat.beq p 45 then some (.dup, 1) else none)) else (bif Nat.ble 44 p then (bif Nat.beq p 44 then some (.aload_n 0, 1) else none) else (bif Nat.beq p 43 then some (.iastore, 1) else none)))) else (bif Nat.ble 35 p then (bif Nat.ble 39 p then (bif Nat.ble 40 p then (bif Nat.beq p 40 then some (.getfield 70, 3) else none) else (bif Nat.beq p 39 then some (.aload_n 1, 1) else none)) else (bif Nat.ble 38 p then (bif Nat.beq p 38 then some (.iload_n 2, 1) else none) else (bif Nat.beq p 35 then some (.getfield 60, 3) else none))) else (bif Nat.ble 31 p then (bif Nat.ble 34 p then (bif Nat.beq p 34 then some (.aload_n 0, 1) else none) else (bif Nat.beq p 31 then some (.invokestatic 72, 3) else none)) else (bif Nat.ble 28 p then (bif Nat.beq p 28 then some (.getfield 70, 3) else none) else (bif Nat.beq p 27 then some (.aload_n 1, 1) else none))))) else (bif Nat.ble 13 p then (bif Nat.ble 19 p then (bif Nat.ble 23 p then (bif Nat.ble 26 p then (bif Nat.beq p 26 then some (.imul, 1) else none) else (bif Nat.beq p 23 then some (.sipush 424, 3) else none)) else (bif Nat.ble 22 p then (bif Nat.beq p 22 then some (.iload_n 2, 1) else none) else (bif Nat.beq p 19 then some (.getfield 57, 3) else none))) else (bif Nat.ble 17 p then (bif Nat.ble 18 p then (bif Nat.beq p 18 then some (.aload_n 0, 1) else none) else (bif Nat.beq p 17 then some (.iconst 0, 1) else none)) else (bif Nat.ble 14 p then (bif Nat.beq p 14 then some (.getfield 69, 3) else none) else (bif Nat.beq p 13 then some (.aload_n 1, 1) else none)))) else (bif Nat.ble 6 p then (bif Nat.ble 11 p then (bif Nat.ble 12 p then (bif Nat.beq p 12 then some (.ireturn, 1) else none) else (bif Nat.beq p 11 then some (.iconst (-1), 1) else none)) else (bif Nat.ble 8 p then (bif Nat.beq p 8 then some (.if_icmp .lt 5, 3) else none) else (bif Nat.beq p 6 then some (.bipush 6, 2) else none))) else (bif Nat.ble 4 p then (bif Nat.ble 5 p then (bif Nat.beq p 5 then some (.iload_n 2, 1) else none) else (bif Nat.beq p 4 then some (.istore_n 2, 1) else none)) else (bif Nat.ble 1 p then (bif Nat.beq p 1 then some (.getfield 52, 3) else none) else (bif Nat.beq p 0 then some (.aload_n 0, 1) else none)))))
set_option maxRecDepth 100000 in
theorem zkX2_enact : (zbig cX2_enact.data.toList = 488657559805877952750171560480917648770665288938175848416716690693451725951283880934013019156148035484295664319672386794224344337789994 ∧ cX2_enact.data.toList.length = 56) ∧ zdk cX2_enact 488657559805877952750171560480917648770665288938175848416716690693451725951283880934013019156148035484295664319672386794224344337789994 56 ztX2_enact 55 = true := by decide +kernel
theorem zw_121 : (Jvm.Cond.initialized "java/lang/System") ∈ zall := zmemG (zmj_1 18 rfl) rfl
theorem zw_196 : (Jvm.Cond.fieldLink "HillSchool$Hill" (52 : Nat) "HillSchool$Hill" "laws" "I") ∈ zall := zmemG (zmj_1 93 rfl) rfl
theorem zw_199 : (Jvm.Cond.fieldLink "HillSchool$Hill" (57 : Nat) "HillSchool$Hill" "orders" "[I") ∈ zall := zmemG (zmj_1 96 rfl) rfl
theorem zw_201 : (Jvm.Cond.fieldLink "HillSchool$Hill" (60 : Nat) "HillSchool$Hill" "ordered" "[I") ∈ zall := zmemG (zmj_1 98 rfl) rfl
theorem zw_249 : (Jvm.Cond.fieldLinkNest "HillSchool$Hill" (69 : Nat) "HillSchool$LawReader" "orders" "[I" "HillSchool") ∈ znest := zmemH (zmj_1 146 rfl) rfl
theorem zw_251 : (Jvm.Cond.fieldLinkNest "HillSchool$Hill" (70 : Nat) "HillSchool$LawReader" "ordered" "I" "HillSchool") ∈ znest := zmemH (zmj_1 148 rfl) rfl
theorem zw_782 : (Jvm.Cond.code ({ cls := "HillSchool$Hill", name := "enact", desc := "(LHillSchool$LawReader;)I" } : Jvm.MethodName) prog_4_method_5_code (3 : Nat) (Option.some Jvm.ClassFile.FieldType.int)) ∈ zall := zmemG (zmj_3 199 rfl) rfl
theorem zw_783 : (Jvm.Cond.methodLink "HillSchool$Hill" (72 : Nat) ({ cls := "java/lang/System", name := "arraycopy", desc := "(Ljava/lang/Object;ILjava/lang/Object;II)V" } : Jvm.MethodName)) ∈ zall := zmemG (zmj_3 200 rfl) rfl
theorem zw_784 : (Jvm.Cond.static ({ cls := "java/lang/System", name := "arraycopy", desc := "(Ljava/lang/Object;ILjava/lang/Object;II)V" } : Jvm.MethodName)) ∈ zall := zmemG (zmj_3 201 rfl) rfl
theorem zw_785 : (Jvm.Cond.native ({ cls := "java/lang/System", name := "arraycopy", desc := "(Ljava/lang/Object;ILjava/lang/Object;II)V" } : Jvm.MethodName)) ∈ zall := zmemG (zmj_3 202 rfl) rfl
noncomputable abbrev w_Hill_enact : List Cond := .code yX2_enact cX2_enact 3 (some .int) :: zall
noncomputable abbrev rm_Hill_enact : Room := { frames := 2, cells := 0, slots := 0, locals := 60 }
theorem hd_Hill_enact : yX2_enact.cls = "HillSchool$Hill" ∧ yX2_enact.cls ≠ "java/lang/invoke/MethodHandle" ∧ yX2_enact.cls ≠ "java/lang/invoke/VarHandle" ∧ (parseMethodDescriptor yX2_enact.desc).map (fun d => d.parameters.length) = some 1 := by decide +kernel
noncomputable def wd_Hill_enact (cA : Nat → ClassId) (q0 q1 q2 q3 q4 q5 q6 q7 q8 q9 q10 q11 q12 q13 q14 : Nat) (u0 u1 u2 u3 u4 u5 : Int) (i_a1_ordered : Int) (i_a1_orders : Nat → Int) (i_laws : Int) (i_orders : Nat → Int) (i_ordered : Nat → Int) : va_W := [(q0, .inr (2, [.ref q1, .int (Int32.ofInt u0), .ref q2, .ref q3, .ref q4, .int (Int32.ofInt u1), .ref q5, .ref q6, .ref q7, .int (Int32.ofInt i_laws), .ref q8, .ref q9, .int (Int32.ofInt u2), .int (Int32.ofInt u3)])), (q10, .inr (4, [.ref q11, .int (Int32.ofInt i_a1_ordered), .ref q12, .ref q13, .ref q14, .int (Int32.ofInt u4), .int (Int32.ofInt u5)])), (q8, .inl (cA 0, 2544, .inl (za i_orders))), (q9, .inl (cA 0, 6, .inl (za i_ordered))), (q11, .inl (cA 0, 424, .inl (za i_a1_orders)))]
noncomputable def wf_Hill_enact (cA : Nat → ClassId) (q0 q1 q2 q3 q4 q5 q6 q7 q8 q9 q10 q11 q12 q13 q14 : Nat) (u0 u1 u2 u3 u4 u5 : Int) (i_a1_ordered : Int) (i_a1_orders : Nat → Int) (o : Int × Int × (Nat → Int) × (Nat → Int)) : va_W := wd_Hill_enact cA q0 q1 q2 q3 q4 q5 q6 q7 q8 q9 q10 q11 q12 q13 q14 u0 u1 u2 u3 u4 u5 i_a1_ordered i_a1_orders o.2.1 o.2.2.1 o.2.2.2
noncomputable def f_Hill_enact (i_a1_ordered : Int) (i_a1_orders : Nat → Int) (i_laws : Int) (i_orders : Nat → Int) (i_ordered : Nat → Int) : Option (Int × Int × (Nat → Int) × (Nat → Int)) :=
  if zi_w i_laws < zi_w 6 then
    zn (i_laws * 424) fun v1 =>
    zcp 424 i_a1_orders 0 2544 i_orders v1 i_a1_ordered fun a2 =>
    zs 6 i_ordered i_laws i_a1_ordered fun a3 =>
    zn (i_laws + 1) fun v4 =>
    some (i_laws, v4, a2, a3)
  else
    some ((-1), i_laws, i_orders, i_ordered)
set_option maxHeartbeats 4000000 in
set_option maxRecDepth 100000 in
theorem c_Hill_enact (l : Launch) (ev : zEv) (dC : Nat → ClassId) (dI : Nat → Nat → Nat) (cA : Nat → ClassId) (q0 q1 q2 q3 q4 q5 q6 q7 q8 q9 q10 q11 q12 q13 q14 : Nat) (u0 u1 u2 u3 u4 u5 : Int) {i_a1_ordered : Int} {i_a1_orders : Nat → Int} {i_laws : Int} {i_orders : Nat → Int} {i_ordered : Nat → Int} {out : Int × Int × (Nat → Int) × (Nat → Int)} (hf : f_Hill_enact i_a1_ordered i_a1_orders i_laws i_orders i_ordered = some out) : xc_I l ev (dC, dI) vwCl (tyl cA) yX2_enact w_Hill_enact rm_Hill_enact [.ref q0, .ref q10] (wd_Hill_enact cA q0 q1 q2 q3 q4 q5 q6 q7 q8 q9 q10 q11 q12 q13 q14 u0 u1 u2 u3 u4 u5 i_a1_ordered i_a1_orders i_laws i_orders i_ordered) (wf_Hill_enact cA q0 q1 q2 q3 q4 q5 q6 q7 q8 q9 q10 q11 q12 q13 q14 u0 u1 u2 u3 u4 u5 i_a1_ordered i_a1_orders out) out.1 := by
  refine xv_startI (cc := cX2_enact) (maxL := 3) (rt := .int) (by decide +kernel) rfl (Nat.le_of_ble_eq_true rfl) ?_
  intro p e s m args below meth c A Q H ls hx hb hml hts hown hK hA hP hD hS hl hE hret
  have hown : s.vm.findClass "HillSchool$Hill" = some m.cls := hown
  have hz : ∀ w ∈ zall, w.before args s = true := fun w h => hts w (List.mem_cons_of_mem _ h)
  have hl : lv_has ls 3 [(0, .ref q0), (1, .ref q10)] := hl
  unfold f_Hill_enact at hf
  refine lv_aload_n hx hb (zdt zkX2_enact 0 rfl) rfl (lv_at hl 0 rfl) ?_
  refine va_get (D := (dC, dI)) (ci := 2) (v := .int (Int32.ofInt i_laws)) (C := RX2) (T := TX2) (N := 14) hx hb hz zi_X2 hown hK hP 0 rfl rfl 9 (by decide) (hz _ zw_196) (fun _ h9 => h9) rfl (zdt zkX2_enact 1 rfl) ?_
  refine lv_istore_n (lv' := [(2, .int (Int32.ofInt i_laws)), (0, .ref q0), (1, .ref q10)]) hx hb (zdt zkX2_enact 4 rfl) rfl hl (by decide) rfl (fun ls hl => ?_)
  refine lv_iload_n hx hb (zdt zkX2_enact 5 rfl) rfl (lv_at hl 0 rfl) ?_
  refine lv_bipush (v := Int32.ofInt 6) hx hb (zdt zkX2_enact 6 rfl) (by decide) ?_
  refine xi_icmp_lt (tgt := 13) hx hb (zdt zkX2_enact 8 rfl) (by decide) hf (fun hf => ?_) (fun hf => ?_)
  · refine lv_aload_n hx hb (zdt zkX2_enact 13 rfl) rfl (lv_at hl 2 rfl) ?_
    refine va_getN (D := (dC, dI)) (ci := 4) (v := .ref q11) (C := RX4) (T := TX4) (N := 7) hx hb hz zi_X4 hown hK hP 1 rfl rfl 0 (by decide) (va_Nw.use rfl (hE.1.1 _ zw_249)) (fun _ h9 => h9) rfl (zdt zkX2_enact 14 rfl) ?_
    refine lv_iconst (v := Int32.ofInt 0) hx hb (zdt zkX2_enact 17 rfl) rfl ?_
    refine lv_aload_n hx hb (zdt zkX2_enact 18 rfl) rfl (lv_at hl 1 rfl) ?_
    refine va_get (D := (dC, dI)) (ci := 2) (v := .ref q8) (C := RX2) (T := TX2) (N := 14) hx hb hz zi_X2 hown hK hP 0 rfl rfl 10 (by decide) (hz _ zw_199) (fun _ h9 => h9) rfl (zdt zkX2_enact 19 rfl) ?_
    refine lv_iload_n hx hb (zdt zkX2_enact 22 rfl) rfl (lv_at hl 0 rfl) ?_
    refine lv_sipush (v := Int32.ofInt 424) hx hb (zdt zkX2_enact 23 rfl) (by decide) ?_
    refine xi_imul hx hb (zdt zkX2_enact 26 rfl) hf (fun v1 hf => ?_)
    refine lv_aload_n hx hb (zdt zkX2_enact 27 rfl) rfl (lv_at hl 2 rfl) ?_
    refine va_getN (D := (dC, dI)) (ci := 4) (v := .int (Int32.ofInt i_a1_ordered)) (C := RX4) (T := TX4) (N := 7) hx hb hz zi_X4 hown hK hP 1 rfl rfl 1 (by decide) (va_Nw.use rfl (hE.1.1 _ zw_251)) (fun _ h9 => h9) rfl (zdt zkX2_enact 28 rfl) ?_
    refine xi_copy hx hb (hml.trans hl.1.symm) hown (hz _ zw_783) (hz _ zw_785) (hz _ zw_784) (hz _ zw_121) hK hP hD hS 4 2 0 0 rfl rfl rfl rfl (Nat.le_of_ble_eq_true rfl) (by decide +kernel) (zdt zkX2_enact 31 rfl) hf (fun a2 H locs hP hD hS hf => ?_)
    refine xw_PD (wd_Hill_enact cA q0 q1 q2 q3 q4 q5 q6 q7 q8 q9 q10 q11 q12 q13 q14 u0 u1 u2 u3 u4 u5 i_a1_ordered i_a1_orders i_laws a2 i_ordered) hP hD (fun hP hD => ?_)
    refine lv_aload_n hx hb (zdt zkX2_enact 34 rfl) rfl (lv_at hl 1 rfl) ?_
    refine va_get (D := (dC, dI)) (ci := 2) (v := .ref q9) (C := RX2) (T := TX2) (N := 14) hx hb hz zi_X2 hown hK hP 0 rfl rfl 11 (by decide) (hz _ zw_201) (fun _ h9 => h9) rfl (zdt zkX2_enact 35 rfl) ?_
    refine lv_iload_n hx hb (zdt zkX2_enact 38 rfl) rfl (lv_at hl 0 rfl) ?_
    refine lv_aload_n hx hb (zdt zkX2_enact 39 rfl) rfl (lv_at hl 2 rfl) ?_
    refine va_getN (D := (dC, dI)) (ci := 4) (v := .int (Int32.ofInt i_a1_ordered)) (C := RX4) (T := TX4) (N := 7) hx hb hz zi_X4 hown hK hP 1 rfl rfl 1 (by decide) (va_Nw.use rfl (hE.1.1 _ zw_251)) (fun _ h9 => h9) rfl (zdt zkX2_enact 40 rfl) ?_
    refine xi_iast hx hb hK hP hD hS 3 0 rfl rfl (zdt zkX2_enact 43 rfl) hf (fun a3 H locs hP hD hS hf => ?_)
    refine xw_PD (wd_Hill_enact cA q0 q1 q2 q3 q4 q5 q6 q7 q8 q9 q10 q11 q12 q13 q14 u0 u1 u2 u3 u4 u5 i_a1_ordered i_a1_orders i_laws a2 a3) hP hD (fun hP hD => ?_)
    refine lv_aload_n hx hb (zdt zkX2_enact 44 rfl) rfl (lv_at hl 1 rfl) ?_
    refine lv_dup hx hb (zdt zkX2_enact 45 rfl) rfl ?_
    refine va_get (D := (dC, dI)) (ci := 2) (v := .int (Int32.ofInt i_laws)) (C := RX2) (T := TX2) (N := 14) hx hb hz zi_X2 hown hK hP 0 rfl rfl 9 (by decide) (hz _ zw_196) (fun _ h9 => h9) rfl (zdt zkX2_enact 46 rfl) ?_
    refine lv_iconst (v := Int32.ofInt 1) hx hb (zdt zkX2_enact 49 rfl) rfl ?_
    refine xi_iadd hx hb (zdt zkX2_enact 50 rfl) hf (fun v4 hf => ?_)
    refine va_put (D := (dC, dI)) (ci := 2) (v := .int (Int32.ofInt v4)) (ty := .int) (C := RX2) (T := TX2) (N := 14) hx hb hz zi_X2 tyX2 tyX2_ok nmX2 hown hK hP hD hS 0 rfl rfl 9 (by decide) (hz _ zw_196) (fun _ h9 => h9) rfl (by decide +kernel) rfl rfl (Nat.le_of_ble_eq_true rfl) (zdt zkX2_enact 51 rfl) (fun H locs hP hD hS => ?_)
    refine xw_PD (wd_Hill_enact cA q0 q1 q2 q3 q4 q5 q6 q7 q8 q9 q10 q11 q12 q13 q14 u0 u1 u2 u3 u4 u5 i_a1_ordered i_a1_orders v4 a2 a3) hP hD (fun hP hD => ?_)
    refine lv_iload_n hx hb (zdt zkX2_enact 54 rfl) rfl (lv_at hl 0 rfl) ?_
    obtain rfl := Option.some.inj hf
    exact hret _ _ _ _ rfl (zdt zkX2_enact 55 rfl) hP hD hS
  · refine lv_iconst (v := Int32.ofInt (-1)) hx hb (zdt zkX2_enact 11 rfl) rfl ?_
    obtain rfl := Option.some.inj hf
    exact hret _ _ _ _ rfl (zdt zkX2_enact 12 rfl) hP hD hS
set_option maxRecDepth 100000 in
noncomputable def ztX4_order (p : Nat) : Option (Jvm.ClassFile.Instr × Nat) := bif Nat.ble 23 p then (bif Nat.ble 32 p then (bif Nat.ble 37 p then (bif Nat.ble 41 p then (bif Nat.ble 42 p then (bif Nat.beq p 42 then some (.ireturn, 1) else none) else (bif Nat.beq p 41 then some (.isub, 1) else none)) else (bif Nat.ble 40 p then (bif Nat.beq p 40 then some (.iconst 1, 1) else none) else (bif Nat.beq p 37 then some (.getfield 15, 3) else none))) else (bif Nat.ble 33 p then (bif Nat.ble 36 p then (bif Nat.beq p 36 then some (.aload_n 0, 1) else none) else (bif Nat.beq p 33 then some (.putfield 15, 3) else none)) else (bif Nat.beq p 32 then some (.iadd, 1) else none))) else (bif Nat.ble 26 p then (bif Nat.ble 28 p then (bif Nat.ble 31 p then (bif Nat.beq p 31 then some (.iconst 1, 1) else none) else (bif Nat.beq p 28 then some (.getfield 15, 3) else none)) else (bif Nat.ble 27 p then (bif Nat.beq p 27 then some (.dup, 1) else none) else (bif Nat.beq p 26 then some (.aload_n 0, 1) else none))) else (bif Nat.ble 24 p then (bif Nat.ble 25 p then (bif Nat.beq p 25 then some (.iastore, 1) else none) else (bif Nat.beq p 24 then some (.ior, 1) else none)) else (bif Nat.beq p 23 then some (.iload_n 1, 1) else none)))) else (bif Nat.ble 12 p then (bif Nat.ble 17 p then (bif Nat.ble 21 p then (bif Nat.ble 22 p then (bif Nat.beq p 22 then some (.ishl, 1) else none) else (bif Nat.beq p 21 then some (.iconst 4, 1) else none)) else (bif Nat.ble 20 p then (bif Nat.beq p 20 then some (.iload_n 2, 1) else none) else (bif Nat.beq p 17 then some (.getfield 15, 3) else none))) else (bif Nat.ble 13 p then (bif Nat.ble 16 p then (bif Nat.beq p 16 then some (.aload_n 0, 1) else none) else (bif Nat.beq p 13 then some (.getfield 11, 3) else none)) else (bif Nat.beq p 12 then some (.aload_n 0, 1) else none))) else (bif Nat.ble 7 p then (bif Nat.ble 10 p then (bif Nat.ble 11 p then (bif Nat.beq p 11 then some (.ireturn, 1) else none) else (bif Nat.beq p 10 then some (.iconst (-1), 1) else none)) else (bif Nat.beq p 7 then some (.if_icmp .lt 5, 3) else none)) else (bif Nat.ble 1 p then (bif Nat.ble 4 p then (bif Nat.beq p 4 then some (.sipush 424, 3) else none) else (bif Nat.beq p 1 then some (.getfield 15, 3) else none)) else (bif Nat.beq p 0 then some (.aload_n 0, 1) else none))))
set_option maxRecDepth 100000 in
theorem zkX4_order : (zbig cX4_order.data.toList = 24131945915657542202688073815227496929934375392134665042540384896206042192712829037491741849060366136362 ∧ cX4_order.data.toList.length = 43) ∧ zdk cX4_order 24131945915657542202688073815227496929934375392134665042540384896206042192712829037491741849060366136362 43 ztX4_order 42 = true := by decide +kernel
theorem zw_248 : (Jvm.Cond.fieldLink "HillSchool$LawReader" (11 : Nat) "HillSchool$LawReader" "orders" "[I") ∈ zall := zmemG (zmj_1 145 rfl) rfl
theorem zw_250 : (Jvm.Cond.fieldLink "HillSchool$LawReader" (15 : Nat) "HillSchool$LawReader" "ordered" "I") ∈ zall := zmemG (zmj_1 147 rfl) rfl
theorem zw_751 : (Jvm.Cond.code ({ cls := "HillSchool$LawReader", name := "order", desc := "(II)I" } : Jvm.MethodName) prog_6_method_10_code (3 : Nat) (Option.some Jvm.ClassFile.FieldType.int)) ∈ zall := zmemG (zmj_3 168 rfl) rfl
noncomputable abbrev w_LawReader_order : List Cond := .code yX4_order cX4_order 3 (some .int) :: zall
noncomputable abbrev rm_LawReader_order : Room := { frames := 0, cells := 0, slots := 0, locals := 0 }
theorem hd_LawReader_order : yX4_order.cls = "HillSchool$LawReader" ∧ yX4_order.cls ≠ "java/lang/invoke/MethodHandle" ∧ yX4_order.cls ≠ "java/lang/invoke/VarHandle" ∧ (parseMethodDescriptor yX4_order.desc).map (fun d => d.parameters.length) = some 2 := by decide +kernel
noncomputable def wd_LawReader_order (cA : Nat → ClassId) (q0 q1 q2 q3 q4 : Nat) (u0 u1 : Int)  (i_ordered : Int) (i_orders : Nat → Int) : va_W := [(q0, .inr (4, [.ref q1, .int (Int32.ofInt i_ordered), .ref q2, .ref q3, .ref q4, .int (Int32.ofInt u0), .int (Int32.ofInt u1)])), (q1, .inl (cA 0, 424, .inl (za i_orders)))]
noncomputable def wf_LawReader_order (cA : Nat → ClassId) (q0 q1 q2 q3 q4 : Nat) (u0 u1 : Int)  (o : Int × Int × (Nat → Int)) : va_W := wd_LawReader_order cA q0 q1 q2 q3 q4 u0 u1 o.2.1 o.2.2
noncomputable def f_LawReader_order (x1 : Int) (x2 : Int) (i_ordered : Int) (i_orders : Nat → Int) : Option (Int × Int × (Nat → Int)) :=
  if zi_w i_ordered < zi_w 424 then
    zn (zi_shl x2 4) fun v1 =>
    zn (zi_or v1 x1) fun v2 =>
    zs 424 i_orders i_ordered v2 fun a3 =>
    zn (i_ordered + 1) fun v4 =>
    zn (v4 - 1) fun v5 =>
    some (v5, v4, a3)
  else
    some ((-1), i_ordered, i_orders)
set_option maxHeartbeats 4000000 in
set_option maxRecDepth 100000 in
theorem c_LawReader_order (l : Launch) (ev : zEv) (dC : Nat → ClassId) (dI : Nat → Nat → Nat) (cA : Nat → ClassId) (q0 q1 q2 q3 q4 : Nat) (u0 u1 : Int) {x1 x2 : Int} {i_ordered : Int} {i_orders : Nat → Int} {out : Int × Int × (Nat → Int)} (hf : f_LawReader_order x1 x2 i_ordered i_orders = some out) : xc_I l ev (dC, dI) vwCl (tyl cA) yX4_order w_LawReader_order rm_LawReader_order [.ref q0, .int (Int32.ofInt x1), .int (Int32.ofInt x2)] (wd_LawReader_order cA q0 q1 q2 q3 q4 u0 u1 i_ordered i_orders) (wf_LawReader_order cA q0 q1 q2 q3 q4 u0 u1 out) out.1 := by
  refine xv_startI (cc := cX4_order) (maxL := 3) (rt := .int) (by decide +kernel) rfl (Nat.le_of_ble_eq_true rfl) ?_
  intro p e s m args below meth c A Q H ls hx hb hml hts hown hK hA hP hD hS hl hE hret
  have hown : s.vm.findClass "HillSchool$LawReader" = some m.cls := hown
  have hz : ∀ w ∈ zall, w.before args s = true := fun w h => hts w (List.mem_cons_of_mem _ h)
  have hl : lv_has ls 3 [(0, .ref q0), (1, .int (Int32.ofInt x1)), (2, .int (Int32.ofInt x2))] := hl
  unfold f_LawReader_order at hf
  refine lv_aload_n hx hb (zdt zkX4_order 0 rfl) rfl (lv_at hl 0 rfl) ?_
  refine va_get (D := (dC, dI)) (ci := 4) (v := .int (Int32.ofInt i_ordered)) (C := RX4) (T := TX4) (N := 7) hx hb hz zi_X4 hown hK hP 0 rfl rfl 1 (by decide) (hz _ zw_250) (fun _ h9 => h9) rfl (zdt zkX4_order 1 rfl) ?_
  refine lv_sipush (v := Int32.ofInt 424) hx hb (zdt zkX4_order 4 rfl) (by decide) ?_
  refine xi_icmp_lt (tgt := 12) hx hb (zdt zkX4_order 7 rfl) (by decide) hf (fun hf => ?_) (fun hf => ?_)
  · refine lv_aload_n hx hb (zdt zkX4_order 12 rfl) rfl (lv_at hl 0 rfl) ?_
    refine va_get (D := (dC, dI)) (ci := 4) (v := .ref q1) (C := RX4) (T := TX4) (N := 7) hx hb hz zi_X4 hown hK hP 0 rfl rfl 0 (by decide) (hz _ zw_248) (fun _ h9 => h9) rfl (zdt zkX4_order 13 rfl) ?_
    refine lv_aload_n hx hb (zdt zkX4_order 16 rfl) rfl (lv_at hl 0 rfl) ?_
    refine va_get (D := (dC, dI)) (ci := 4) (v := .int (Int32.ofInt i_ordered)) (C := RX4) (T := TX4) (N := 7) hx hb hz zi_X4 hown hK hP 0 rfl rfl 1 (by decide) (hz _ zw_250) (fun _ h9 => h9) rfl (zdt zkX4_order 17 rfl) ?_
    refine lv_iload_n hx hb (zdt zkX4_order 20 rfl) rfl (lv_at hl 2 rfl) ?_
    refine lv_iconst (v := Int32.ofInt 4) hx hb (zdt zkX4_order 21 rfl) rfl ?_
    refine xi_ishl hx hb (zdt zkX4_order 22 rfl) hf (fun v1 hf => ?_)
    refine lv_iload_n hx hb (zdt zkX4_order 23 rfl) rfl (lv_at hl 1 rfl) ?_
    refine xi_ior hx hb (zdt zkX4_order 24 rfl) hf (fun v2 hf => ?_)
    refine xi_iast hx hb hK hP hD hS 1 0 rfl rfl (zdt zkX4_order 25 rfl) hf (fun a3 H locs hP hD hS hf => ?_)
    refine xw_PD (wd_LawReader_order cA q0 q1 q2 q3 q4 u0 u1 i_ordered a3) hP hD (fun hP hD => ?_)
    refine lv_aload_n hx hb (zdt zkX4_order 26 rfl) rfl (lv_at hl 0 rfl) ?_
    refine lv_dup hx hb (zdt zkX4_order 27 rfl) rfl ?_
    refine va_get (D := (dC, dI)) (ci := 4) (v := .int (Int32.ofInt i_ordered)) (C := RX4) (T := TX4) (N := 7) hx hb hz zi_X4 hown hK hP 0 rfl rfl 1 (by decide) (hz _ zw_250) (fun _ h9 => h9) rfl (zdt zkX4_order 28 rfl) ?_
    refine lv_iconst (v := Int32.ofInt 1) hx hb (zdt zkX4_order 31 rfl) rfl ?_
    refine xi_iadd hx hb (zdt zkX4_order 32 rfl) hf (fun v4 hf => ?_)
    refine va_put (D := (dC, dI)) (ci := 4) (v := .int (Int32.ofInt v4)) (ty := .int) (C := RX4) (T := TX4) (N := 7) hx hb hz zi_X4 tyX4 tyX4_ok nmX4 hown hK hP hD hS 0 rfl rfl 1 (by decide) (hz _ zw_250) (fun _ h9 => h9) rfl (by decide +kernel) rfl rfl (Nat.le_of_ble_eq_true rfl) (zdt zkX4_order 33 rfl) (fun H locs hP hD hS => ?_)
    refine xw_PD (wd_LawReader_order cA q0 q1 q2 q3 q4 u0 u1 v4 a3) hP hD (fun hP hD => ?_)
    refine lv_aload_n hx hb (zdt zkX4_order 36 rfl) rfl (lv_at hl 0 rfl) ?_
    refine va_get (D := (dC, dI)) (ci := 4) (v := .int (Int32.ofInt v4)) (C := RX4) (T := TX4) (N := 7) hx hb hz zi_X4 hown hK hP 0 rfl rfl 1 (by decide) (hz _ zw_250) (fun _ h9 => h9) rfl (zdt zkX4_order 37 rfl) ?_
    refine lv_iconst (v := Int32.ofInt 1) hx hb (zdt zkX4_order 40 rfl) rfl ?_
    refine xi_isub hx hb (zdt zkX4_order 41 rfl) hf (fun v5 hf => ?_)
    obtain rfl := Option.some.inj hf
    exact hret _ _ _ _ rfl (zdt zkX4_order 42 rfl) hP hD hS
  · refine lv_iconst (v := Int32.ofInt (-1)) hx hb (zdt zkX4_order 10 rfl) rfl ?_
    obtain rfl := Option.some.inj hf
    exact hret _ _ _ _ rfl (zdt zkX4_order 11 rfl) hP hD hS
set_option maxRecDepth 100000 in
noncomputable def ztX4_pass (p : Nat) : Option (Jvm.ClassFile.Instr × Nat) := bif Nat.ble 20 p then (bif Nat.ble 27 p then (bif Nat.ble 32 p then (bif Nat.ble 35 p then (bif Nat.ble 36 p then (bif Nat.beq p 36 then some (.ireturn, 1) else none) else (bif Nat.beq p 35 then some (.iconst 1, 1) else none)) else (bif Nat.beq p 32 then some (.putfield 28, 3) else none)) else (bif Nat.ble 30 p then (bif Nat.ble 31 p then (bif Nat.beq p 31 then some (.iadd, 1) else none) else (bif Nat.beq p 30 then some (.iconst 1, 1) else none)) else (bif Nat.beq p 27 then some (.getfield 28, 3) else none))) else (bif Nat.ble 24 p then (bif Nat.ble 25 p then (bif Nat.ble 26 p then (bif Nat.beq p 26 then some (.dup, 1) else none) else (bif Nat.beq p 25 then some (.aload_n 0, 1) else none)) else (bif Nat.beq p 24 then some (.ireturn, 1) else none)) else (bif Nat.ble 23 p then (bif Nat.beq p 23 then some (.iconst 0, 1) else none) else (bif Nat.beq p 20 then some (.if_icmp .lt 5, 3) else none)))) else (bif Nat.ble 9 p then (bif Nat.ble 13 p then (bif Nat.ble 14 p then (bif Nat.ble 17 p then (bif Nat.beq p 17 then some (.sipush 400, 3) else none) else (bif Nat.beq p 14 then some (.getfield 28, 3) else none)) else (bif Nat.beq p 13 then some (.aload_n 0, 1) else none)) else (bif Nat.ble 10 p then (bif Nat.beq p 10 then some (.if_icmp .ne 13, 3) else none) else (bif Nat.beq p 9 then some (.iload_n 1, 1) else none))) else (bif Nat.ble 4 p then (bif Nat.ble 5 p then (bif Nat.ble 8 p then (bif Nat.beq p 8 then some (.iaload, 1) else none) else (bif Nat.beq p 5 then some (.getfield 28, 3) else none)) else (bif Nat.beq p 4 then some (.aload_n 0, 1) else none)) else (bif Nat.ble 1 p then (bif Nat.beq p 1 then some (.getfield 19, 3) else none) else (bif Nat.beq p 0 then some (.aload_n 0, 1) else none))))
set_option maxRecDepth 100000 in
theorem zkX4_pass : (zbig cX4_pass.data.toList = 85547579838464090002200931007197703269330483802583119312362520671590191128862944701494314 ∧ cX4_pass.data.toList.length = 37) ∧ zdk cX4_pass 85547579838464090002200931007197703269330483802583119312362520671590191128862944701494314 37 ztX4_pass 36 = true := by decide +kernel
theorem zw_252 : (Jvm.Cond.fieldLink "HillSchool$LawReader" (19 : Nat) "HillSchool$LawReader" "tokens" "[I") ∈ zall := zmemG (zmj_1 149 rfl) rfl
theorem zw_255 : (Jvm.Cond.fieldLink "HillSchool$LawReader" (28 : Nat) "HillSchool$LawReader" "at" "I") ∈ zall := zmemG (zmj_1 152 rfl) rfl
theorem zw_755 : (Jvm.Cond.code ({ cls := "HillSchool$LawReader", name := "pass", desc := "(I)Z" } : Jvm.MethodName) prog_6_method_9_code (2 : Nat) (Option.some Jvm.ClassFile.FieldType.boolean)) ∈ zall := zmemG (zmj_3 172 rfl) rfl
noncomputable abbrev w_LawReader_pass : List Cond := .code yX4_pass cX4_pass 2 (some .boolean) :: zall
noncomputable abbrev rm_LawReader_pass : Room := { frames := 0, cells := 0, slots := 0, locals := 0 }
theorem hd_LawReader_pass : yX4_pass.cls = "HillSchool$LawReader" ∧ yX4_pass.cls ≠ "java/lang/invoke/MethodHandle" ∧ yX4_pass.cls ≠ "java/lang/invoke/VarHandle" ∧ (parseMethodDescriptor yX4_pass.desc).map (fun d => d.parameters.length) = some 1 := by decide +kernel
noncomputable def wd_LawReader_pass (cA : Nat → ClassId) (q0 q1 q2 q3 q4 : Nat) (u0 u1 : Int) (i_tokens : Nat → Int) (i_at : Int) : va_W := [(q0, .inr (4, [.ref q1, .int (Int32.ofInt u0), .ref q2, .ref q3, .ref q4, .int (Int32.ofInt i_at), .int (Int32.ofInt u1)])), (q2, .inl (cA 0, 401, .inl (za i_tokens)))]
noncomputable def wf_LawReader_pass (cA : Nat → ClassId) (q0 q1 q2 q3 q4 : Nat) (u0 u1 : Int) (i_tokens : Nat → Int) (o : Int × Int) : va_W := wd_LawReader_pass cA q0 q1 q2 q3 q4 u0 u1 i_tokens o.2
noncomputable def f_LawReader_pass (x1 : Int) (i_tokens : Nat → Int) (i_at : Int) : Option (Int × Int) :=
  zg 401 i_tokens i_at fun v1 =>
  if zi_w v1 ≠ zi_w x1 then
    some (0, i_at)
  else
    if zi_w i_at < zi_w 400 then
      zn (i_at + 1) fun v2 =>
      some (1, v2)
    else
      some (0, i_at)
set_option maxHeartbeats 4000000 in
set_option maxRecDepth 100000 in
theorem c_LawReader_pass (l : Launch) (ev : zEv) (dC : Nat → ClassId) (dI : Nat → Nat → Nat) (cA : Nat → ClassId) (q0 q1 q2 q3 q4 : Nat) (u0 u1 : Int) {x1 : Int} {i_tokens : Nat → Int} {i_at : Int} {out : Int × Int} (hf : f_LawReader_pass x1 i_tokens i_at = some out) : xc_I l ev (dC, dI) vwCl (tyl cA) yX4_pass w_LawReader_pass rm_LawReader_pass [.ref q0, .int (Int32.ofInt x1)] (wd_LawReader_pass cA q0 q1 q2 q3 q4 u0 u1 i_tokens i_at) (wf_LawReader_pass cA q0 q1 q2 q3 q4 u0 u1 i_tokens out) out.1 := by
  refine xv_startI (cc := cX4_pass) (maxL := 2) (rt := .boolean) (by decide +kernel) rfl (Nat.le_of_ble_eq_true rfl) ?_
  intro p e s m args below meth c A Q H ls hx hb hml hts hown hK hA hP hD hS hl hE hret
  have hown : s.vm.findClass "HillSchool$LawReader" = some m.cls := hown
  have hz : ∀ w ∈ zall, w.before args s = true := fun w h => hts w (List.mem_cons_of_mem _ h)
  have hl : lv_has ls 2 [(0, .ref q0), (1, .int (Int32.ofInt x1))] := hl
  unfold f_LawReader_pass at hf
  refine lv_aload_n hx hb (zdt zkX4_pass 0 rfl) rfl (lv_at hl 0 rfl) ?_
  refine va_get (D := (dC, dI)) (ci := 4) (v := .ref q2) (C := RX4) (T := TX4) (N := 7) hx hb hz zi_X4 hown hK hP 0 rfl rfl 2 (by decide) (hz _ zw_252) (fun _ h9 => h9) rfl (zdt zkX4_pass 1 rfl) ?_
  refine lv_aload_n hx hb (zdt zkX4_pass 4 rfl) rfl (lv_at hl 0 rfl) ?_
  refine va_get (D := (dC, dI)) (ci := 4) (v := .int (Int32.ofInt i_at)) (C := RX4) (T := TX4) (N := 7) hx hb hz zi_X4 hown hK hP 0 rfl rfl 5 (by decide) (hz _ zw_255) (fun _ h9 => h9) rfl (zdt zkX4_pass 5 rfl) ?_
  refine xi_iald hx hb hK hP 1 0 rfl rfl (zdt zkX4_pass 8 rfl) hf (fun v1 hf => ?_)
  refine lv_iload_n hx hb (zdt zkX4_pass 9 rfl) rfl (lv_at hl 1 rfl) ?_
  refine xi_icmp_ne (tgt := 23) hx hb (zdt zkX4_pass 10 rfl) (by decide) hf (fun hf => ?_) (fun hf => ?_)
  · refine lv_iconst (v := Int32.ofInt 0) hx hb (zdt zkX4_pass 23 rfl) rfl ?_
    obtain rfl := Option.some.inj hf
    exact hret _ _ _ _ zz_b0 (zdt zkX4_pass 24 rfl) hP hD hS
  · refine lv_aload_n hx hb (zdt zkX4_pass 13 rfl) rfl (lv_at hl 0 rfl) ?_
    refine va_get (D := (dC, dI)) (ci := 4) (v := .int (Int32.ofInt i_at)) (C := RX4) (T := TX4) (N := 7) hx hb hz zi_X4 hown hK hP 0 rfl rfl 5 (by decide) (hz _ zw_255) (fun _ h9 => h9) rfl (zdt zkX4_pass 14 rfl) ?_
    refine lv_sipush (v := Int32.ofInt 400) hx hb (zdt zkX4_pass 17 rfl) (by decide) ?_
    refine xi_icmp_lt (tgt := 25) hx hb (zdt zkX4_pass 20 rfl) (by decide) hf (fun hf => ?_) (fun hf => ?_)
    · refine lv_aload_n hx hb (zdt zkX4_pass 25 rfl) rfl (lv_at hl 0 rfl) ?_
      refine lv_dup hx hb (zdt zkX4_pass 26 rfl) rfl ?_
      refine va_get (D := (dC, dI)) (ci := 4) (v := .int (Int32.ofInt i_at)) (C := RX4) (T := TX4) (N := 7) hx hb hz zi_X4 hown hK hP 0 rfl rfl 5 (by decide) (hz _ zw_255) (fun _ h9 => h9) rfl (zdt zkX4_pass 27 rfl) ?_
      refine lv_iconst (v := Int32.ofInt 1) hx hb (zdt zkX4_pass 30 rfl) rfl ?_
      refine xi_iadd hx hb (zdt zkX4_pass 31 rfl) hf (fun v2 hf => ?_)
      refine va_put (D := (dC, dI)) (ci := 4) (v := .int (Int32.ofInt v2)) (ty := .int) (C := RX4) (T := TX4) (N := 7) hx hb hz zi_X4 tyX4 tyX4_ok nmX4 hown hK hP hD hS 0 rfl rfl 5 (by decide) (hz _ zw_255) (fun _ h9 => h9) rfl (by decide +kernel) rfl rfl (Nat.le_of_ble_eq_true rfl) (zdt zkX4_pass 32 rfl) (fun H locs hP hD hS => ?_)
      refine xw_PD (wd_LawReader_pass cA q0 q1 q2 q3 q4 u0 u1 i_tokens v2) hP hD (fun hP hD => ?_)
      refine lv_iconst (v := Int32.ofInt 1) hx hb (zdt zkX4_pass 35 rfl) rfl ?_
      obtain rfl := Option.some.inj hf
      exact hret _ _ _ _ zz_b1 (zdt zkX4_pass 36 rfl) hP hD hS
    · refine lv_iconst (v := Int32.ofInt 0) hx hb (zdt zkX4_pass 23 rfl) rfl ?_
      obtain rfl := Option.some.inj hf
      exact hret _ _ _ _ zz_b0 (zdt zkX4_pass 24 rfl) hP hD hS
set_option maxRecDepth 100000 in
noncomputable def ztX4_comparisonOf (p : Nat) : Option (Jvm.ClassFile.Instr × Nat) := bif Nat.ble 33 p then (bif Nat.ble 36 p then (bif Nat.ble 37 p then (bif Nat.ble 38 p then (bif Nat.beq p 38 then some (.ireturn, 1) else none) else (bif Nat.beq p 37 then some (.iconst (-1), 1) else none)) else (bif Nat.beq p 36 then some (.ireturn, 1) else none)) else (bif Nat.ble 34 p then (bif Nat.beq p 34 then some (.bipush 9, 2) else none) else (bif Nat.beq p 33 then some (.ireturn, 1) else none))) else (bif Nat.ble 28 p then (bif Nat.ble 30 p then (bif Nat.ble 31 p then (bif Nat.beq p 31 then some (.bipush 8, 2) else none) else (bif Nat.beq p 30 then some (.ireturn, 1) else none)) else (bif Nat.beq p 28 then some (.bipush 7, 2) else none)) else (bif Nat.ble 1 p then (bif Nat.beq p 1 then some (.tableswitch 36 60 62 #[27, 33, 30], 27) else none) else (bif Nat.beq p 0 then some (.iload_n 0, 1) else none)))
set_option maxRecDepth 100000 in
theorem zkX4_comparisonOf : (zbig cX4_comparisonOf.data.toList = 5606263193576746330420629945631505999320328176087398392286012226404302480300872753709192358426 ∧ cX4_comparisonOf.data.toList.length = 39) ∧ zdk cX4_comparisonOf 5606263193576746330420629945631505999320328176087398392286012226404302480300872753709192358426 39 ztX4_comparisonOf 38 = true := by decide +kernel
theorem zw_774 : (Jvm.Cond.code ({ cls := "HillSchool$LawReader", name := "comparisonOf", desc := "(I)I" } : Jvm.MethodName) prog_6_method_6_code (1 : Nat) (Option.some Jvm.ClassFile.FieldType.int)) ∈ zall := zmemG (zmj_3 191 rfl) rfl
noncomputable abbrev w_LawReader_comparisonOf : List Cond := .code yX4_comparisonOf cX4_comparisonOf 1 (some .int) :: zall
noncomputable abbrev rm_LawReader_comparisonOf : Room := { frames := 0, cells := 0, slots := 0, locals := 0 }
theorem hd_LawReader_comparisonOf : yX4_comparisonOf.cls = yX4_comparisonOf.cls ∧ yX4_comparisonOf.cls ≠ "java/lang/invoke/MethodHandle" ∧ yX4_comparisonOf.cls ≠ "java/lang/invoke/VarHandle" ∧ (parseMethodDescriptor yX4_comparisonOf.desc).map (fun d => d.parameters.length) = some 1 := by decide +kernel
noncomputable def wd_LawReader_comparisonOf (cA : Nat → ClassId)   : va_W := []
noncomputable def wf_LawReader_comparisonOf (cA : Nat → ClassId)  (o : Int) : va_W := wd_LawReader_comparisonOf cA
noncomputable def f_LawReader_comparisonOf (x0 : Int) : Option (Int) :=
  if zi_w x0 = 60 then
    some 7
  else if zi_w x0 = 61 then
    some 9
  else if zi_w x0 = 62 then
    some 8
  else
    some (-1)
set_option maxHeartbeats 4000000 in
set_option maxRecDepth 100000 in
theorem c_LawReader_comparisonOf (l : Launch) (ev : zEv) (dC : Nat → ClassId) (dI : Nat → Nat → Nat) (cA : Nat → ClassId) {x0 : Int} {out : Int} (hf : f_LawReader_comparisonOf x0 = some out) : xc_I l ev (dC, dI) vwCl (tyl cA) yX4_comparisonOf w_LawReader_comparisonOf rm_LawReader_comparisonOf [.int (Int32.ofInt x0)] (wd_LawReader_comparisonOf cA) (wf_LawReader_comparisonOf cA out) out := by
  refine xv_startI (cc := cX4_comparisonOf) (maxL := 1) (rt := .int) (by decide +kernel) rfl (Nat.le_of_ble_eq_true rfl) ?_
  intro p e s m args below meth c A Q H ls hx hb hml hts hown hK hA hP hD hS hl hE hret
  have hown : s.vm.findClass "HillSchool$LawReader" = some m.cls := hown
  have hz : ∀ w ∈ zall, w.before args s = true := fun w h => hts w (List.mem_cons_of_mem _ h)
  have hl : lv_has ls 1 [(0, .int (Int32.ofInt x0))] := hl
  unfold f_LawReader_comparisonOf at hf
  refine lv_iload_n hx hb (zdt zkX4_comparisonOf 0 rfl) rfl (lv_at hl 0 rfl) ?_
  refine xz_if hf (fun hc hf => ?_) (fun hn0 hf => ?_)
  · refine xi_tin (tgt := 28) hx hb (zdt zkX4_comparisonOf 1 rfl) hc (by decide) (by decide) rfl (by decide) ?_
    refine lv_bipush (v := Int32.ofInt 7) hx hb (zdt zkX4_comparisonOf 28 rfl) (by decide) ?_
    obtain rfl := Option.some.inj hf
    exact hret _ _ _ _ rfl (zdt zkX4_comparisonOf 30 rfl) hP hD hS
  refine xz_if hf (fun hc hf => ?_) (fun hn1 hf => ?_)
  · refine xi_tin (tgt := 34) hx hb (zdt zkX4_comparisonOf 1 rfl) hc (by decide) (by decide) rfl (by decide) ?_
    refine lv_bipush (v := Int32.ofInt 9) hx hb (zdt zkX4_comparisonOf 34 rfl) (by decide) ?_
    obtain rfl := Option.some.inj hf
    exact hret _ _ _ _ rfl (zdt zkX4_comparisonOf 36 rfl) hP hD hS
  refine xz_if hf (fun hc hf => ?_) (fun hn2 hf => ?_)
  · refine xi_tin (tgt := 31) hx hb (zdt zkX4_comparisonOf 1 rfl) hc (by decide) (by decide) rfl (by decide) ?_
    refine lv_bipush (v := Int32.ofInt 8) hx hb (zdt zkX4_comparisonOf 31 rfl) (by decide) ?_
    obtain rfl := Option.some.inj hf
    exact hret _ _ _ _ rfl (zdt zkX4_comparisonOf 33 rfl) hP hD hS
  refine xi_tout (tgt := 37) hx hb (zdt zkX4_comparisonOf 1 rfl) (by omega) (by decide) ?_
  refine lv_iconst (v := Int32.ofInt (-1)) hx hb (zdt zkX4_comparisonOf 37 rfl) rfl ?_
  obtain rfl := Option.some.inj hf
  exact hret _ _ _ _ rfl (zdt zkX4_comparisonOf 38 rfl) hP hD hS
set_option maxRecDepth 100000 in
noncomputable def ztX4_readSum (p : Nat) : Option (Jvm.ClassFile.Instr × Nat) := bif Nat.ble 64 p then (bif Nat.ble 94 p then (bif Nat.ble 112 p then (bif Nat.ble 118 p then (bif Nat.ble 122 p then (bif Nat.ble 125 p then (bif Nat.ble 126 p then (bif Nat.beq p 126 then some (.ireturn, 1) else none) else (bif Nat.beq p 125 then some (.iconst 0, 1) else none)) else (bif Nat.beq p 122 then some (.goto (-115), 3) else none)) else (bif Nat.ble 119 p then (bif Nat.beq p 119 then some (.iinc 4 1, 3) else none) else (bif Nat.beq p 118 then some (.ireturn, 1) else none))) else (bif Nat.ble 114 p then (bif Nat.ble 117 p then (bif Nat.beq p 117 then some (.iconst 1, 1) else none) else (bif Nat.beq p 114 then some (.if_icmp .ne 5, 3) else none)) else (bif Nat.ble 113 p then (bif Nat.beq p 113 then some (.iconst (-1), 1) else none) else (bif Nat.beq p 112 then some (.iload_n 3, 1) else none)))) else (bif Nat.ble 103 p then (bif Nat.ble 107 p then (bif Nat.ble 110 p then (bif Nat.ble 111 p then (bif Nat.beq p 111 then some (.istore_n 3, 1) else none) else (bif Nat.beq p 110 then some (.iconst (-1), 1) else none)) else (bif Nat.beq p 107 then some (.goto 4, 3) else none)) else (bif Nat.ble 106 p then (bif Nat.beq p 106 then some (.iconst 4, 1) else none) else (bif Nat.beq p 103 then some (.ifCond .eq 7, 3) else none))) else (bif Nat.ble 98 p then (bif Nat.ble 100 p then (bif Nat.beq p 100 then some (.invokevirtual 51, 3) else none) else (bif Nat.beq p 98 then some (.bipush 45, 2) else none)) else (bif Nat.ble 97 p then (bif Nat.beq p 97 then some (.aload_n 0, 1) else none) else (bif Nat.beq p 94 then some (.goto 17, 3) else none))))) else (bif Nat.ble 78 p then (bif Nat.ble 84 p then (bif Nat.ble 87 p then (bif Nat.ble 90 p then (bif Nat.ble 93 p then (bif Nat.beq p 93 then some (.iconst 3, 1) else none) else (bif Nat.beq p 90 then some (.ifCond .eq 7, 3) else none)) else (bif Nat.beq p 87 then some (.invokevirtual 51, 3) else none)) else (bif Nat.ble 85 p then (bif Nat.beq p 85 then some (.bipush 43, 2) else none) else (bif Nat.beq p 84 then some (.aload_n 0, 1) else none))) else (bif Nat.ble 80 p then (bif Nat.ble 83 p then (bif Nat.beq p 83 then some (.pop, 1) else none) else (bif Nat.beq p 80 then some (.invokevirtual 55, 3) else none)) else (bif Nat.ble 79 p then (bif Nat.beq p 79 then some (.iconst 0, 1) else none) else (bif Nat.beq p 78 then some (.iload_n 3, 1) else none)))) else (bif Nat.ble 72 p then (bif Nat.ble 74 p then (bif Nat.ble 77 p then (bif Nat.beq p 77 then some (.aload_n 0, 1) else none) else (bif Nat.beq p 74 then some (.if_icmp .eq 10, 3) else none)) else (bif Nat.ble 73 p then (bif Nat.beq p 73 then some (.iconst (-1), 1) else none) else (bif Nat.beq p 72 then some (.iload_n 3, 1) else none))) else (bif Nat.ble 66 p then (bif Nat.ble 69 p then (bif Nat.beq p 69 then some (.goto 50, 3) else none) else (bif Nat.beq p 66 then some (.if_icmp .eq 6, 3) else none)) else (bif Nat.ble 65 p then (bif Nat.beq p 65 then some (.iconst (-1), 1) else none) else (bif Nat.beq p 64 then some (.iload_n 2, 1) else none)))))) else (bif Nat.ble 29 p then (bif Nat.ble 45 p then (bif Nat.ble 54 p then (bif Nat.ble 59 p then (bif Nat.ble 62 p then (bif Nat.ble 63 p then (bif Nat.beq p 63 then some (.istore_n 2, 1) else none) else (bif Nat.beq p 62 then some (.iconst (-1), 1) else none)) else (bif Nat.beq p 59 then some (.goto 4, 3) else none)) else (bif Nat.ble 57 p then (bif Nat.beq p 57 then some (.bipush 6, 2) else none) else (bif Nat.beq p 54 then some (.ifCond .eq 8, 3) else none))) else (bif Nat.ble 49 p then (bif Nat.ble 51 p then (bif Nat.beq p 51 then some (.invokevirtual 51, 3) else none) else (bif Nat.beq p 49 then some (.bipush 47, 2) else none)) else (bif Nat.ble 48 p then (bif Nat.beq p 48 then some (.aload_n 0, 1) else none) else (bif Nat.beq p 45 then some (.goto 18, 3) else none)))) else (bif Nat.ble 35 p then (bif Nat.ble 38 p then (bif Nat.ble 41 p then (bif Nat.ble 44 p then (bif Nat.beq p 44 then some (.iconst 5, 1) else none) else (bif Nat.beq p 41 then some (.ifCond .eq 7, 3) else none)) else (bif Nat.beq p 38 then some (.invokevirtual 51, 3) else none)) else (bif Nat.ble 36 p then (bif Nat.beq p 36 then some (.bipush 42, 2) else none) else (bif Nat.beq p 35 then some (.aload_n 0, 1) else none))) else (bif Nat.ble 31 p then (bif Nat.ble 34 p then (bif Nat.beq p 34 then some (.pop, 1) else none) else (bif Nat.beq p 31 then some (.invokevirtual 55, 3) else none)) else (bif Nat.ble 30 p then (bif Nat.beq p 30 then some (.iconst 0, 1) else none) else (bif Nat.beq p 29 then some (.iload_n 2, 1) else none))))) else (bif Nat.ble 12 p then (bif Nat.ble 20 p then (bif Nat.ble 24 p then (bif Nat.ble 25 p then (bif Nat.ble 28 p then (bif Nat.beq p 28 then some (.aload_n 0, 1) else none) else (bif Nat.beq p 25 then some (.if_icmp .eq 10, 3) else none)) else (bif Nat.beq p 24 then some (.iconst (-1), 1) else none)) else (bif Nat.ble 23 p then (bif Nat.beq p 23 then some (.iload_n 2, 1) else none) else (bif Nat.beq p 20 then some (.ifCond .eq 105, 3) else none))) else (bif Nat.ble 16 p then (bif Nat.ble 17 p then (bif Nat.beq p 17 then some (.invokevirtual 75, 3) else none) else (bif Nat.beq p 16 then some (.iload_n 1, 1) else none)) else (bif Nat.ble 15 p then (bif Nat.beq p 15 then some (.aload_n 0, 1) else none) else (bif Nat.beq p 12 then some (.if_icmp .ge 113, 3) else none)))) else (bif Nat.ble 4 p then (bif Nat.ble 7 p then (bif Nat.ble 9 p then (bif Nat.beq p 9 then some (.sipush 400, 3) else none) else (bif Nat.beq p 7 then some (.iload 4, 2) else none)) else (bif Nat.ble 5 p then (bif Nat.beq p 5 then some (.istore 4, 2) else none) else (bif Nat.beq p 4 then some (.iconst 0, 1) else none))) else (bif Nat.ble 2 p then (bif Nat.ble 3 p then (bif Nat.beq p 3 then some (.istore_n 3, 1) else none) else (bif Nat.beq p 2 then some (.iconst (-1), 1) else none)) else (bif Nat.ble 1 p then (bif Nat.beq p 1 then some (.istore_n 2, 1) else none) else (bif Nat.beq p 0 then some (.iconst (-1), 1) else none))))))
set_option maxRecDepth 100000 in
theorem zkX4_readSum : (zbig cX4_readSum.data.toList = 471844758641939307922785562680993615028549241611616083870610844311868669180479291274491102389456160478491673663570479246129120350622786026802956234703387607567829900314442643170553287958634443051272810985863276034355910151374701561900481399516051668847176083899649102099431265052172675835756589089607007490 ∧ cX4_readSum.data.toList.length = 127) ∧ zdk cX4_readSum 471844758641939307922785562680993615028549241611616083870610844311868669180479291274491102389456160478491673663570479246129120350622786026802956234703387607567829900314442643170553287958634443051272810985863276034355910151374701561900481399516051668847176083899649102099431265052172675835756589089607007490 127 ztX4_readSum 126 = true := by decide +kernel
set_option maxRecDepth 100000 in
noncomputable def ztX4_readPart (p : Nat) : Option (Jvm.ClassFile.Instr × Nat) := bif Nat.ble 76 p then (bif Nat.ble 115 p then (bif Nat.ble 133 p then (bif Nat.ble 140 p then (bif Nat.ble 147 p then (bif Nat.ble 148 p then (bif Nat.ble 151 p then (bif Nat.beq p 151 then some (.ireturn, 1) else none) else (bif Nat.beq p 148 then some (.invokevirtual 51, 3) else none)) else (bif Nat.beq p 147 then some (.iaload, 1) else none)) else (bif Nat.ble 143 p then (bif Nat.ble 144 p then (bif Nat.beq p 144 then some (.getfield 28, 3) else none) else (bif Nat.beq p 143 then some (.aload_n 0, 1) else none)) else (bif Nat.beq p 140 then some (.getfield 19, 3) else none))) else (bif Nat.ble 137 p then (bif Nat.ble 138 p then (bif Nat.ble 139 p then (bif Nat.beq p 139 then some (.aload_n 0, 1) else none) else (bif Nat.beq p 138 then some (.aload_n 0, 1) else none)) else (bif Nat.beq p 137 then some (.pop, 1) else none)) else (bif Nat.ble 134 p then (bif Nat.beq p 134 then some (.invokevirtual 55, 3) else none) else (bif Nat.beq p 133 then some (.iaload, 1) else none)))) else (bif Nat.ble 124 p then (bif Nat.ble 126 p then (bif Nat.ble 129 p then (bif Nat.ble 130 p then (bif Nat.beq p 130 then some (.getfield 28, 3) else none) else (bif Nat.beq p 129 then some (.aload_n 0, 1) else none)) else (bif Nat.beq p 126 then some (.getfield 25, 3) else none)) else (bif Nat.ble 125 p then (bif Nat.beq p 125 then some (.aload_n 0, 1) else none) else (bif Nat.beq p 124 then some (.iconst 2, 1) else none))) else (bif Nat.ble 117 p then (bif Nat.ble 120 p then (bif Nat.ble 121 p then (bif Nat.beq p 121 then some (.goto 4, 3) else none) else (bif Nat.beq p 120 then some (.iconst 1, 1) else none)) else (bif Nat.beq p 117 then some (.ifCond .eq 7, 3) else none)) else (bif Nat.ble 116 p then (bif Nat.beq p 116 then some (.iload_n 2, 1) else none) else (bif Nat.beq p 115 then some (.aload_n 0, 1) else none))))) else (bif Nat.ble 98 p then (bif Nat.ble 106 p then (bif Nat.ble 110 p then (bif Nat.ble 111 p then (bif Nat.ble 112 p then (bif Nat.beq p 112 then some (.putfield 31, 3) else none) else (bif Nat.beq p 111 then some (.iadd, 1) else none)) else (bif Nat.beq p 110 then some (.iconst 1, 1) else none)) else (bif Nat.ble 107 p then (bif Nat.beq p 107 then some (.getfield 31, 3) else none) else (bif Nat.beq p 106 then some (.dup, 1) else none))) else (bif Nat.ble 103 p then (bif Nat.ble 104 p then (bif Nat.ble 105 p then (bif Nat.beq p 105 then some (.aload_n 0, 1) else none) else (bif Nat.beq p 104 then some (.ireturn, 1) else none)) else (bif Nat.beq p 103 then some (.iconst 0, 1) else none)) else (bif Nat.ble 100 p then (bif Nat.beq p 100 then some (.if_icmp .lt 5, 3) else none) else (bif Nat.beq p 98 then some (.bipush 50, 2) else none)))) else (bif Nat.ble 87 p then (bif Nat.ble 91 p then (bif Nat.ble 94 p then (bif Nat.ble 95 p then (bif Nat.beq p 95 then some (.getfield 31, 3) else none) else (bif Nat.beq p 94 then some (.aload_n 0, 1) else none)) else (bif Nat.beq p 91 then some (.if_icmp .ne 12, 3) else none)) else (bif Nat.ble 88 p then (bif Nat.beq p 88 then some (.sipush 259, 3) else none) else (bif Nat.beq p 87 then some (.iaload, 1) else none))) else (bif Nat.ble 80 p then (bif Nat.ble 83 p then (bif Nat.ble 84 p then (bif Nat.beq p 84 then some (.getfield 28, 3) else none) else (bif Nat.beq p 83 then some (.aload_n 0, 1) else none)) else (bif Nat.beq p 80 then some (.getfield 19, 3) else none)) else (bif Nat.ble 79 p then (bif Nat.beq p 79 then some (.aload_n 0, 1) else none) else (bif Nat.beq p 76 then some (.ifCond .ne 18, 3) else none)))))) else (bif Nat.ble 39 p then (bif Nat.ble 58 p then (bif Nat.ble 69 p then (bif Nat.ble 73 p then (bif Nat.ble 74 p then (bif Nat.ble 75 p then (bif Nat.beq p 75 then some (.iload_n 2, 1) else none) else (bif Nat.beq p 74 then some (.istore_n 2, 1) else none)) else (bif Nat.beq p 73 then some (.iconst 0, 1) else none)) else (bif Nat.ble 70 p then (bif Nat.beq p 70 then some (.goto 4, 3) else none) else (bif Nat.beq p 69 then some (.iconst 1, 1) else none))) else (bif Nat.ble 62 p then (bif Nat.ble 63 p then (bif Nat.ble 66 p then (bif Nat.beq p 66 then some (.if_icmp .ne 7, 3) else none) else (bif Nat.beq p 63 then some (.sipush 258, 3) else none)) else (bif Nat.beq p 62 then some (.iaload, 1) else none)) else (bif Nat.ble 59 p then (bif Nat.beq p 59 then some (.getfield 28, 3) else none) else (bif Nat.beq p 58 then some (.aload_n 0, 1) else none)))) else (bif Nat.ble 49 p then (bif Nat.ble 53 p then (bif Nat.ble 54 p then (bif Nat.ble 55 p then (bif Nat.beq p 55 then some (.getfield 19, 3) else none) else (bif Nat.beq p 54 then some (.aload_n 0, 1) else none)) else (bif Nat.beq p 53 then some (.ireturn, 1) else none)) else (bif Nat.ble 52 p then (bif Nat.beq p 52 then some (.iconst 0, 1) else none) else (bif Nat.beq p 49 then some (.goto 4, 3) else none))) else (bif Nat.ble 42 p then (bif Nat.ble 45 p then (bif Nat.ble 48 p then (bif Nat.beq p 48 then some (.iconst 1, 1) else none) else (bif Nat.beq p 45 then some (.ifCond .eq 7, 3) else none)) else (bif Nat.beq p 42 then some (.invokevirtual 51, 3) else none)) else (bif Nat.ble 40 p then (bif Nat.beq p 40 then some (.bipush 93, 2) else none) else (bif Nat.beq p 39 then some (.aload_n 0, 1) else none))))) else (bif Nat.ble 20 p then (bif Nat.ble 30 p then (bif Nat.ble 32 p then (bif Nat.ble 33 p then (bif Nat.ble 36 p then (bif Nat.beq p 36 then some (.ifCond .eq 16, 3) else none) else (bif Nat.beq p 33 then some (.invokevirtual 58, 3) else none)) else (bif Nat.beq p 32 then some (.iadd, 1) else none)) else (bif Nat.ble 31 p then (bif Nat.beq p 31 then some (.iconst 1, 1) else none) else (bif Nat.beq p 30 then some (.iload_n 1, 1) else none))) else (bif Nat.ble 23 p then (bif Nat.ble 26 p then (bif Nat.ble 29 p then (bif Nat.beq p 29 then some (.aload_n 0, 1) else none) else (bif Nat.beq p 26 then some (.ifCond .eq 26, 3) else none)) else (bif Nat.beq p 23 then some (.invokevirtual 51, 3) else none)) else (bif Nat.ble 21 p then (bif Nat.beq p 21 then some (.bipush 91, 2) else none) else (bif Nat.beq p 20 then some (.aload_n 0, 1) else none)))) else (bif Nat.ble 9 p then (bif Nat.ble 14 p then (bif Nat.ble 15 p then (bif Nat.ble 17 p then (bif Nat.beq p 17 then some (.if_icmp .ge 35, 3) else none) else (bif Nat.beq p 15 then some (.bipush 8, 2) else none)) else (bif Nat.beq p 14 then some (.iload_n 1, 1) else none)) else (bif Nat.ble 11 p then (bif Nat.beq p 11 then some (.if_icmp .ne 43, 3) else none) else (bif Nat.beq p 9 then some (.bipush 91, 2) else none))) else (bif Nat.ble 4 p then (bif Nat.ble 5 p then (bif Nat.ble 8 p then (bif Nat.beq p 8 then some (.iaload, 1) else none) else (bif Nat.beq p 5 then some (.getfield 28, 3) else none)) else (bif Nat.beq p 4 then some (.aload_n 0, 1) else none)) else (bif Nat.ble 1 p then (bif Nat.beq p 1 then some (.getfield 19, 3) else none) else (bif Nat.beq p 0 then some (.aload_n 0, 1) else none))))))
set_option maxRecDepth 100000 in
theorem zkX4_readPart : (zbig cX4_readPart.data.toList = 759042277740607741760226119213401081368818669928630702844162517828347093369633014177773919914095876357284052739135437591303183183890273830596483319696987768149843522720278508994811222250467015327010069297000716780817306958196604399568662809040464592289129163640094059288078523931507100771210841138736761264753219885875295852777768113084665561835468245597480439297066 ∧ cX4_readPart.data.toList.length = 152) ∧ zdk cX4_readPart 759042277740607741760226119213401081368818669928630702844162517828347093369633014177773919914095876357284052739135437591303183183890273830596483319696987768149843522720278508994811222250467015327010069297000716780817306958196604399568662809040464592289129163640094059288078523931507100771210841138736761264753219885875295852777768113084665561835468245597480439297066 152 ztX4_readPart 151 = true := by decide +kernel
theorem zw_6 : (Jvm.Cond.selects "HillSchool$LawReader" ({ cls := "HillSchool$LawReader", name := "order", desc := "(II)I" } : Jvm.MethodName) ({ cls := "HillSchool$LawReader", name := "order", desc := "(II)I" } : Jvm.MethodName)) ∈ zall := zmemG (zmj_0 6 rfl) rfl
theorem zw_7 : (Jvm.Cond.selects "HillSchool$LawReader" ({ cls := "HillSchool$LawReader", name := "pass", desc := "(I)Z" } : Jvm.MethodName) ({ cls := "HillSchool$LawReader", name := "pass", desc := "(I)Z" } : Jvm.MethodName)) ∈ zall := zmemG (zmj_0 7 rfl) rfl
theorem zw_8 : (Jvm.Cond.selects "HillSchool$LawReader" ({ cls := "HillSchool$LawReader", name := "readSum", desc := "(I)Z" } : Jvm.MethodName) ({ cls := "HillSchool$LawReader", name := "readSum", desc := "(I)Z" } : Jvm.MethodName)) ∈ zall := zmemG (zmj_0 8 rfl) rfl
theorem zw_9 : (Jvm.Cond.selects "HillSchool$LawReader" ({ cls := "HillSchool$LawReader", name := "readPart", desc := "(I)Z" } : Jvm.MethodName) ({ cls := "HillSchool$LawReader", name := "readPart", desc := "(I)Z" } : Jvm.MethodName)) ∈ zall := zmemG (zmj_0 9 rfl) rfl
theorem zw_107 : (Jvm.Cond.initialized "HillSchool$LawReader") ∈ zall := zmemG (zmj_1 4 rfl) rfl
theorem zw_254 : (Jvm.Cond.fieldLink "HillSchool$LawReader" (25 : Nat) "HillSchool$LawReader" "values" "[I") ∈ zall := zmemG (zmj_1 151 rfl) rfl
theorem zw_256 : (Jvm.Cond.fieldLink "HillSchool$LawReader" (31 : Nat) "HillSchool$LawReader" "parts" "I") ∈ zall := zmemG (zmj_1 153 rfl) rfl
theorem zw_748 : (Jvm.Cond.methodLink "HillSchool$LawReader" (55 : Nat) ({ cls := "HillSchool$LawReader", name := "order", desc := "(II)I" } : Jvm.MethodName)) ∈ zall := zmemG (zmj_3 165 rfl) rfl
theorem zw_750 : (Jvm.Cond.instanceMethod ({ cls := "HillSchool$LawReader", name := "order", desc := "(II)I" } : Jvm.MethodName)) ∈ zall := zmemG (zmj_3 167 rfl) rfl
theorem zw_752 : (Jvm.Cond.methodLink "HillSchool$LawReader" (51 : Nat) ({ cls := "HillSchool$LawReader", name := "pass", desc := "(I)Z" } : Jvm.MethodName)) ∈ zall := zmemG (zmj_3 169 rfl) rfl
theorem zw_754 : (Jvm.Cond.instanceMethod ({ cls := "HillSchool$LawReader", name := "pass", desc := "(I)Z" } : Jvm.MethodName)) ∈ zall := zmemG (zmj_3 171 rfl) rfl
theorem zw_756 : (Jvm.Cond.methodLink "HillSchool$LawReader" (58 : Nat) ({ cls := "HillSchool$LawReader", name := "readSum", desc := "(I)Z" } : Jvm.MethodName)) ∈ zall := zmemG (zmj_3 173 rfl) rfl
theorem zw_758 : (Jvm.Cond.instanceMethod ({ cls := "HillSchool$LawReader", name := "readSum", desc := "(I)Z" } : Jvm.MethodName)) ∈ zall := zmemG (zmj_3 175 rfl) rfl
theorem zw_759 : (Jvm.Cond.code ({ cls := "HillSchool$LawReader", name := "readSum", desc := "(I)Z" } : Jvm.MethodName) prog_6_method_7_code (5 : Nat) (Option.some Jvm.ClassFile.FieldType.boolean)) ∈ zall := zmemG (zmj_3 176 rfl) rfl
theorem zw_760 : (Jvm.Cond.methodLink "HillSchool$LawReader" (75 : Nat) ({ cls := "HillSchool$LawReader", name := "readPart", desc := "(I)Z" } : Jvm.MethodName)) ∈ zall := zmemG (zmj_3 177 rfl) rfl
theorem zw_762 : (Jvm.Cond.instanceMethod ({ cls := "HillSchool$LawReader", name := "readPart", desc := "(I)Z" } : Jvm.MethodName)) ∈ zall := zmemG (zmj_3 179 rfl) rfl
theorem zw_763 : (Jvm.Cond.code ({ cls := "HillSchool$LawReader", name := "readPart", desc := "(I)Z" } : Jvm.MethodName) prog_6_method_8_code (3 : Nat) (Option.some Jvm.ClassFile.FieldType.boolean)) ∈ zall := zmemG (zmj_3 180 rfl) rfl
noncomputable def rmr_LawReader_readSum (n : Nat) : Room := { frames := 1 + n, cells := 0, slots := 0, locals := 22 + 24 * n }
noncomputable abbrev w_LawReader_readSum : List Cond := .code yX4_readSum cX4_readSum 5 (some .boolean) :: zall
noncomputable abbrev rm_LawReader_readSum : Room := rmr_LawReader_readSum zdp
theorem hd_LawReader_readSum : yX4_readSum.cls = "HillSchool$LawReader" ∧ yX4_readSum.cls ≠ "java/lang/invoke/MethodHandle" ∧ yX4_readSum.cls ≠ "java/lang/invoke/VarHandle" ∧ (parseMethodDescriptor yX4_readSum.desc).map (fun d => d.parameters.length) = some 1 := by decide +kernel
noncomputable def wd_LawReader_readSum (cA : Nat → ClassId) (q0 q1 q2 q3 q4 : Nat) (i_tokens : Nat → Int) (i_values : Nat → Int) (i_ordered : Int) (i_at : Int) (i_parts : Int) (i_orders : Nat → Int) : va_W := [(q0, .inr (4, [.ref q1, .int (Int32.ofInt i_ordered), .ref q2, .ref q3, .ref q4, .int (Int32.ofInt i_at), .int (Int32.ofInt i_parts)])), (q1, .inl (cA 0, 424, .inl (za i_orders))), (q2, .inl (cA 0, 401, .inl (za i_tokens))), (q4, .inl (cA 0, 401, .inl (za i_values)))]
noncomputable def wf_LawReader_readSum (cA : Nat → ClassId) (q0 q1 q2 q3 q4 : Nat) (i_tokens : Nat → Int) (i_values : Nat → Int) (o : Int × Int × Int × Int × (Nat → Int)) : va_W := wd_LawReader_readSum cA q0 q1 q2 q3 q4 i_tokens i_values o.2.1 o.2.2.1 o.2.2.2.1 o.2.2.2.2
noncomputable abbrev w_LawReader_readPart : List Cond := .code yX4_readPart cX4_readPart 3 (some .boolean) :: zall
noncomputable abbrev rm_LawReader_readPart : Room := rmr_LawReader_readSum zdp
theorem hd_LawReader_readPart : yX4_readPart.cls = "HillSchool$LawReader" ∧ yX4_readPart.cls ≠ "java/lang/invoke/MethodHandle" ∧ yX4_readPart.cls ≠ "java/lang/invoke/VarHandle" ∧ (parseMethodDescriptor yX4_readPart.desc).map (fun d => d.parameters.length) = some 1 := by decide +kernel
noncomputable def wd_LawReader_readPart (cA : Nat → ClassId) (q0 q1 q2 q3 q4 : Nat) (i_tokens : Nat → Int) (i_values : Nat → Int) (i_ordered : Int) (i_at : Int) (i_parts : Int) (i_orders : Nat → Int) : va_W := [(q0, .inr (4, [.ref q1, .int (Int32.ofInt i_ordered), .ref q2, .ref q3, .ref q4, .int (Int32.ofInt i_at), .int (Int32.ofInt i_parts)])), (q1, .inl (cA 0, 424, .inl (za i_orders))), (q2, .inl (cA 0, 401, .inl (za i_tokens))), (q4, .inl (cA 0, 401, .inl (za i_values)))]
noncomputable def wf_LawReader_readPart (cA : Nat → ClassId) (q0 q1 q2 q3 q4 : Nat) (i_tokens : Nat → Int) (i_values : Nat → Int) (o : Int × Int × Int × Int × (Nat → Int)) : va_W := wd_LawReader_readPart cA q0 q1 q2 q3 q4 i_tokens i_values o.2.1 o.2.2.1 o.2.2.2.1 o.2.2.2.2
noncomputable def f_LawReader_readSum_119 (r_LawReader_readSum : Int → (Nat → Int) → (Nat → Int) → Int → Int → Int → (Nat → Int) → Option (Int × Int × Int × Int × (Nat → Int))) (r_LawReader_readPart : Int → (Nat → Int) → (Nat → Int) → Int → Int → Int → (Nat → Int) → Option (Int × Int × Int × Int × (Nat → Int))) (i_tokens : Nat → Int) (i_values : Nat → Int) (k7 : Int → Int → Int → Int → Int → Int → Int → (Nat → Int) → Option (Int × Int × Int × Int × (Nat → Int))) (x1 : Int) (x2 : Int) (x3 : Int) (x4 : Int) (i_ordered : Int) (i_at : Int) (i_parts : Int) (i_orders : Nat → Int) : Option (Int × Int × Int × Int × (Nat → Int)) :=
  zn (x4 + 1) fun v1 =>
  k7 x1 x2 x3 v1 i_ordered i_at i_parts i_orders
noncomputable def f_LawReader_readSum_111 (r_LawReader_readSum : Int → (Nat → Int) → (Nat → Int) → Int → Int → Int → (Nat → Int) → Option (Int × Int × Int × Int × (Nat → Int))) (r_LawReader_readPart : Int → (Nat → Int) → (Nat → Int) → Int → Int → Int → (Nat → Int) → Option (Int × Int × Int × Int × (Nat → Int))) (i_tokens : Nat → Int) (i_values : Nat → Int) (k7 : Int → Int → Int → Int → Int → Int → Int → (Nat → Int) → Option (Int × Int × Int × Int × (Nat → Int))) (x1 : Int) (x2 : Int) (x4 : Int) (s0 : Int) (i_ordered : Int) (i_at : Int) (i_parts : Int) (i_orders : Nat → Int) : Option (Int × Int × Int × Int × (Nat → Int)) :=
  if zi_w s0 ≠ zi_w (-1) then
    f_LawReader_readSum_119 r_LawReader_readSum r_LawReader_readPart i_tokens i_values k7 x1 x2 s0 x4 i_ordered i_at i_parts i_orders
  else
    some (1, i_ordered, i_at, i_parts, i_orders)
noncomputable def f_LawReader_readSum_84 (r_LawReader_readSum : Int → (Nat → Int) → (Nat → Int) → Int → Int → Int → (Nat → Int) → Option (Int × Int × Int × Int × (Nat → Int))) (r_LawReader_readPart : Int → (Nat → Int) → (Nat → Int) → Int → Int → Int → (Nat → Int) → Option (Int × Int × Int × Int × (Nat → Int))) (i_tokens : Nat → Int) (i_values : Nat → Int) (k7 : Int → Int → Int → Int → Int → Int → Int → (Nat → Int) → Option (Int × Int × Int × Int × (Nat → Int))) (x1 : Int) (x2 : Int) (x4 : Int) (i_ordered : Int) (i_at : Int) (i_parts : Int) (i_orders : Nat → Int) : Option (Int × Int × Int × Int × (Nat → Int)) :=
  zd2 (f_LawReader_pass 43 i_tokens i_at) fun v1 v2 =>
  if zi_w v1 = 0 then
    zd2 (f_LawReader_pass 45 i_tokens v2) fun v3 v4 =>
    if zi_w v3 = 0 then
      f_LawReader_readSum_111 r_LawReader_readSum r_LawReader_readPart i_tokens i_values k7 x1 x2 x4 (-1) i_ordered v4 i_parts i_orders
    else
      f_LawReader_readSum_111 r_LawReader_readSum r_LawReader_readPart i_tokens i_values k7 x1 x2 x4 4 i_ordered v4 i_parts i_orders
  else
    f_LawReader_readSum_111 r_LawReader_readSum r_LawReader_readPart i_tokens i_values k7 x1 x2 x4 3 i_ordered v2 i_parts i_orders
noncomputable def f_LawReader_readSum_63 (r_LawReader_readSum : Int → (Nat → Int) → (Nat → Int) → Int → Int → Int → (Nat → Int) → Option (Int × Int × Int × Int × (Nat → Int))) (r_LawReader_readPart : Int → (Nat → Int) → (Nat → Int) → Int → Int → Int → (Nat → Int) → Option (Int × Int × Int × Int × (Nat → Int))) (i_tokens : Nat → Int) (i_values : Nat → Int) (k7 : Int → Int → Int → Int → Int → Int → Int → (Nat → Int) → Option (Int × Int × Int × Int × (Nat → Int))) (x1 : Int) (x3 : Int) (x4 : Int) (s0 : Int) (i_ordered : Int) (i_at : Int) (i_parts : Int) (i_orders : Nat → Int) : Option (Int × Int × Int × Int × (Nat → Int)) :=
  if zi_w s0 = zi_w (-1) then
    if zi_w x3 = zi_w (-1) then
      f_LawReader_readSum_84 r_LawReader_readSum r_LawReader_readPart i_tokens i_values k7 x1 s0 x4 i_ordered i_at i_parts i_orders
    else
      zd3 (f_LawReader_order x3 0 i_ordered i_orders) fun v1 v2 a3 =>
      f_LawReader_readSum_84 r_LawReader_readSum r_LawReader_readPart i_tokens i_values k7 x1 s0 x4 v2 i_at i_parts a3
  else
    f_LawReader_readSum_119 r_LawReader_readSum r_LawReader_readPart i_tokens i_values k7 x1 s0 x3 x4 i_ordered i_at i_parts i_orders
noncomputable def f_LawReader_readSum_35 (r_LawReader_readSum : Int → (Nat → Int) → (Nat → Int) → Int → Int → Int → (Nat → Int) → Option (Int × Int × Int × Int × (Nat → Int))) (r_LawReader_readPart : Int → (Nat → Int) → (Nat → Int) → Int → Int → Int → (Nat → Int) → Option (Int × Int × Int × Int × (Nat → Int))) (i_tokens : Nat → Int) (i_values : Nat → Int) (k7 : Int → Int → Int → Int → Int → Int → Int → (Nat → Int) → Option (Int × Int × Int × Int × (Nat → Int))) (x1 : Int) (x3 : Int) (x4 : Int) (i_ordered : Int) (i_at : Int) (i_parts : Int) (i_orders : Nat → Int) : Option (Int × Int × Int × Int × (Nat → Int)) :=
  zd2 (f_LawReader_pass 42 i_tokens i_at) fun v1 v2 =>
  if zi_w v1 = 0 then
    zd2 (f_LawReader_pass 47 i_tokens v2) fun v3 v4 =>
    if zi_w v3 = 0 then
      f_LawReader_readSum_63 r_LawReader_readSum r_LawReader_readPart i_tokens i_values k7 x1 x3 x4 (-1) i_ordered v4 i_parts i_orders
    else
      f_LawReader_readSum_63 r_LawReader_readSum r_LawReader_readPart i_tokens i_values k7 x1 x3 x4 6 i_ordered v4 i_parts i_orders
  else
    f_LawReader_readSum_63 r_LawReader_readSum r_LawReader_readPart i_tokens i_values k7 x1 x3 x4 5 i_ordered v2 i_parts i_orders
noncomputable def f_LawReader_readSum_7_b (r_LawReader_readSum : Int → (Nat → Int) → (Nat → Int) → Int → Int → Int → (Nat → Int) → Option (Int × Int × Int × Int × (Nat → Int))) (r_LawReader_readPart : Int → (Nat → Int) → (Nat → Int) → Int → Int → Int → (Nat → Int) → Option (Int × Int × Int × Int × (Nat → Int))) (i_tokens : Nat → Int) (i_values : Nat → Int) (k7 : Int → Int → Int → Int → Int → Int → Int → (Nat → Int) → Option (Int × Int × Int × Int × (Nat → Int))) (x1 : Int) (x2 : Int) (x3 : Int) (x4 : Int) (i_ordered : Int) (i_at : Int) (i_parts : Int) (i_orders : Nat → Int) : Option (Int × Int × Int × Int × (Nat → Int)) :=
  if zi_w 400 ≤ zi_w x4 then
    some (0, i_ordered, i_at, i_parts, i_orders)
  else
    zd5 (r_LawReader_readPart x1 i_tokens i_values i_ordered i_at i_parts i_orders) fun v1 v2 v3 v4 a5 =>
    if zi_w v1 = 0 then
      some (0, v2, v3, v4, a5)
    else
      if zi_w x2 = zi_w (-1) then
        f_LawReader_readSum_35 r_LawReader_readSum r_LawReader_readPart i_tokens i_values k7 x1 x3 x4 v2 v3 v4 a5
      else
        zd3 (f_LawReader_order x2 0 v2 a5) fun v6 v7 a8 =>
        f_LawReader_readSum_35 r_LawReader_readSum r_LawReader_readPart i_tokens i_values k7 x1 x3 x4 v7 v3 v4 a8
noncomputable def f_LawReader_readSum_7 (r_LawReader_readSum : Int → (Nat → Int) → (Nat → Int) → Int → Int → Int → (Nat → Int) → Option (Int × Int × Int × Int × (Nat → Int))) (r_LawReader_readPart : Int → (Nat → Int) → (Nat → Int) → Int → Int → Int → (Nat → Int) → Option (Int × Int × Int × Int × (Nat → Int))) (i_tokens : Nat → Int) (i_values : Nat → Int) : Nat → Int → Int → Int → Int → Int → Int → Int → (Nat → Int) → Option (Int × Int × Int × Int × (Nat → Int))
  | 0 => fun _ _ _ _ _ _ _ _ => none
  | n + 1 => fun y0 y1 y2 y3 y4 y5 y6 y7 => f_LawReader_readSum_7_b r_LawReader_readSum r_LawReader_readPart i_tokens i_values (f_LawReader_readSum_7 r_LawReader_readSum r_LawReader_readPart i_tokens i_values n) y0 y1 y2 y3 y4 y5 y6 y7
noncomputable def fb_LawReader_readSum (r_LawReader_readSum : Int → (Nat → Int) → (Nat → Int) → Int → Int → Int → (Nat → Int) → Option (Int × Int × Int × Int × (Nat → Int))) (r_LawReader_readPart : Int → (Nat → Int) → (Nat → Int) → Int → Int → Int → (Nat → Int) → Option (Int × Int × Int × Int × (Nat → Int))) (x1 : Int) (i_tokens : Nat → Int) (i_values : Nat → Int) (i_ordered : Int) (i_at : Int) (i_parts : Int) (i_orders : Nat → Int) : Option (Int × Int × Int × Int × (Nat → Int)) :=
  f_LawReader_readSum_7 r_LawReader_readSum r_LawReader_readPart i_tokens i_values zfu x1 (-1) (-1) 0 i_ordered i_at i_parts i_orders
noncomputable def f_LawReader_readPart_125 (r_LawReader_readSum : Int → (Nat → Int) → (Nat → Int) → Int → Int → Int → (Nat → Int) → Option (Int × Int × Int × Int × (Nat → Int))) (r_LawReader_readPart : Int → (Nat → Int) → (Nat → Int) → Int → Int → Int → (Nat → Int) → Option (Int × Int × Int × Int × (Nat → Int))) (i_tokens : Nat → Int) (i_values : Nat → Int) (s1 : Int) (i_ordered : Int) (i_at : Int) (i_parts : Int) (i_orders : Nat → Int) : Option (Int × Int × Int × Int × (Nat → Int)) :=
  zg 401 i_values i_at fun v1 =>
  zd3 (f_LawReader_order s1 v1 i_ordered i_orders) fun v2 v3 a4 =>
  zg 401 i_tokens i_at fun v5 =>
  zd2 (f_LawReader_pass v5 i_tokens i_at) fun v6 v7 =>
  if ¬ (zi_w v6 = 0 ∨ zi_w v6 = 1) then none else
  some (v6, v3, v7, i_parts, a4)
noncomputable def f_LawReader_readPart_94 (r_LawReader_readSum : Int → (Nat → Int) → (Nat → Int) → Int → Int → Int → (Nat → Int) → Option (Int × Int × Int × Int × (Nat → Int))) (r_LawReader_readPart : Int → (Nat → Int) → (Nat → Int) → Int → Int → Int → (Nat → Int) → Option (Int × Int × Int × Int × (Nat → Int))) (i_tokens : Nat → Int) (i_values : Nat → Int) (x2 : Int) (i_ordered : Int) (i_at : Int) (i_parts : Int) (i_orders : Nat → Int) : Option (Int × Int × Int × Int × (Nat → Int)) :=
  if zi_w i_parts < zi_w 50 then
    zn (i_parts + 1) fun v1 =>
    if zi_w x2 = 0 then
      f_LawReader_readPart_125 r_LawReader_readSum r_LawReader_readPart i_tokens i_values 2 i_ordered i_at v1 i_orders
    else
      f_LawReader_readPart_125 r_LawReader_readSum r_LawReader_readPart i_tokens i_values 1 i_ordered i_at v1 i_orders
  else
    some (0, i_ordered, i_at, i_parts, i_orders)
noncomputable def f_LawReader_readPart_74 (r_LawReader_readSum : Int → (Nat → Int) → (Nat → Int) → Int → Int → Int → (Nat → Int) → Option (Int × Int × Int × Int × (Nat → Int))) (r_LawReader_readPart : Int → (Nat → Int) → (Nat → Int) → Int → Int → Int → (Nat → Int) → Option (Int × Int × Int × Int × (Nat → Int))) (i_tokens : Nat → Int) (i_values : Nat → Int) (s0 : Int) (i_ordered : Int) (i_at : Int) (i_parts : Int) (i_orders : Nat → Int) : Option (Int × Int × Int × Int × (Nat → Int)) :=
  if zi_w s0 ≠ 0 then
    f_LawReader_readPart_94 r_LawReader_readSum r_LawReader_readPart i_tokens i_values s0 i_ordered i_at i_parts i_orders
  else
    zg 401 i_tokens i_at fun v1 =>
    if zi_w v1 ≠ zi_w 259 then
      some (0, i_ordered, i_at, i_parts, i_orders)
    else
      f_LawReader_readPart_94 r_LawReader_readSum r_LawReader_readPart i_tokens i_values s0 i_ordered i_at i_parts i_orders
noncomputable def fb_LawReader_readPart (r_LawReader_readSum : Int → (Nat → Int) → (Nat → Int) → Int → Int → Int → (Nat → Int) → Option (Int × Int × Int × Int × (Nat → Int))) (r_LawReader_readPart : Int → (Nat → Int) → (Nat → Int) → Int → Int → Int → (Nat → Int) → Option (Int × Int × Int × Int × (Nat → Int))) (x1 : Int) (i_tokens : Nat → Int) (i_values : Nat → Int) (i_ordered : Int) (i_at : Int) (i_parts : Int) (i_orders : Nat → Int) : Option (Int × Int × Int × Int × (Nat → Int)) :=
  zg 401 i_tokens i_at fun v1 =>
  if zi_w v1 ≠ zi_w 91 then
    zg 401 i_tokens i_at fun v2 =>
    if zi_w v2 ≠ zi_w 258 then
      f_LawReader_readPart_74 r_LawReader_readSum r_LawReader_readPart i_tokens i_values 0 i_ordered i_at i_parts i_orders
    else
      f_LawReader_readPart_74 r_LawReader_readSum r_LawReader_readPart i_tokens i_values 1 i_ordered i_at i_parts i_orders
  else
    if zi_w 8 ≤ zi_w x1 then
      some (0, i_ordered, i_at, i_parts, i_orders)
    else
      zd2 (f_LawReader_pass 91 i_tokens i_at) fun v3 v4 =>
      if zi_w v3 = 0 then
        some (0, i_ordered, v4, i_parts, i_orders)
      else
        zn (x1 + 1) fun v5 =>
        zd5 (r_LawReader_readSum v5 i_tokens i_values i_ordered v4 i_parts i_orders) fun v6 v7 v8 v9 a10 =>
        if zi_w v6 = 0 then
          some (0, v7, v8, v9, a10)
        else
          zd2 (f_LawReader_pass 93 i_tokens v8) fun v11 v12 =>
          if zi_w v11 = 0 then
            some (0, v7, v12, v9, a10)
          else
            some (1, v7, v12, v9, a10)
noncomputable def g_LawReader_readSum : Nat → (Int → (Nat → Int) → (Nat → Int) → Int → Int → Int → (Nat → Int) → Option (Int × Int × Int × Int × (Nat → Int))) × (Int → (Nat → Int) → (Nat → Int) → Int → Int → Int → (Nat → Int) → Option (Int × Int × Int × Int × (Nat → Int)))
  | 0 => (fun _ _ _ _ _ _ _ => none, fun _ _ _ _ _ _ _ => none)
  | n + 1 => (fb_LawReader_readSum (g_LawReader_readSum n).1 (g_LawReader_readSum n).2, fb_LawReader_readPart (g_LawReader_readSum n).1 (g_LawReader_readSum n).2)
noncomputable def f_LawReader_readSum (x1 : Int) (i_tokens : Nat → Int) (i_values : Nat → Int) (i_ordered : Int) (i_at : Int) (i_parts : Int) (i_orders : Nat → Int) : Option (Int × Int × Int × Int × (Nat → Int)) := (g_LawReader_readSum zdp).1 x1 i_tokens i_values i_ordered i_at i_parts i_orders
noncomputable def f_LawReader_readPart (x1 : Int) (i_tokens : Nat → Int) (i_values : Nat → Int) (i_ordered : Int) (i_at : Int) (i_parts : Int) (i_orders : Nat → Int) : Option (Int × Int × Int × Int × (Nat → Int)) := (g_LawReader_readSum zdp).2 x1 i_tokens i_values i_ordered i_at i_parts i_orders
set_option maxHeartbeats 4000000 in
set_option maxRecDepth 100000 in
theorem cb_LawReader_readSum (l : Launch) (ev : zEv) (dC : Nat → ClassId) (dI : Nat → Nat → Nat) (cA : Nat → ClassId) (dp : Nat) (r_LawReader_readSum : Int → (Nat → Int) → (Nat → Int) → Int → Int → Int → (Nat → Int) → Option (Int × Int × Int × Int × (Nat → Int))) (r_LawReader_readPart : Int → (Nat → Int) → (Nat → Int) → Int → Int → Int → (Nat → Int) → Option (Int × Int × Int × Int × (Nat → Int))) (h_LawReader_readSum : ∀ (q0 q1 q2 q3 q4 : Nat) (x1 : Int) (i_tokens : Nat → Int) (i_values : Nat → Int) (i_ordered : Int) (i_at : Int) (i_parts : Int) (i_orders : Nat → Int) (out : Int × Int × Int × Int × (Nat → Int)), r_LawReader_readSum x1 i_tokens i_values i_ordered i_at i_parts i_orders = some out → xc_I l ev (dC, dI) vwCl (tyl cA) yX4_readSum w_LawReader_readSum (rmr_LawReader_readSum dp) [.ref q0, .int (Int32.ofInt x1)] (wd_LawReader_readSum cA q0 q1 q2 q3 q4 i_tokens i_values i_ordered i_at i_parts i_orders) (wf_LawReader_readSum cA q0 q1 q2 q3 q4 i_tokens i_values out) out.1) (h_LawReader_readPart : ∀ (q0 q1 q2 q3 q4 : Nat) (x1 : Int) (i_tokens : Nat → Int) (i_values : Nat → Int) (i_ordered : Int) (i_at : Int) (i_parts : Int) (i_orders : Nat → Int) (out : Int × Int × Int × Int × (Nat → Int)), r_LawReader_readPart x1 i_tokens i_values i_ordered i_at i_parts i_orders = some out → xc_I l ev (dC, dI) vwCl (tyl cA) yX4_readPart w_LawReader_readPart (rmr_LawReader_readSum dp) [.ref q0, .int (Int32.ofInt x1)] (wd_LawReader_readPart cA q0 q1 q2 q3 q4 i_tokens i_values i_ordered i_at i_parts i_orders) (wf_LawReader_readPart cA q0 q1 q2 q3 q4 i_tokens i_values out) out.1) : ∀ (q0 q1 q2 q3 q4 : Nat) (x1 : Int) (i_tokens : Nat → Int) (i_values : Nat → Int) (i_ordered : Int) (i_at : Int) (i_parts : Int) (i_orders : Nat → Int) (out : Int × Int × Int × Int × (Nat → Int)), fb_LawReader_readSum r_LawReader_readSum r_LawReader_readPart x1 i_tokens i_values i_ordered i_at i_parts i_orders = some out → xc_I l ev (dC, dI) vwCl (tyl cA) yX4_readSum w_LawReader_readSum (rmr_LawReader_readSum (dp + 1)) [.ref q0, .int (Int32.ofInt x1)] (wd_LawReader_readSum cA q0 q1 q2 q3 q4 i_tokens i_values i_ordered i_at i_parts i_orders) (wf_LawReader_readSum cA q0 q1 q2 q3 q4 i_tokens i_values out) out.1 := by
  intro q0 q1 q2 q3 q4 x1 i_tokens i_values i_ordered i_at i_parts i_orders out hf
  refine xv_startI (cc := cX4_readSum) (maxL := 5) (rt := .boolean) (by decide +kernel) rfl (Nat.le_of_ble_eq_true rfl) ?_
  intro p e s m args below meth c A Q H ls hx hb hml hts hown hK hA hP hD hS hl hE hret
  have hown : s.vm.findClass "HillSchool$LawReader" = some m.cls := hown
  have hz : ∀ w ∈ zall, w.before args s = true := fun w h => hts w (List.mem_cons_of_mem _ h)
  have hl : lv_has ls 5 [(0, .ref q0), (1, .int (Int32.ofInt x1))] := hl
  have b_119 : ∀ (k7 : Int → Int → Int → Int → Int → Int → Int → (Nat → Int) → Option (Int × Int × Int × Int × (Nat → Int))) (_ : ∀ (x1 : Int) (x2 : Int) (x3 : Int) (x4 : Int) (i_ordered : Int) (i_at : Int) (i_parts : Int) (i_orders : Nat → Int) (H : Heap) (locs : List Loc) (ls : Array Slot), k7 x1 x2 x3 x4 i_ordered i_at i_parts i_orders = some out → va_P (dC, dI) vwCl (wd_LawReader_readSum cA q0 q1 q2 q3 q4 i_tokens i_values i_ordered i_at i_parts i_orders) H → va_D A (wd_LawReader_readSum cA q0 q1 q2 q3 q4 i_tokens i_values i_ordered i_at i_parts i_orders) → va_S A s.heap H locs → lv_has ls 5 [(0, .ref q0), (1, .int (Int32.ofInt x1)), (2, .int (Int32.ofInt x2)), (3, .int (Int32.ofInt x3)), (4, .int (Int32.ofInt x4))] → W p l e (rmr_LawReader_readSum (dp + 1)) s m args below meth c H locs 0 0 Q (F0 m 7 ls [])), ∀ (x1 : Int) (x2 : Int) (x3 : Int) (x4 : Int) (i_ordered : Int) (i_at : Int) (i_parts : Int) (i_orders : Nat → Int) (H : Heap) (locs : List Loc) (ls : Array Slot), f_LawReader_readSum_119 r_LawReader_readSum r_LawReader_readPart i_tokens i_values k7 x1 x2 x3 x4 i_ordered i_at i_parts i_orders = some out → va_P (dC, dI) vwCl (wd_LawReader_readSum cA q0 q1 q2 q3 q4 i_tokens i_values i_ordered i_at i_parts i_orders) H → va_D A (wd_LawReader_readSum cA q0 q1 q2 q3 q4 i_tokens i_values i_ordered i_at i_parts i_orders) → va_S A s.heap H locs → lv_has ls 5 [(0, .ref q0), (1, .int (Int32.ofInt x1)), (2, .int (Int32.ofInt x2)), (3, .int (Int32.ofInt x3)), (4, .int (Int32.ofInt x4))] → W p l e (rmr_LawReader_readSum (dp + 1)) s m args below meth c H locs 0 0 Q (F0 m 119 ls []) := by
    intro k7 ih7 x1 x2 x3 x4 i_ordered i_at i_parts i_orders H locs ls hf hP hD hS hl
    unfold f_LawReader_readSum_119 at hf
    refine xi_iinc hx hb (zdt zkX4_readSum 119 rfl) hl (k := 4) rfl (by decide) hf (fun v1 ls hl hf => ?_)
    have hl : lv_has ls 5 [(4, .int (Int32.ofInt v1)), (0, .ref q0), (1, .int (Int32.ofInt x1)), (2, .int (Int32.ofInt x2)), (3, .int (Int32.ofInt x3))] := hl
    refine lv_goto (tgt := 7) hx hb (zdt zkX4_readSum 122 rfl) (by decide) ?_
    exact ih7 _ _ _ _ _ _ _ _ _ _ _ hf hP hD hS (lv_sub hl [1, 2, 3, 4, 0] rfl)
  have b_111 : ∀ (k7 : Int → Int → Int → Int → Int → Int → Int → (Nat → Int) → Option (Int × Int × Int × Int × (Nat → Int))) (_ : ∀ (x1 : Int) (x2 : Int) (x3 : Int) (x4 : Int) (i_ordered : Int) (i_at : Int) (i_parts : Int) (i_orders : Nat → Int) (H : Heap) (locs : List Loc) (ls : Array Slot), k7 x1 x2 x3 x4 i_ordered i_at i_parts i_orders = some out → va_P (dC, dI) vwCl (wd_LawReader_readSum cA q0 q1 q2 q3 q4 i_tokens i_values i_ordered i_at i_parts i_orders) H → va_D A (wd_LawReader_readSum cA q0 q1 q2 q3 q4 i_tokens i_values i_ordered i_at i_parts i_orders) → va_S A s.heap H locs → lv_has ls 5 [(0, .ref q0), (1, .int (Int32.ofInt x1)), (2, .int (Int32.ofInt x2)), (3, .int (Int32.ofInt x3)), (4, .int (Int32.ofInt x4))] → W p l e (rmr_LawReader_readSum (dp + 1)) s m args below meth c H locs 0 0 Q (F0 m 7 ls [])), ∀ (x1 : Int) (x2 : Int) (x4 : Int) (s0 : Int) (i_ordered : Int) (i_at : Int) (i_parts : Int) (i_orders : Nat → Int) (H : Heap) (locs : List Loc) (ls : Array Slot), f_LawReader_readSum_111 r_LawReader_readSum r_LawReader_readPart i_tokens i_values k7 x1 x2 x4 s0 i_ordered i_at i_parts i_orders = some out → va_P (dC, dI) vwCl (wd_LawReader_readSum cA q0 q1 q2 q3 q4 i_tokens i_values i_ordered i_at i_parts i_orders) H → va_D A (wd_LawReader_readSum cA q0 q1 q2 q3 q4 i_tokens i_values i_ordered i_at i_parts i_orders) → va_S A s.heap H locs → lv_has ls 5 [(0, .ref q0), (1, .int (Int32.ofInt x1)), (2, .int (Int32.ofInt x2)), (4, .int (Int32.ofInt x4))] → W p l e (rmr_LawReader_readSum (dp + 1)) s m args below meth c H locs 0 0 Q (F0 m 111 ls [.int (Int32.ofInt s0)]) := by
    intro k7 ih7 x1 x2 x4 s0 i_ordered i_at i_parts i_orders H locs ls hf hP hD hS hl
    unfold f_LawReader_readSum_111 at hf
    refine lv_istore_n (lv' := [(3, .int (Int32.ofInt s0)), (0, .ref q0), (1, .int (Int32.ofInt x1)), (2, .int (Int32.ofInt x2)), (4, .int (Int32.ofInt x4))]) hx hb (zdt zkX4_readSum 111 rfl) rfl hl (by decide) rfl (fun ls hl => ?_)
    refine lv_iload_n hx hb (zdt zkX4_readSum 112 rfl) rfl (lv_at hl 0 rfl) ?_
    refine lv_iconst (v := Int32.ofInt (-1)) hx hb (zdt zkX4_readSum 113 rfl) rfl ?_
    refine xi_icmp_ne (tgt := 119) hx hb (zdt zkX4_readSum 114 rfl) (by decide) hf (fun hf => ?_) (fun hf => ?_)
    · exact b_119 _ ih7 _ _ _ _ _ _ _ _ _ _ _ hf hP hD hS (lv_sub hl [1, 2, 3, 0, 4] rfl)
    · refine lv_iconst (v := Int32.ofInt 1) hx hb (zdt zkX4_readSum 117 rfl) rfl ?_
      obtain rfl := Option.some.inj hf
      exact hret _ _ _ _ zz_b1 (zdt zkX4_readSum 118 rfl) hP hD hS
  have b_84 : ∀ (k7 : Int → Int → Int → Int → Int → Int → Int → (Nat → Int) → Option (Int × Int × Int × Int × (Nat → Int))) (_ : ∀ (x1 : Int) (x2 : Int) (x3 : Int) (x4 : Int) (i_ordered : Int) (i_at : Int) (i_parts : Int) (i_orders : Nat → Int) (H : Heap) (locs : List Loc) (ls : Array Slot), k7 x1 x2 x3 x4 i_ordered i_at i_parts i_orders = some out → va_P (dC, dI) vwCl (wd_LawReader_readSum cA q0 q1 q2 q3 q4 i_tokens i_values i_ordered i_at i_parts i_orders) H → va_D A (wd_LawReader_readSum cA q0 q1 q2 q3 q4 i_tokens i_values i_ordered i_at i_parts i_orders) → va_S A s.heap H locs → lv_has ls 5 [(0, .ref q0), (1, .int (Int32.ofInt x1)), (2, .int (Int32.ofInt x2)), (3, .int (Int32.ofInt x3)), (4, .int (Int32.ofInt x4))] → W p l e (rmr_LawReader_readSum (dp + 1)) s m args below meth c H locs 0 0 Q (F0 m 7 ls [])), ∀ (x1 : Int) (x2 : Int) (x4 : Int) (i_ordered : Int) (i_at : Int) (i_parts : Int) (i_orders : Nat → Int) (H : Heap) (locs : List Loc) (ls : Array Slot), f_LawReader_readSum_84 r_LawReader_readSum r_LawReader_readPart i_tokens i_values k7 x1 x2 x4 i_ordered i_at i_parts i_orders = some out → va_P (dC, dI) vwCl (wd_LawReader_readSum cA q0 q1 q2 q3 q4 i_tokens i_values i_ordered i_at i_parts i_orders) H → va_D A (wd_LawReader_readSum cA q0 q1 q2 q3 q4 i_tokens i_values i_ordered i_at i_parts i_orders) → va_S A s.heap H locs → lv_has ls 5 [(0, .ref q0), (1, .int (Int32.ofInt x1)), (2, .int (Int32.ofInt x2)), (4, .int (Int32.ofInt x4))] → W p l e (rmr_LawReader_readSum (dp + 1)) s m args below meth c H locs 0 0 Q (F0 m 84 ls []) := by
    intro k7 ih7 x1 x2 x4 i_ordered i_at i_parts i_orders H locs ls hf hP hD hS hl
    unfold f_LawReader_readSum_84 at hf
    refine lv_aload_n hx hb (zdt zkX4_readSum 84 rfl) rfl (lv_at hl 0 rfl) ?_
    refine lv_bipush (v := Int32.ofInt 43) hx hb (zdt zkX4_readSum 85 rfl) (by decide) ?_
    refine xe_d2 hf (fun v1 v2 hg hf => ?_)
    have hC : ([0, 2] : List Nat).map (fun i => (wd_LawReader_readSum cA q0 q1 q2 q3 q4 i_tokens i_values i_ordered i_at i_parts i_orders)[i]?) = (wd_LawReader_pass cA q0 q1 q2 q3 q4 i_ordered i_parts i_tokens i_at).map some := rfl
    refine xv_afterI (ws' := (wd_LawReader_readSum cA q0 q1 q2 q3 q4 i_tokens i_values i_ordered v2 i_parts i_orders)) (isC := [0, 2]) (ps := [some 0, none, some 1, none]) (va_runV (As := [.int (Int32.ofInt 43)]) (rest := []) ⟨hx, hb, hml, hown, hts⟩ (c_LawReader_pass l ev dC dI cA q0 q1 q2 q3 q4 i_ordered i_parts hg H.size) (cwV 1 hts (zgV zw_752 zw_754 zw_7 zw_107 zw_755) rfl rfl rfl hd_LawReader_pass ⟨(by show 0 + 1 ≤ 1 + (dp + 1); omega), (by show 8 + (2 + 11) + (0) ≤ 22 + 24 * (dp + 1); omega)⟩) (xv_preV (T := TX4) (N := 7) hE hA hS hK hP hD (isC := [0, 2]) (by decide +kernel) hC (q0 := 0) (ci := 4) rfl rfl) rfl rfl hl.1 rfl (lv_room (Nat.le_of_ble_eq_true rfl)) (zdt zkX4_readSum 87 rfl) ⟨Nat.le_refl _, Nat.le_refl _⟩) hP hD hS hA (by decide +kernel) rfl hC rfl rfl (fun H locs hP hD hS => ?_)
    refine xi_if_eq (tgt := 97) hx hb (zdt zkX4_readSum 90 rfl) (by decide) hf (fun hf => ?_) (fun hf => ?_)
    · refine lv_aload_n hx hb (zdt zkX4_readSum 97 rfl) rfl (lv_at hl 0 rfl) ?_
      refine lv_bipush (v := Int32.ofInt 45) hx hb (zdt zkX4_readSum 98 rfl) (by decide) ?_
      refine xe_d2 hf (fun v3 v4 hg hf => ?_)
      have hC : ([0, 2] : List Nat).map (fun i => (wd_LawReader_readSum cA q0 q1 q2 q3 q4 i_tokens i_values i_ordered v2 i_parts i_orders)[i]?) = (wd_LawReader_pass cA q0 q1 q2 q3 q4 i_ordered i_parts i_tokens v2).map some := rfl
      refine xv_afterI (ws' := (wd_LawReader_readSum cA q0 q1 q2 q3 q4 i_tokens i_values i_ordered v4 i_parts i_orders)) (isC := [0, 2]) (ps := [some 0, none, some 1, none]) (va_runV (As := [.int (Int32.ofInt 45)]) (rest := []) ⟨hx, hb, hml, hown, hts⟩ (c_LawReader_pass l ev dC dI cA q0 q1 q2 q3 q4 i_ordered i_parts hg H.size) (cwV 1 hts (zgV zw_752 zw_754 zw_7 zw_107 zw_755) rfl rfl rfl hd_LawReader_pass ⟨(by show 0 + 1 ≤ 1 + (dp + 1); omega), (by show 8 + (2 + 11) + (0) ≤ 22 + 24 * (dp + 1); omega)⟩) (xv_preV (T := TX4) (N := 7) hE hA hS hK hP hD (isC := [0, 2]) (by decide +kernel) hC (q0 := 0) (ci := 4) rfl rfl) rfl rfl hl.1 rfl (lv_room (Nat.le_of_ble_eq_true rfl)) (zdt zkX4_readSum 100 rfl) ⟨Nat.le_refl _, Nat.le_refl _⟩) hP hD hS hA (by decide +kernel) rfl hC rfl rfl (fun H locs hP hD hS => ?_)
      refine xi_if_eq (tgt := 110) hx hb (zdt zkX4_readSum 103 rfl) (by decide) hf (fun hf => ?_) (fun hf => ?_)
      · refine lv_iconst (v := Int32.ofInt (-1)) hx hb (zdt zkX4_readSum 110 rfl) rfl ?_
        exact b_111 _ ih7 _ _ _ _ _ _ _ _ _ _ _ hf hP hD hS (lv_sub hl [0, 1, 2, 3] rfl)
      · refine lv_iconst (v := Int32.ofInt 4) hx hb (zdt zkX4_readSum 106 rfl) rfl ?_
        refine lv_goto (tgt := 111) hx hb (zdt zkX4_readSum 107 rfl) (by decide) ?_
        exact b_111 _ ih7 _ _ _ _ _ _ _ _ _ _ _ hf hP hD hS (lv_sub hl [0, 1, 2, 3] rfl)
    · refine lv_iconst (v := Int32.ofInt 3) hx hb (zdt zkX4_readSum 93 rfl) rfl ?_
      refine lv_goto (tgt := 111) hx hb (zdt zkX4_readSum 94 rfl) (by decide) ?_
      exact b_111 _ ih7 _ _ _ _ _ _ _ _ _ _ _ hf hP hD hS (lv_sub hl [0, 1, 2, 3] rfl)
  have b_63 : ∀ (k7 : Int → Int → Int → Int → Int → Int → Int → (Nat → Int) → Option (Int × Int × Int × Int × (Nat → Int))) (_ : ∀ (x1 : Int) (x2 : Int) (x3 : Int) (x4 : Int) (i_ordered : Int) (i_at : Int) (i_parts : Int) (i_orders : Nat → Int) (H : Heap) (locs : List Loc) (ls : Array Slot), k7 x1 x2 x3 x4 i_ordered i_at i_parts i_orders = some out → va_P (dC, dI) vwCl (wd_LawReader_readSum cA q0 q1 q2 q3 q4 i_tokens i_values i_ordered i_at i_parts i_orders) H → va_D A (wd_LawReader_readSum cA q0 q1 q2 q3 q4 i_tokens i_values i_ordered i_at i_parts i_orders) → va_S A s.heap H locs → lv_has ls 5 [(0, .ref q0), (1, .int (Int32.ofInt x1)), (2, .int (Int32.ofInt x2)), (3, .int (Int32.ofInt x3)), (4, .int (Int32.ofInt x4))] → W p l e (rmr_LawReader_readSum (dp + 1)) s m args below meth c H locs 0 0 Q (F0 m 7 ls [])), ∀ (x1 : Int) (x3 : Int) (x4 : Int) (s0 : Int) (i_ordered : Int) (i_at : Int) (i_parts : Int) (i_orders : Nat → Int) (H : Heap) (locs : List Loc) (ls : Array Slot), f_LawReader_readSum_63 r_LawReader_readSum r_LawReader_readPart i_tokens i_values k7 x1 x3 x4 s0 i_ordered i_at i_parts i_orders = some out → va_P (dC, dI) vwCl (wd_LawReader_readSum cA q0 q1 q2 q3 q4 i_tokens i_values i_ordered i_at i_parts i_orders) H → va_D A (wd_LawReader_readSum cA q0 q1 q2 q3 q4 i_tokens i_values i_ordered i_at i_parts i_orders) → va_S A s.heap H locs → lv_has ls 5 [(0, .ref q0), (1, .int (Int32.ofInt x1)), (3, .int (Int32.ofInt x3)), (4, .int (Int32.ofInt x4))] → W p l e (rmr_LawReader_readSum (dp + 1)) s m args below meth c H locs 0 0 Q (F0 m 63 ls [.int (Int32.ofInt s0)]) := by
    intro k7 ih7 x1 x3 x4 s0 i_ordered i_at i_parts i_orders H locs ls hf hP hD hS hl
    unfold f_LawReader_readSum_63 at hf
    refine lv_istore_n (lv' := [(2, .int (Int32.ofInt s0)), (0, .ref q0), (1, .int (Int32.ofInt x1)), (3, .int (Int32.ofInt x3)), (4, .int (Int32.ofInt x4))]) hx hb (zdt zkX4_readSum 63 rfl) rfl hl (by decide) rfl (fun ls hl => ?_)
    refine lv_iload_n hx hb (zdt zkX4_readSum 64 rfl) rfl (lv_at hl 0 rfl) ?_
    refine lv_iconst (v := Int32.ofInt (-1)) hx hb (zdt zkX4_readSum 65 rfl) rfl ?_
    refine xi_icmp_eq (tgt := 72) hx hb (zdt zkX4_readSum 66 rfl) (by decide) hf (fun hf => ?_) (fun hf => ?_)
    · refine lv_iload_n hx hb (zdt zkX4_readSum 72 rfl) rfl (lv_at hl 3 rfl) ?_
      refine lv_iconst (v := Int32.ofInt (-1)) hx hb (zdt zkX4_readSum 73 rfl) rfl ?_
      refine xi_icmp_eq (tgt := 84) hx hb (zdt zkX4_readSum 74 rfl) (by decide) hf (fun hf => ?_) (fun hf => ?_)
      · exact b_84 _ ih7 _ _ _ _ _ _ _ _ _ _ hf hP hD hS (lv_sub hl [1, 2, 0, 4] rfl)
      · refine lv_aload_n hx hb (zdt zkX4_readSum 77 rfl) rfl (lv_at hl 1 rfl) ?_
        refine lv_iload_n hx hb (zdt zkX4_readSum 78 rfl) rfl (lv_at hl 3 rfl) ?_
        refine lv_iconst (v := Int32.ofInt 0) hx hb (zdt zkX4_readSum 79 rfl) rfl ?_
        refine xe_d3 hf (fun v1 v2 a3 hg hf => ?_)
        have hC : ([0, 1] : List Nat).map (fun i => (wd_LawReader_readSum cA q0 q1 q2 q3 q4 i_tokens i_values i_ordered i_at i_parts i_orders)[i]?) = (wd_LawReader_order cA q0 q1 q2 q3 q4 i_at i_parts i_ordered i_orders).map some := rfl
        refine xv_afterI (ws' := (wd_LawReader_readSum cA q0 q1 q2 q3 q4 i_tokens i_values v2 i_at i_parts a3)) (isC := [0, 1]) (ps := [some 0, some 1, none, none]) (va_runV (As := [.int (Int32.ofInt x3), .int (Int32.ofInt 0)]) (rest := []) ⟨hx, hb, hml, hown, hts⟩ (c_LawReader_order l ev dC dI cA q0 q1 q2 q3 q4 i_at i_parts hg H.size) (cwV 2 hts (zgV zw_748 zw_750 zw_6 zw_107 zw_751) rfl rfl rfl hd_LawReader_order ⟨(by show 0 + 1 ≤ 1 + (dp + 1); omega), (by show 8 + (3 + 11) + (0) ≤ 22 + 24 * (dp + 1); omega)⟩) (xv_preV (T := TX4) (N := 7) hE hA hS hK hP hD (isC := [0, 1]) (by decide +kernel) hC (q0 := 0) (ci := 4) rfl rfl) rfl rfl hl.1 rfl (lv_room (Nat.le_of_ble_eq_true rfl)) (zdt zkX4_readSum 80 rfl) ⟨Nat.le_refl _, Nat.le_refl _⟩) hP hD hS hA (by decide +kernel) rfl hC rfl rfl (fun H locs hP hD hS => ?_)
        refine lv_pop hx hb (zdt zkX4_readSum 83 rfl) rfl ?_
        exact b_84 _ ih7 _ _ _ _ _ _ _ _ _ _ hf hP hD hS (lv_sub hl [1, 2, 0, 4] rfl)
    · refine lv_goto (tgt := 119) hx hb (zdt zkX4_readSum 69 rfl) (by decide) ?_
      exact b_119 _ ih7 _ _ _ _ _ _ _ _ _ _ _ hf hP hD hS (lv_sub hl [1, 2, 0, 3, 4] rfl)
  have b_35 : ∀ (k7 : Int → Int → Int → Int → Int → Int → Int → (Nat → Int) → Option (Int × Int × Int × Int × (Nat → Int))) (_ : ∀ (x1 : Int) (x2 : Int) (x3 : Int) (x4 : Int) (i_ordered : Int) (i_at : Int) (i_parts : Int) (i_orders : Nat → Int) (H : Heap) (locs : List Loc) (ls : Array Slot), k7 x1 x2 x3 x4 i_ordered i_at i_parts i_orders = some out → va_P (dC, dI) vwCl (wd_LawReader_readSum cA q0 q1 q2 q3 q4 i_tokens i_values i_ordered i_at i_parts i_orders) H → va_D A (wd_LawReader_readSum cA q0 q1 q2 q3 q4 i_tokens i_values i_ordered i_at i_parts i_orders) → va_S A s.heap H locs → lv_has ls 5 [(0, .ref q0), (1, .int (Int32.ofInt x1)), (2, .int (Int32.ofInt x2)), (3, .int (Int32.ofInt x3)), (4, .int (Int32.ofInt x4))] → W p l e (rmr_LawReader_readSum (dp + 1)) s m args below meth c H locs 0 0 Q (F0 m 7 ls [])), ∀ (x1 : Int) (x3 : Int) (x4 : Int) (i_ordered : Int) (i_at : Int) (i_parts : Int) (i_orders : Nat → Int) (H : Heap) (locs : List Loc) (ls : Array Slot), f_LawReader_readSum_35 r_LawReader_readSum r_LawReader_readPart i_tokens i_values k7 x1 x3 x4 i_ordered i_at i_parts i_orders = some out → va_P (dC, dI) vwCl (wd_LawReader_readSum cA q0 q1 q2 q3 q4 i_tokens i_values i_ordered i_at i_parts i_orders) H → va_D A (wd_LawReader_readSum cA q0 q1 q2 q3 q4 i_tokens i_values i_ordered i_at i_parts i_orders) → va_S A s.heap H locs → lv_has ls 5 [(0, .ref q0), (1, .int (Int32.ofInt x1)), (3, .int (Int32.ofInt x3)), (4, .int (Int32.ofInt x4))] → W p l e (rmr_LawReader_readSum (dp + 1)) s m args below meth c H locs 0 0 Q (F0 m 35 ls []) := by
    intro k7 ih7 x1 x3 x4 i_ordered i_at i_parts i_orders H locs ls hf hP hD hS hl
    unfold f_LawReader_readSum_35 at hf
    refine lv_aload_n hx hb (zdt zkX4_readSum 35 rfl) rfl (lv_at hl 0 rfl) ?_
    refine lv_bipush (v := Int32.ofInt 42) hx hb (zdt zkX4_readSum 36 rfl) (by decide) ?_
    refine xe_d2 hf (fun v1 v2 hg hf => ?_)
    have hC : ([0, 2] : List Nat).map (fun i => (wd_LawReader_readSum cA q0 q1 q2 q3 q4 i_tokens i_values i_ordered i_at i_parts i_orders)[i]?) = (wd_LawReader_pass cA q0 q1 q2 q3 q4 i_ordered i_parts i_tokens i_at).map some := rfl
    refine xv_afterI (ws' := (wd_LawReader_readSum cA q0 q1 q2 q3 q4 i_tokens i_values i_ordered v2 i_parts i_orders)) (isC := [0, 2]) (ps := [some 0, none, some 1, none]) (va_runV (As := [.int (Int32.ofInt 42)]) (rest := []) ⟨hx, hb, hml, hown, hts⟩ (c_LawReader_pass l ev dC dI cA q0 q1 q2 q3 q4 i_ordered i_parts hg H.size) (cwV 1 hts (zgV zw_752 zw_754 zw_7 zw_107 zw_755) rfl rfl rfl hd_LawReader_pass ⟨(by show 0 + 1 ≤ 1 + (dp + 1); omega), (by show 8 + (2 + 11) + (0) ≤ 22 + 24 * (dp + 1); omega)⟩) (xv_preV (T := TX4) (N := 7) hE hA hS hK hP hD (isC := [0, 2]) (by decide +kernel) hC (q0 := 0) (ci := 4) rfl rfl) rfl rfl hl.1 rfl (lv_room (Nat.le_of_ble_eq_true rfl)) (zdt zkX4_readSum 38 rfl) ⟨Nat.le_refl _, Nat.le_refl _⟩) hP hD hS hA (by decide +kernel) rfl hC rfl rfl (fun H locs hP hD hS => ?_)
    refine xi_if_eq (tgt := 48) hx hb (zdt zkX4_readSum 41 rfl) (by decide) hf (fun hf => ?_) (fun hf => ?_)
    · refine lv_aload_n hx hb (zdt zkX4_readSum 48 rfl) rfl (lv_at hl 0 rfl) ?_
      refine lv_bipush (v := Int32.ofInt 47) hx hb (zdt zkX4_readSum 49 rfl) (by decide) ?_
      refine xe_d2 hf (fun v3 v4 hg hf => ?_)
      have hC : ([0, 2] : List Nat).map (fun i => (wd_LawReader_readSum cA q0 q1 q2 q3 q4 i_tokens i_values i_ordered v2 i_parts i_orders)[i]?) = (wd_LawReader_pass cA q0 q1 q2 q3 q4 i_ordered i_parts i_tokens v2).map some := rfl
      refine xv_afterI (ws' := (wd_LawReader_readSum cA q0 q1 q2 q3 q4 i_tokens i_values i_ordered v4 i_parts i_orders)) (isC := [0, 2]) (ps := [some 0, none, some 1, none]) (va_runV (As := [.int (Int32.ofInt 47)]) (rest := []) ⟨hx, hb, hml, hown, hts⟩ (c_LawReader_pass l ev dC dI cA q0 q1 q2 q3 q4 i_ordered i_parts hg H.size) (cwV 1 hts (zgV zw_752 zw_754 zw_7 zw_107 zw_755) rfl rfl rfl hd_LawReader_pass ⟨(by show 0 + 1 ≤ 1 + (dp + 1); omega), (by show 8 + (2 + 11) + (0) ≤ 22 + 24 * (dp + 1); omega)⟩) (xv_preV (T := TX4) (N := 7) hE hA hS hK hP hD (isC := [0, 2]) (by decide +kernel) hC (q0 := 0) (ci := 4) rfl rfl) rfl rfl hl.1 rfl (lv_room (Nat.le_of_ble_eq_true rfl)) (zdt zkX4_readSum 51 rfl) ⟨Nat.le_refl _, Nat.le_refl _⟩) hP hD hS hA (by decide +kernel) rfl hC rfl rfl (fun H locs hP hD hS => ?_)
      refine xi_if_eq (tgt := 62) hx hb (zdt zkX4_readSum 54 rfl) (by decide) hf (fun hf => ?_) (fun hf => ?_)
      · refine lv_iconst (v := Int32.ofInt (-1)) hx hb (zdt zkX4_readSum 62 rfl) rfl ?_
        exact b_63 _ ih7 _ _ _ _ _ _ _ _ _ _ _ hf hP hD hS (lv_sub hl [0, 1, 2, 3] rfl)
      · refine lv_bipush (v := Int32.ofInt 6) hx hb (zdt zkX4_readSum 57 rfl) (by decide) ?_
        refine lv_goto (tgt := 63) hx hb (zdt zkX4_readSum 59 rfl) (by decide) ?_
        exact b_63 _ ih7 _ _ _ _ _ _ _ _ _ _ _ hf hP hD hS (lv_sub hl [0, 1, 2, 3] rfl)
    · refine lv_iconst (v := Int32.ofInt 5) hx hb (zdt zkX4_readSum 44 rfl) rfl ?_
      refine lv_goto (tgt := 63) hx hb (zdt zkX4_readSum 45 rfl) (by decide) ?_
      exact b_63 _ ih7 _ _ _ _ _ _ _ _ _ _ _ hf hP hD hS (lv_sub hl [0, 1, 2, 3] rfl)
  have b_7 : ∀ (k7 : Int → Int → Int → Int → Int → Int → Int → (Nat → Int) → Option (Int × Int × Int × Int × (Nat → Int))) (_ : ∀ (x1 : Int) (x2 : Int) (x3 : Int) (x4 : Int) (i_ordered : Int) (i_at : Int) (i_parts : Int) (i_orders : Nat → Int) (H : Heap) (locs : List Loc) (ls : Array Slot), k7 x1 x2 x3 x4 i_ordered i_at i_parts i_orders = some out → va_P (dC, dI) vwCl (wd_LawReader_readSum cA q0 q1 q2 q3 q4 i_tokens i_values i_ordered i_at i_parts i_orders) H → va_D A (wd_LawReader_readSum cA q0 q1 q2 q3 q4 i_tokens i_values i_ordered i_at i_parts i_orders) → va_S A s.heap H locs → lv_has ls 5 [(0, .ref q0), (1, .int (Int32.ofInt x1)), (2, .int (Int32.ofInt x2)), (3, .int (Int32.ofInt x3)), (4, .int (Int32.ofInt x4))] → W p l e (rmr_LawReader_readSum (dp + 1)) s m args below meth c H locs 0 0 Q (F0 m 7 ls [])), ∀ (x1 : Int) (x2 : Int) (x3 : Int) (x4 : Int) (i_ordered : Int) (i_at : Int) (i_parts : Int) (i_orders : Nat → Int) (H : Heap) (locs : List Loc) (ls : Array Slot), f_LawReader_readSum_7_b r_LawReader_readSum r_LawReader_readPart i_tokens i_values k7 x1 x2 x3 x4 i_ordered i_at i_parts i_orders = some out → va_P (dC, dI) vwCl (wd_LawReader_readSum cA q0 q1 q2 q3 q4 i_tokens i_values i_ordered i_at i_parts i_orders) H → va_D A (wd_LawReader_readSum cA q0 q1 q2 q3 q4 i_tokens i_values i_ordered i_at i_parts i_orders) → va_S A s.heap H locs → lv_has ls 5 [(0, .ref q0), (1, .int (Int32.ofInt x1)), (2, .int (Int32.ofInt x2)), (3, .int (Int32.ofInt x3)), (4, .int (Int32.ofInt x4))] → W p l e (rmr_LawReader_readSum (dp + 1)) s m args below meth c H locs 0 0 Q (F0 m 7 ls []) := by
    intro k7 ih7 x1 x2 x3 x4 i_ordered i_at i_parts i_orders H locs ls hf hP hD hS hl
    unfold f_LawReader_readSum_7_b at hf
    refine lv_iload hx hb (zdt zkX4_readSum 7 rfl) (lv_at hl 4 rfl) ?_
    refine lv_sipush (v := Int32.ofInt 400) hx hb (zdt zkX4_readSum 9 rfl) (by decide) ?_
    refine xi_icmp_ge (tgt := 125) hx hb (zdt zkX4_readSum 12 rfl) (by decide) hf (fun hf => ?_) (fun hf => ?_)
    · refine lv_iconst (v := Int32.ofInt 0) hx hb (zdt zkX4_readSum 125 rfl) rfl ?_
      obtain rfl := Option.some.inj hf
      exact hret _ _ _ _ zz_b0 (zdt zkX4_readSum 126 rfl) hP hD hS
    · refine lv_aload_n hx hb (zdt zkX4_readSum 15 rfl) rfl (lv_at hl 0 rfl) ?_
      refine lv_iload_n hx hb (zdt zkX4_readSum 16 rfl) rfl (lv_at hl 1 rfl) ?_
      refine xe_d5 hf (fun v1 v2 v3 v4 a5 hg hf => ?_)
      have hC : ([0, 1, 2, 3] : List Nat).map (fun i => (wd_LawReader_readSum cA q0 q1 q2 q3 q4 i_tokens i_values i_ordered i_at i_parts i_orders)[i]?) = (wd_LawReader_readPart cA q0 q1 q2 q3 q4 i_tokens i_values i_ordered i_at i_parts i_orders).map some := rfl
      refine xv_afterI (ws' := (wd_LawReader_readSum cA q0 q1 q2 q3 q4 i_tokens i_values v2 v3 v4 a5)) (isC := [0, 1, 2, 3]) (ps := [some 0, some 1, some 2, some 3]) (va_runV (As := [.int (Int32.ofInt x1)]) (rest := []) ⟨hx, hb, hml, hown, hts⟩ (h_LawReader_readPart q0 q1 q2 q3 q4 _ _ _ _ _ _ _ _ hg H.size) (cwV 1 hts (zgV zw_760 zw_762 zw_9 zw_107 zw_763) rfl rfl rfl hd_LawReader_readPart ⟨(by show 1 + dp + 1 ≤ 1 + (dp + 1); omega), (by show 8 + (3 + 11) + (22 + 24 * dp) ≤ 22 + 24 * (dp + 1); omega)⟩) (xv_preV (T := TX4) (N := 7) hE hA hS hK hP hD (isC := [0, 1, 2, 3]) (by decide +kernel) hC (q0 := 0) (ci := 4) rfl rfl) rfl rfl hl.1 rfl (lv_room (Nat.le_of_ble_eq_true rfl)) (zdt zkX4_readSum 17 rfl) ⟨Nat.le_refl _, Nat.le_refl _⟩) hP hD hS hA (by decide +kernel) rfl hC rfl rfl (fun H locs hP hD hS => ?_)
      refine xi_if_eq (tgt := 125) hx hb (zdt zkX4_readSum 20 rfl) (by decide) hf (fun hf => ?_) (fun hf => ?_)
      · refine lv_iconst (v := Int32.ofInt 0) hx hb (zdt zkX4_readSum 125 rfl) rfl ?_
        obtain rfl := Option.some.inj hf
        exact hret _ _ _ _ zz_b0 (zdt zkX4_readSum 126 rfl) hP hD hS
      · refine lv_iload_n hx hb (zdt zkX4_readSum 23 rfl) rfl (lv_at hl 2 rfl) ?_
        refine lv_iconst (v := Int32.ofInt (-1)) hx hb (zdt zkX4_readSum 24 rfl) rfl ?_
        refine xi_icmp_eq (tgt := 35) hx hb (zdt zkX4_readSum 25 rfl) (by decide) hf (fun hf => ?_) (fun hf => ?_)
        · exact b_35 _ ih7 _ _ _ _ _ _ _ _ _ _ hf hP hD hS (lv_sub hl [0, 1, 3, 4] rfl)
        · refine lv_aload_n hx hb (zdt zkX4_readSum 28 rfl) rfl (lv_at hl 0 rfl) ?_
          refine lv_iload_n hx hb (zdt zkX4_readSum 29 rfl) rfl (lv_at hl 2 rfl) ?_
          refine lv_iconst (v := Int32.ofInt 0) hx hb (zdt zkX4_readSum 30 rfl) rfl ?_
          refine xe_d3 hf (fun v6 v7 a8 hg hf => ?_)
          have hC : ([0, 1] : List Nat).map (fun i => (wd_LawReader_readSum cA q0 q1 q2 q3 q4 i_tokens i_values v2 v3 v4 a5)[i]?) = (wd_LawReader_order cA q0 q1 q2 q3 q4 v3 v4 v2 a5).map some := rfl
          refine xv_afterI (ws' := (wd_LawReader_readSum cA q0 q1 q2 q3 q4 i_tokens i_values v7 v3 v4 a8)) (isC := [0, 1]) (ps := [some 0, some 1, none, none]) (va_runV (As := [.int (Int32.ofInt x2), .int (Int32.ofInt 0)]) (rest := []) ⟨hx, hb, hml, hown, hts⟩ (c_LawReader_order l ev dC dI cA q0 q1 q2 q3 q4 v3 v4 hg H.size) (cwV 2 hts (zgV zw_748 zw_750 zw_6 zw_107 zw_751) rfl rfl rfl hd_LawReader_order ⟨(by show 0 + 1 ≤ 1 + (dp + 1); omega), (by show 8 + (3 + 11) + (0) ≤ 22 + 24 * (dp + 1); omega)⟩) (xv_preV (T := TX4) (N := 7) hE hA hS hK hP hD (isC := [0, 1]) (by decide +kernel) hC (q0 := 0) (ci := 4) rfl rfl) rfl rfl hl.1 rfl (lv_room (Nat.le_of_ble_eq_true rfl)) (zdt zkX4_readSum 31 rfl) ⟨Nat.le_refl _, Nat.le_refl _⟩) hP hD hS hA (by decide +kernel) rfl hC rfl rfl (fun H locs hP hD hS => ?_)
          refine lv_pop hx hb (zdt zkX4_readSum 34 rfl) rfl ?_
          exact b_35 _ ih7 _ _ _ _ _ _ _ _ _ _ hf hP hD hS (lv_sub hl [0, 1, 3, 4] rfl)
  have l_7 : ∀ (n : Nat), ∀ (x1 : Int) (x2 : Int) (x3 : Int) (x4 : Int) (i_ordered : Int) (i_at : Int) (i_parts : Int) (i_orders : Nat → Int) (H : Heap) (locs : List Loc) (ls : Array Slot), f_LawReader_readSum_7 r_LawReader_readSum r_LawReader_readPart i_tokens i_values n x1 x2 x3 x4 i_ordered i_at i_parts i_orders = some out → va_P (dC, dI) vwCl (wd_LawReader_readSum cA q0 q1 q2 q3 q4 i_tokens i_values i_ordered i_at i_parts i_orders) H → va_D A (wd_LawReader_readSum cA q0 q1 q2 q3 q4 i_tokens i_values i_ordered i_at i_parts i_orders) → va_S A s.heap H locs → lv_has ls 5 [(0, .ref q0), (1, .int (Int32.ofInt x1)), (2, .int (Int32.ofInt x2)), (3, .int (Int32.ofInt x3)), (4, .int (Int32.ofInt x4))] → W p l e (rmr_LawReader_readSum (dp + 1)) s m args below meth c H locs 0 0 Q (F0 m 7 ls []) := by
    intro n
    induction n with
    | zero => intro x1 x2 x3 x4 i_ordered i_at i_parts i_orders H locs ls hf hP hD hS hl; exact nomatch hf
    | succ n ih => intro x1 x2 x3 x4 i_ordered i_at i_parts i_orders H locs ls hf hP hD hS hl; exact b_7 (f_LawReader_readSum_7 r_LawReader_readSum r_LawReader_readPart i_tokens i_values n) ih x1 x2 x3 x4 i_ordered i_at i_parts i_orders H locs ls hf hP hD hS hl
  unfold fb_LawReader_readSum at hf
  refine lv_iconst (v := Int32.ofInt (-1)) hx hb (zdt zkX4_readSum 0 rfl) rfl ?_
  refine lv_istore_n (lv' := [(2, .int (Int32.ofInt (-1))), (0, .ref q0), (1, .int (Int32.ofInt x1))]) hx hb (zdt zkX4_readSum 1 rfl) rfl hl (by decide) rfl (fun ls hl => ?_)
  refine lv_iconst (v := Int32.ofInt (-1)) hx hb (zdt zkX4_readSum 2 rfl) rfl ?_
  refine lv_istore_n (lv' := [(3, .int (Int32.ofInt (-1))), (2, .int (Int32.ofInt (-1))), (0, .ref q0), (1, .int (Int32.ofInt x1))]) hx hb (zdt zkX4_readSum 3 rfl) rfl hl (by decide) rfl (fun ls hl => ?_)
  refine lv_iconst (v := Int32.ofInt 0) hx hb (zdt zkX4_readSum 4 rfl) rfl ?_
  refine lv_istore (lv' := [(4, .int (Int32.ofInt 0)), (3, .int (Int32.ofInt (-1))), (2, .int (Int32.ofInt (-1))), (0, .ref q0), (1, .int (Int32.ofInt x1))]) hx hb (zdt zkX4_readSum 5 rfl) hl (by decide) rfl (fun ls hl => ?_)
  exact l_7  _ _ _ _ _ _ _ _ _ _ _ _ hf hP hD hS (lv_sub hl [3, 4, 2, 1, 0] rfl)
set_option maxHeartbeats 4000000 in
set_option maxRecDepth 100000 in
theorem cb_LawReader_readPart (l : Launch) (ev : zEv) (dC : Nat → ClassId) (dI : Nat → Nat → Nat) (cA : Nat → ClassId) (dp : Nat) (r_LawReader_readSum : Int → (Nat → Int) → (Nat → Int) → Int → Int → Int → (Nat → Int) → Option (Int × Int × Int × Int × (Nat → Int))) (r_LawReader_readPart : Int → (Nat → Int) → (Nat → Int) → Int → Int → Int → (Nat → Int) → Option (Int × Int × Int × Int × (Nat → Int))) (h_LawReader_readSum : ∀ (q0 q1 q2 q3 q4 : Nat) (x1 : Int) (i_tokens : Nat → Int) (i_values : Nat → Int) (i_ordered : Int) (i_at : Int) (i_parts : Int) (i_orders : Nat → Int) (out : Int × Int × Int × Int × (Nat → Int)), r_LawReader_readSum x1 i_tokens i_values i_ordered i_at i_parts i_orders = some out → xc_I l ev (dC, dI) vwCl (tyl cA) yX4_readSum w_LawReader_readSum (rmr_LawReader_readSum dp) [.ref q0, .int (Int32.ofInt x1)] (wd_LawReader_readSum cA q0 q1 q2 q3 q4 i_tokens i_values i_ordered i_at i_parts i_orders) (wf_LawReader_readSum cA q0 q1 q2 q3 q4 i_tokens i_values out) out.1) (h_LawReader_readPart : ∀ (q0 q1 q2 q3 q4 : Nat) (x1 : Int) (i_tokens : Nat → Int) (i_values : Nat → Int) (i_ordered : Int) (i_at : Int) (i_parts : Int) (i_orders : Nat → Int) (out : Int × Int × Int × Int × (Nat → Int)), r_LawReader_readPart x1 i_tokens i_values i_ordered i_at i_parts i_orders = some out → xc_I l ev (dC, dI) vwCl (tyl cA) yX4_readPart w_LawReader_readPart (rmr_LawReader_readSum dp) [.ref q0, .int (Int32.ofInt x1)] (wd_LawReader_readPart cA q0 q1 q2 q3 q4 i_tokens i_values i_ordered i_at i_parts i_orders) (wf_LawReader_readPart cA q0 q1 q2 q3 q4 i_tokens i_values out) out.1) : ∀ (q0 q1 q2 q3 q4 : Nat) (x1 : Int) (i_tokens : Nat → Int) (i_values : Nat → Int) (i_ordered : Int) (i_at : Int) (i_parts : Int) (i_orders : Nat → Int) (out : Int × Int × Int × Int × (Nat → Int)), fb_LawReader_readPart r_LawReader_readSum r_LawReader_readPart x1 i_tokens i_values i_ordered i_at i_parts i_orders = some out → xc_I l ev (dC, dI) vwCl (tyl cA) yX4_readPart w_LawReader_readPart (rmr_LawReader_readSum (dp + 1)) [.ref q0, .int (Int32.ofInt x1)] (wd_LawReader_readPart cA q0 q1 q2 q3 q4 i_tokens i_values i_ordered i_at i_parts i_orders) (wf_LawReader_readPart cA q0 q1 q2 q3 q4 i_tokens i_values out) out.1 := by
  intro q0 q1 q2 q3 q4 x1 i_tokens i_values i_ordered i_at i_parts i_orders out hf
  refine xv_startI (cc := cX4_readPart) (maxL := 3) (rt := .boolean) (by decide +kernel) rfl (Nat.le_of_ble_eq_true rfl) ?_
  intro p e s m args below meth c A Q H ls hx hb hml hts hown hK hA hP hD hS hl hE hret
  have hown : s.vm.findClass "HillSchool$LawReader" = some m.cls := hown
  have hz : ∀ w ∈ zall, w.before args s = true := fun w h => hts w (List.mem_cons_of_mem _ h)
  have hl : lv_has ls 3 [(0, .ref q0), (1, .int (Int32.ofInt x1))] := hl
  have b_125 : ∀ (s1 : Int) (i_ordered : Int) (i_at : Int) (i_parts : Int) (i_orders : Nat → Int) (H : Heap) (locs : List Loc) (ls : Array Slot), f_LawReader_readPart_125 r_LawReader_readSum r_LawReader_readPart i_tokens i_values s1 i_ordered i_at i_parts i_orders = some out → va_P (dC, dI) vwCl (wd_LawReader_readPart cA q0 q1 q2 q3 q4 i_tokens i_values i_ordered i_at i_parts i_orders) H → va_D A (wd_LawReader_readPart cA q0 q1 q2 q3 q4 i_tokens i_values i_ordered i_at i_parts i_orders) → va_S A s.heap H locs → lv_has ls 3 [(0, .ref q0)] → W p l e (rmr_LawReader_readSum (dp + 1)) s m args below meth c H locs 0 0 Q (F0 m 125 ls [.int (Int32.ofInt s1), .ref q0]) := by
    intro s1 i_ordered i_at i_parts i_orders H locs ls hf hP hD hS hl
    unfold f_LawReader_readPart_125 at hf
    refine lv_aload_n hx hb (zdt zkX4_readPart 125 rfl) rfl (lv_at hl 0 rfl) ?_
    refine va_get (D := (dC, dI)) (ci := 4) (v := .ref q4) (C := RX4) (T := TX4) (N := 7) hx hb hz zi_X4 hown hK hP 0 rfl rfl 4 (by decide) (hz _ zw_254) (fun _ h9 => h9) rfl (zdt zkX4_readPart 126 rfl) ?_
    refine lv_aload_n hx hb (zdt zkX4_readPart 129 rfl) rfl (lv_at hl 0 rfl) ?_
    refine va_get (D := (dC, dI)) (ci := 4) (v := .int (Int32.ofInt i_at)) (C := RX4) (T := TX4) (N := 7) hx hb hz zi_X4 hown hK hP 0 rfl rfl 5 (by decide) (hz _ zw_255) (fun _ h9 => h9) rfl (zdt zkX4_readPart 130 rfl) ?_
    refine xi_iald hx hb hK hP 3 0 rfl rfl (zdt zkX4_readPart 133 rfl) hf (fun v1 hf => ?_)
    refine xe_d3 hf (fun v2 v3 a4 hg hf => ?_)
    have hC : ([0, 1] : List Nat).map (fun i => (wd_LawReader_readPart cA q0 q1 q2 q3 q4 i_tokens i_values i_ordered i_at i_parts i_orders)[i]?) = (wd_LawReader_order cA q0 q1 q2 q3 q4 i_at i_parts i_ordered i_orders).map some := rfl
    refine xv_afterI (ws' := (wd_LawReader_readPart cA q0 q1 q2 q3 q4 i_tokens i_values v3 i_at i_parts a4)) (isC := [0, 1]) (ps := [some 0, some 1, none, none]) (va_runV (As := [.int (Int32.ofInt s1), .int (Int32.ofInt v1)]) (rest := []) ⟨hx, hb, hml, hown, hts⟩ (c_LawReader_order l ev dC dI cA q0 q1 q2 q3 q4 i_at i_parts hg H.size) (cwV 2 hts (zgV zw_748 zw_750 zw_6 zw_107 zw_751) rfl rfl rfl hd_LawReader_order ⟨(by show 0 + 1 ≤ 1 + (dp + 1); omega), (by show 8 + (3 + 11) + (0) ≤ 22 + 24 * (dp + 1); omega)⟩) (xv_preV (T := TX4) (N := 7) hE hA hS hK hP hD (isC := [0, 1]) (by decide +kernel) hC (q0 := 0) (ci := 4) rfl rfl) rfl rfl hl.1 rfl (lv_room (Nat.le_of_ble_eq_true rfl)) (zdt zkX4_readPart 134 rfl) ⟨Nat.le_refl _, Nat.le_refl _⟩) hP hD hS hA (by decide +kernel) rfl hC rfl rfl (fun H locs hP hD hS => ?_)
    refine lv_pop hx hb (zdt zkX4_readPart 137 rfl) rfl ?_
    refine lv_aload_n hx hb (zdt zkX4_readPart 138 rfl) rfl (lv_at hl 0 rfl) ?_
    refine lv_aload_n hx hb (zdt zkX4_readPart 139 rfl) rfl (lv_at hl 0 rfl) ?_
    refine va_get (D := (dC, dI)) (ci := 4) (v := .ref q2) (C := RX4) (T := TX4) (N := 7) hx hb hz zi_X4 hown hK hP 0 rfl rfl 2 (by decide) (hz _ zw_252) (fun _ h9 => h9) rfl (zdt zkX4_readPart 140 rfl) ?_
    refine lv_aload_n hx hb (zdt zkX4_readPart 143 rfl) rfl (lv_at hl 0 rfl) ?_
    refine va_get (D := (dC, dI)) (ci := 4) (v := .int (Int32.ofInt i_at)) (C := RX4) (T := TX4) (N := 7) hx hb hz zi_X4 hown hK hP 0 rfl rfl 5 (by decide) (hz _ zw_255) (fun _ h9 => h9) rfl (zdt zkX4_readPart 144 rfl) ?_
    refine xi_iald hx hb hK hP 2 0 rfl rfl (zdt zkX4_readPart 147 rfl) hf (fun v5 hf => ?_)
    refine xe_d2 hf (fun v6 v7 hg hf => ?_)
    have hC : ([0, 2] : List Nat).map (fun i => (wd_LawReader_readPart cA q0 q1 q2 q3 q4 i_tokens i_values v3 i_at i_parts a4)[i]?) = (wd_LawReader_pass cA q0 q1 q2 q3 q4 v3 i_parts i_tokens i_at).map some := rfl
    refine xv_afterI (ws' := (wd_LawReader_readPart cA q0 q1 q2 q3 q4 i_tokens i_values v3 v7 i_parts a4)) (isC := [0, 2]) (ps := [some 0, none, some 1, none]) (va_runV (As := [.int (Int32.ofInt v5)]) (rest := []) ⟨hx, hb, hml, hown, hts⟩ (c_LawReader_pass l ev dC dI cA q0 q1 q2 q3 q4 v3 i_parts hg H.size) (cwV 1 hts (zgV zw_752 zw_754 zw_7 zw_107 zw_755) rfl rfl rfl hd_LawReader_pass ⟨(by show 0 + 1 ≤ 1 + (dp + 1); omega), (by show 8 + (2 + 11) + (0) ≤ 22 + 24 * (dp + 1); omega)⟩) (xv_preV (T := TX4) (N := 7) hE hA hS hK hP hD (isC := [0, 2]) (by decide +kernel) hC (q0 := 0) (ci := 4) rfl rfl) rfl rfl hl.1 rfl (lv_room (Nat.le_of_ble_eq_true rfl)) (zdt zkX4_readPart 148 rfl) ⟨Nat.le_refl _, Nat.le_refl _⟩) hP hD hS hA (by decide +kernel) rfl hC rfl rfl (fun H locs hP hD hS => ?_)
    obtain ⟨hzb, hf⟩ := xz_q hf
    obtain rfl := Option.some.inj hf
    exact hret _ _ _ _ (zz_bool hzb) (zdt zkX4_readPart 151 rfl) hP hD hS
  have b_94 : ∀ (x2 : Int) (i_ordered : Int) (i_at : Int) (i_parts : Int) (i_orders : Nat → Int) (H : Heap) (locs : List Loc) (ls : Array Slot), f_LawReader_readPart_94 r_LawReader_readSum r_LawReader_readPart i_tokens i_values x2 i_ordered i_at i_parts i_orders = some out → va_P (dC, dI) vwCl (wd_LawReader_readPart cA q0 q1 q2 q3 q4 i_tokens i_values i_ordered i_at i_parts i_orders) H → va_D A (wd_LawReader_readPart cA q0 q1 q2 q3 q4 i_tokens i_values i_ordered i_at i_parts i_orders) → va_S A s.heap H locs → lv_has ls 3 [(0, .ref q0), (2, .int (Int32.ofInt x2))] → W p l e (rmr_LawReader_readSum (dp + 1)) s m args below meth c H locs 0 0 Q (F0 m 94 ls []) := by
    intro x2 i_ordered i_at i_parts i_orders H locs ls hf hP hD hS hl
    unfold f_LawReader_readPart_94 at hf
    refine lv_aload_n hx hb (zdt zkX4_readPart 94 rfl) rfl (lv_at hl 0 rfl) ?_
    refine va_get (D := (dC, dI)) (ci := 4) (v := .int (Int32.ofInt i_parts)) (C := RX4) (T := TX4) (N := 7) hx hb hz zi_X4 hown hK hP 0 rfl rfl 6 (by decide) (hz _ zw_256) (fun _ h9 => h9) rfl (zdt zkX4_readPart 95 rfl) ?_
    refine lv_bipush (v := Int32.ofInt 50) hx hb (zdt zkX4_readPart 98 rfl) (by decide) ?_
    refine xi_icmp_lt (tgt := 105) hx hb (zdt zkX4_readPart 100 rfl) (by decide) hf (fun hf => ?_) (fun hf => ?_)
    · refine lv_aload_n hx hb (zdt zkX4_readPart 105 rfl) rfl (lv_at hl 0 rfl) ?_
      refine lv_dup hx hb (zdt zkX4_readPart 106 rfl) rfl ?_
      refine va_get (D := (dC, dI)) (ci := 4) (v := .int (Int32.ofInt i_parts)) (C := RX4) (T := TX4) (N := 7) hx hb hz zi_X4 hown hK hP 0 rfl rfl 6 (by decide) (hz _ zw_256) (fun _ h9 => h9) rfl (zdt zkX4_readPart 107 rfl) ?_
      refine lv_iconst (v := Int32.ofInt 1) hx hb (zdt zkX4_readPart 110 rfl) rfl ?_
      refine xi_iadd hx hb (zdt zkX4_readPart 111 rfl) hf (fun v1 hf => ?_)
      refine va_put (D := (dC, dI)) (ci := 4) (v := .int (Int32.ofInt v1)) (ty := .int) (C := RX4) (T := TX4) (N := 7) hx hb hz zi_X4 tyX4 tyX4_ok nmX4 hown hK hP hD hS 0 rfl rfl 6 (by decide) (hz _ zw_256) (fun _ h9 => h9) rfl (by decide +kernel) rfl rfl (Nat.le_of_ble_eq_true rfl) (zdt zkX4_readPart 112 rfl) (fun H locs hP hD hS => ?_)
      refine xw_PD (wd_LawReader_readPart cA q0 q1 q2 q3 q4 i_tokens i_values i_ordered i_at v1 i_orders) hP hD (fun hP hD => ?_)
      refine lv_aload_n hx hb (zdt zkX4_readPart 115 rfl) rfl (lv_at hl 0 rfl) ?_
      refine lv_iload_n hx hb (zdt zkX4_readPart 116 rfl) rfl (lv_at hl 1 rfl) ?_
      refine xi_if_eq (tgt := 124) hx hb (zdt zkX4_readPart 117 rfl) (by decide) hf (fun hf => ?_) (fun hf => ?_)
      · refine lv_iconst (v := Int32.ofInt 2) hx hb (zdt zkX4_readPart 124 rfl) rfl ?_
        exact b_125  _ _ _ _ _ _ _ _ hf hP hD hS (lv_sub hl [0] rfl)
      · refine lv_iconst (v := Int32.ofInt 1) hx hb (zdt zkX4_readPart 120 rfl) rfl ?_
        refine lv_goto (tgt := 125) hx hb (zdt zkX4_readPart 121 rfl) (by decide) ?_
        exact b_125  _ _ _ _ _ _ _ _ hf hP hD hS (lv_sub hl [0] rfl)
    · refine lv_iconst (v := Int32.ofInt 0) hx hb (zdt zkX4_readPart 103 rfl) rfl ?_
      obtain rfl := Option.some.inj hf
      exact hret _ _ _ _ zz_b0 (zdt zkX4_readPart 104 rfl) hP hD hS
  have b_74 : ∀ (s0 : Int) (i_ordered : Int) (i_at : Int) (i_parts : Int) (i_orders : Nat → Int) (H : Heap) (locs : List Loc) (ls : Array Slot), f_LawReader_readPart_74 r_LawReader_readSum r_LawReader_readPart i_tokens i_values s0 i_ordered i_at i_parts i_orders = some out → va_P (dC, dI) vwCl (wd_LawReader_readPart cA q0 q1 q2 q3 q4 i_tokens i_values i_ordered i_at i_parts i_orders) H → va_D A (wd_LawReader_readPart cA q0 q1 q2 q3 q4 i_tokens i_values i_ordered i_at i_parts i_orders) → va_S A s.heap H locs → lv_has ls 3 [(0, .ref q0)] → W p l e (rmr_LawReader_readSum (dp + 1)) s m args below meth c H locs 0 0 Q (F0 m 74 ls [.int (Int32.ofInt s0)]) := by
    intro s0 i_ordered i_at i_parts i_orders H locs ls hf hP hD hS hl
    unfold f_LawReader_readPart_74 at hf
    refine lv_istore_n (lv' := [(2, .int (Int32.ofInt s0)), (0, .ref q0)]) hx hb (zdt zkX4_readPart 74 rfl) rfl hl (by decide) rfl (fun ls hl => ?_)
    refine lv_iload_n hx hb (zdt zkX4_readPart 75 rfl) rfl (lv_at hl 0 rfl) ?_
    refine xi_if_ne (tgt := 94) hx hb (zdt zkX4_readPart 76 rfl) (by decide) hf (fun hf => ?_) (fun hf => ?_)
    · exact b_94  _ _ _ _ _ _ _ _ hf hP hD hS (lv_sub hl [1, 0] rfl)
    · refine lv_aload_n hx hb (zdt zkX4_readPart 79 rfl) rfl (lv_at hl 1 rfl) ?_
      refine va_get (D := (dC, dI)) (ci := 4) (v := .ref q2) (C := RX4) (T := TX4) (N := 7) hx hb hz zi_X4 hown hK hP 0 rfl rfl 2 (by decide) (hz _ zw_252) (fun _ h9 => h9) rfl (zdt zkX4_readPart 80 rfl) ?_
      refine lv_aload_n hx hb (zdt zkX4_readPart 83 rfl) rfl (lv_at hl 1 rfl) ?_
      refine va_get (D := (dC, dI)) (ci := 4) (v := .int (Int32.ofInt i_at)) (C := RX4) (T := TX4) (N := 7) hx hb hz zi_X4 hown hK hP 0 rfl rfl 5 (by decide) (hz _ zw_255) (fun _ h9 => h9) rfl (zdt zkX4_readPart 84 rfl) ?_
      refine xi_iald hx hb hK hP 2 0 rfl rfl (zdt zkX4_readPart 87 rfl) hf (fun v1 hf => ?_)
      refine lv_sipush (v := Int32.ofInt 259) hx hb (zdt zkX4_readPart 88 rfl) (by decide) ?_
      refine xi_icmp_ne (tgt := 103) hx hb (zdt zkX4_readPart 91 rfl) (by decide) hf (fun hf => ?_) (fun hf => ?_)
      · refine lv_iconst (v := Int32.ofInt 0) hx hb (zdt zkX4_readPart 103 rfl) rfl ?_
        obtain rfl := Option.some.inj hf
        exact hret _ _ _ _ zz_b0 (zdt zkX4_readPart 104 rfl) hP hD hS
      · exact b_94  _ _ _ _ _ _ _ _ hf hP hD hS (lv_sub hl [1, 0] rfl)
  unfold fb_LawReader_readPart at hf
  refine lv_aload_n hx hb (zdt zkX4_readPart 0 rfl) rfl (lv_at hl 0 rfl) ?_
  refine va_get (D := (dC, dI)) (ci := 4) (v := .ref q2) (C := RX4) (T := TX4) (N := 7) hx hb hz zi_X4 hown hK hP 0 rfl rfl 2 (by decide) (hz _ zw_252) (fun _ h9 => h9) rfl (zdt zkX4_readPart 1 rfl) ?_
  refine lv_aload_n hx hb (zdt zkX4_readPart 4 rfl) rfl (lv_at hl 0 rfl) ?_
  refine va_get (D := (dC, dI)) (ci := 4) (v := .int (Int32.ofInt i_at)) (C := RX4) (T := TX4) (N := 7) hx hb hz zi_X4 hown hK hP 0 rfl rfl 5 (by decide) (hz _ zw_255) (fun _ h9 => h9) rfl (zdt zkX4_readPart 5 rfl) ?_
  refine xi_iald hx hb hK hP 2 0 rfl rfl (zdt zkX4_readPart 8 rfl) hf (fun v1 hf => ?_)
  refine lv_bipush (v := Int32.ofInt 91) hx hb (zdt zkX4_readPart 9 rfl) (by decide) ?_
  refine xi_icmp_ne (tgt := 54) hx hb (zdt zkX4_readPart 11 rfl) (by decide) hf (fun hf => ?_) (fun hf => ?_)
  · refine lv_aload_n hx hb (zdt zkX4_readPart 54 rfl) rfl (lv_at hl 0 rfl) ?_
    refine va_get (D := (dC, dI)) (ci := 4) (v := .ref q2) (C := RX4) (T := TX4) (N := 7) hx hb hz zi_X4 hown hK hP 0 rfl rfl 2 (by decide) (hz _ zw_252) (fun _ h9 => h9) rfl (zdt zkX4_readPart 55 rfl) ?_
    refine lv_aload_n hx hb (zdt zkX4_readPart 58 rfl) rfl (lv_at hl 0 rfl) ?_
    refine va_get (D := (dC, dI)) (ci := 4) (v := .int (Int32.ofInt i_at)) (C := RX4) (T := TX4) (N := 7) hx hb hz zi_X4 hown hK hP 0 rfl rfl 5 (by decide) (hz _ zw_255) (fun _ h9 => h9) rfl (zdt zkX4_readPart 59 rfl) ?_
    refine xi_iald hx hb hK hP 2 0 rfl rfl (zdt zkX4_readPart 62 rfl) hf (fun v2 hf => ?_)
    refine lv_sipush (v := Int32.ofInt 258) hx hb (zdt zkX4_readPart 63 rfl) (by decide) ?_
    refine xi_icmp_ne (tgt := 73) hx hb (zdt zkX4_readPart 66 rfl) (by decide) hf (fun hf => ?_) (fun hf => ?_)
    · refine lv_iconst (v := Int32.ofInt 0) hx hb (zdt zkX4_readPart 73 rfl) rfl ?_
      exact b_74  _ _ _ _ _ _ _ _ hf hP hD hS (lv_sub hl [0] rfl)
    · refine lv_iconst (v := Int32.ofInt 1) hx hb (zdt zkX4_readPart 69 rfl) rfl ?_
      refine lv_goto (tgt := 74) hx hb (zdt zkX4_readPart 70 rfl) (by decide) ?_
      exact b_74  _ _ _ _ _ _ _ _ hf hP hD hS (lv_sub hl [0] rfl)
  · refine lv_iload_n hx hb (zdt zkX4_readPart 14 rfl) rfl (lv_at hl 1 rfl) ?_
    refine lv_bipush (v := Int32.ofInt 8) hx hb (zdt zkX4_readPart 15 rfl) (by decide) ?_
    refine xi_icmp_ge (tgt := 52) hx hb (zdt zkX4_readPart 17 rfl) (by decide) hf (fun hf => ?_) (fun hf => ?_)
    · refine lv_iconst (v := Int32.ofInt 0) hx hb (zdt zkX4_readPart 52 rfl) rfl ?_
      obtain rfl := Option.some.inj hf
      exact hret _ _ _ _ zz_b0 (zdt zkX4_readPart 53 rfl) hP hD hS
    · refine lv_aload_n hx hb (zdt zkX4_readPart 20 rfl) rfl (lv_at hl 0 rfl) ?_
      refine lv_bipush (v := Int32.ofInt 91) hx hb (zdt zkX4_readPart 21 rfl) (by decide) ?_
      refine xe_d2 hf (fun v3 v4 hg hf => ?_)
      have hC : ([0, 2] : List Nat).map (fun i => (wd_LawReader_readPart cA q0 q1 q2 q3 q4 i_tokens i_values i_ordered i_at i_parts i_orders)[i]?) = (wd_LawReader_pass cA q0 q1 q2 q3 q4 i_ordered i_parts i_tokens i_at).map some := rfl
      refine xv_afterI (ws' := (wd_LawReader_readPart cA q0 q1 q2 q3 q4 i_tokens i_values i_ordered v4 i_parts i_orders)) (isC := [0, 2]) (ps := [some 0, none, some 1, none]) (va_runV (As := [.int (Int32.ofInt 91)]) (rest := []) ⟨hx, hb, hml, hown, hts⟩ (c_LawReader_pass l ev dC dI cA q0 q1 q2 q3 q4 i_ordered i_parts hg H.size) (cwV 1 hts (zgV zw_752 zw_754 zw_7 zw_107 zw_755) rfl rfl rfl hd_LawReader_pass ⟨(by show 0 + 1 ≤ 1 + (dp + 1); omega), (by show 8 + (2 + 11) + (0) ≤ 22 + 24 * (dp + 1); omega)⟩) (xv_preV (T := TX4) (N := 7) hE hA hS hK hP hD (isC := [0, 2]) (by decide +kernel) hC (q0 := 0) (ci := 4) rfl rfl) rfl rfl hl.1 rfl (lv_room (Nat.le_of_ble_eq_true rfl)) (zdt zkX4_readPart 23 rfl) ⟨Nat.le_refl _, Nat.le_refl _⟩) hP hD hS hA (by decide +kernel) rfl hC rfl rfl (fun H locs hP hD hS => ?_)
      refine xi_if_eq (tgt := 52) hx hb (zdt zkX4_readPart 26 rfl) (by decide) hf (fun hf => ?_) (fun hf => ?_)
      · refine lv_iconst (v := Int32.ofInt 0) hx hb (zdt zkX4_readPart 52 rfl) rfl ?_
        obtain rfl := Option.some.inj hf
        exact hret _ _ _ _ zz_b0 (zdt zkX4_readPart 53 rfl) hP hD hS
      · refine lv_aload_n hx hb (zdt zkX4_readPart 29 rfl) rfl (lv_at hl 0 rfl) ?_
        refine lv_iload_n hx hb (zdt zkX4_readPart 30 rfl) rfl (lv_at hl 1 rfl) ?_
        refine lv_iconst (v := Int32.ofInt 1) hx hb (zdt zkX4_readPart 31 rfl) rfl ?_
        refine xi_iadd hx hb (zdt zkX4_readPart 32 rfl) hf (fun v5 hf => ?_)
        refine xe_d5 hf (fun v6 v7 v8 v9 a10 hg hf => ?_)
        have hC : ([0, 1, 2, 3] : List Nat).map (fun i => (wd_LawReader_readPart cA q0 q1 q2 q3 q4 i_tokens i_values i_ordered v4 i_parts i_orders)[i]?) = (wd_LawReader_readSum cA q0 q1 q2 q3 q4 i_tokens i_values i_ordered v4 i_parts i_orders).map some := rfl
        refine xv_afterI (ws' := (wd_LawReader_readPart cA q0 q1 q2 q3 q4 i_tokens i_values v7 v8 v9 a10)) (isC := [0, 1, 2, 3]) (ps := [some 0, some 1, some 2, some 3]) (va_runV (As := [.int (Int32.ofInt v5)]) (rest := []) ⟨hx, hb, hml, hown, hts⟩ (h_LawReader_readSum q0 q1 q2 q3 q4 _ _ _ _ _ _ _ _ hg H.size) (cwV 1 hts (zgV zw_756 zw_758 zw_8 zw_107 zw_759) rfl rfl rfl hd_LawReader_readSum ⟨(by show 1 + dp + 1 ≤ 1 + (dp + 1); omega), (by show 8 + (5 + 11) + (22 + 24 * dp) ≤ 22 + 24 * (dp + 1); omega)⟩) (xv_preV (T := TX4) (N := 7) hE hA hS hK hP hD (isC := [0, 1, 2, 3]) (by decide +kernel) hC (q0 := 0) (ci := 4) rfl rfl) rfl rfl hl.1 rfl (lv_room (Nat.le_of_ble_eq_true rfl)) (zdt zkX4_readPart 33 rfl) ⟨Nat.le_refl _, Nat.le_refl _⟩) hP hD hS hA (by decide +kernel) rfl hC rfl rfl (fun H locs hP hD hS => ?_)
        refine xi_if_eq (tgt := 52) hx hb (zdt zkX4_readPart 36 rfl) (by decide) hf (fun hf => ?_) (fun hf => ?_)
        · refine lv_iconst (v := Int32.ofInt 0) hx hb (zdt zkX4_readPart 52 rfl) rfl ?_
          obtain rfl := Option.some.inj hf
          exact hret _ _ _ _ zz_b0 (zdt zkX4_readPart 53 rfl) hP hD hS
        · refine lv_aload_n hx hb (zdt zkX4_readPart 39 rfl) rfl (lv_at hl 0 rfl) ?_
          refine lv_bipush (v := Int32.ofInt 93) hx hb (zdt zkX4_readPart 40 rfl) (by decide) ?_
          refine xe_d2 hf (fun v11 v12 hg hf => ?_)
          have hC : ([0, 2] : List Nat).map (fun i => (wd_LawReader_readPart cA q0 q1 q2 q3 q4 i_tokens i_values v7 v8 v9 a10)[i]?) = (wd_LawReader_pass cA q0 q1 q2 q3 q4 v7 v9 i_tokens v8).map some := rfl
          refine xv_afterI (ws' := (wd_LawReader_readPart cA q0 q1 q2 q3 q4 i_tokens i_values v7 v12 v9 a10)) (isC := [0, 2]) (ps := [some 0, none, some 1, none]) (va_runV (As := [.int (Int32.ofInt 93)]) (rest := []) ⟨hx, hb, hml, hown, hts⟩ (c_LawReader_pass l ev dC dI cA q0 q1 q2 q3 q4 v7 v9 hg H.size) (cwV 1 hts (zgV zw_752 zw_754 zw_7 zw_107 zw_755) rfl rfl rfl hd_LawReader_pass ⟨(by show 0 + 1 ≤ 1 + (dp + 1); omega), (by show 8 + (2 + 11) + (0) ≤ 22 + 24 * (dp + 1); omega)⟩) (xv_preV (T := TX4) (N := 7) hE hA hS hK hP hD (isC := [0, 2]) (by decide +kernel) hC (q0 := 0) (ci := 4) rfl rfl) rfl rfl hl.1 rfl (lv_room (Nat.le_of_ble_eq_true rfl)) (zdt zkX4_readPart 42 rfl) ⟨Nat.le_refl _, Nat.le_refl _⟩) hP hD hS hA (by decide +kernel) rfl hC rfl rfl (fun H locs hP hD hS => ?_)
          refine xi_if_eq (tgt := 52) hx hb (zdt zkX4_readPart 45 rfl) (by decide) hf (fun hf => ?_) (fun hf => ?_)
          · refine lv_iconst (v := Int32.ofInt 0) hx hb (zdt zkX4_readPart 52 rfl) rfl ?_
            obtain rfl := Option.some.inj hf
            exact hret _ _ _ _ zz_b0 (zdt zkX4_readPart 53 rfl) hP hD hS
          · refine lv_iconst (v := Int32.ofInt 1) hx hb (zdt zkX4_readPart 48 rfl) rfl ?_
            refine lv_goto (tgt := 53) hx hb (zdt zkX4_readPart 49 rfl) (by decide) ?_
            obtain rfl := Option.some.inj hf
            exact hret _ _ _ _ zz_b1 (zdt zkX4_readPart 53 rfl) hP hD hS
theorem cg_LawReader_readSum (l : Launch) (ev : zEv) (dC : Nat → ClassId) (dI : Nat → Nat → Nat) (cA : Nat → ClassId) : ∀ n : Nat, (∀ (q0 q1 q2 q3 q4 : Nat) (x1 : Int) (i_tokens : Nat → Int) (i_values : Nat → Int) (i_ordered : Int) (i_at : Int) (i_parts : Int) (i_orders : Nat → Int) (out : Int × Int × Int × Int × (Nat → Int)), (g_LawReader_readSum n).1 x1 i_tokens i_values i_ordered i_at i_parts i_orders = some out → xc_I l ev (dC, dI) vwCl (tyl cA) yX4_readSum w_LawReader_readSum (rmr_LawReader_readSum n) [.ref q0, .int (Int32.ofInt x1)] (wd_LawReader_readSum cA q0 q1 q2 q3 q4 i_tokens i_values i_ordered i_at i_parts i_orders) (wf_LawReader_readSum cA q0 q1 q2 q3 q4 i_tokens i_values out) out.1) ∧ (∀ (q0 q1 q2 q3 q4 : Nat) (x1 : Int) (i_tokens : Nat → Int) (i_values : Nat → Int) (i_ordered : Int) (i_at : Int) (i_parts : Int) (i_orders : Nat → Int) (out : Int × Int × Int × Int × (Nat → Int)), (g_LawReader_readSum n).2 x1 i_tokens i_values i_ordered i_at i_parts i_orders = some out → xc_I l ev (dC, dI) vwCl (tyl cA) yX4_readPart w_LawReader_readPart (rmr_LawReader_readSum n) [.ref q0, .int (Int32.ofInt x1)] (wd_LawReader_readPart cA q0 q1 q2 q3 q4 i_tokens i_values i_ordered i_at i_parts i_orders) (wf_LawReader_readPart cA q0 q1 q2 q3 q4 i_tokens i_values out) out.1) := by
  intro n
  induction n with
  | zero => exact ⟨fun _ _ _ _ _ _ _ _ _ _ _ _ _ hf => (nomatch hf), fun _ _ _ _ _ _ _ _ _ _ _ _ _ hf => (nomatch hf)⟩
  | succ n ih => exact ⟨cb_LawReader_readSum l ev dC dI cA n _ _ ih.1 ih.2, cb_LawReader_readPart l ev dC dI cA n _ _ ih.1 ih.2⟩
theorem c_LawReader_readSum (l : Launch) (ev : zEv) (dC : Nat → ClassId) (dI : Nat → Nat → Nat) (cA : Nat → ClassId) (q0 q1 q2 q3 q4 : Nat) {x1 : Int} {i_tokens : Nat → Int} {i_values : Nat → Int} {i_ordered : Int} {i_at : Int} {i_parts : Int} {i_orders : Nat → Int} {out : Int × Int × Int × Int × (Nat → Int)} (hf : f_LawReader_readSum x1 i_tokens i_values i_ordered i_at i_parts i_orders = some out) : xc_I l ev (dC, dI) vwCl (tyl cA) yX4_readSum w_LawReader_readSum rm_LawReader_readSum [.ref q0, .int (Int32.ofInt x1)] (wd_LawReader_readSum cA q0 q1 q2 q3 q4 i_tokens i_values i_ordered i_at i_parts i_orders) (wf_LawReader_readSum cA q0 q1 q2 q3 q4 i_tokens i_values out) out.1 :=
  (cg_LawReader_readSum l ev dC dI cA zdp).1 q0 q1 q2 q3 q4 x1 i_tokens i_values i_ordered i_at i_parts i_orders out hf
theorem c_LawReader_readPart (l : Launch) (ev : zEv) (dC : Nat → ClassId) (dI : Nat → Nat → Nat) (cA : Nat → ClassId) (q0 q1 q2 q3 q4 : Nat) {x1 : Int} {i_tokens : Nat → Int} {i_values : Nat → Int} {i_ordered : Int} {i_at : Int} {i_parts : Int} {i_orders : Nat → Int} {out : Int × Int × Int × Int × (Nat → Int)} (hf : f_LawReader_readPart x1 i_tokens i_values i_ordered i_at i_parts i_orders = some out) : xc_I l ev (dC, dI) vwCl (tyl cA) yX4_readPart w_LawReader_readPart rm_LawReader_readPart [.ref q0, .int (Int32.ofInt x1)] (wd_LawReader_readPart cA q0 q1 q2 q3 q4 i_tokens i_values i_ordered i_at i_parts i_orders) (wf_LawReader_readPart cA q0 q1 q2 q3 q4 i_tokens i_values out) out.1 :=
  (cg_LawReader_readSum l ev dC dI cA zdp).2 q0 q1 q2 q3 q4 x1 i_tokens i_values i_ordered i_at i_parts i_orders out hf
set_option maxRecDepth 100000 in
noncomputable def ztX4_aimHere (p : Nat) : Option (Jvm.ClassFile.Instr × Nat) := bif Nat.ble 21 p then (bif Nat.ble 28 p then (bif Nat.ble 32 p then (bif Nat.ble 33 p then (bif Nat.ble 34 p then (bif Nat.beq p 34 then some (.return_, 1) else none) else (bif Nat.beq p 33 then some (.iastore, 1) else none)) else (bif Nat.beq p 32 then some (.ior, 1) else none)) else (bif Nat.ble 29 p then (bif Nat.ble 31 p then (bif Nat.beq p 31 then some (.iand, 1) else none) else (bif Nat.beq p 29 then some (.bipush 15, 2) else none)) else (bif Nat.beq p 28 then some (.iaload, 1) else none))) else (bif Nat.ble 23 p then (bif Nat.ble 24 p then (bif Nat.ble 27 p then (bif Nat.beq p 27 then some (.iload_n 1, 1) else none) else (bif Nat.beq p 24 then some (.getfield 11, 3) else none)) else (bif Nat.beq p 23 then some (.aload_n 0, 1) else none)) else (bif Nat.ble 22 p then (bif Nat.beq p 22 then some (.ishl, 1) else none) else (bif Nat.beq p 21 then some (.iconst 4, 1) else none)))) else (bif Nat.ble 9 p then (bif Nat.ble 16 p then (bif Nat.ble 17 p then (bif Nat.ble 18 p then (bif Nat.beq p 18 then some (.getfield 15, 3) else none) else (bif Nat.beq p 17 then some (.aload_n 0, 1) else none)) else (bif Nat.beq p 16 then some (.iload_n 1, 1) else none)) else (bif Nat.ble 12 p then (bif Nat.ble 13 p then (bif Nat.beq p 13 then some (.getfield 11, 3) else none) else (bif Nat.beq p 12 then some (.aload_n 0, 1) else none)) else (bif Nat.beq p 9 then some (.if_icmp .ge 25, 3) else none))) else (bif Nat.ble 4 p then (bif Nat.ble 5 p then (bif Nat.ble 6 p then (bif Nat.beq p 6 then some (.getfield 15, 3) else none) else (bif Nat.beq p 5 then some (.aload_n 0, 1) else none)) else (bif Nat.beq p 4 then some (.iload_n 1, 1) else none)) else (bif Nat.ble 1 p then (bif Nat.beq p 1 then some (.ifCond .lt 33, 3) else none) else (bif Nat.beq p 0 then some (.iload_n 1, 1) else none))))
set_option maxRecDepth 100000 in
theorem zkX4_aimHere : (zbig cX4_aimHere.data.toList = 1345530071383636648059963907137541680615668555273585776719949880777333199531451390747 ∧ cX4_aimHere.data.toList.length = 35) ∧ zdk cX4_aimHere 1345530071383636648059963907137541680615668555273585776719949880777333199531451390747 35 ztX4_aimHere 34 = true := by decide +kernel
theorem zw_778 : (Jvm.Cond.code ({ cls := "HillSchool$LawReader", name := "aimHere", desc := "(I)V" } : Jvm.MethodName) prog_6_method_11_code (2 : Nat) (Option.none : Option Jvm.ClassFile.FieldType)) ∈ zall := zmemG (zmj_3 195 rfl) rfl
noncomputable abbrev w_LawReader_aimHere : List Cond := .code yX4_aimHere cX4_aimHere 2 none :: zall
noncomputable abbrev rm_LawReader_aimHere : Room := { frames := 0, cells := 0, slots := 0, locals := 0 }
theorem hd_LawReader_aimHere : yX4_aimHere.cls = "HillSchool$LawReader" ∧ yX4_aimHere.cls ≠ "java/lang/invoke/MethodHandle" ∧ yX4_aimHere.cls ≠ "java/lang/invoke/VarHandle" ∧ (parseMethodDescriptor yX4_aimHere.desc).map (fun d => d.parameters.length) = some 1 := by decide +kernel
noncomputable def wd_LawReader_aimHere (cA : Nat → ClassId) (q0 q1 q2 q3 q4 : Nat) (u0 u1 : Int) (i_ordered : Int) (i_orders : Nat → Int) : va_W := [(q0, .inr (4, [.ref q1, .int (Int32.ofInt i_ordered), .ref q2, .ref q3, .ref q4, .int (Int32.ofInt u0), .int (Int32.ofInt u1)])), (q1, .inl (cA 0, 424, .inl (za i_orders)))]
noncomputable def wf_LawReader_aimHere (cA : Nat → ClassId) (q0 q1 q2 q3 q4 : Nat) (u0 u1 : Int) (i_ordered : Int) (o : (Nat → Int)) : va_W := wd_LawReader_aimHere cA q0 q1 q2 q3 q4 u0 u1 i_ordered o
noncomputable def f_LawReader_aimHere (x1 : Int) (i_ordered : Int) (i_orders : Nat → Int) : Option ((Nat → Int)) :=
  if zi_w x1 < 0 then
    some i_orders
  else
    if zi_w i_ordered ≤ zi_w x1 then
      some i_orders
    else
      zn (zi_shl i_ordered 4) fun v1 =>
      zg 424 i_orders x1 fun v2 =>
      zn (zi_and v2 15) fun v3 =>
      zn (zi_or v1 v3) fun v4 =>
      zs 424 i_orders x1 v4 fun a5 =>
      some a5
set_option maxHeartbeats 4000000 in
set_option maxRecDepth 100000 in
theorem c_LawReader_aimHere (l : Launch) (ev : zEv) (dC : Nat → ClassId) (dI : Nat → Nat → Nat) (cA : Nat → ClassId) (q0 q1 q2 q3 q4 : Nat) (u0 u1 : Int) {x1 : Int} {i_ordered : Int} {i_orders : Nat → Int} {out : (Nat → Int)} (hf : f_LawReader_aimHere x1 i_ordered i_orders = some out) : xc_V l ev (dC, dI) vwCl (tyl cA) yX4_aimHere w_LawReader_aimHere rm_LawReader_aimHere [.ref q0, .int (Int32.ofInt x1)] (wd_LawReader_aimHere cA q0 q1 q2 q3 q4 u0 u1 i_ordered i_orders) (wf_LawReader_aimHere cA q0 q1 q2 q3 q4 u0 u1 i_ordered out) := by
  refine xv_startV (cc := cX4_aimHere) (maxL := 2) (by decide +kernel) rfl (Nat.le_of_ble_eq_true rfl) ?_
  intro p e s m args below meth c A Q H ls hx hb hml hts hown hK hA hP hD hS hl hE hret
  have hown : s.vm.findClass "HillSchool$LawReader" = some m.cls := hown
  have hz : ∀ w ∈ zall, w.before args s = true := fun w h => hts w (List.mem_cons_of_mem _ h)
  have hl : lv_has ls 2 [(0, .ref q0), (1, .int (Int32.ofInt x1))] := hl
  unfold f_LawReader_aimHere at hf
  refine lv_iload_n hx hb (zdt zkX4_aimHere 0 rfl) rfl (lv_at hl 1 rfl) ?_
  refine xi_if_lt (tgt := 34) hx hb (zdt zkX4_aimHere 1 rfl) (by decide) hf (fun hf => ?_) (fun hf => ?_)
  · obtain rfl := Option.some.inj hf
    exact hret _ _ _ _ (zdt zkX4_aimHere 34 rfl) hP hD hS
  · refine lv_iload_n hx hb (zdt zkX4_aimHere 4 rfl) rfl (lv_at hl 1 rfl) ?_
    refine lv_aload_n hx hb (zdt zkX4_aimHere 5 rfl) rfl (lv_at hl 0 rfl) ?_
    refine va_get (D := (dC, dI)) (ci := 4) (v := .int (Int32.ofInt i_ordered)) (C := RX4) (T := TX4) (N := 7) hx hb hz zi_X4 hown hK hP 0 rfl rfl 1 (by decide) (hz _ zw_250) (fun _ h9 => h9) rfl (zdt zkX4_aimHere 6 rfl) ?_
    refine xi_icmp_ge (tgt := 34) hx hb (zdt zkX4_aimHere 9 rfl) (by decide) hf (fun hf => ?_) (fun hf => ?_)
    · obtain rfl := Option.some.inj hf
      exact hret _ _ _ _ (zdt zkX4_aimHere 34 rfl) hP hD hS
    · refine lv_aload_n hx hb (zdt zkX4_aimHere 12 rfl) rfl (lv_at hl 0 rfl) ?_
      refine va_get (D := (dC, dI)) (ci := 4) (v := .ref q1) (C := RX4) (T := TX4) (N := 7) hx hb hz zi_X4 hown hK hP 0 rfl rfl 0 (by decide) (hz _ zw_248) (fun _ h9 => h9) rfl (zdt zkX4_aimHere 13 rfl) ?_
      refine lv_iload_n hx hb (zdt zkX4_aimHere 16 rfl) rfl (lv_at hl 1 rfl) ?_
      refine lv_aload_n hx hb (zdt zkX4_aimHere 17 rfl) rfl (lv_at hl 0 rfl) ?_
      refine va_get (D := (dC, dI)) (ci := 4) (v := .int (Int32.ofInt i_ordered)) (C := RX4) (T := TX4) (N := 7) hx hb hz zi_X4 hown hK hP 0 rfl rfl 1 (by decide) (hz _ zw_250) (fun _ h9 => h9) rfl (zdt zkX4_aimHere 18 rfl) ?_
      refine lv_iconst (v := Int32.ofInt 4) hx hb (zdt zkX4_aimHere 21 rfl) rfl ?_
      refine xi_ishl hx hb (zdt zkX4_aimHere 22 rfl) hf (fun v1 hf => ?_)
      refine lv_aload_n hx hb (zdt zkX4_aimHere 23 rfl) rfl (lv_at hl 0 rfl) ?_
      refine va_get (D := (dC, dI)) (ci := 4) (v := .ref q1) (C := RX4) (T := TX4) (N := 7) hx hb hz zi_X4 hown hK hP 0 rfl rfl 0 (by decide) (hz _ zw_248) (fun _ h9 => h9) rfl (zdt zkX4_aimHere 24 rfl) ?_
      refine lv_iload_n hx hb (zdt zkX4_aimHere 27 rfl) rfl (lv_at hl 1 rfl) ?_
      refine xi_iald hx hb hK hP 1 0 rfl rfl (zdt zkX4_aimHere 28 rfl) hf (fun v2 hf => ?_)
      refine lv_bipush (v := Int32.ofInt 15) hx hb (zdt zkX4_aimHere 29 rfl) (by decide) ?_
      refine xi_iand hx hb (zdt zkX4_aimHere 31 rfl) hf (fun v3 hf => ?_)
      refine xi_ior hx hb (zdt zkX4_aimHere 32 rfl) hf (fun v4 hf => ?_)
      refine xi_iast hx hb hK hP hD hS 1 0 rfl rfl (zdt zkX4_aimHere 33 rfl) hf (fun a5 H locs hP hD hS hf => ?_)
      refine xw_PD (wd_LawReader_aimHere cA q0 q1 q2 q3 q4 u0 u1 i_ordered a5) hP hD (fun hP hD => ?_)
      obtain rfl := Option.some.inj hf
      exact hret _ _ _ _ (zdt zkX4_aimHere 34 rfl) hP hD hS
end
section
set_option maxRecDepth 100000 in
noncomputable def ztX4_readTest (p : Nat) : Option (Jvm.ClassFile.Instr × Nat) := bif Nat.ble 41 p then (bif Nat.ble 63 p then (bif Nat.ble 72 p then (bif Nat.ble 79 p then (bif Nat.ble 82 p then (bif Nat.ble 83 p then (bif Nat.beq p 83 then some (.ireturn, 1) else none) else (bif Nat.beq p 82 then some (.iconst 0, 1) else none)) else (bif Nat.beq p 79 then some (.goto (-72), 3) else none)) else (bif Nat.ble 75 p then (bif Nat.ble 76 p then (bif Nat.beq p 76 then some (.iinc 4 1, 3) else none) else (bif Nat.beq p 75 then some (.istore_n 3, 1) else none)) else (bif Nat.beq p 72 then some (.invokevirtual 55, 3) else none))) else (bif Nat.ble 68 p then (bif Nat.ble 69 p then (bif Nat.ble 71 p then (bif Nat.beq p 71 then some (.iconst 0, 1) else none) else (bif Nat.beq p 69 then some (.bipush 12, 2) else none)) else (bif Nat.beq p 68 then some (.aload_n 0, 1) else none)) else (bif Nat.ble 66 p then (bif Nat.ble 67 p then (bif Nat.beq p 67 then some (.ireturn, 1) else none) else (bif Nat.beq p 66 then some (.iconst 1, 1) else none)) else (bif Nat.beq p 63 then some (.ifCond .ne 5, 3) else none)))) else (bif Nat.ble 51 p then (bif Nat.ble 56 p then (bif Nat.ble 57 p then (bif Nat.ble 60 p then (bif Nat.beq p 60 then some (.invokevirtual 51, 3) else none) else (bif Nat.beq p 57 then some (.sipush 263, 3) else none)) else (bif Nat.beq p 56 then some (.aload_n 0, 1) else none)) else (bif Nat.ble 52 p then (bif Nat.ble 53 p then (bif Nat.beq p 53 then some (.invokevirtual 64, 3) else none) else (bif Nat.beq p 52 then some (.iload_n 3, 1) else none)) else (bif Nat.beq p 51 then some (.aload_n 0, 1) else none))) else (bif Nat.ble 44 p then (bif Nat.ble 47 p then (bif Nat.ble 48 p then (bif Nat.beq p 48 then some (.goto 28, 3) else none) else (bif Nat.beq p 47 then some (.istore_n 2, 1) else none)) else (bif Nat.beq p 44 then some (.invokevirtual 55, 3) else none)) else (bif Nat.ble 43 p then (bif Nat.beq p 43 then some (.iconst 0, 1) else none) else (bif Nat.beq p 41 then some (.bipush 11, 2) else none))))) else (bif Nat.ble 17 p then (bif Nat.ble 29 p then (bif Nat.ble 34 p then (bif Nat.ble 37 p then (bif Nat.ble 40 p then (bif Nat.beq p 40 then some (.aload_n 0, 1) else none) else (bif Nat.beq p 37 then some (.ifCond .eq 14, 3) else none)) else (bif Nat.beq p 34 then some (.invokevirtual 51, 3) else none)) else (bif Nat.ble 30 p then (bif Nat.ble 31 p then (bif Nat.beq p 31 then some (.sipush 264, 3) else none) else (bif Nat.beq p 30 then some (.aload_n 0, 1) else none)) else (bif Nat.beq p 29 then some (.istore_n 2, 1) else none))) else (bif Nat.ble 24 p then (bif Nat.ble 25 p then (bif Nat.ble 28 p then (bif Nat.beq p 28 then some (.iconst (-1), 1) else none) else (bif Nat.beq p 25 then some (.invokevirtual 64, 3) else none)) else (bif Nat.beq p 24 then some (.iload_n 2, 1) else none)) else (bif Nat.ble 20 p then (bif Nat.ble 23 p then (bif Nat.beq p 23 then some (.aload_n 0, 1) else none) else (bif Nat.beq p 20 then some (.ifCond .eq 62, 3) else none)) else (bif Nat.beq p 17 then some (.invokevirtual 68, 3) else none)))) else (bif Nat.ble 5 p then (bif Nat.ble 12 p then (bif Nat.ble 15 p then (bif Nat.ble 16 p then (bif Nat.beq p 16 then some (.iload_n 1, 1) else none) else (bif Nat.beq p 15 then some (.aload_n 0, 1) else none)) else (bif Nat.beq p 12 then some (.if_icmp .ge 70, 3) else none)) else (bif Nat.ble 7 p then (bif Nat.ble 9 p then (bif Nat.beq p 9 then some (.sipush 400, 3) else none) else (bif Nat.beq p 7 then some (.iload 4, 2) else none)) else (bif Nat.beq p 5 then some (.istore 4, 2) else none))) else (bif Nat.ble 2 p then (bif Nat.ble 3 p then (bif Nat.ble 4 p then (bif Nat.beq p 4 then some (.iconst 0, 1) else none) else (bif Nat.beq p 3 then some (.istore_n 3, 1) else none)) else (bif Nat.beq p 2 then some (.iconst (-1), 1) else none)) else (bif Nat.ble 1 p then (bif Nat.beq p 1 then some (.istore_n 2, 1) else none) else (bif Nat.beq p 0 then some (.iconst (-1), 1) else none)))))
set_option maxRecDepth 100000 in
theorem zkX4_readTest : (zbig cX4_readTest.data.toList = 13166861985318117700618428476076378058201597842338522157670137721225469893561439298799711489444005818449562782041012979787874412525951543060955990173211501321113765648700707352146281418356792549661883650 ∧ cX4_readTest.data.toList.length = 84) ∧ zdk cX4_readTest 13166861985318117700618428476076378058201597842338522157670137721225469893561439298799711489444005818449562782041012979787874412525951543060955990173211501321113765648700707352146281418356792549661883650 84 ztX4_readTest 83 = true := by decide +kernel
set_option maxRecDepth 100000 in
noncomputable def ztX4_readPlain (p : Nat) : Option (Jvm.ClassFile.Instr × Nat) := bif Nat.ble 86 p then (bif Nat.ble 124 p then (bif Nat.ble 143 p then (bif Nat.ble 153 p then (bif Nat.ble 159 p then (bif Nat.ble 160 p then (bif Nat.ble 161 p then (bif Nat.beq p 161 then some (.ireturn, 1) else none) else (bif Nat.beq p 160 then some (.iconst 1, 1) else none)) else (bif Nat.beq p 159 then some (.pop, 1) else none)) else (bif Nat.ble 155 p then (bif Nat.ble 156 p then (bif Nat.beq p 156 then some (.invokevirtual 55, 3) else none) else (bif Nat.beq p 155 then some (.iconst 0, 1) else none)) else (bif Nat.beq p 153 then some (.bipush 10, 2) else none))) else (bif Nat.ble 148 p then (bif Nat.ble 149 p then (bif Nat.ble 152 p then (bif Nat.beq p 152 then some (.aload_n 0, 1) else none) else (bif Nat.beq p 149 then some (.ifCond .eq 11, 3) else none)) else (bif Nat.beq p 148 then some (.iload_n 2, 1) else none)) else (bif Nat.ble 144 p then (bif Nat.ble 147 p then (bif Nat.beq p 147 then some (.pop, 1) else none) else (bif Nat.beq p 144 then some (.invokevirtual 55, 3) else none)) else (bif Nat.beq p 143 then some (.iconst 0, 1) else none)))) else (bif Nat.ble 133 p then (bif Nat.ble 140 p then (bif Nat.ble 141 p then (bif Nat.ble 142 p then (bif Nat.beq p 142 then some (.iload_n 3, 1) else none) else (bif Nat.beq p 141 then some (.aload_n 0, 1) else none)) else (bif Nat.beq p 140 then some (.ireturn, 1) else none)) else (bif Nat.ble 136 p then (bif Nat.ble 139 p then (bif Nat.beq p 139 then some (.iconst 0, 1) else none) else (bif Nat.beq p 136 then some (.ifCond .ne 5, 3) else none)) else (bif Nat.beq p 133 then some (.invokevirtual 58, 3) else none))) else (bif Nat.ble 128 p then (bif Nat.ble 131 p then (bif Nat.ble 132 p then (bif Nat.beq p 132 then some (.iload_n 1, 1) else none) else (bif Nat.beq p 131 then some (.aload_n 0, 1) else none)) else (bif Nat.beq p 128 then some (.ifCond .eq 11, 3) else none)) else (bif Nat.ble 125 p then (bif Nat.beq p 125 then some (.invokevirtual 51, 3) else none) else (bif Nat.beq p 124 then some (.iaload, 1) else none))))) else (bif Nat.ble 105 p then (bif Nat.ble 112 p then (bif Nat.ble 117 p then (bif Nat.ble 120 p then (bif Nat.ble 121 p then (bif Nat.beq p 121 then some (.getfield 28, 3) else none) else (bif Nat.beq p 120 then some (.aload_n 0, 1) else none)) else (bif Nat.beq p 117 then some (.getfield 19, 3) else none)) else (bif Nat.ble 115 p then (bif Nat.ble 116 p then (bif Nat.beq p 116 then some (.aload_n 0, 1) else none) else (bif Nat.beq p 115 then some (.aload_n 0, 1) else none)) else (bif Nat.beq p 112 then some (.if_icmp .eq 27, 3) else none))) else (bif Nat.ble 109 p then (bif Nat.ble 110 p then (bif Nat.ble 111 p then (bif Nat.beq p 111 then some (.iconst (-1), 1) else none) else (bif Nat.beq p 110 then some (.iload_n 3, 1) else none)) else (bif Nat.beq p 109 then some (.istore_n 3, 1) else none)) else (bif Nat.ble 106 p then (bif Nat.beq p 106 then some (.invokestatic 71, 3) else none) else (bif Nat.beq p 105 then some (.iaload, 1) else none)))) else (bif Nat.ble 95 p then (bif Nat.ble 98 p then (bif Nat.ble 101 p then (bif Nat.ble 102 p then (bif Nat.beq p 102 then some (.getfield 28, 3) else none) else (bif Nat.beq p 101 then some (.aload_n 0, 1) else none)) else (bif Nat.beq p 98 then some (.getfield 19, 3) else none)) else (bif Nat.ble 96 p then (bif Nat.ble 97 p then (bif Nat.beq p 97 then some (.aload_n 0, 1) else none) else (bif Nat.beq p 96 then some (.ireturn, 1) else none)) else (bif Nat.beq p 95 then some (.iconst 0, 1) else none))) else (bif Nat.ble 88 p then (bif Nat.ble 89 p then (bif Nat.ble 92 p then (bif Nat.beq p 92 then some (.ifCond .ne 5, 3) else none) else (bif Nat.beq p 89 then some (.invokevirtual 58, 3) else none)) else (bif Nat.beq p 88 then some (.iload_n 1, 1) else none)) else (bif Nat.ble 87 p then (bif Nat.beq p 87 then some (.aload_n 0, 1) else none) else (bif Nat.beq p 86 then some (.ireturn, 1) else none)))))) else (bif Nat.ble 42 p then (bif Nat.ble 66 p then (bif Nat.ble 73 p then (bif Nat.ble 79 p then (bif Nat.ble 82 p then (bif Nat.ble 85 p then (bif Nat.beq p 85 then some (.iconst 0, 1) else none) else (bif Nat.beq p 82 then some (.ifCond .ne 66, 3) else none)) else (bif Nat.beq p 79 then some (.invokevirtual 51, 3) else none)) else (bif Nat.ble 76 p then (bif Nat.ble 77 p then (bif Nat.beq p 77 then some (.bipush 41, 2) else none) else (bif Nat.beq p 76 then some (.aload_n 0, 1) else none)) else (bif Nat.beq p 73 then some (.ifCond .eq 12, 3) else none))) else (bif Nat.ble 68 p then (bif Nat.ble 69 p then (bif Nat.ble 70 p then (bif Nat.beq p 70 then some (.invokevirtual 61, 3) else none) else (bif Nat.beq p 69 then some (.iadd, 1) else none)) else (bif Nat.beq p 68 then some (.iconst 1, 1) else none)) else (bif Nat.ble 67 p then (bif Nat.beq p 67 then some (.iload_n 1, 1) else none) else (bif Nat.beq p 66 then some (.aload_n 0, 1) else none)))) else (bif Nat.ble 52 p then (bif Nat.ble 58 p then (bif Nat.ble 60 p then (bif Nat.ble 63 p then (bif Nat.beq p 63 then some (.ifCond .eq 22, 3) else none) else (bif Nat.beq p 60 then some (.invokevirtual 51, 3) else none)) else (bif Nat.beq p 58 then some (.bipush 40, 2) else none)) else (bif Nat.ble 54 p then (bif Nat.ble 57 p then (bif Nat.beq p 57 then some (.aload_n 0, 1) else none) else (bif Nat.beq p 54 then some (.if_icmp .ge 31, 3) else none)) else (bif Nat.beq p 52 then some (.bipush 8, 2) else none))) else (bif Nat.ble 46 p then (bif Nat.ble 48 p then (bif Nat.ble 51 p then (bif Nat.beq p 51 then some (.iload_n 1, 1) else none) else (bif Nat.beq p 48 then some (.if_icmp .ne 39, 3) else none)) else (bif Nat.beq p 46 then some (.bipush 40, 2) else none)) else (bif Nat.ble 45 p then (bif Nat.beq p 45 then some (.iaload, 1) else none) else (bif Nat.beq p 42 then some (.getfield 28, 3) else none))))) else (bif Nat.ble 21 p then (bif Nat.ble 30 p then (bif Nat.ble 37 p then (bif Nat.ble 38 p then (bif Nat.ble 41 p then (bif Nat.beq p 41 then some (.aload_n 0, 1) else none) else (bif Nat.beq p 38 then some (.getfield 19, 3) else none)) else (bif Nat.beq p 37 then some (.aload_n 0, 1) else none)) else (bif Nat.ble 31 p then (bif Nat.ble 34 p then (bif Nat.beq p 34 then some (.goto (-30), 3) else none) else (bif Nat.beq p 31 then some (.iinc 3 1, 3) else none)) else (bif Nat.beq p 30 then some (.istore_n 2, 1) else none))) else (bif Nat.ble 25 p then (bif Nat.ble 26 p then (bif Nat.ble 29 p then (bif Nat.beq p 29 then some (.iconst 0, 1) else none) else (bif Nat.beq p 26 then some (.goto 4, 3) else none)) else (bif Nat.beq p 25 then some (.iconst 1, 1) else none)) else (bif Nat.ble 22 p then (bif Nat.beq p 22 then some (.ifCond .ne 7, 3) else none) else (bif Nat.beq p 21 then some (.iload_n 2, 1) else none)))) else (bif Nat.ble 5 p then (bif Nat.ble 12 p then (bif Nat.ble 15 p then (bif Nat.ble 18 p then (bif Nat.beq p 18 then some (.ifCond .eq 19, 3) else none) else (bif Nat.beq p 15 then some (.invokevirtual 51, 3) else none)) else (bif Nat.beq p 12 then some (.sipush 265, 3) else none)) else (bif Nat.ble 8 p then (bif Nat.ble 11 p then (bif Nat.beq p 11 then some (.aload_n 0, 1) else none) else (bif Nat.beq p 8 then some (.if_icmp .ge 29, 3) else none)) else (bif Nat.beq p 5 then some (.sipush 400, 3) else none))) else (bif Nat.ble 2 p then (bif Nat.ble 3 p then (bif Nat.ble 4 p then (bif Nat.beq p 4 then some (.iload_n 3, 1) else none) else (bif Nat.beq p 3 then some (.istore_n 3, 1) else none)) else (bif Nat.beq p 2 then some (.iconst 0, 1) else none)) else (bif Nat.ble 1 p then (bif Nat.beq p 1 then some (.istore_n 2, 1) else none) else (bif Nat.beq p 0 then some (.iconst 0, 1) else none))))))
set_option maxRecDepth 100000 in
theorem zkX4_readPlain : (zbig cX4_readPlain.data.toList = 916654495860147263253490528042500861471457717746606351162031569862971306818035960206009783639552032107427923435411708884599235621753828038109722595119407256487420602771037738486113513942961781234057699971593411671394604960997035056528452806531604195701685474867611069432051884916814117753781409624981489641744455036692586246668551290181021482904033865006173429930363336580986006828157713667 ∧ cX4_readPlain.data.toList.length = 162) ∧ zdk cX4_readPlain 916654495860147263253490528042500861471457717746606351162031569862971306818035960206009783639552032107427923435411708884599235621753828038109722595119407256487420602771037738486113513942961781234057699971593411671394604960997035056528452806531604195701685474867611069432051884916814117753781409624981489641744455036692586246668551290181021482904033865006173429930363336580986006828157713667 162 ztX4_readPlain 161 = true := by decide +kernel
theorem zw_10 : (Jvm.Cond.selects "HillSchool$LawReader" ({ cls := "HillSchool$LawReader", name := "readTest", desc := "(I)Z" } : Jvm.MethodName) ({ cls := "HillSchool$LawReader", name := "readTest", desc := "(I)Z" } : Jvm.MethodName)) ∈ zall := zmemG (zmj_0 10 rfl) rfl
theorem zw_11 : (Jvm.Cond.selects "HillSchool$LawReader" ({ cls := "HillSchool$LawReader", name := "readPlain", desc := "(I)Z" } : Jvm.MethodName) ({ cls := "HillSchool$LawReader", name := "readPlain", desc := "(I)Z" } : Jvm.MethodName)) ∈ zall := zmemG (zmj_0 11 rfl) rfl
theorem zw_12 : (Jvm.Cond.selects "HillSchool$LawReader" ({ cls := "HillSchool$LawReader", name := "aimHere", desc := "(I)V" } : Jvm.MethodName) ({ cls := "HillSchool$LawReader", name := "aimHere", desc := "(I)V" } : Jvm.MethodName)) ∈ zall := zmemG (zmj_0 12 rfl) rfl
theorem zw_764 : (Jvm.Cond.methodLink "HillSchool$LawReader" (61 : Nat) ({ cls := "HillSchool$LawReader", name := "readTest", desc := "(I)Z" } : Jvm.MethodName)) ∈ zall := zmemG (zmj_3 181 rfl) rfl
theorem zw_766 : (Jvm.Cond.instanceMethod ({ cls := "HillSchool$LawReader", name := "readTest", desc := "(I)Z" } : Jvm.MethodName)) ∈ zall := zmemG (zmj_3 183 rfl) rfl
theorem zw_767 : (Jvm.Cond.code ({ cls := "HillSchool$LawReader", name := "readTest", desc := "(I)Z" } : Jvm.MethodName) prog_6_method_4_code (5 : Nat) (Option.some Jvm.ClassFile.FieldType.boolean)) ∈ zall := zmemG (zmj_3 184 rfl) rfl
theorem zw_768 : (Jvm.Cond.methodLink "HillSchool$LawReader" (68 : Nat) ({ cls := "HillSchool$LawReader", name := "readPlain", desc := "(I)Z" } : Jvm.MethodName)) ∈ zall := zmemG (zmj_3 185 rfl) rfl
theorem zw_770 : (Jvm.Cond.instanceMethod ({ cls := "HillSchool$LawReader", name := "readPlain", desc := "(I)Z" } : Jvm.MethodName)) ∈ zall := zmemG (zmj_3 187 rfl) rfl
theorem zw_771 : (Jvm.Cond.code ({ cls := "HillSchool$LawReader", name := "readPlain", desc := "(I)Z" } : Jvm.MethodName) prog_6_method_5_code (4 : Nat) (Option.some Jvm.ClassFile.FieldType.boolean)) ∈ zall := zmemG (zmj_3 188 rfl) rfl
theorem zw_772 : (Jvm.Cond.methodLink "HillSchool$LawReader" (71 : Nat) ({ cls := "HillSchool$LawReader", name := "comparisonOf", desc := "(I)I" } : Jvm.MethodName)) ∈ zall := zmemG (zmj_3 189 rfl) rfl
theorem zw_773 : (Jvm.Cond.static ({ cls := "HillSchool$LawReader", name := "comparisonOf", desc := "(I)I" } : Jvm.MethodName)) ∈ zall := zmemG (zmj_3 190 rfl) rfl
theorem zw_775 : (Jvm.Cond.methodLink "HillSchool$LawReader" (64 : Nat) ({ cls := "HillSchool$LawReader", name := "aimHere", desc := "(I)V" } : Jvm.MethodName)) ∈ zall := zmemG (zmj_3 192 rfl) rfl
theorem zw_777 : (Jvm.Cond.instanceMethod ({ cls := "HillSchool$LawReader", name := "aimHere", desc := "(I)V" } : Jvm.MethodName)) ∈ zall := zmemG (zmj_3 194 rfl) rfl
noncomputable def rmr_LawReader_readTest (n : Nat) : Room := { frames := 66 + n, cells := 0, slots := 0, locals := 1582 + 24 * n }
noncomputable abbrev w_LawReader_readTest : List Cond := .code yX4_readTest cX4_readTest 5 (some .boolean) :: zall
noncomputable abbrev rm_LawReader_readTest : Room := rmr_LawReader_readTest zdp
theorem hd_LawReader_readTest : yX4_readTest.cls = "HillSchool$LawReader" ∧ yX4_readTest.cls ≠ "java/lang/invoke/MethodHandle" ∧ yX4_readTest.cls ≠ "java/lang/invoke/VarHandle" ∧ (parseMethodDescriptor yX4_readTest.desc).map (fun d => d.parameters.length) = some 1 := by decide +kernel
noncomputable def wd_LawReader_readTest (cA : Nat → ClassId) (q0 q1 q2 q3 q4 : Nat) (i_tokens : Nat → Int) (i_values : Nat → Int) (i_ordered : Int) (i_at : Int) (i_parts : Int) (i_orders : Nat → Int) : va_W := [(q0, .inr (4, [.ref q1, .int (Int32.ofInt i_ordered), .ref q2, .ref q3, .ref q4, .int (Int32.ofInt i_at), .int (Int32.ofInt i_parts)])), (q1, .inl (cA 0, 424, .inl (za i_orders))), (q2, .inl (cA 0, 401, .inl (za i_tokens))), (q4, .inl (cA 0, 401, .inl (za i_values)))]
noncomputable def wf_LawReader_readTest (cA : Nat → ClassId) (q0 q1 q2 q3 q4 : Nat) (i_tokens : Nat → Int) (i_values : Nat → Int) (o : Int × Int × Int × Int × (Nat → Int)) : va_W := wd_LawReader_readTest cA q0 q1 q2 q3 q4 i_tokens i_values o.2.1 o.2.2.1 o.2.2.2.1 o.2.2.2.2
noncomputable abbrev w_LawReader_readPlain : List Cond := .code yX4_readPlain cX4_readPlain 4 (some .boolean) :: zall
noncomputable abbrev rm_LawReader_readPlain : Room := rmr_LawReader_readTest zdp
theorem hd_LawReader_readPlain : yX4_readPlain.cls = "HillSchool$LawReader" ∧ yX4_readPlain.cls ≠ "java/lang/invoke/MethodHandle" ∧ yX4_readPlain.cls ≠ "java/lang/invoke/VarHandle" ∧ (parseMethodDescriptor yX4_readPlain.desc).map (fun d => d.parameters.length) = some 1 := by decide +kernel
noncomputable def wd_LawReader_readPlain (cA : Nat → ClassId) (q0 q1 q2 q3 q4 : Nat) (i_tokens : Nat → Int) (i_values : Nat → Int) (i_ordered : Int) (i_at : Int) (i_parts : Int) (i_orders : Nat → Int) : va_W := [(q0, .inr (4, [.ref q1, .int (Int32.ofInt i_ordered), .ref q2, .ref q3, .ref q4, .int (Int32.ofInt i_at), .int (Int32.ofInt i_parts)])), (q1, .inl (cA 0, 424, .inl (za i_orders))), (q2, .inl (cA 0, 401, .inl (za i_tokens))), (q4, .inl (cA 0, 401, .inl (za i_values)))]
noncomputable def wf_LawReader_readPlain (cA : Nat → ClassId) (q0 q1 q2 q3 q4 : Nat) (i_tokens : Nat → Int) (i_values : Nat → Int) (o : Int × Int × Int × Int × (Nat → Int)) : va_W := wd_LawReader_readPlain cA q0 q1 q2 q3 q4 i_tokens i_values o.2.1 o.2.2.1 o.2.2.2.1 o.2.2.2.2
noncomputable def f_LawReader_readTest_76 (r_LawReader_readTest : Int → (Nat → Int) → (Nat → Int) → Int → Int → Int → (Nat → Int) → Option (Int × Int × Int × Int × (Nat → Int))) (r_LawReader_readPlain : Int → (Nat → Int) → (Nat → Int) → Int → Int → Int → (Nat → Int) → Option (Int × Int × Int × Int × (Nat → Int))) (i_tokens : Nat → Int) (i_values : Nat → Int) (k7 : Int → Int → Int → Int → Int → Int → Int → (Nat → Int) → Option (Int × Int × Int × Int × (Nat → Int))) (x1 : Int) (x2 : Int) (x3 : Int) (x4 : Int) (i_ordered : Int) (i_at : Int) (i_parts : Int) (i_orders : Nat → Int) : Option (Int × Int × Int × Int × (Nat → Int)) :=
  zn (x4 + 1) fun v1 =>
  k7 x1 x2 x3 v1 i_ordered i_at i_parts i_orders
noncomputable def f_LawReader_readTest_7_b (r_LawReader_readTest : Int → (Nat → Int) → (Nat → Int) → Int → Int → Int → (Nat → Int) → Option (Int × Int × Int × Int × (Nat → Int))) (r_LawReader_readPlain : Int → (Nat → Int) → (Nat → Int) → Int → Int → Int → (Nat → Int) → Option (Int × Int × Int × Int × (Nat → Int))) (i_tokens : Nat → Int) (i_values : Nat → Int) (k7 : Int → Int → Int → Int → Int → Int → Int → (Nat → Int) → Option (Int × Int × Int × Int × (Nat → Int))) (x1 : Int) (x2 : Int) (x3 : Int) (x4 : Int) (i_ordered : Int) (i_at : Int) (i_parts : Int) (i_orders : Nat → Int) : Option (Int × Int × Int × Int × (Nat → Int)) :=
  if zi_w 400 ≤ zi_w x4 then
    some (0, i_ordered, i_at, i_parts, i_orders)
  else
    zd5 (r_LawReader_readPlain x1 i_tokens i_values i_ordered i_at i_parts i_orders) fun v1 v2 v3 v4 a5 =>
    if zi_w v1 = 0 then
      some (0, v2, v3, v4, a5)
    else
      zd1 (f_LawReader_aimHere x2 v2 a5) fun a6 =>
      zd2 (f_LawReader_pass 264 i_tokens v3) fun v7 v8 =>
      if zi_w v7 = 0 then
        zd1 (f_LawReader_aimHere x3 v2 a6) fun a9 =>
        zd2 (f_LawReader_pass 263 i_tokens v8) fun v10 v11 =>
        if zi_w v10 ≠ 0 then
          zd3 (f_LawReader_order 12 0 v2 a9) fun v12 v13 a14 =>
          f_LawReader_readTest_76 r_LawReader_readTest r_LawReader_readPlain i_tokens i_values k7 x1 (-1) v12 x4 v13 v11 v4 a14
        else
          some (1, v2, v11, v4, a9)
      else
        zd3 (f_LawReader_order 11 0 v2 a6) fun v15 v16 a17 =>
        f_LawReader_readTest_76 r_LawReader_readTest r_LawReader_readPlain i_tokens i_values k7 x1 v15 x3 x4 v16 v8 v4 a17
noncomputable def f_LawReader_readTest_7 (r_LawReader_readTest : Int → (Nat → Int) → (Nat → Int) → Int → Int → Int → (Nat → Int) → Option (Int × Int × Int × Int × (Nat → Int))) (r_LawReader_readPlain : Int → (Nat → Int) → (Nat → Int) → Int → Int → Int → (Nat → Int) → Option (Int × Int × Int × Int × (Nat → Int))) (i_tokens : Nat → Int) (i_values : Nat → Int) : Nat → Int → Int → Int → Int → Int → Int → Int → (Nat → Int) → Option (Int × Int × Int × Int × (Nat → Int))
  | 0 => fun _ _ _ _ _ _ _ _ => none
  | n + 1 => fun y0 y1 y2 y3 y4 y5 y6 y7 => f_LawReader_readTest_7_b r_LawReader_readTest r_LawReader_readPlain i_tokens i_values (f_LawReader_readTest_7 r_LawReader_readTest r_LawReader_readPlain i_tokens i_values n) y0 y1 y2 y3 y4 y5 y6 y7
noncomputable def fb_LawReader_readTest (r_LawReader_readTest : Int → (Nat → Int) → (Nat → Int) → Int → Int → Int → (Nat → Int) → Option (Int × Int × Int × Int × (Nat → Int))) (r_LawReader_readPlain : Int → (Nat → Int) → (Nat → Int) → Int → Int → Int → (Nat → Int) → Option (Int × Int × Int × Int × (Nat → Int))) (x1 : Int) (i_tokens : Nat → Int) (i_values : Nat → Int) (i_ordered : Int) (i_at : Int) (i_parts : Int) (i_orders : Nat → Int) : Option (Int × Int × Int × Int × (Nat → Int)) :=
  f_LawReader_readTest_7 r_LawReader_readTest r_LawReader_readPlain i_tokens i_values zfu x1 (-1) (-1) 0 i_ordered i_at i_parts i_orders
noncomputable def f_LawReader_readPlain_148 (r_LawReader_readTest : Int → (Nat → Int) → (Nat → Int) → Int → Int → Int → (Nat → Int) → Option (Int × Int × Int × Int × (Nat → Int))) (r_LawReader_readPlain : Int → (Nat → Int) → (Nat → Int) → Int → Int → Int → (Nat → Int) → Option (Int × Int × Int × Int × (Nat → Int))) (i_tokens : Nat → Int) (i_values : Nat → Int) (x2 : Int) (i_ordered : Int) (i_at : Int) (i_parts : Int) (i_orders : Nat → Int) : Option (Int × Int × Int × Int × (Nat → Int)) :=
  if zi_w x2 = 0 then
    some (1, i_ordered, i_at, i_parts, i_orders)
  else
    zd3 (f_LawReader_order 10 0 i_ordered i_orders) fun v1 v2 a3 =>
    some (1, v2, i_at, i_parts, a3)
noncomputable def f_LawReader_readPlain_37 (r_LawReader_readTest : Int → (Nat → Int) → (Nat → Int) → Int → Int → Int → (Nat → Int) → Option (Int × Int × Int × Int × (Nat → Int))) (r_LawReader_readPlain : Int → (Nat → Int) → (Nat → Int) → Int → Int → Int → (Nat → Int) → Option (Int × Int × Int × Int × (Nat → Int))) (i_tokens : Nat → Int) (i_values : Nat → Int) (x1 : Int) (x2 : Int) (i_ordered : Int) (i_at : Int) (i_parts : Int) (i_orders : Nat → Int) : Option (Int × Int × Int × Int × (Nat → Int)) :=
  zg 401 i_tokens i_at fun v1 =>
  if zi_w v1 ≠ zi_w 40 then
    zd5 (f_LawReader_readSum x1 i_tokens i_values i_ordered i_at i_parts i_orders) fun v2 v3 v4 v5 a6 =>
    if zi_w v2 ≠ 0 then
      zg 401 i_tokens v4 fun v7 =>
      zd1 (f_LawReader_comparisonOf v7) fun v8 =>
      if zi_w v8 = zi_w (-1) then
        some (0, v3, v4, v5, a6)
      else
        zg 401 i_tokens v4 fun v9 =>
        zd2 (f_LawReader_pass v9 i_tokens v4) fun v10 v11 =>
        if zi_w v10 = 0 then
          some (0, v3, v11, v5, a6)
        else
          zd5 (f_LawReader_readSum x1 i_tokens i_values v3 v11 v5 a6) fun v12 v13 v14 v15 a16 =>
          if zi_w v12 ≠ 0 then
            zd3 (f_LawReader_order v8 0 v13 a16) fun v17 v18 a19 =>
            f_LawReader_readPlain_148 r_LawReader_readTest r_LawReader_readPlain i_tokens i_values x2 v18 v14 v15 a19
          else
            some (0, v13, v14, v15, a16)
    else
      some (0, v3, v4, v5, a6)
  else
    if zi_w 8 ≤ zi_w x1 then
      some (0, i_ordered, i_at, i_parts, i_orders)
    else
      zd2 (f_LawReader_pass 40 i_tokens i_at) fun v20 v21 =>
      if zi_w v20 = 0 then
        some (0, i_ordered, v21, i_parts, i_orders)
      else
        zn (x1 + 1) fun v22 =>
        zd5 (r_LawReader_readTest v22 i_tokens i_values i_ordered v21 i_parts i_orders) fun v23 v24 v25 v26 a27 =>
        if zi_w v23 = 0 then
          some (0, v24, v25, v26, a27)
        else
          zd2 (f_LawReader_pass 41 i_tokens v25) fun v28 v29 =>
          if zi_w v28 ≠ 0 then
            f_LawReader_readPlain_148 r_LawReader_readTest r_LawReader_readPlain i_tokens i_values x2 v24 v29 v26 a27
          else
            some (0, v24, v29, v26, a27)
noncomputable def f_LawReader_readPlain_30 (r_LawReader_readTest : Int → (Nat → Int) → (Nat → Int) → Int → Int → Int → (Nat → Int) → Option (Int × Int × Int × Int × (Nat → Int))) (r_LawReader_readPlain : Int → (Nat → Int) → (Nat → Int) → Int → Int → Int → (Nat → Int) → Option (Int × Int × Int × Int × (Nat → Int))) (i_tokens : Nat → Int) (i_values : Nat → Int) (k4 : Int → Int → Int → Int → Int → Int → (Nat → Int) → Option (Int × Int × Int × Int × (Nat → Int))) (x1 : Int) (x3 : Int) (s0 : Int) (i_ordered : Int) (i_at : Int) (i_parts : Int) (i_orders : Nat → Int) : Option (Int × Int × Int × Int × (Nat → Int)) :=
  zn (x3 + 1) fun v1 =>
  k4 x1 s0 v1 i_ordered i_at i_parts i_orders
noncomputable def f_LawReader_readPlain_4_b (r_LawReader_readTest : Int → (Nat → Int) → (Nat → Int) → Int → Int → Int → (Nat → Int) → Option (Int × Int × Int × Int × (Nat → Int))) (r_LawReader_readPlain : Int → (Nat → Int) → (Nat → Int) → Int → Int → Int → (Nat → Int) → Option (Int × Int × Int × Int × (Nat → Int))) (i_tokens : Nat → Int) (i_values : Nat → Int) (k4 : Int → Int → Int → Int → Int → Int → (Nat → Int) → Option (Int × Int × Int × Int × (Nat → Int))) (x1 : Int) (x2 : Int) (x3 : Int) (i_ordered : Int) (i_at : Int) (i_parts : Int) (i_orders : Nat → Int) : Option (Int × Int × Int × Int × (Nat → Int)) :=
  if zi_w 400 ≤ zi_w x3 then
    f_LawReader_readPlain_37 r_LawReader_readTest r_LawReader_readPlain i_tokens i_values x1 x2 i_ordered i_at i_parts i_orders
  else
    zd2 (f_LawReader_pass 265 i_tokens i_at) fun v1 v2 =>
    if zi_w v1 = 0 then
      f_LawReader_readPlain_37 r_LawReader_readTest r_LawReader_readPlain i_tokens i_values x1 x2 i_ordered v2 i_parts i_orders
    else
      if zi_w x2 ≠ 0 then
        f_LawReader_readPlain_30 r_LawReader_readTest r_LawReader_readPlain i_tokens i_values k4 x1 x3 0 i_ordered v2 i_parts i_orders
      else
        f_LawReader_readPlain_30 r_LawReader_readTest r_LawReader_readPlain i_tokens i_values k4 x1 x3 1 i_ordered v2 i_parts i_orders
noncomputable def f_LawReader_readPlain_4 (r_LawReader_readTest : Int → (Nat → Int) → (Nat → Int) → Int → Int → Int → (Nat → Int) → Option (Int × Int × Int × Int × (Nat → Int))) (r_LawReader_readPlain : Int → (Nat → Int) → (Nat → Int) → Int → Int → Int → (Nat → Int) → Option (Int × Int × Int × Int × (Nat → Int))) (i_tokens : Nat → Int) (i_values : Nat → Int) : Nat → Int → Int → Int → Int → Int → Int → (Nat → Int) → Option (Int × Int × Int × Int × (Nat → Int))
  | 0 => fun _ _ _ _ _ _ _ => none
  | n + 1 => fun y0 y1 y2 y3 y4 y5 y6 => f_LawReader_readPlain_4_b r_LawReader_readTest r_LawReader_readPlain i_tokens i_values (f_LawReader_readPlain_4 r_LawReader_readTest r_LawReader_readPlain i_tokens i_values n) y0 y1 y2 y3 y4 y5 y6
noncomputable def fb_LawReader_readPlain (r_LawReader_readTest : Int → (Nat → Int) → (Nat → Int) → Int → Int → Int → (Nat → Int) → Option (Int × Int × Int × Int × (Nat → Int))) (r_LawReader_readPlain : Int → (Nat → Int) → (Nat → Int) → Int → Int → Int → (Nat → Int) → Option (Int × Int × Int × Int × (Nat → Int))) (x1 : Int) (i_tokens : Nat → Int) (i_values : Nat → Int) (i_ordered : Int) (i_at : Int) (i_parts : Int) (i_orders : Nat → Int) : Option (Int × Int × Int × Int × (Nat → Int)) :=
  f_LawReader_readPlain_4 r_LawReader_readTest r_LawReader_readPlain i_tokens i_values zfu x1 0 0 i_ordered i_at i_parts i_orders
noncomputable def g_LawReader_readTest : Nat → (Int → (Nat → Int) → (Nat → Int) → Int → Int → Int → (Nat → Int) → Option (Int × Int × Int × Int × (Nat → Int))) × (Int → (Nat → Int) → (Nat → Int) → Int → Int → Int → (Nat → Int) → Option (Int × Int × Int × Int × (Nat → Int)))
  | 0 => (fun _ _ _ _ _ _ _ => none, fun _ _ _ _ _ _ _ => none)
  | n + 1 => (fb_LawReader_readTest (g_LawReader_readTest n).1 (g_LawReader_readTest n).2, fb_LawReader_readPlain (g_LawReader_readTest n).1 (g_LawReader_readTest n).2)
noncomputable def f_LawReader_readTest (x1 : Int) (i_tokens : Nat → Int) (i_values : Nat → Int) (i_ordered : Int) (i_at : Int) (i_parts : Int) (i_orders : Nat → Int) : Option (Int × Int × Int × Int × (Nat → Int)) := (g_LawReader_readTest zdp).1 x1 i_tokens i_values i_ordered i_at i_parts i_orders
noncomputable def f_LawReader_readPlain (x1 : Int) (i_tokens : Nat → Int) (i_values : Nat → Int) (i_ordered : Int) (i_at : Int) (i_parts : Int) (i_orders : Nat → Int) : Option (Int × Int × Int × Int × (Nat → Int)) := (g_LawReader_readTest zdp).2 x1 i_tokens i_values i_ordered i_at i_parts i_orders
set_option maxHeartbeats 4000000 in
set_option maxRecDepth 100000 in
theorem cb_LawReader_readTest (l : Launch) (ev : zEv) (dC : Nat → ClassId) (dI : Nat → Nat → Nat) (cA : Nat → ClassId) (dp : Nat) (r_LawReader_readTest : Int → (Nat → Int) → (Nat → Int) → Int → Int → Int → (Nat → Int) → Option (Int × Int × Int × Int × (Nat → Int))) (r_LawReader_readPlain : Int → (Nat → Int) → (Nat → Int) → Int → Int → Int → (Nat → Int) → Option (Int × Int × Int × Int × (Nat → Int))) (h_LawReader_readTest : ∀ (q0 q1 q2 q3 q4 : Nat) (x1 : Int) (i_tokens : Nat → Int) (i_values : Nat → Int) (i_ordered : Int) (i_at : Int) (i_parts : Int) (i_orders : Nat → Int) (out : Int × Int × Int × Int × (Nat → Int)), r_LawReader_readTest x1 i_tokens i_values i_ordered i_at i_parts i_orders = some out → xc_I l ev (dC, dI) vwCl (tyl cA) yX4_readTest w_LawReader_readTest (rmr_LawReader_readTest dp) [.ref q0, .int (Int32.ofInt x1)] (wd_LawReader_readTest cA q0 q1 q2 q3 q4 i_tokens i_values i_ordered i_at i_parts i_orders) (wf_LawReader_readTest cA q0 q1 q2 q3 q4 i_tokens i_values out) out.1) (h_LawReader_readPlain : ∀ (q0 q1 q2 q3 q4 : Nat) (x1 : Int) (i_tokens : Nat → Int) (i_values : Nat → Int) (i_ordered : Int) (i_at : Int) (i_parts : Int) (i_orders : Nat → Int) (out : Int × Int × Int × Int × (Nat → Int)), r_LawReader_readPlain x1 i_tokens i_values i_ordered i_at i_parts i_orders = some out → xc_I l ev (dC, dI) vwCl (tyl cA) yX4_readPlain w_LawReader_readPlain (rmr_LawReader_readTest dp) [.ref q0, .int (Int32.ofInt x1)] (wd_LawReader_readPlain cA q0 q1 q2 q3 q4 i_tokens i_values i_ordered i_at i_parts i_orders) (wf_LawReader_readPlain cA q0 q1 q2 q3 q4 i_tokens i_values out) out.1) : ∀ (q0 q1 q2 q3 q4 : Nat) (x1 : Int) (i_tokens : Nat → Int) (i_values : Nat → Int) (i_ordered : Int) (i_at : Int) (i_parts : Int) (i_orders : Nat → Int) (out : Int × Int × Int × Int × (Nat → Int)), fb_LawReader_readTest r_LawReader_readTest r_LawReader_readPlain x1 i_tokens i_values i_ordered i_at i_parts i_orders = some out → xc_I l ev (dC, dI) vwCl (tyl cA) yX4_readTest w_LawReader_readTest (rmr_LawReader_readTest (dp + 1)) [.ref q0, .int (Int32.ofInt x1)] (wd_LawReader_readTest cA q0 q1 q2 q3 q4 i_tokens i_values i_ordered i_at i_parts i_orders) (wf_LawReader_readTest cA q0 q1 q2 q3 q4 i_tokens i_values out) out.1 := by
  intro q0 q1 q2 q3 q4 x1 i_tokens i_values i_ordered i_at i_parts i_orders out hf
  refine xv_startI (cc := cX4_readTest) (maxL := 5) (rt := .boolean) (by decide +kernel) rfl (Nat.le_of_ble_eq_true rfl) ?_
  intro p e s m args below meth c A Q H ls hx hb hml hts hown hK hA hP hD hS hl hE hret
  have hown : s.vm.findClass "HillSchool$LawReader" = some m.cls := hown
  have hz : ∀ w ∈ zall, w.before args s = true := fun w h => hts w (List.mem_cons_of_mem _ h)
  have hl : lv_has ls 5 [(0, .ref q0), (1, .int (Int32.ofInt x1))] := hl
  have b_76 : ∀ (k7 : Int → Int → Int → Int → Int → Int → Int → (Nat → Int) → Option (Int × Int × Int × Int × (Nat → Int))) (_ : ∀ (x1 : Int) (x2 : Int) (x3 : Int) (x4 : Int) (i_ordered : Int) (i_at : Int) (i_parts : Int) (i_orders : Nat → Int) (H : Heap) (locs : List Loc) (ls : Array Slot), k7 x1 x2 x3 x4 i_ordered i_at i_parts i_orders = some out → va_P (dC, dI) vwCl (wd_LawReader_readTest cA q0 q1 q2 q3 q4 i_tokens i_values i_ordered i_at i_parts i_orders) H → va_D A (wd_LawReader_readTest cA q0 q1 q2 q3 q4 i_tokens i_values i_ordered i_at i_parts i_orders) → va_S A s.heap H locs → lv_has ls 5 [(0, .ref q0), (1, .int (Int32.ofInt x1)), (2, .int (Int32.ofInt x2)), (3, .int (Int32.ofInt x3)), (4, .int (Int32.ofInt x4))] → W p l e (rmr_LawReader_readTest (dp + 1)) s m args below meth c H locs 0 0 Q (F0 m 7 ls [])), ∀ (x1 : Int) (x2 : Int) (x3 : Int) (x4 : Int) (i_ordered : Int) (i_at : Int) (i_parts : Int) (i_orders : Nat → Int) (H : Heap) (locs : List Loc) (ls : Array Slot), f_LawReader_readTest_76 r_LawReader_readTest r_LawReader_readPlain i_tokens i_values k7 x1 x2 x3 x4 i_ordered i_at i_parts i_orders = some out → va_P (dC, dI) vwCl (wd_LawReader_readTest cA q0 q1 q2 q3 q4 i_tokens i_values i_ordered i_at i_parts i_orders) H → va_D A (wd_LawReader_readTest cA q0 q1 q2 q3 q4 i_tokens i_values i_ordered i_at i_parts i_orders) → va_S A s.heap H locs → lv_has ls 5 [(0, .ref q0), (1, .int (Int32.ofInt x1)), (2, .int (Int32.ofInt x2)), (3, .int (Int32.ofInt x3)), (4, .int (Int32.ofInt x4))] → W p l e (rmr_LawReader_readTest (dp + 1)) s m args below meth c H locs 0 0 Q (F0 m 76 ls []) := by
    intro k7 ih7 x1 x2 x3 x4 i_ordered i_at i_parts i_orders H locs ls hf hP hD hS hl
    unfold f_LawReader_readTest_76 at hf
    refine xi_iinc hx hb (zdt zkX4_readTest 76 rfl) hl (k := 4) rfl (by decide) hf (fun v1 ls hl hf => ?_)
    have hl : lv_has ls 5 [(4, .int (Int32.ofInt v1)), (0, .ref q0), (1, .int (Int32.ofInt x1)), (2, .int (Int32.ofInt x2)), (3, .int (Int32.ofInt x3))] := hl
    refine lv_goto (tgt := 7) hx hb (zdt zkX4_readTest 79 rfl) (by decide) ?_
    exact ih7 _ _ _ _ _ _ _ _ _ _ _ hf hP hD hS (lv_sub hl [1, 2, 3, 4, 0] rfl)
  have b_7 : ∀ (k7 : Int → Int → Int → Int → Int → Int → Int → (Nat → Int) → Option (Int × Int × Int × Int × (Nat → Int))) (_ : ∀ (x1 : Int) (x2 : Int) (x3 : Int) (x4 : Int) (i_ordered : Int) (i_at : Int) (i_parts : Int) (i_orders : Nat → Int) (H : Heap) (locs : List Loc) (ls : Array Slot), k7 x1 x2 x3 x4 i_ordered i_at i_parts i_orders = some out → va_P (dC, dI) vwCl (wd_LawReader_readTest cA q0 q1 q2 q3 q4 i_tokens i_values i_ordered i_at i_parts i_orders) H → va_D A (wd_LawReader_readTest cA q0 q1 q2 q3 q4 i_tokens i_values i_ordered i_at i_parts i_orders) → va_S A s.heap H locs → lv_has ls 5 [(0, .ref q0), (1, .int (Int32.ofInt x1)), (2, .int (Int32.ofInt x2)), (3, .int (Int32.ofInt x3)), (4, .int (Int32.ofInt x4))] → W p l e (rmr_LawReader_readTest (dp + 1)) s m args below meth c H locs 0 0 Q (F0 m 7 ls [])), ∀ (x1 : Int) (x2 : Int) (x3 : Int) (x4 : Int) (i_ordered : Int) (i_at : Int) (i_parts : Int) (i_orders : Nat → Int) (H : Heap) (locs : List Loc) (ls : Array Slot), f_LawReader_readTest_7_b r_LawReader_readTest r_LawReader_readPlain i_tokens i_values k7 x1 x2 x3 x4 i_ordered i_at i_parts i_orders = some out → va_P (dC, dI) vwCl (wd_LawReader_readTest cA q0 q1 q2 q3 q4 i_tokens i_values i_ordered i_at i_parts i_orders) H → va_D A (wd_LawReader_readTest cA q0 q1 q2 q3 q4 i_tokens i_values i_ordered i_at i_parts i_orders) → va_S A s.heap H locs → lv_has ls 5 [(0, .ref q0), (1, .int (Int32.ofInt x1)), (2, .int (Int32.ofInt x2)), (3, .int (Int32.ofInt x3)), (4, .int (Int32.ofInt x4))] → W p l e (rmr_LawReader_readTest (dp + 1)) s m args below meth c H locs 0 0 Q (F0 m 7 ls []) := by
    intro k7 ih7 x1 x2 x3 x4 i_ordered i_at i_parts i_orders H locs ls hf hP hD hS hl
    unfold f_LawReader_readTest_7_b at hf
    refine lv_iload hx hb (zdt zkX4_readTest 7 rfl) (lv_at hl 4 rfl) ?_
    refine lv_sipush (v := Int32.ofInt 400) hx hb (zdt zkX4_readTest 9 rfl) (by decide) ?_
    refine xi_icmp_ge (tgt := 82) hx hb (zdt zkX4_readTest 12 rfl) (by decide) hf (fun hf => ?_) (fun hf => ?_)
    · refine lv_iconst (v := Int32.ofInt 0) hx hb (zdt zkX4_readTest 82 rfl) rfl ?_
      obtain rfl := Option.some.inj hf
      exact hret _ _ _ _ zz_b0 (zdt zkX4_readTest 83 rfl) hP hD hS
    · refine lv_aload_n hx hb (zdt zkX4_readTest 15 rfl) rfl (lv_at hl 0 rfl) ?_
      refine lv_iload_n hx hb (zdt zkX4_readTest 16 rfl) rfl (lv_at hl 1 rfl) ?_
      refine xe_d5 hf (fun v1 v2 v3 v4 a5 hg hf => ?_)
      have hC : ([0, 1, 2, 3] : List Nat).map (fun i => (wd_LawReader_readTest cA q0 q1 q2 q3 q4 i_tokens i_values i_ordered i_at i_parts i_orders)[i]?) = (wd_LawReader_readPlain cA q0 q1 q2 q3 q4 i_tokens i_values i_ordered i_at i_parts i_orders).map some := rfl
      refine xv_afterI (ws' := (wd_LawReader_readTest cA q0 q1 q2 q3 q4 i_tokens i_values v2 v3 v4 a5)) (isC := [0, 1, 2, 3]) (ps := [some 0, some 1, some 2, some 3]) (va_runV (As := [.int (Int32.ofInt x1)]) (rest := []) ⟨hx, hb, hml, hown, hts⟩ (h_LawReader_readPlain q0 q1 q2 q3 q4 _ _ _ _ _ _ _ _ hg H.size) (cwV 1 hts (zgV zw_768 zw_770 zw_11 zw_107 zw_771) rfl rfl rfl hd_LawReader_readPlain ⟨(by show 66 + dp + 1 ≤ 66 + (dp + 1); omega), (by show 8 + (4 + 11) + (1582 + 24 * dp) ≤ 1582 + 24 * (dp + 1); omega)⟩) (xv_preV (T := TX4) (N := 7) hE hA hS hK hP hD (isC := [0, 1, 2, 3]) (by decide +kernel) hC (q0 := 0) (ci := 4) rfl rfl) rfl rfl hl.1 rfl (lv_room (Nat.le_of_ble_eq_true rfl)) (zdt zkX4_readTest 17 rfl) ⟨Nat.le_refl _, Nat.le_refl _⟩) hP hD hS hA (by decide +kernel) rfl hC rfl rfl (fun H locs hP hD hS => ?_)
      refine xi_if_eq (tgt := 82) hx hb (zdt zkX4_readTest 20 rfl) (by decide) hf (fun hf => ?_) (fun hf => ?_)
      · refine lv_iconst (v := Int32.ofInt 0) hx hb (zdt zkX4_readTest 82 rfl) rfl ?_
        obtain rfl := Option.some.inj hf
        exact hret _ _ _ _ zz_b0 (zdt zkX4_readTest 83 rfl) hP hD hS
      · refine lv_aload_n hx hb (zdt zkX4_readTest 23 rfl) rfl (lv_at hl 0 rfl) ?_
        refine lv_iload_n hx hb (zdt zkX4_readTest 24 rfl) rfl (lv_at hl 2 rfl) ?_
        refine xe_d1 hf (fun a6 hg hf => ?_)
        have hC : ([0, 1] : List Nat).map (fun i => (wd_LawReader_readTest cA q0 q1 q2 q3 q4 i_tokens i_values v2 v3 v4 a5)[i]?) = (wd_LawReader_aimHere cA q0 q1 q2 q3 q4 v3 v4 v2 a5).map some := rfl
        refine xv_afterV (ws' := (wd_LawReader_readTest cA q0 q1 q2 q3 q4 i_tokens i_values v2 v3 v4 a6)) (isC := [0, 1]) (ps := [some 0, some 1, none, none]) (va_runV (As := [.int (Int32.ofInt x2)]) (rest := []) ⟨hx, hb, hml, hown, hts⟩ (c_LawReader_aimHere l ev dC dI cA q0 q1 q2 q3 q4 v3 v4 hg H.size) (cwV 1 hts (zgV zw_775 zw_777 zw_12 zw_107 zw_778) rfl rfl rfl hd_LawReader_aimHere ⟨(by show 0 + 1 ≤ 66 + (dp + 1); omega), (by show 8 + (2 + 11) + (0) ≤ 1582 + 24 * (dp + 1); omega)⟩) (xv_preV (T := TX4) (N := 7) hE hA hS hK hP hD (isC := [0, 1]) (by decide +kernel) hC (q0 := 0) (ci := 4) rfl rfl) rfl rfl hl.1 rfl (lv_room (Nat.le_of_ble_eq_true rfl)) (zdt zkX4_readTest 25 rfl) ⟨Nat.le_refl _, Nat.le_refl _⟩) hP hD hS hA (by decide +kernel) rfl hC rfl rfl (fun H locs hP hD hS => ?_)
        refine lv_iconst (v := Int32.ofInt (-1)) hx hb (zdt zkX4_readTest 28 rfl) rfl ?_
        refine lv_istore_n (lv' := [(2, .int (Int32.ofInt (-1))), (0, .ref q0), (1, .int (Int32.ofInt x1)), (3, .int (Int32.ofInt x3)), (4, .int (Int32.ofInt x4))]) hx hb (zdt zkX4_readTest 29 rfl) rfl hl (by decide) rfl (fun ls hl => ?_)
        refine lv_aload_n hx hb (zdt zkX4_readTest 30 rfl) rfl (lv_at hl 1 rfl) ?_
        refine lv_sipush (v := Int32.ofInt 264) hx hb (zdt zkX4_readTest 31 rfl) (by decide) ?_
        refine xe_d2 hf (fun v7 v8 hg hf => ?_)
        have hC : ([0, 2] : List Nat).map (fun i => (wd_LawReader_readTest cA q0 q1 q2 q3 q4 i_tokens i_values v2 v3 v4 a6)[i]?) = (wd_LawReader_pass cA q0 q1 q2 q3 q4 v2 v4 i_tokens v3).map some := rfl
        refine xv_afterI (ws' := (wd_LawReader_readTest cA q0 q1 q2 q3 q4 i_tokens i_values v2 v8 v4 a6)) (isC := [0, 2]) (ps := [some 0, none, some 1, none]) (va_runV (As := [.int (Int32.ofInt 264)]) (rest := []) ⟨hx, hb, hml, hown, hts⟩ (c_LawReader_pass l ev dC dI cA q0 q1 q2 q3 q4 v2 v4 hg H.size) (cwV 1 hts (zgV zw_752 zw_754 zw_7 zw_107 zw_755) rfl rfl rfl hd_LawReader_pass ⟨(by show 0 + 1 ≤ 66 + (dp + 1); omega), (by show 8 + (2 + 11) + (0) ≤ 1582 + 24 * (dp + 1); omega)⟩) (xv_preV (T := TX4) (N := 7) hE hA hS hK hP hD (isC := [0, 2]) (by decide +kernel) hC (q0 := 0) (ci := 4) rfl rfl) rfl rfl hl.1 rfl (lv_room (Nat.le_of_ble_eq_true rfl)) (zdt zkX4_readTest 34 rfl) ⟨Nat.le_refl _, Nat.le_refl _⟩) hP hD hS hA (by decide +kernel) rfl hC rfl rfl (fun H locs hP hD hS => ?_)
        refine xi_if_eq (tgt := 51) hx hb (zdt zkX4_readTest 37 rfl) (by decide) hf (fun hf => ?_) (fun hf => ?_)
        · refine lv_aload_n hx hb (zdt zkX4_readTest 51 rfl) rfl (lv_at hl 1 rfl) ?_
          refine lv_iload_n hx hb (zdt zkX4_readTest 52 rfl) rfl (lv_at hl 3 rfl) ?_
          refine xe_d1 hf (fun a9 hg hf => ?_)
          have hC : ([0, 1] : List Nat).map (fun i => (wd_LawReader_readTest cA q0 q1 q2 q3 q4 i_tokens i_values v2 v8 v4 a6)[i]?) = (wd_LawReader_aimHere cA q0 q1 q2 q3 q4 v8 v4 v2 a6).map some := rfl
          refine xv_afterV (ws' := (wd_LawReader_readTest cA q0 q1 q2 q3 q4 i_tokens i_values v2 v8 v4 a9)) (isC := [0, 1]) (ps := [some 0, some 1, none, none]) (va_runV (As := [.int (Int32.ofInt x3)]) (rest := []) ⟨hx, hb, hml, hown, hts⟩ (c_LawReader_aimHere l ev dC dI cA q0 q1 q2 q3 q4 v8 v4 hg H.size) (cwV 1 hts (zgV zw_775 zw_777 zw_12 zw_107 zw_778) rfl rfl rfl hd_LawReader_aimHere ⟨(by show 0 + 1 ≤ 66 + (dp + 1); omega), (by show 8 + (2 + 11) + (0) ≤ 1582 + 24 * (dp + 1); omega)⟩) (xv_preV (T := TX4) (N := 7) hE hA hS hK hP hD (isC := [0, 1]) (by decide +kernel) hC (q0 := 0) (ci := 4) rfl rfl) rfl rfl hl.1 rfl (lv_room (Nat.le_of_ble_eq_true rfl)) (zdt zkX4_readTest 53 rfl) ⟨Nat.le_refl _, Nat.le_refl _⟩) hP hD hS hA (by decide +kernel) rfl hC rfl rfl (fun H locs hP hD hS => ?_)
          refine lv_aload_n hx hb (zdt zkX4_readTest 56 rfl) rfl (lv_at hl 1 rfl) ?_
          refine lv_sipush (v := Int32.ofInt 263) hx hb (zdt zkX4_readTest 57 rfl) (by decide) ?_
          refine xe_d2 hf (fun v10 v11 hg hf => ?_)
          have hC : ([0, 2] : List Nat).map (fun i => (wd_LawReader_readTest cA q0 q1 q2 q3 q4 i_tokens i_values v2 v8 v4 a9)[i]?) = (wd_LawReader_pass cA q0 q1 q2 q3 q4 v2 v4 i_tokens v8).map some := rfl
          refine xv_afterI (ws' := (wd_LawReader_readTest cA q0 q1 q2 q3 q4 i_tokens i_values v2 v11 v4 a9)) (isC := [0, 2]) (ps := [some 0, none, some 1, none]) (va_runV (As := [.int (Int32.ofInt 263)]) (rest := []) ⟨hx, hb, hml, hown, hts⟩ (c_LawReader_pass l ev dC dI cA q0 q1 q2 q3 q4 v2 v4 hg H.size) (cwV 1 hts (zgV zw_752 zw_754 zw_7 zw_107 zw_755) rfl rfl rfl hd_LawReader_pass ⟨(by show 0 + 1 ≤ 66 + (dp + 1); omega), (by show 8 + (2 + 11) + (0) ≤ 1582 + 24 * (dp + 1); omega)⟩) (xv_preV (T := TX4) (N := 7) hE hA hS hK hP hD (isC := [0, 2]) (by decide +kernel) hC (q0 := 0) (ci := 4) rfl rfl) rfl rfl hl.1 rfl (lv_room (Nat.le_of_ble_eq_true rfl)) (zdt zkX4_readTest 60 rfl) ⟨Nat.le_refl _, Nat.le_refl _⟩) hP hD hS hA (by decide +kernel) rfl hC rfl rfl (fun H locs hP hD hS => ?_)
          refine xi_if_ne (tgt := 68) hx hb (zdt zkX4_readTest 63 rfl) (by decide) hf (fun hf => ?_) (fun hf => ?_)
          · refine lv_aload_n hx hb (zdt zkX4_readTest 68 rfl) rfl (lv_at hl 1 rfl) ?_
            refine lv_bipush (v := Int32.ofInt 12) hx hb (zdt zkX4_readTest 69 rfl) (by decide) ?_
            refine lv_iconst (v := Int32.ofInt 0) hx hb (zdt zkX4_readTest 71 rfl) rfl ?_
            refine xe_d3 hf (fun v12 v13 a14 hg hf => ?_)
            have hC : ([0, 1] : List Nat).map (fun i => (wd_LawReader_readTest cA q0 q1 q2 q3 q4 i_tokens i_values v2 v11 v4 a9)[i]?) = (wd_LawReader_order cA q0 q1 q2 q3 q4 v11 v4 v2 a9).map some := rfl
            refine xv_afterI (ws' := (wd_LawReader_readTest cA q0 q1 q2 q3 q4 i_tokens i_values v13 v11 v4 a14)) (isC := [0, 1]) (ps := [some 0, some 1, none, none]) (va_runV (As := [.int (Int32.ofInt 12), .int (Int32.ofInt 0)]) (rest := []) ⟨hx, hb, hml, hown, hts⟩ (c_LawReader_order l ev dC dI cA q0 q1 q2 q3 q4 v11 v4 hg H.size) (cwV 2 hts (zgV zw_748 zw_750 zw_6 zw_107 zw_751) rfl rfl rfl hd_LawReader_order ⟨(by show 0 + 1 ≤ 66 + (dp + 1); omega), (by show 8 + (3 + 11) + (0) ≤ 1582 + 24 * (dp + 1); omega)⟩) (xv_preV (T := TX4) (N := 7) hE hA hS hK hP hD (isC := [0, 1]) (by decide +kernel) hC (q0 := 0) (ci := 4) rfl rfl) rfl rfl hl.1 rfl (lv_room (Nat.le_of_ble_eq_true rfl)) (zdt zkX4_readTest 72 rfl) ⟨Nat.le_refl _, Nat.le_refl _⟩) hP hD hS hA (by decide +kernel) rfl hC rfl rfl (fun H locs hP hD hS => ?_)
            refine lv_istore_n (lv' := [(3, .int (Int32.ofInt v12)), (2, .int (Int32.ofInt (-1))), (0, .ref q0), (1, .int (Int32.ofInt x1)), (4, .int (Int32.ofInt x4))]) hx hb (zdt zkX4_readTest 75 rfl) rfl hl (by decide) rfl (fun ls hl => ?_)
            exact b_76 _ ih7 _ _ _ _ _ _ _ _ _ _ _ hf hP hD hS (lv_sub hl [2, 3, 1, 0, 4] rfl)
          · refine lv_iconst (v := Int32.ofInt 1) hx hb (zdt zkX4_readTest 66 rfl) rfl ?_
            obtain rfl := Option.some.inj hf
            exact hret _ _ _ _ zz_b1 (zdt zkX4_readTest 67 rfl) hP hD hS
        · refine lv_aload_n hx hb (zdt zkX4_readTest 40 rfl) rfl (lv_at hl 1 rfl) ?_
          refine lv_bipush (v := Int32.ofInt 11) hx hb (zdt zkX4_readTest 41 rfl) (by decide) ?_
          refine lv_iconst (v := Int32.ofInt 0) hx hb (zdt zkX4_readTest 43 rfl) rfl ?_
          refine xe_d3 hf (fun v15 v16 a17 hg hf => ?_)
          have hC : ([0, 1] : List Nat).map (fun i => (wd_LawReader_readTest cA q0 q1 q2 q3 q4 i_tokens i_values v2 v8 v4 a6)[i]?) = (wd_LawReader_order cA q0 q1 q2 q3 q4 v8 v4 v2 a6).map some := rfl
          refine xv_afterI (ws' := (wd_LawReader_readTest cA q0 q1 q2 q3 q4 i_tokens i_values v16 v8 v4 a17)) (isC := [0, 1]) (ps := [some 0, some 1, none, none]) (va_runV (As := [.int (Int32.ofInt 11), .int (Int32.ofInt 0)]) (rest := []) ⟨hx, hb, hml, hown, hts⟩ (c_LawReader_order l ev dC dI cA q0 q1 q2 q3 q4 v8 v4 hg H.size) (cwV 2 hts (zgV zw_748 zw_750 zw_6 zw_107 zw_751) rfl rfl rfl hd_LawReader_order ⟨(by show 0 + 1 ≤ 66 + (dp + 1); omega), (by show 8 + (3 + 11) + (0) ≤ 1582 + 24 * (dp + 1); omega)⟩) (xv_preV (T := TX4) (N := 7) hE hA hS hK hP hD (isC := [0, 1]) (by decide +kernel) hC (q0 := 0) (ci := 4) rfl rfl) rfl rfl hl.1 rfl (lv_room (Nat.le_of_ble_eq_true rfl)) (zdt zkX4_readTest 44 rfl) ⟨Nat.le_refl _, Nat.le_refl _⟩) hP hD hS hA (by decide +kernel) rfl hC rfl rfl (fun H locs hP hD hS => ?_)
          refine lv_istore_n (lv' := [(2, .int (Int32.ofInt v15)), (0, .ref q0), (1, .int (Int32.ofInt x1)), (3, .int (Int32.ofInt x3)), (4, .int (Int32.ofInt x4))]) hx hb (zdt zkX4_readTest 47 rfl) rfl hl (by decide) rfl (fun ls hl => ?_)
          refine lv_goto (tgt := 76) hx hb (zdt zkX4_readTest 48 rfl) (by decide) ?_
          exact b_76 _ ih7 _ _ _ _ _ _ _ _ _ _ _ hf hP hD hS (lv_sub hl [1, 2, 0, 3, 4] rfl)
  have l_7 : ∀ (n : Nat), ∀ (x1 : Int) (x2 : Int) (x3 : Int) (x4 : Int) (i_ordered : Int) (i_at : Int) (i_parts : Int) (i_orders : Nat → Int) (H : Heap) (locs : List Loc) (ls : Array Slot), f_LawReader_readTest_7 r_LawReader_readTest r_LawReader_readPlain i_tokens i_values n x1 x2 x3 x4 i_ordered i_at i_parts i_orders = some out → va_P (dC, dI) vwCl (wd_LawReader_readTest cA q0 q1 q2 q3 q4 i_tokens i_values i_ordered i_at i_parts i_orders) H → va_D A (wd_LawReader_readTest cA q0 q1 q2 q3 q4 i_tokens i_values i_ordered i_at i_parts i_orders) → va_S A s.heap H locs → lv_has ls 5 [(0, .ref q0), (1, .int (Int32.ofInt x1)), (2, .int (Int32.ofInt x2)), (3, .int (Int32.ofInt x3)), (4, .int (Int32.ofInt x4))] → W p l e (rmr_LawReader_readTest (dp + 1)) s m args below meth c H locs 0 0 Q (F0 m 7 ls []) := by
    intro n
    induction n with
    | zero => intro x1 x2 x3 x4 i_ordered i_at i_parts i_orders H locs ls hf hP hD hS hl; exact nomatch hf
    | succ n ih => intro x1 x2 x3 x4 i_ordered i_at i_parts i_orders H locs ls hf hP hD hS hl; exact b_7 (f_LawReader_readTest_7 r_LawReader_readTest r_LawReader_readPlain i_tokens i_values n) ih x1 x2 x3 x4 i_ordered i_at i_parts i_orders H locs ls hf hP hD hS hl
  unfold fb_LawReader_readTest at hf
  refine lv_iconst (v := Int32.ofInt (-1)) hx hb (zdt zkX4_readTest 0 rfl) rfl ?_
  refine lv_istore_n (lv' := [(2, .int (Int32.ofInt (-1))), (0, .ref q0), (1, .int (Int32.ofInt x1))]) hx hb (zdt zkX4_readTest 1 rfl) rfl hl (by decide) rfl (fun ls hl => ?_)
  refine lv_iconst (v := Int32.ofInt (-1)) hx hb (zdt zkX4_readTest 2 rfl) rfl ?_
  refine lv_istore_n (lv' := [(3, .int (Int32.ofInt (-1))), (2, .int (Int32.ofInt (-1))), (0, .ref q0), (1, .int (Int32.ofInt x1))]) hx hb (zdt zkX4_readTest 3 rfl) rfl hl (by decide) rfl (fun ls hl => ?_)
  refine lv_iconst (v := Int32.ofInt 0) hx hb (zdt zkX4_readTest 4 rfl) rfl ?_
  refine lv_istore (lv' := [(4, .int (Int32.ofInt 0)), (3, .int (Int32.ofInt (-1))), (2, .int (Int32.ofInt (-1))), (0, .ref q0), (1, .int (Int32.ofInt x1))]) hx hb (zdt zkX4_readTest 5 rfl) hl (by decide) rfl (fun ls hl => ?_)
  exact l_7  _ _ _ _ _ _ _ _ _ _ _ _ hf hP hD hS (lv_sub hl [3, 4, 2, 1, 0] rfl)
set_option maxHeartbeats 4000000 in
set_option maxRecDepth 100000 in
theorem cb_LawReader_readPlain (l : Launch) (ev : zEv) (dC : Nat → ClassId) (dI : Nat → Nat → Nat) (cA : Nat → ClassId) (dp : Nat) (r_LawReader_readTest : Int → (Nat → Int) → (Nat → Int) → Int → Int → Int → (Nat → Int) → Option (Int × Int × Int × Int × (Nat → Int))) (r_LawReader_readPlain : Int → (Nat → Int) → (Nat → Int) → Int → Int → Int → (Nat → Int) → Option (Int × Int × Int × Int × (Nat → Int))) (h_LawReader_readTest : ∀ (q0 q1 q2 q3 q4 : Nat) (x1 : Int) (i_tokens : Nat → Int) (i_values : Nat → Int) (i_ordered : Int) (i_at : Int) (i_parts : Int) (i_orders : Nat → Int) (out : Int × Int × Int × Int × (Nat → Int)), r_LawReader_readTest x1 i_tokens i_values i_ordered i_at i_parts i_orders = some out → xc_I l ev (dC, dI) vwCl (tyl cA) yX4_readTest w_LawReader_readTest (rmr_LawReader_readTest dp) [.ref q0, .int (Int32.ofInt x1)] (wd_LawReader_readTest cA q0 q1 q2 q3 q4 i_tokens i_values i_ordered i_at i_parts i_orders) (wf_LawReader_readTest cA q0 q1 q2 q3 q4 i_tokens i_values out) out.1) (h_LawReader_readPlain : ∀ (q0 q1 q2 q3 q4 : Nat) (x1 : Int) (i_tokens : Nat → Int) (i_values : Nat → Int) (i_ordered : Int) (i_at : Int) (i_parts : Int) (i_orders : Nat → Int) (out : Int × Int × Int × Int × (Nat → Int)), r_LawReader_readPlain x1 i_tokens i_values i_ordered i_at i_parts i_orders = some out → xc_I l ev (dC, dI) vwCl (tyl cA) yX4_readPlain w_LawReader_readPlain (rmr_LawReader_readTest dp) [.ref q0, .int (Int32.ofInt x1)] (wd_LawReader_readPlain cA q0 q1 q2 q3 q4 i_tokens i_values i_ordered i_at i_parts i_orders) (wf_LawReader_readPlain cA q0 q1 q2 q3 q4 i_tokens i_values out) out.1) : ∀ (q0 q1 q2 q3 q4 : Nat) (x1 : Int) (i_tokens : Nat → Int) (i_values : Nat → Int) (i_ordered : Int) (i_at : Int) (i_parts : Int) (i_orders : Nat → Int) (out : Int × Int × Int × Int × (Nat → Int)), fb_LawReader_readPlain r_LawReader_readTest r_LawReader_readPlain x1 i_tokens i_values i_ordered i_at i_parts i_orders = some out → xc_I l ev (dC, dI) vwCl (tyl cA) yX4_readPlain w_LawReader_readPlain (rmr_LawReader_readTest (dp + 1)) [.ref q0, .int (Int32.ofInt x1)] (wd_LawReader_readPlain cA q0 q1 q2 q3 q4 i_tokens i_values i_ordered i_at i_parts i_orders) (wf_LawReader_readPlain cA q0 q1 q2 q3 q4 i_tokens i_values out) out.1 := by
  intro q0 q1 q2 q3 q4 x1 i_tokens i_values i_ordered i_at i_parts i_orders out hf
  refine xv_startI (cc := cX4_readPlain) (maxL := 4) (rt := .boolean) (by decide +kernel) rfl (Nat.le_of_ble_eq_true rfl) ?_
  intro p e s m args below meth c A Q H ls hx hb hml hts hown hK hA hP hD hS hl hE hret
  have hown : s.vm.findClass "HillSchool$LawReader" = some m.cls := hown
  have hz : ∀ w ∈ zall, w.before args s = true := fun w h => hts w (List.mem_cons_of_mem _ h)
  have hl : lv_has ls 4 [(0, .ref q0), (1, .int (Int32.ofInt x1))] := hl
  have b_148 : ∀ (x2 : Int) (i_ordered : Int) (i_at : Int) (i_parts : Int) (i_orders : Nat → Int) (H : Heap) (locs : List Loc) (ls : Array Slot), f_LawReader_readPlain_148 r_LawReader_readTest r_LawReader_readPlain i_tokens i_values x2 i_ordered i_at i_parts i_orders = some out → va_P (dC, dI) vwCl (wd_LawReader_readPlain cA q0 q1 q2 q3 q4 i_tokens i_values i_ordered i_at i_parts i_orders) H → va_D A (wd_LawReader_readPlain cA q0 q1 q2 q3 q4 i_tokens i_values i_ordered i_at i_parts i_orders) → va_S A s.heap H locs → lv_has ls 4 [(0, .ref q0), (2, .int (Int32.ofInt x2))] → W p l e (rmr_LawReader_readTest (dp + 1)) s m args below meth c H locs 0 0 Q (F0 m 148 ls []) := by
    intro x2 i_ordered i_at i_parts i_orders H locs ls hf hP hD hS hl
    unfold f_LawReader_readPlain_148 at hf
    refine lv_iload_n hx hb (zdt zkX4_readPlain 148 rfl) rfl (lv_at hl 1 rfl) ?_
    refine xi_if_eq (tgt := 160) hx hb (zdt zkX4_readPlain 149 rfl) (by decide) hf (fun hf => ?_) (fun hf => ?_)
    · refine lv_iconst (v := Int32.ofInt 1) hx hb (zdt zkX4_readPlain 160 rfl) rfl ?_
      obtain rfl := Option.some.inj hf
      exact hret _ _ _ _ zz_b1 (zdt zkX4_readPlain 161 rfl) hP hD hS
    · refine lv_aload_n hx hb (zdt zkX4_readPlain 152 rfl) rfl (lv_at hl 0 rfl) ?_
      refine lv_bipush (v := Int32.ofInt 10) hx hb (zdt zkX4_readPlain 153 rfl) (by decide) ?_
      refine lv_iconst (v := Int32.ofInt 0) hx hb (zdt zkX4_readPlain 155 rfl) rfl ?_
      refine xe_d3 hf (fun v1 v2 a3 hg hf => ?_)
      have hC : ([0, 1] : List Nat).map (fun i => (wd_LawReader_readPlain cA q0 q1 q2 q3 q4 i_tokens i_values i_ordered i_at i_parts i_orders)[i]?) = (wd_LawReader_order cA q0 q1 q2 q3 q4 i_at i_parts i_ordered i_orders).map some := rfl
      refine xv_afterI (ws' := (wd_LawReader_readPlain cA q0 q1 q2 q3 q4 i_tokens i_values v2 i_at i_parts a3)) (isC := [0, 1]) (ps := [some 0, some 1, none, none]) (va_runV (As := [.int (Int32.ofInt 10), .int (Int32.ofInt 0)]) (rest := []) ⟨hx, hb, hml, hown, hts⟩ (c_LawReader_order l ev dC dI cA q0 q1 q2 q3 q4 i_at i_parts hg H.size) (cwV 2 hts (zgV zw_748 zw_750 zw_6 zw_107 zw_751) rfl rfl rfl hd_LawReader_order ⟨(by show 0 + 1 ≤ 66 + (dp + 1); omega), (by show 8 + (3 + 11) + (0) ≤ 1582 + 24 * (dp + 1); omega)⟩) (xv_preV (T := TX4) (N := 7) hE hA hS hK hP hD (isC := [0, 1]) (by decide +kernel) hC (q0 := 0) (ci := 4) rfl rfl) rfl rfl hl.1 rfl (lv_room (Nat.le_of_ble_eq_true rfl)) (zdt zkX4_readPlain 156 rfl) ⟨Nat.le_refl _, Nat.le_refl _⟩) hP hD hS hA (by decide +kernel) rfl hC rfl rfl (fun H locs hP hD hS => ?_)
      refine lv_pop hx hb (zdt zkX4_readPlain 159 rfl) rfl ?_
      refine lv_iconst (v := Int32.ofInt 1) hx hb (zdt zkX4_readPlain 160 rfl) rfl ?_
      obtain rfl := Option.some.inj hf
      exact hret _ _ _ _ zz_b1 (zdt zkX4_readPlain 161 rfl) hP hD hS
  have b_37 : ∀ (x1 : Int) (x2 : Int) (i_ordered : Int) (i_at : Int) (i_parts : Int) (i_orders : Nat → Int) (H : Heap) (locs : List Loc) (ls : Array Slot), f_LawReader_readPlain_37 r_LawReader_readTest r_LawReader_readPlain i_tokens i_values x1 x2 i_ordered i_at i_parts i_orders = some out → va_P (dC, dI) vwCl (wd_LawReader_readPlain cA q0 q1 q2 q3 q4 i_tokens i_values i_ordered i_at i_parts i_orders) H → va_D A (wd_LawReader_readPlain cA q0 q1 q2 q3 q4 i_tokens i_values i_ordered i_at i_parts i_orders) → va_S A s.heap H locs → lv_has ls 4 [(0, .ref q0), (1, .int (Int32.ofInt x1)), (2, .int (Int32.ofInt x2))] → W p l e (rmr_LawReader_readTest (dp + 1)) s m args below meth c H locs 0 0 Q (F0 m 37 ls []) := by
    intro x1 x2 i_ordered i_at i_parts i_orders H locs ls hf hP hD hS hl
    unfold f_LawReader_readPlain_37 at hf
    refine lv_aload_n hx hb (zdt zkX4_readPlain 37 rfl) rfl (lv_at hl 0 rfl) ?_
    refine va_get (D := (dC, dI)) (ci := 4) (v := .ref q2) (C := RX4) (T := TX4) (N := 7) hx hb hz zi_X4 hown hK hP 0 rfl rfl 2 (by decide) (hz _ zw_252) (fun _ h9 => h9) rfl (zdt zkX4_readPlain 38 rfl) ?_
    refine lv_aload_n hx hb (zdt zkX4_readPlain 41 rfl) rfl (lv_at hl 0 rfl) ?_
    refine va_get (D := (dC, dI)) (ci := 4) (v := .int (Int32.ofInt i_at)) (C := RX4) (T := TX4) (N := 7) hx hb hz zi_X4 hown hK hP 0 rfl rfl 5 (by decide) (hz _ zw_255) (fun _ h9 => h9) rfl (zdt zkX4_readPlain 42 rfl) ?_
    refine xi_iald hx hb hK hP 2 0 rfl rfl (zdt zkX4_readPlain 45 rfl) hf (fun v1 hf => ?_)
    refine lv_bipush (v := Int32.ofInt 40) hx hb (zdt zkX4_readPlain 46 rfl) (by decide) ?_
    refine xi_icmp_ne (tgt := 87) hx hb (zdt zkX4_readPlain 48 rfl) (by decide) hf (fun hf => ?_) (fun hf => ?_)
    · refine lv_aload_n hx hb (zdt zkX4_readPlain 87 rfl) rfl (lv_at hl 0 rfl) ?_
      refine lv_iload_n hx hb (zdt zkX4_readPlain 88 rfl) rfl (lv_at hl 1 rfl) ?_
      refine xe_d5 hf (fun v2 v3 v4 v5 a6 hg hf => ?_)
      have hC : ([0, 1, 2, 3] : List Nat).map (fun i => (wd_LawReader_readPlain cA q0 q1 q2 q3 q4 i_tokens i_values i_ordered i_at i_parts i_orders)[i]?) = (wd_LawReader_readSum cA q0 q1 q2 q3 q4 i_tokens i_values i_ordered i_at i_parts i_orders).map some := rfl
      refine xv_afterI (ws' := (wd_LawReader_readPlain cA q0 q1 q2 q3 q4 i_tokens i_values v3 v4 v5 a6)) (isC := [0, 1, 2, 3]) (ps := [some 0, some 1, some 2, some 3]) (va_runV (As := [.int (Int32.ofInt x1)]) (rest := []) ⟨hx, hb, hml, hown, hts⟩ (c_LawReader_readSum l ev dC dI cA q0 q1 q2 q3 q4 hg H.size) (cwV 1 hts (zgV zw_756 zw_758 zw_8 zw_107 zw_759) rfl rfl rfl hd_LawReader_readSum ⟨(by show 65 + 1 ≤ 66 + (dp + 1); omega), (by show 8 + (5 + 11) + (1558) ≤ 1582 + 24 * (dp + 1); omega)⟩) (xv_preV (T := TX4) (N := 7) hE hA hS hK hP hD (isC := [0, 1, 2, 3]) (by decide +kernel) hC (q0 := 0) (ci := 4) rfl rfl) rfl rfl hl.1 rfl (lv_room (Nat.le_of_ble_eq_true rfl)) (zdt zkX4_readPlain 89 rfl) ⟨Nat.le_refl _, Nat.le_refl _⟩) hP hD hS hA (by decide +kernel) rfl hC rfl rfl (fun H locs hP hD hS => ?_)
      refine xi_if_ne (tgt := 97) hx hb (zdt zkX4_readPlain 92 rfl) (by decide) hf (fun hf => ?_) (fun hf => ?_)
      · refine lv_aload_n hx hb (zdt zkX4_readPlain 97 rfl) rfl (lv_at hl 0 rfl) ?_
        refine va_get (D := (dC, dI)) (ci := 4) (v := .ref q2) (C := RX4) (T := TX4) (N := 7) hx hb hz zi_X4 hown hK hP 0 rfl rfl 2 (by decide) (hz _ zw_252) (fun _ h9 => h9) rfl (zdt zkX4_readPlain 98 rfl) ?_
        refine lv_aload_n hx hb (zdt zkX4_readPlain 101 rfl) rfl (lv_at hl 0 rfl) ?_
        refine va_get (D := (dC, dI)) (ci := 4) (v := .int (Int32.ofInt v4)) (C := RX4) (T := TX4) (N := 7) hx hb hz zi_X4 hown hK hP 0 rfl rfl 5 (by decide) (hz _ zw_255) (fun _ h9 => h9) rfl (zdt zkX4_readPlain 102 rfl) ?_
        refine xi_iald hx hb hK hP 2 0 rfl rfl (zdt zkX4_readPlain 105 rfl) hf (fun v7 hf => ?_)
        refine xe_d1 hf (fun v8 hg hf => ?_)
        have hC : ([] : List Nat).map (fun i => (wd_LawReader_readPlain cA q0 q1 q2 q3 q4 i_tokens i_values v3 v4 v5 a6)[i]?) = (wd_LawReader_comparisonOf cA).map some := rfl
        refine xv_afterI (ws' := (wd_LawReader_readPlain cA q0 q1 q2 q3 q4 i_tokens i_values v3 v4 v5 a6)) (isC := []) (ps := [none, none, none, none]) (va_runS (As := [.int (Int32.ofInt v7)]) (rest := []) ⟨hx, hb, hml, hown, hts⟩ (c_LawReader_comparisonOf l ev dC dI cA hg H.size) (va_cwS 1 hts (zgS zw_772 zw_773 zw_107 zw_774) rfl rfl rfl hd_LawReader_comparisonOf.2 ⟨(by show 0 + 1 ≤ 66 + (dp + 1); omega), (by show 8 + (1 + 11) + (0) ≤ 1582 + 24 * (dp + 1); omega)⟩) (xv_preS hE hA hS hK hP hD (isC := []) (by decide +kernel) hC) rfl rfl hl.1 rfl (lv_room (Nat.le_of_ble_eq_true rfl)) (zdt zkX4_readPlain 106 rfl) ⟨Nat.le_refl _, Nat.le_refl _⟩) hP hD hS hA (by decide +kernel) rfl hC rfl rfl (fun H locs hP hD hS => ?_)
        refine lv_istore_n (lv' := [(3, .int (Int32.ofInt v8)), (0, .ref q0), (1, .int (Int32.ofInt x1)), (2, .int (Int32.ofInt x2))]) hx hb (zdt zkX4_readPlain 109 rfl) rfl hl (by decide) rfl (fun ls hl => ?_)
        refine lv_iload_n hx hb (zdt zkX4_readPlain 110 rfl) rfl (lv_at hl 0 rfl) ?_
        refine lv_iconst (v := Int32.ofInt (-1)) hx hb (zdt zkX4_readPlain 111 rfl) rfl ?_
        refine xi_icmp_eq (tgt := 139) hx hb (zdt zkX4_readPlain 112 rfl) (by decide) hf (fun hf => ?_) (fun hf => ?_)
        · refine lv_iconst (v := Int32.ofInt 0) hx hb (zdt zkX4_readPlain 139 rfl) rfl ?_
          obtain rfl := Option.some.inj hf
          exact hret _ _ _ _ zz_b0 (zdt zkX4_readPlain 140 rfl) hP hD hS
        · refine lv_aload_n hx hb (zdt zkX4_readPlain 115 rfl) rfl (lv_at hl 1 rfl) ?_
          refine lv_aload_n hx hb (zdt zkX4_readPlain 116 rfl) rfl (lv_at hl 1 rfl) ?_
          refine va_get (D := (dC, dI)) (ci := 4) (v := .ref q2) (C := RX4) (T := TX4) (N := 7) hx hb hz zi_X4 hown hK hP 0 rfl rfl 2 (by decide) (hz _ zw_252) (fun _ h9 => h9) rfl (zdt zkX4_readPlain 117 rfl) ?_
          refine lv_aload_n hx hb (zdt zkX4_readPlain 120 rfl) rfl (lv_at hl 1 rfl) ?_
          refine va_get (D := (dC, dI)) (ci := 4) (v := .int (Int32.ofInt v4)) (C := RX4) (T := TX4) (N := 7) hx hb hz zi_X4 hown hK hP 0 rfl rfl 5 (by decide) (hz _ zw_255) (fun _ h9 => h9) rfl (zdt zkX4_readPlain 121 rfl) ?_
          refine xi_iald hx hb hK hP 2 0 rfl rfl (zdt zkX4_readPlain 124 rfl) hf (fun v9 hf => ?_)
          refine xe_d2 hf (fun v10 v11 hg hf => ?_)
          have hC : ([0, 2] : List Nat).map (fun i => (wd_LawReader_readPlain cA q0 q1 q2 q3 q4 i_tokens i_values v3 v4 v5 a6)[i]?) = (wd_LawReader_pass cA q0 q1 q2 q3 q4 v3 v5 i_tokens v4).map some := rfl
          refine xv_afterI (ws' := (wd_LawReader_readPlain cA q0 q1 q2 q3 q4 i_tokens i_values v3 v11 v5 a6)) (isC := [0, 2]) (ps := [some 0, none, some 1, none]) (va_runV (As := [.int (Int32.ofInt v9)]) (rest := []) ⟨hx, hb, hml, hown, hts⟩ (c_LawReader_pass l ev dC dI cA q0 q1 q2 q3 q4 v3 v5 hg H.size) (cwV 1 hts (zgV zw_752 zw_754 zw_7 zw_107 zw_755) rfl rfl rfl hd_LawReader_pass ⟨(by show 0 + 1 ≤ 66 + (dp + 1); omega), (by show 8 + (2 + 11) + (0) ≤ 1582 + 24 * (dp + 1); omega)⟩) (xv_preV (T := TX4) (N := 7) hE hA hS hK hP hD (isC := [0, 2]) (by decide +kernel) hC (q0 := 0) (ci := 4) rfl rfl) rfl rfl hl.1 rfl (lv_room (Nat.le_of_ble_eq_true rfl)) (zdt zkX4_readPlain 125 rfl) ⟨Nat.le_refl _, Nat.le_refl _⟩) hP hD hS hA (by decide +kernel) rfl hC rfl rfl (fun H locs hP hD hS => ?_)
          refine xi_if_eq (tgt := 139) hx hb (zdt zkX4_readPlain 128 rfl) (by decide) hf (fun hf => ?_) (fun hf => ?_)
          · refine lv_iconst (v := Int32.ofInt 0) hx hb (zdt zkX4_readPlain 139 rfl) rfl ?_
            obtain rfl := Option.some.inj hf
            exact hret _ _ _ _ zz_b0 (zdt zkX4_readPlain 140 rfl) hP hD hS
          · refine lv_aload_n hx hb (zdt zkX4_readPlain 131 rfl) rfl (lv_at hl 1 rfl) ?_
            refine lv_iload_n hx hb (zdt zkX4_readPlain 132 rfl) rfl (lv_at hl 2 rfl) ?_
            refine xe_d5 hf (fun v12 v13 v14 v15 a16 hg hf => ?_)
            have hC : ([0, 1, 2, 3] : List Nat).map (fun i => (wd_LawReader_readPlain cA q0 q1 q2 q3 q4 i_tokens i_values v3 v11 v5 a6)[i]?) = (wd_LawReader_readSum cA q0 q1 q2 q3 q4 i_tokens i_values v3 v11 v5 a6).map some := rfl
            refine xv_afterI (ws' := (wd_LawReader_readPlain cA q0 q1 q2 q3 q4 i_tokens i_values v13 v14 v15 a16)) (isC := [0, 1, 2, 3]) (ps := [some 0, some 1, some 2, some 3]) (va_runV (As := [.int (Int32.ofInt x1)]) (rest := []) ⟨hx, hb, hml, hown, hts⟩ (c_LawReader_readSum l ev dC dI cA q0 q1 q2 q3 q4 hg H.size) (cwV 1 hts (zgV zw_756 zw_758 zw_8 zw_107 zw_759) rfl rfl rfl hd_LawReader_readSum ⟨(by show 65 + 1 ≤ 66 + (dp + 1); omega), (by show 8 + (5 + 11) + (1558) ≤ 1582 + 24 * (dp + 1); omega)⟩) (xv_preV (T := TX4) (N := 7) hE hA hS hK hP hD (isC := [0, 1, 2, 3]) (by decide +kernel) hC (q0 := 0) (ci := 4) rfl rfl) rfl rfl hl.1 rfl (lv_room (Nat.le_of_ble_eq_true rfl)) (zdt zkX4_readPlain 133 rfl) ⟨Nat.le_refl _, Nat.le_refl _⟩) hP hD hS hA (by decide +kernel) rfl hC rfl rfl (fun H locs hP hD hS => ?_)
            refine xi_if_ne (tgt := 141) hx hb (zdt zkX4_readPlain 136 rfl) (by decide) hf (fun hf => ?_) (fun hf => ?_)
            · refine lv_aload_n hx hb (zdt zkX4_readPlain 141 rfl) rfl (lv_at hl 1 rfl) ?_
              refine lv_iload_n hx hb (zdt zkX4_readPlain 142 rfl) rfl (lv_at hl 0 rfl) ?_
              refine lv_iconst (v := Int32.ofInt 0) hx hb (zdt zkX4_readPlain 143 rfl) rfl ?_
              refine xe_d3 hf (fun v17 v18 a19 hg hf => ?_)
              have hC : ([0, 1] : List Nat).map (fun i => (wd_LawReader_readPlain cA q0 q1 q2 q3 q4 i_tokens i_values v13 v14 v15 a16)[i]?) = (wd_LawReader_order cA q0 q1 q2 q3 q4 v14 v15 v13 a16).map some := rfl
              refine xv_afterI (ws' := (wd_LawReader_readPlain cA q0 q1 q2 q3 q4 i_tokens i_values v18 v14 v15 a19)) (isC := [0, 1]) (ps := [some 0, some 1, none, none]) (va_runV (As := [.int (Int32.ofInt v8), .int (Int32.ofInt 0)]) (rest := []) ⟨hx, hb, hml, hown, hts⟩ (c_LawReader_order l ev dC dI cA q0 q1 q2 q3 q4 v14 v15 hg H.size) (cwV 2 hts (zgV zw_748 zw_750 zw_6 zw_107 zw_751) rfl rfl rfl hd_LawReader_order ⟨(by show 0 + 1 ≤ 66 + (dp + 1); omega), (by show 8 + (3 + 11) + (0) ≤ 1582 + 24 * (dp + 1); omega)⟩) (xv_preV (T := TX4) (N := 7) hE hA hS hK hP hD (isC := [0, 1]) (by decide +kernel) hC (q0 := 0) (ci := 4) rfl rfl) rfl rfl hl.1 rfl (lv_room (Nat.le_of_ble_eq_true rfl)) (zdt zkX4_readPlain 144 rfl) ⟨Nat.le_refl _, Nat.le_refl _⟩) hP hD hS hA (by decide +kernel) rfl hC rfl rfl (fun H locs hP hD hS => ?_)
              refine lv_pop hx hb (zdt zkX4_readPlain 147 rfl) rfl ?_
              exact b_148  _ _ _ _ _ _ _ _ hf hP hD hS (lv_sub hl [1, 3] rfl)
            · refine lv_iconst (v := Int32.ofInt 0) hx hb (zdt zkX4_readPlain 139 rfl) rfl ?_
              obtain rfl := Option.some.inj hf
              exact hret _ _ _ _ zz_b0 (zdt zkX4_readPlain 140 rfl) hP hD hS
      · refine lv_iconst (v := Int32.ofInt 0) hx hb (zdt zkX4_readPlain 95 rfl) rfl ?_
        obtain rfl := Option.some.inj hf
        exact hret _ _ _ _ zz_b0 (zdt zkX4_readPlain 96 rfl) hP hD hS
    · refine lv_iload_n hx hb (zdt zkX4_readPlain 51 rfl) rfl (lv_at hl 1 rfl) ?_
      refine lv_bipush (v := Int32.ofInt 8) hx hb (zdt zkX4_readPlain 52 rfl) (by decide) ?_
      refine xi_icmp_ge (tgt := 85) hx hb (zdt zkX4_readPlain 54 rfl) (by decide) hf (fun hf => ?_) (fun hf => ?_)
      · refine lv_iconst (v := Int32.ofInt 0) hx hb (zdt zkX4_readPlain 85 rfl) rfl ?_
        obtain rfl := Option.some.inj hf
        exact hret _ _ _ _ zz_b0 (zdt zkX4_readPlain 86 rfl) hP hD hS
      · refine lv_aload_n hx hb (zdt zkX4_readPlain 57 rfl) rfl (lv_at hl 0 rfl) ?_
        refine lv_bipush (v := Int32.ofInt 40) hx hb (zdt zkX4_readPlain 58 rfl) (by decide) ?_
        refine xe_d2 hf (fun v20 v21 hg hf => ?_)
        have hC : ([0, 2] : List Nat).map (fun i => (wd_LawReader_readPlain cA q0 q1 q2 q3 q4 i_tokens i_values i_ordered i_at i_parts i_orders)[i]?) = (wd_LawReader_pass cA q0 q1 q2 q3 q4 i_ordered i_parts i_tokens i_at).map some := rfl
        refine xv_afterI (ws' := (wd_LawReader_readPlain cA q0 q1 q2 q3 q4 i_tokens i_values i_ordered v21 i_parts i_orders)) (isC := [0, 2]) (ps := [some 0, none, some 1, none]) (va_runV (As := [.int (Int32.ofInt 40)]) (rest := []) ⟨hx, hb, hml, hown, hts⟩ (c_LawReader_pass l ev dC dI cA q0 q1 q2 q3 q4 i_ordered i_parts hg H.size) (cwV 1 hts (zgV zw_752 zw_754 zw_7 zw_107 zw_755) rfl rfl rfl hd_LawReader_pass ⟨(by show 0 + 1 ≤ 66 + (dp + 1); omega), (by show 8 + (2 + 11) + (0) ≤ 1582 + 24 * (dp + 1); omega)⟩) (xv_preV (T := TX4) (N := 7) hE hA hS hK hP hD (isC := [0, 2]) (by decide +kernel) hC (q0 := 0) (ci := 4) rfl rfl) rfl rfl hl.1 rfl (lv_room (Nat.le_of_ble_eq_true rfl)) (zdt zkX4_readPlain 60 rfl) ⟨Nat.le_refl _, Nat.le_refl _⟩) hP hD hS hA (by decide +kernel) rfl hC rfl rfl (fun H locs hP hD hS => ?_)
        refine xi_if_eq (tgt := 85) hx hb (zdt zkX4_readPlain 63 rfl) (by decide) hf (fun hf => ?_) (fun hf => ?_)
        · refine lv_iconst (v := Int32.ofInt 0) hx hb (zdt zkX4_readPlain 85 rfl) rfl ?_
          obtain rfl := Option.some.inj hf
          exact hret _ _ _ _ zz_b0 (zdt zkX4_readPlain 86 rfl) hP hD hS
        · refine lv_aload_n hx hb (zdt zkX4_readPlain 66 rfl) rfl (lv_at hl 0 rfl) ?_
          refine lv_iload_n hx hb (zdt zkX4_readPlain 67 rfl) rfl (lv_at hl 1 rfl) ?_
          refine lv_iconst (v := Int32.ofInt 1) hx hb (zdt zkX4_readPlain 68 rfl) rfl ?_
          refine xi_iadd hx hb (zdt zkX4_readPlain 69 rfl) hf (fun v22 hf => ?_)
          refine xe_d5 hf (fun v23 v24 v25 v26 a27 hg hf => ?_)
          have hC : ([0, 1, 2, 3] : List Nat).map (fun i => (wd_LawReader_readPlain cA q0 q1 q2 q3 q4 i_tokens i_values i_ordered v21 i_parts i_orders)[i]?) = (wd_LawReader_readTest cA q0 q1 q2 q3 q4 i_tokens i_values i_ordered v21 i_parts i_orders).map some := rfl
          refine xv_afterI (ws' := (wd_LawReader_readPlain cA q0 q1 q2 q3 q4 i_tokens i_values v24 v25 v26 a27)) (isC := [0, 1, 2, 3]) (ps := [some 0, some 1, some 2, some 3]) (va_runV (As := [.int (Int32.ofInt v22)]) (rest := []) ⟨hx, hb, hml, hown, hts⟩ (h_LawReader_readTest q0 q1 q2 q3 q4 _ _ _ _ _ _ _ _ hg H.size) (cwV 1 hts (zgV zw_764 zw_766 zw_10 zw_107 zw_767) rfl rfl rfl hd_LawReader_readTest ⟨(by show 66 + dp + 1 ≤ 66 + (dp + 1); omega), (by show 8 + (5 + 11) + (1582 + 24 * dp) ≤ 1582 + 24 * (dp + 1); omega)⟩) (xv_preV (T := TX4) (N := 7) hE hA hS hK hP hD (isC := [0, 1, 2, 3]) (by decide +kernel) hC (q0 := 0) (ci := 4) rfl rfl) rfl rfl hl.1 rfl (lv_room (Nat.le_of_ble_eq_true rfl)) (zdt zkX4_readPlain 70 rfl) ⟨Nat.le_refl _, Nat.le_refl _⟩) hP hD hS hA (by decide +kernel) rfl hC rfl rfl (fun H locs hP hD hS => ?_)
          refine xi_if_eq (tgt := 85) hx hb (zdt zkX4_readPlain 73 rfl) (by decide) hf (fun hf => ?_) (fun hf => ?_)
          · refine lv_iconst (v := Int32.ofInt 0) hx hb (zdt zkX4_readPlain 85 rfl) rfl ?_
            obtain rfl := Option.some.inj hf
            exact hret _ _ _ _ zz_b0 (zdt zkX4_readPlain 86 rfl) hP hD hS
          · refine lv_aload_n hx hb (zdt zkX4_readPlain 76 rfl) rfl (lv_at hl 0 rfl) ?_
            refine lv_bipush (v := Int32.ofInt 41) hx hb (zdt zkX4_readPlain 77 rfl) (by decide) ?_
            refine xe_d2 hf (fun v28 v29 hg hf => ?_)
            have hC : ([0, 2] : List Nat).map (fun i => (wd_LawReader_readPlain cA q0 q1 q2 q3 q4 i_tokens i_values v24 v25 v26 a27)[i]?) = (wd_LawReader_pass cA q0 q1 q2 q3 q4 v24 v26 i_tokens v25).map some := rfl
            refine xv_afterI (ws' := (wd_LawReader_readPlain cA q0 q1 q2 q3 q4 i_tokens i_values v24 v29 v26 a27)) (isC := [0, 2]) (ps := [some 0, none, some 1, none]) (va_runV (As := [.int (Int32.ofInt 41)]) (rest := []) ⟨hx, hb, hml, hown, hts⟩ (c_LawReader_pass l ev dC dI cA q0 q1 q2 q3 q4 v24 v26 hg H.size) (cwV 1 hts (zgV zw_752 zw_754 zw_7 zw_107 zw_755) rfl rfl rfl hd_LawReader_pass ⟨(by show 0 + 1 ≤ 66 + (dp + 1); omega), (by show 8 + (2 + 11) + (0) ≤ 1582 + 24 * (dp + 1); omega)⟩) (xv_preV (T := TX4) (N := 7) hE hA hS hK hP hD (isC := [0, 2]) (by decide +kernel) hC (q0 := 0) (ci := 4) rfl rfl) rfl rfl hl.1 rfl (lv_room (Nat.le_of_ble_eq_true rfl)) (zdt zkX4_readPlain 79 rfl) ⟨Nat.le_refl _, Nat.le_refl _⟩) hP hD hS hA (by decide +kernel) rfl hC rfl rfl (fun H locs hP hD hS => ?_)
            refine xi_if_ne (tgt := 148) hx hb (zdt zkX4_readPlain 82 rfl) (by decide) hf (fun hf => ?_) (fun hf => ?_)
            · exact b_148  _ _ _ _ _ _ _ _ hf hP hD hS (lv_sub hl [0, 2] rfl)
            · refine lv_iconst (v := Int32.ofInt 0) hx hb (zdt zkX4_readPlain 85 rfl) rfl ?_
              obtain rfl := Option.some.inj hf
              exact hret _ _ _ _ zz_b0 (zdt zkX4_readPlain 86 rfl) hP hD hS
  have b_30 : ∀ (k4 : Int → Int → Int → Int → Int → Int → (Nat → Int) → Option (Int × Int × Int × Int × (Nat → Int))) (_ : ∀ (x1 : Int) (x2 : Int) (x3 : Int) (i_ordered : Int) (i_at : Int) (i_parts : Int) (i_orders : Nat → Int) (H : Heap) (locs : List Loc) (ls : Array Slot), k4 x1 x2 x3 i_ordered i_at i_parts i_orders = some out → va_P (dC, dI) vwCl (wd_LawReader_readPlain cA q0 q1 q2 q3 q4 i_tokens i_values i_ordered i_at i_parts i_orders) H → va_D A (wd_LawReader_readPlain cA q0 q1 q2 q3 q4 i_tokens i_values i_ordered i_at i_parts i_orders) → va_S A s.heap H locs → lv_has ls 4 [(0, .ref q0), (1, .int (Int32.ofInt x1)), (2, .int (Int32.ofInt x2)), (3, .int (Int32.ofInt x3))] → W p l e (rmr_LawReader_readTest (dp + 1)) s m args below meth c H locs 0 0 Q (F0 m 4 ls [])), ∀ (x1 : Int) (x3 : Int) (s0 : Int) (i_ordered : Int) (i_at : Int) (i_parts : Int) (i_orders : Nat → Int) (H : Heap) (locs : List Loc) (ls : Array Slot), f_LawReader_readPlain_30 r_LawReader_readTest r_LawReader_readPlain i_tokens i_values k4 x1 x3 s0 i_ordered i_at i_parts i_orders = some out → va_P (dC, dI) vwCl (wd_LawReader_readPlain cA q0 q1 q2 q3 q4 i_tokens i_values i_ordered i_at i_parts i_orders) H → va_D A (wd_LawReader_readPlain cA q0 q1 q2 q3 q4 i_tokens i_values i_ordered i_at i_parts i_orders) → va_S A s.heap H locs → lv_has ls 4 [(0, .ref q0), (1, .int (Int32.ofInt x1)), (3, .int (Int32.ofInt x3))] → W p l e (rmr_LawReader_readTest (dp + 1)) s m args below meth c H locs 0 0 Q (F0 m 30 ls [.int (Int32.ofInt s0)]) := by
    intro k4 ih4 x1 x3 s0 i_ordered i_at i_parts i_orders H locs ls hf hP hD hS hl
    unfold f_LawReader_readPlain_30 at hf
    refine lv_istore_n (lv' := [(2, .int (Int32.ofInt s0)), (0, .ref q0), (1, .int (Int32.ofInt x1)), (3, .int (Int32.ofInt x3))]) hx hb (zdt zkX4_readPlain 30 rfl) rfl hl (by decide) rfl (fun ls hl => ?_)
    refine xi_iinc hx hb (zdt zkX4_readPlain 31 rfl) hl (k := 3) rfl (by decide) hf (fun v1 ls hl hf => ?_)
    have hl : lv_has ls 4 [(3, .int (Int32.ofInt v1)), (2, .int (Int32.ofInt s0)), (0, .ref q0), (1, .int (Int32.ofInt x1))] := hl
    refine lv_goto (tgt := 4) hx hb (zdt zkX4_readPlain 34 rfl) (by decide) ?_
    exact ih4 _ _ _ _ _ _ _ _ _ _ hf hP hD hS (lv_sub hl [2, 3, 1, 0] rfl)
  have b_4 : ∀ (k4 : Int → Int → Int → Int → Int → Int → (Nat → Int) → Option (Int × Int × Int × Int × (Nat → Int))) (_ : ∀ (x1 : Int) (x2 : Int) (x3 : Int) (i_ordered : Int) (i_at : Int) (i_parts : Int) (i_orders : Nat → Int) (H : Heap) (locs : List Loc) (ls : Array Slot), k4 x1 x2 x3 i_ordered i_at i_parts i_orders = some out → va_P (dC, dI) vwCl (wd_LawReader_readPlain cA q0 q1 q2 q3 q4 i_tokens i_values i_ordered i_at i_parts i_orders) H → va_D A (wd_LawReader_readPlain cA q0 q1 q2 q3 q4 i_tokens i_values i_ordered i_at i_parts i_orders) → va_S A s.heap H locs → lv_has ls 4 [(0, .ref q0), (1, .int (Int32.ofInt x1)), (2, .int (Int32.ofInt x2)), (3, .int (Int32.ofInt x3))] → W p l e (rmr_LawReader_readTest (dp + 1)) s m args below meth c H locs 0 0 Q (F0 m 4 ls [])), ∀ (x1 : Int) (x2 : Int) (x3 : Int) (i_ordered : Int) (i_at : Int) (i_parts : Int) (i_orders : Nat → Int) (H : Heap) (locs : List Loc) (ls : Array Slot), f_LawReader_readPlain_4_b r_LawReader_readTest r_LawReader_readPlain i_tokens i_values k4 x1 x2 x3 i_ordered i_at i_parts i_orders = some out → va_P (dC, dI) vwCl (wd_LawReader_readPlain cA q0 q1 q2 q3 q4 i_tokens i_values i_ordered i_at i_parts i_orders) H → va_D A (wd_LawReader_readPlain cA q0 q1 q2 q3 q4 i_tokens i_values i_ordered i_at i_parts i_orders) → va_S A s.heap H locs → lv_has ls 4 [(0, .ref q0), (1, .int (Int32.ofInt x1)), (2, .int (Int32.ofInt x2)), (3, .int (Int32.ofInt x3))] → W p l e (rmr_LawReader_readTest (dp + 1)) s m args below meth c H locs 0 0 Q (F0 m 4 ls []) := by
    intro k4 ih4 x1 x2 x3 i_ordered i_at i_parts i_orders H locs ls hf hP hD hS hl
    unfold f_LawReader_readPlain_4_b at hf
    refine lv_iload_n hx hb (zdt zkX4_readPlain 4 rfl) rfl (lv_at hl 3 rfl) ?_
    refine lv_sipush (v := Int32.ofInt 400) hx hb (zdt zkX4_readPlain 5 rfl) (by decide) ?_
    refine xi_icmp_ge (tgt := 37) hx hb (zdt zkX4_readPlain 8 rfl) (by decide) hf (fun hf => ?_) (fun hf => ?_)
    · exact b_37  _ _ _ _ _ _ _ _ _ hf hP hD hS (lv_sub hl [0, 1, 2] rfl)
    · refine lv_aload_n hx hb (zdt zkX4_readPlain 11 rfl) rfl (lv_at hl 0 rfl) ?_
      refine lv_sipush (v := Int32.ofInt 265) hx hb (zdt zkX4_readPlain 12 rfl) (by decide) ?_
      refine xe_d2 hf (fun v1 v2 hg hf => ?_)
      have hC : ([0, 2] : List Nat).map (fun i => (wd_LawReader_readPlain cA q0 q1 q2 q3 q4 i_tokens i_values i_ordered i_at i_parts i_orders)[i]?) = (wd_LawReader_pass cA q0 q1 q2 q3 q4 i_ordered i_parts i_tokens i_at).map some := rfl
      refine xv_afterI (ws' := (wd_LawReader_readPlain cA q0 q1 q2 q3 q4 i_tokens i_values i_ordered v2 i_parts i_orders)) (isC := [0, 2]) (ps := [some 0, none, some 1, none]) (va_runV (As := [.int (Int32.ofInt 265)]) (rest := []) ⟨hx, hb, hml, hown, hts⟩ (c_LawReader_pass l ev dC dI cA q0 q1 q2 q3 q4 i_ordered i_parts hg H.size) (cwV 1 hts (zgV zw_752 zw_754 zw_7 zw_107 zw_755) rfl rfl rfl hd_LawReader_pass ⟨(by show 0 + 1 ≤ 66 + (dp + 1); omega), (by show 8 + (2 + 11) + (0) ≤ 1582 + 24 * (dp + 1); omega)⟩) (xv_preV (T := TX4) (N := 7) hE hA hS hK hP hD (isC := [0, 2]) (by decide +kernel) hC (q0 := 0) (ci := 4) rfl rfl) rfl rfl hl.1 rfl (lv_room (Nat.le_of_ble_eq_true rfl)) (zdt zkX4_readPlain 15 rfl) ⟨Nat.le_refl _, Nat.le_refl _⟩) hP hD hS hA (by decide +kernel) rfl hC rfl rfl (fun H locs hP hD hS => ?_)
      refine xi_if_eq (tgt := 37) hx hb (zdt zkX4_readPlain 18 rfl) (by decide) hf (fun hf => ?_) (fun hf => ?_)
      · exact b_37  _ _ _ _ _ _ _ _ _ hf hP hD hS (lv_sub hl [0, 1, 2] rfl)
      · refine lv_iload_n hx hb (zdt zkX4_readPlain 21 rfl) rfl (lv_at hl 2 rfl) ?_
        refine xi_if_ne (tgt := 29) hx hb (zdt zkX4_readPlain 22 rfl) (by decide) hf (fun hf => ?_) (fun hf => ?_)
        · refine lv_iconst (v := Int32.ofInt 0) hx hb (zdt zkX4_readPlain 29 rfl) rfl ?_
          exact b_30 _ ih4 _ _ _ _ _ _ _ _ _ _ hf hP hD hS (lv_sub hl [0, 1, 3] rfl)
        · refine lv_iconst (v := Int32.ofInt 1) hx hb (zdt zkX4_readPlain 25 rfl) rfl ?_
          refine lv_goto (tgt := 30) hx hb (zdt zkX4_readPlain 26 rfl) (by decide) ?_
          exact b_30 _ ih4 _ _ _ _ _ _ _ _ _ _ hf hP hD hS (lv_sub hl [0, 1, 3] rfl)
  have l_4 : ∀ (n : Nat), ∀ (x1 : Int) (x2 : Int) (x3 : Int) (i_ordered : Int) (i_at : Int) (i_parts : Int) (i_orders : Nat → Int) (H : Heap) (locs : List Loc) (ls : Array Slot), f_LawReader_readPlain_4 r_LawReader_readTest r_LawReader_readPlain i_tokens i_values n x1 x2 x3 i_ordered i_at i_parts i_orders = some out → va_P (dC, dI) vwCl (wd_LawReader_readPlain cA q0 q1 q2 q3 q4 i_tokens i_values i_ordered i_at i_parts i_orders) H → va_D A (wd_LawReader_readPlain cA q0 q1 q2 q3 q4 i_tokens i_values i_ordered i_at i_parts i_orders) → va_S A s.heap H locs → lv_has ls 4 [(0, .ref q0), (1, .int (Int32.ofInt x1)), (2, .int (Int32.ofInt x2)), (3, .int (Int32.ofInt x3))] → W p l e (rmr_LawReader_readTest (dp + 1)) s m args below meth c H locs 0 0 Q (F0 m 4 ls []) := by
    intro n
    induction n with
    | zero => intro x1 x2 x3 i_ordered i_at i_parts i_orders H locs ls hf hP hD hS hl; exact nomatch hf
    | succ n ih => intro x1 x2 x3 i_ordered i_at i_parts i_orders H locs ls hf hP hD hS hl; exact b_4 (f_LawReader_readPlain_4 r_LawReader_readTest r_LawReader_readPlain i_tokens i_values n) ih x1 x2 x3 i_ordered i_at i_parts i_orders H locs ls hf hP hD hS hl
  unfold fb_LawReader_readPlain at hf
  refine lv_iconst (v := Int32.ofInt 0) hx hb (zdt zkX4_readPlain 0 rfl) rfl ?_
  refine lv_istore_n (lv' := [(2, .int (Int32.ofInt 0)), (0, .ref q0), (1, .int (Int32.ofInt x1))]) hx hb (zdt zkX4_readPlain 1 rfl) rfl hl (by decide) rfl (fun ls hl => ?_)
  refine lv_iconst (v := Int32.ofInt 0) hx hb (zdt zkX4_readPlain 2 rfl) rfl ?_
  refine lv_istore_n (lv' := [(3, .int (Int32.ofInt 0)), (2, .int (Int32.ofInt 0)), (0, .ref q0), (1, .int (Int32.ofInt x1))]) hx hb (zdt zkX4_readPlain 3 rfl) rfl hl (by decide) rfl (fun ls hl => ?_)
  exact l_4  _ _ _ _ _ _ _ _ _ _ _ hf hP hD hS (lv_sub hl [2, 3, 1, 0] rfl)
theorem cg_LawReader_readTest (l : Launch) (ev : zEv) (dC : Nat → ClassId) (dI : Nat → Nat → Nat) (cA : Nat → ClassId) : ∀ n : Nat, (∀ (q0 q1 q2 q3 q4 : Nat) (x1 : Int) (i_tokens : Nat → Int) (i_values : Nat → Int) (i_ordered : Int) (i_at : Int) (i_parts : Int) (i_orders : Nat → Int) (out : Int × Int × Int × Int × (Nat → Int)), (g_LawReader_readTest n).1 x1 i_tokens i_values i_ordered i_at i_parts i_orders = some out → xc_I l ev (dC, dI) vwCl (tyl cA) yX4_readTest w_LawReader_readTest (rmr_LawReader_readTest n) [.ref q0, .int (Int32.ofInt x1)] (wd_LawReader_readTest cA q0 q1 q2 q3 q4 i_tokens i_values i_ordered i_at i_parts i_orders) (wf_LawReader_readTest cA q0 q1 q2 q3 q4 i_tokens i_values out) out.1) ∧ (∀ (q0 q1 q2 q3 q4 : Nat) (x1 : Int) (i_tokens : Nat → Int) (i_values : Nat → Int) (i_ordered : Int) (i_at : Int) (i_parts : Int) (i_orders : Nat → Int) (out : Int × Int × Int × Int × (Nat → Int)), (g_LawReader_readTest n).2 x1 i_tokens i_values i_ordered i_at i_parts i_orders = some out → xc_I l ev (dC, dI) vwCl (tyl cA) yX4_readPlain w_LawReader_readPlain (rmr_LawReader_readTest n) [.ref q0, .int (Int32.ofInt x1)] (wd_LawReader_readPlain cA q0 q1 q2 q3 q4 i_tokens i_values i_ordered i_at i_parts i_orders) (wf_LawReader_readPlain cA q0 q1 q2 q3 q4 i_tokens i_values out) out.1) := by
  intro n
  induction n with
  | zero => exact ⟨fun _ _ _ _ _ _ _ _ _ _ _ _ _ hf => (nomatch hf), fun _ _ _ _ _ _ _ _ _ _ _ _ _ hf => (nomatch hf)⟩
  | succ n ih => exact ⟨cb_LawReader_readTest l ev dC dI cA n _ _ ih.1 ih.2, cb_LawReader_readPlain l ev dC dI cA n _ _ ih.1 ih.2⟩
theorem c_LawReader_readTest (l : Launch) (ev : zEv) (dC : Nat → ClassId) (dI : Nat → Nat → Nat) (cA : Nat → ClassId) (q0 q1 q2 q3 q4 : Nat) {x1 : Int} {i_tokens : Nat → Int} {i_values : Nat → Int} {i_ordered : Int} {i_at : Int} {i_parts : Int} {i_orders : Nat → Int} {out : Int × Int × Int × Int × (Nat → Int)} (hf : f_LawReader_readTest x1 i_tokens i_values i_ordered i_at i_parts i_orders = some out) : xc_I l ev (dC, dI) vwCl (tyl cA) yX4_readTest w_LawReader_readTest rm_LawReader_readTest [.ref q0, .int (Int32.ofInt x1)] (wd_LawReader_readTest cA q0 q1 q2 q3 q4 i_tokens i_values i_ordered i_at i_parts i_orders) (wf_LawReader_readTest cA q0 q1 q2 q3 q4 i_tokens i_values out) out.1 :=
  (cg_LawReader_readTest l ev dC dI cA zdp).1 q0 q1 q2 q3 q4 x1 i_tokens i_values i_ordered i_at i_parts i_orders out hf
theorem c_LawReader_readPlain (l : Launch) (ev : zEv) (dC : Nat → ClassId) (dI : Nat → Nat → Nat) (cA : Nat → ClassId) (q0 q1 q2 q3 q4 : Nat) {x1 : Int} {i_tokens : Nat → Int} {i_values : Nat → Int} {i_ordered : Int} {i_at : Int} {i_parts : Int} {i_orders : Nat → Int} {out : Int × Int × Int × Int × (Nat → Int)} (hf : f_LawReader_readPlain x1 i_tokens i_values i_ordered i_at i_parts i_orders = some out) : xc_I l ev (dC, dI) vwCl (tyl cA) yX4_readPlain w_LawReader_readPlain rm_LawReader_readPlain [.ref q0, .int (Int32.ofInt x1)] (wd_LawReader_readPlain cA q0 q1 q2 q3 q4 i_tokens i_values i_ordered i_at i_parts i_orders) (wf_LawReader_readPlain cA q0 q1 q2 q3 q4 i_tokens i_values out) out.1 :=
  (cg_LawReader_readTest l ev dC dI cA zdp).2 q0 q1 q2 q3 q4 x1 i_tokens i_values i_ordered i_at i_parts i_orders out hf
set_option maxRecDepth 100000 in
noncomputable def ztX4_readClause (p : Nat) : Option (Jvm.ClassFile.Instr × Nat) := bif Nat.ble 52 p then (bif Nat.ble 73 p then (bif Nat.ble 85 p then (bif Nat.ble 90 p then (bif Nat.ble 94 p then (bif Nat.ble 95 p then (bif Nat.beq p 95 then some (.ireturn, 1) else none) else (bif Nat.beq p 94 then some (.iconst 1, 1) else none)) else (bif Nat.ble 91 p then (bif Nat.beq p 91 then some (.invokevirtual 64, 3) else none) else (bif Nat.beq p 90 then some (.iload_n 1, 1) else none))) else (bif Nat.ble 88 p then (bif Nat.ble 89 p then (bif Nat.beq p 89 then some (.aload_n 0, 1) else none) else (bif Nat.beq p 88 then some (.pop, 1) else none)) else (bif Nat.beq p 85 then some (.invokevirtual 55, 3) else none))) else (bif Nat.ble 79 p then (bif Nat.ble 82 p then (bif Nat.ble 84 p then (bif Nat.beq p 84 then some (.iconst 0, 1) else none) else (bif Nat.beq p 82 then some (.bipush 14, 2) else none)) else (bif Nat.beq p 79 then some (.goto 5, 3) else none)) else (bif Nat.ble 74 p then (bif Nat.ble 77 p then (bif Nat.beq p 77 then some (.bipush 13, 2) else none) else (bif Nat.beq p 74 then some (.ifCond .eq 8, 3) else none)) else (bif Nat.beq p 73 then some (.iload_n 2, 1) else none)))) else (bif Nat.ble 62 p then (bif Nat.ble 67 p then (bif Nat.ble 71 p then (bif Nat.ble 72 p then (bif Nat.beq p 72 then some (.aload_n 0, 1) else none) else (bif Nat.beq p 71 then some (.ireturn, 1) else none)) else (bif Nat.ble 70 p then (bif Nat.beq p 70 then some (.iconst 0, 1) else none) else (bif Nat.beq p 67 then some (.ifCond .ne 5, 3) else none))) else (bif Nat.ble 63 p then (bif Nat.ble 64 p then (bif Nat.beq p 64 then some (.invokevirtual 61, 3) else none) else (bif Nat.beq p 63 then some (.iconst 0, 1) else none)) else (bif Nat.beq p 62 then some (.aload_n 0, 1) else none))) else (bif Nat.ble 55 p then (bif Nat.ble 58 p then (bif Nat.ble 59 p then (bif Nat.beq p 59 then some (.goto 13, 3) else none) else (bif Nat.beq p 58 then some (.pop, 1) else none)) else (bif Nat.beq p 55 then some (.invokevirtual 55, 3) else none)) else (bif Nat.ble 53 p then (bif Nat.ble 54 p then (bif Nat.beq p 54 then some (.iconst 1, 1) else none) else (bif Nat.beq p 53 then some (.iconst 1, 1) else none)) else (bif Nat.beq p 52 then some (.aload_n 0, 1) else none))))) else (bif Nat.ble 21 p then (bif Nat.ble 37 p then (bif Nat.ble 42 p then (bif Nat.ble 46 p then (bif Nat.ble 49 p then (bif Nat.beq p 49 then some (.ifCond .ne 13, 3) else none) else (bif Nat.beq p 46 then some (.invokevirtual 51, 3) else none)) else (bif Nat.ble 43 p then (bif Nat.beq p 43 then some (.sipush 262, 3) else none) else (bif Nat.beq p 42 then some (.aload_n 0, 1) else none))) else (bif Nat.ble 40 p then (bif Nat.ble 41 p then (bif Nat.beq p 41 then some (.ireturn, 1) else none) else (bif Nat.beq p 40 then some (.iconst 0, 1) else none)) else (bif Nat.beq p 37 then some (.ifCond .ne 5, 3) else none))) else (bif Nat.ble 30 p then (bif Nat.ble 31 p then (bif Nat.ble 34 p then (bif Nat.beq p 34 then some (.invokevirtual 51, 3) else none) else (bif Nat.beq p 31 then some (.sipush 261, 3) else none)) else (bif Nat.beq p 30 then some (.aload_n 0, 1) else none)) else (bif Nat.ble 24 p then (bif Nat.ble 27 p then (bif Nat.beq p 27 then some (.goto 13, 3) else none) else (bif Nat.beq p 24 then some (.ifCond .ne 18, 3) else none)) else (bif Nat.beq p 21 then some (.invokevirtual 58, 3) else none)))) else (bif Nat.ble 8 p then (bif Nat.ble 15 p then (bif Nat.ble 19 p then (bif Nat.ble 20 p then (bif Nat.beq p 20 then some (.iconst 0, 1) else none) else (bif Nat.beq p 19 then some (.aload_n 0, 1) else none)) else (bif Nat.ble 16 p then (bif Nat.beq p 16 then some (.ifCond .eq 14, 3) else none) else (bif Nat.beq p 15 then some (.iload_n 2, 1) else none))) else (bif Nat.ble 11 p then (bif Nat.ble 14 p then (bif Nat.beq p 14 then some (.istore_n 2, 1) else none) else (bif Nat.beq p 11 then some (.invokevirtual 51, 3) else none)) else (bif Nat.beq p 8 then some (.sipush 260, 3) else none))) else (bif Nat.ble 3 p then (bif Nat.ble 6 p then (bif Nat.ble 7 p then (bif Nat.beq p 7 then some (.aload_n 0, 1) else none) else (bif Nat.beq p 6 then some (.istore_n 1, 1) else none)) else (bif Nat.beq p 3 then some (.invokevirtual 55, 3) else none)) else (bif Nat.ble 1 p then (bif Nat.ble 2 p then (bif Nat.beq p 2 then some (.iconst 0, 1) else none) else (bif Nat.beq p 1 then some (.iconst 0, 1) else none)) else (bif Nat.beq p 0 then some (.aload_n 0, 1) else none)))))
set_option maxRecDepth 100000 in
theorem zkX4_readClause : (zbig cX4_readClause.data.toList = 1043198774092539979456246110929439000291795361001277053652236300423340675401493053086319581361297743671536290746625687846736473201344009432177956984351355623442741697838227543293673010583509089035852441170960941384979368147866026794 ∧ cX4_readClause.data.toList.length = 96) ∧ zdk cX4_readClause 1043198774092539979456246110929439000291795361001277053652236300423340675401493053086319581361297743671536290746625687846736473201344009432177956984351355623442741697838227543293673010583509089035852441170960941384979368147866026794 96 ztX4_readClause 95 = true := by decide +kernel
theorem zw_747 : (Jvm.Cond.code ({ cls := "HillSchool$LawReader", name := "readClause", desc := "()Z" } : Jvm.MethodName) prog_6_method_3_code (3 : Nat) (Option.some Jvm.ClassFile.FieldType.boolean)) ∈ zall := zmemG (zmj_3 164 rfl) rfl
noncomputable abbrev w_LawReader_readClause : List Cond := .code yX4_readClause cX4_readClause 3 (some .boolean) :: zall
noncomputable abbrev rm_LawReader_readClause : Room := { frames := 131, cells := 0, slots := 0, locals := 3142 }
theorem hd_LawReader_readClause : yX4_readClause.cls = "HillSchool$LawReader" ∧ yX4_readClause.cls ≠ "java/lang/invoke/MethodHandle" ∧ yX4_readClause.cls ≠ "java/lang/invoke/VarHandle" ∧ (parseMethodDescriptor yX4_readClause.desc).map (fun d => d.parameters.length) = some 0 := by decide +kernel
noncomputable def wd_LawReader_readClause (cA : Nat → ClassId) (q0 q1 q2 q3 q4 : Nat) (i_tokens : Nat → Int) (i_values : Nat → Int) (i_ordered : Int) (i_at : Int) (i_parts : Int) (i_orders : Nat → Int) : va_W := [(q0, .inr (4, [.ref q1, .int (Int32.ofInt i_ordered), .ref q2, .ref q3, .ref q4, .int (Int32.ofInt i_at), .int (Int32.ofInt i_parts)])), (q1, .inl (cA 0, 424, .inl (za i_orders))), (q2, .inl (cA 0, 401, .inl (za i_tokens))), (q4, .inl (cA 0, 401, .inl (za i_values)))]
noncomputable def wf_LawReader_readClause (cA : Nat → ClassId) (q0 q1 q2 q3 q4 : Nat) (i_tokens : Nat → Int) (i_values : Nat → Int) (o : Int × Int × Int × Int × (Nat → Int)) : va_W := wd_LawReader_readClause cA q0 q1 q2 q3 q4 i_tokens i_values o.2.1 o.2.2.1 o.2.2.2.1 o.2.2.2.2
noncomputable def f_LawReader_readClause_84 (i_tokens : Nat → Int) (i_values : Nat → Int) (x1 : Int) (s1 : Int) (i_ordered : Int) (i_at : Int) (i_parts : Int) (i_orders : Nat → Int) : Option (Int × Int × Int × Int × (Nat → Int)) :=
  zd3 (f_LawReader_order s1 0 i_ordered i_orders) fun v1 v2 a3 =>
  zd1 (f_LawReader_aimHere x1 v2 a3) fun a4 =>
  some (1, v2, i_at, i_parts, a4)
noncomputable def f_LawReader_readClause_72 (i_tokens : Nat → Int) (i_values : Nat → Int) (x1 : Int) (x2 : Int) (i_ordered : Int) (i_at : Int) (i_parts : Int) (i_orders : Nat → Int) : Option (Int × Int × Int × Int × (Nat → Int)) :=
  if zi_w x2 = 0 then
    f_LawReader_readClause_84 i_tokens i_values x1 14 i_ordered i_at i_parts i_orders
  else
    f_LawReader_readClause_84 i_tokens i_values x1 13 i_ordered i_at i_parts i_orders
noncomputable def f_LawReader_readClause_42 (i_tokens : Nat → Int) (i_values : Nat → Int) (x1 : Int) (x2 : Int) (i_ordered : Int) (i_at : Int) (i_parts : Int) (i_orders : Nat → Int) : Option (Int × Int × Int × Int × (Nat → Int)) :=
  zd2 (f_LawReader_pass 262 i_tokens i_at) fun v1 v2 =>
  if zi_w v1 ≠ 0 then
    zd5 (f_LawReader_readTest 0 i_tokens i_values i_ordered v2 i_parts i_orders) fun v3 v4 v5 v6 a7 =>
    if zi_w v3 ≠ 0 then
      f_LawReader_readClause_72 i_tokens i_values x1 x2 v4 v5 v6 a7
    else
      some (0, v4, v5, v6, a7)
  else
    zd3 (f_LawReader_order 1 1 i_ordered i_orders) fun v8 v9 a10 =>
    f_LawReader_readClause_72 i_tokens i_values x1 x2 v9 v2 i_parts a10
noncomputable def f_LawReader_readClause (i_tokens : Nat → Int) (i_values : Nat → Int) (i_ordered : Int) (i_at : Int) (i_parts : Int) (i_orders : Nat → Int) : Option (Int × Int × Int × Int × (Nat → Int)) :=
  zd3 (f_LawReader_order 0 0 i_ordered i_orders) fun v1 v2 a3 =>
  zd2 (f_LawReader_pass 260 i_tokens i_at) fun v4 v5 =>
  if zi_w v4 = 0 then
    zd2 (f_LawReader_pass 261 i_tokens v5) fun v6 v7 =>
    if zi_w v6 ≠ 0 then
      f_LawReader_readClause_42 i_tokens i_values v1 v4 v2 v7 i_parts a3
    else
      some (0, v2, v7, i_parts, a3)
  else
    zd5 (f_LawReader_readSum 0 i_tokens i_values v2 v5 i_parts a3) fun v8 v9 v10 v11 a12 =>
    if zi_w v8 ≠ 0 then
      f_LawReader_readClause_42 i_tokens i_values v1 v4 v9 v10 v11 a12
    else
      some (0, v9, v10, v11, a12)
set_option maxHeartbeats 4000000 in
set_option maxRecDepth 100000 in
theorem c_LawReader_readClause (l : Launch) (ev : zEv) (dC : Nat → ClassId) (dI : Nat → Nat → Nat) (cA : Nat → ClassId) (q0 q1 q2 q3 q4 : Nat) {i_tokens : Nat → Int} {i_values : Nat → Int} {i_ordered : Int} {i_at : Int} {i_parts : Int} {i_orders : Nat → Int} {out : Int × Int × Int × Int × (Nat → Int)} (hf : f_LawReader_readClause i_tokens i_values i_ordered i_at i_parts i_orders = some out) : xc_I l ev (dC, dI) vwCl (tyl cA) yX4_readClause w_LawReader_readClause rm_LawReader_readClause [.ref q0] (wd_LawReader_readClause cA q0 q1 q2 q3 q4 i_tokens i_values i_ordered i_at i_parts i_orders) (wf_LawReader_readClause cA q0 q1 q2 q3 q4 i_tokens i_values out) out.1 := by
  refine xv_startI (cc := cX4_readClause) (maxL := 3) (rt := .boolean) (by decide +kernel) rfl (Nat.le_of_ble_eq_true rfl) ?_
  intro p e s m args below meth c A Q H ls hx hb hml hts hown hK hA hP hD hS hl hE hret
  have hown : s.vm.findClass "HillSchool$LawReader" = some m.cls := hown
  have hz : ∀ w ∈ zall, w.before args s = true := fun w h => hts w (List.mem_cons_of_mem _ h)
  have hl : lv_has ls 3 [(0, .ref q0)] := hl
  have b_84 : ∀ (x1 : Int) (s1 : Int) (i_ordered : Int) (i_at : Int) (i_parts : Int) (i_orders : Nat → Int) (H : Heap) (locs : List Loc) (ls : Array Slot), f_LawReader_readClause_84 i_tokens i_values x1 s1 i_ordered i_at i_parts i_orders = some out → va_P (dC, dI) vwCl (wd_LawReader_readClause cA q0 q1 q2 q3 q4 i_tokens i_values i_ordered i_at i_parts i_orders) H → va_D A (wd_LawReader_readClause cA q0 q1 q2 q3 q4 i_tokens i_values i_ordered i_at i_parts i_orders) → va_S A s.heap H locs → lv_has ls 3 [(0, .ref q0), (1, .int (Int32.ofInt x1))] → W p l e rm_LawReader_readClause s m args below meth c H locs 0 0 Q (F0 m 84 ls [.int (Int32.ofInt s1), .ref q0]) := by
    intro x1 s1 i_ordered i_at i_parts i_orders H locs ls hf hP hD hS hl
    unfold f_LawReader_readClause_84 at hf
    refine lv_iconst (v := Int32.ofInt 0) hx hb (zdt zkX4_readClause 84 rfl) rfl ?_
    refine xe_d3 hf (fun v1 v2 a3 hg hf => ?_)
    have hC : ([0, 1] : List Nat).map (fun i => (wd_LawReader_readClause cA q0 q1 q2 q3 q4 i_tokens i_values i_ordered i_at i_parts i_orders)[i]?) = (wd_LawReader_order cA q0 q1 q2 q3 q4 i_at i_parts i_ordered i_orders).map some := rfl
    refine xv_afterI (ws' := (wd_LawReader_readClause cA q0 q1 q2 q3 q4 i_tokens i_values v2 i_at i_parts a3)) (isC := [0, 1]) (ps := [some 0, some 1, none, none]) (va_runV (As := [.int (Int32.ofInt s1), .int (Int32.ofInt 0)]) (rest := []) ⟨hx, hb, hml, hown, hts⟩ (c_LawReader_order l ev dC dI cA q0 q1 q2 q3 q4 i_at i_parts hg H.size) (cwV 2 hts (zgV zw_748 zw_750 zw_6 zw_107 zw_751) rfl rfl rfl hd_LawReader_order ⟨Nat.le_of_ble_eq_true rfl, Nat.le_of_ble_eq_true rfl⟩) (xv_preV (T := TX4) (N := 7) hE hA hS hK hP hD (isC := [0, 1]) (by decide +kernel) hC (q0 := 0) (ci := 4) rfl rfl) rfl rfl hl.1 rfl (lv_room (Nat.le_of_ble_eq_true rfl)) (zdt zkX4_readClause 85 rfl) ⟨Nat.le_refl _, Nat.le_refl _⟩) hP hD hS hA (by decide +kernel) rfl hC rfl rfl (fun H locs hP hD hS => ?_)
    refine lv_pop hx hb (zdt zkX4_readClause 88 rfl) rfl ?_
    refine lv_aload_n hx hb (zdt zkX4_readClause 89 rfl) rfl (lv_at hl 0 rfl) ?_
    refine lv_iload_n hx hb (zdt zkX4_readClause 90 rfl) rfl (lv_at hl 1 rfl) ?_
    refine xe_d1 hf (fun a4 hg hf => ?_)
    have hC : ([0, 1] : List Nat).map (fun i => (wd_LawReader_readClause cA q0 q1 q2 q3 q4 i_tokens i_values v2 i_at i_parts a3)[i]?) = (wd_LawReader_aimHere cA q0 q1 q2 q3 q4 i_at i_parts v2 a3).map some := rfl
    refine xv_afterV (ws' := (wd_LawReader_readClause cA q0 q1 q2 q3 q4 i_tokens i_values v2 i_at i_parts a4)) (isC := [0, 1]) (ps := [some 0, some 1, none, none]) (va_runV (As := [.int (Int32.ofInt x1)]) (rest := []) ⟨hx, hb, hml, hown, hts⟩ (c_LawReader_aimHere l ev dC dI cA q0 q1 q2 q3 q4 i_at i_parts hg H.size) (cwV 1 hts (zgV zw_775 zw_777 zw_12 zw_107 zw_778) rfl rfl rfl hd_LawReader_aimHere ⟨Nat.le_of_ble_eq_true rfl, Nat.le_of_ble_eq_true rfl⟩) (xv_preV (T := TX4) (N := 7) hE hA hS hK hP hD (isC := [0, 1]) (by decide +kernel) hC (q0 := 0) (ci := 4) rfl rfl) rfl rfl hl.1 rfl (lv_room (Nat.le_of_ble_eq_true rfl)) (zdt zkX4_readClause 91 rfl) ⟨Nat.le_refl _, Nat.le_refl _⟩) hP hD hS hA (by decide +kernel) rfl hC rfl rfl (fun H locs hP hD hS => ?_)
    refine lv_iconst (v := Int32.ofInt 1) hx hb (zdt zkX4_readClause 94 rfl) rfl ?_
    obtain rfl := Option.some.inj hf
    exact hret _ _ _ _ zz_b1 (zdt zkX4_readClause 95 rfl) hP hD hS
  have b_72 : ∀ (x1 : Int) (x2 : Int) (i_ordered : Int) (i_at : Int) (i_parts : Int) (i_orders : Nat → Int) (H : Heap) (locs : List Loc) (ls : Array Slot), f_LawReader_readClause_72 i_tokens i_values x1 x2 i_ordered i_at i_parts i_orders = some out → va_P (dC, dI) vwCl (wd_LawReader_readClause cA q0 q1 q2 q3 q4 i_tokens i_values i_ordered i_at i_parts i_orders) H → va_D A (wd_LawReader_readClause cA q0 q1 q2 q3 q4 i_tokens i_values i_ordered i_at i_parts i_orders) → va_S A s.heap H locs → lv_has ls 3 [(0, .ref q0), (1, .int (Int32.ofInt x1)), (2, .int (Int32.ofInt x2))] → W p l e rm_LawReader_readClause s m args below meth c H locs 0 0 Q (F0 m 72 ls []) := by
    intro x1 x2 i_ordered i_at i_parts i_orders H locs ls hf hP hD hS hl
    unfold f_LawReader_readClause_72 at hf
    refine lv_aload_n hx hb (zdt zkX4_readClause 72 rfl) rfl (lv_at hl 0 rfl) ?_
    refine lv_iload_n hx hb (zdt zkX4_readClause 73 rfl) rfl (lv_at hl 2 rfl) ?_
    refine xi_if_eq (tgt := 82) hx hb (zdt zkX4_readClause 74 rfl) (by decide) hf (fun hf => ?_) (fun hf => ?_)
    · refine lv_bipush (v := Int32.ofInt 14) hx hb (zdt zkX4_readClause 82 rfl) (by decide) ?_
      exact b_84  _ _ _ _ _ _ _ _ _ hf hP hD hS (lv_sub hl [0, 1] rfl)
    · refine lv_bipush (v := Int32.ofInt 13) hx hb (zdt zkX4_readClause 77 rfl) (by decide) ?_
      refine lv_goto (tgt := 84) hx hb (zdt zkX4_readClause 79 rfl) (by decide) ?_
      exact b_84  _ _ _ _ _ _ _ _ _ hf hP hD hS (lv_sub hl [0, 1] rfl)
  have b_42 : ∀ (x1 : Int) (x2 : Int) (i_ordered : Int) (i_at : Int) (i_parts : Int) (i_orders : Nat → Int) (H : Heap) (locs : List Loc) (ls : Array Slot), f_LawReader_readClause_42 i_tokens i_values x1 x2 i_ordered i_at i_parts i_orders = some out → va_P (dC, dI) vwCl (wd_LawReader_readClause cA q0 q1 q2 q3 q4 i_tokens i_values i_ordered i_at i_parts i_orders) H → va_D A (wd_LawReader_readClause cA q0 q1 q2 q3 q4 i_tokens i_values i_ordered i_at i_parts i_orders) → va_S A s.heap H locs → lv_has ls 3 [(0, .ref q0), (1, .int (Int32.ofInt x1)), (2, .int (Int32.ofInt x2))] → W p l e rm_LawReader_readClause s m args below meth c H locs 0 0 Q (F0 m 42 ls []) := by
    intro x1 x2 i_ordered i_at i_parts i_orders H locs ls hf hP hD hS hl
    unfold f_LawReader_readClause_42 at hf
    refine lv_aload_n hx hb (zdt zkX4_readClause 42 rfl) rfl (lv_at hl 0 rfl) ?_
    refine lv_sipush (v := Int32.ofInt 262) hx hb (zdt zkX4_readClause 43 rfl) (by decide) ?_
    refine xe_d2 hf (fun v1 v2 hg hf => ?_)
    have hC : ([0, 2] : List Nat).map (fun i => (wd_LawReader_readClause cA q0 q1 q2 q3 q4 i_tokens i_values i_ordered i_at i_parts i_orders)[i]?) = (wd_LawReader_pass cA q0 q1 q2 q3 q4 i_ordered i_parts i_tokens i_at).map some := rfl
    refine xv_afterI (ws' := (wd_LawReader_readClause cA q0 q1 q2 q3 q4 i_tokens i_values i_ordered v2 i_parts i_orders)) (isC := [0, 2]) (ps := [some 0, none, some 1, none]) (va_runV (As := [.int (Int32.ofInt 262)]) (rest := []) ⟨hx, hb, hml, hown, hts⟩ (c_LawReader_pass l ev dC dI cA q0 q1 q2 q3 q4 i_ordered i_parts hg H.size) (cwV 1 hts (zgV zw_752 zw_754 zw_7 zw_107 zw_755) rfl rfl rfl hd_LawReader_pass ⟨Nat.le_of_ble_eq_true rfl, Nat.le_of_ble_eq_true rfl⟩) (xv_preV (T := TX4) (N := 7) hE hA hS hK hP hD (isC := [0, 2]) (by decide +kernel) hC (q0 := 0) (ci := 4) rfl rfl) rfl rfl hl.1 rfl (lv_room (Nat.le_of_ble_eq_true rfl)) (zdt zkX4_readClause 46 rfl) ⟨Nat.le_refl _, Nat.le_refl _⟩) hP hD hS hA (by decide +kernel) rfl hC rfl rfl (fun H locs hP hD hS => ?_)
    refine xi_if_ne (tgt := 62) hx hb (zdt zkX4_readClause 49 rfl) (by decide) hf (fun hf => ?_) (fun hf => ?_)
    · refine lv_aload_n hx hb (zdt zkX4_readClause 62 rfl) rfl (lv_at hl 0 rfl) ?_
      refine lv_iconst (v := Int32.ofInt 0) hx hb (zdt zkX4_readClause 63 rfl) rfl ?_
      refine xe_d5 hf (fun v3 v4 v5 v6 a7 hg hf => ?_)
      have hC : ([0, 1, 2, 3] : List Nat).map (fun i => (wd_LawReader_readClause cA q0 q1 q2 q3 q4 i_tokens i_values i_ordered v2 i_parts i_orders)[i]?) = (wd_LawReader_readTest cA q0 q1 q2 q3 q4 i_tokens i_values i_ordered v2 i_parts i_orders).map some := rfl
      refine xv_afterI (ws' := (wd_LawReader_readClause cA q0 q1 q2 q3 q4 i_tokens i_values v4 v5 v6 a7)) (isC := [0, 1, 2, 3]) (ps := [some 0, some 1, some 2, some 3]) (va_runV (As := [.int (Int32.ofInt 0)]) (rest := []) ⟨hx, hb, hml, hown, hts⟩ (c_LawReader_readTest l ev dC dI cA q0 q1 q2 q3 q4 hg H.size) (cwV 1 hts (zgV zw_764 zw_766 zw_10 zw_107 zw_767) rfl rfl rfl hd_LawReader_readTest ⟨Nat.le_of_ble_eq_true rfl, Nat.le_of_ble_eq_true rfl⟩) (xv_preV (T := TX4) (N := 7) hE hA hS hK hP hD (isC := [0, 1, 2, 3]) (by decide +kernel) hC (q0 := 0) (ci := 4) rfl rfl) rfl rfl hl.1 rfl (lv_room (Nat.le_of_ble_eq_true rfl)) (zdt zkX4_readClause 64 rfl) ⟨Nat.le_refl _, Nat.le_refl _⟩) hP hD hS hA (by decide +kernel) rfl hC rfl rfl (fun H locs hP hD hS => ?_)
      refine xi_if_ne (tgt := 72) hx hb (zdt zkX4_readClause 67 rfl) (by decide) hf (fun hf => ?_) (fun hf => ?_)
      · exact b_72  _ _ _ _ _ _ _ _ _ hf hP hD hS (lv_sub hl [0, 1, 2] rfl)
      · refine lv_iconst (v := Int32.ofInt 0) hx hb (zdt zkX4_readClause 70 rfl) rfl ?_
        obtain rfl := Option.some.inj hf
        exact hret _ _ _ _ zz_b0 (zdt zkX4_readClause 71 rfl) hP hD hS
    · refine lv_aload_n hx hb (zdt zkX4_readClause 52 rfl) rfl (lv_at hl 0 rfl) ?_
      refine lv_iconst (v := Int32.ofInt 1) hx hb (zdt zkX4_readClause 53 rfl) rfl ?_
      refine lv_iconst (v := Int32.ofInt 1) hx hb (zdt zkX4_readClause 54 rfl) rfl ?_
      refine xe_d3 hf (fun v8 v9 a10 hg hf => ?_)
      have hC : ([0, 1] : List Nat).map (fun i => (wd_LawReader_readClause cA q0 q1 q2 q3 q4 i_tokens i_values i_ordered v2 i_parts i_orders)[i]?) = (wd_LawReader_order cA q0 q1 q2 q3 q4 v2 i_parts i_ordered i_orders).map some := rfl
      refine xv_afterI (ws' := (wd_LawReader_readClause cA q0 q1 q2 q3 q4 i_tokens i_values v9 v2 i_parts a10)) (isC := [0, 1]) (ps := [some 0, some 1, none, none]) (va_runV (As := [.int (Int32.ofInt 1), .int (Int32.ofInt 1)]) (rest := []) ⟨hx, hb, hml, hown, hts⟩ (c_LawReader_order l ev dC dI cA q0 q1 q2 q3 q4 v2 i_parts hg H.size) (cwV 2 hts (zgV zw_748 zw_750 zw_6 zw_107 zw_751) rfl rfl rfl hd_LawReader_order ⟨Nat.le_of_ble_eq_true rfl, Nat.le_of_ble_eq_true rfl⟩) (xv_preV (T := TX4) (N := 7) hE hA hS hK hP hD (isC := [0, 1]) (by decide +kernel) hC (q0 := 0) (ci := 4) rfl rfl) rfl rfl hl.1 rfl (lv_room (Nat.le_of_ble_eq_true rfl)) (zdt zkX4_readClause 55 rfl) ⟨Nat.le_refl _, Nat.le_refl _⟩) hP hD hS hA (by decide +kernel) rfl hC rfl rfl (fun H locs hP hD hS => ?_)
      refine lv_pop hx hb (zdt zkX4_readClause 58 rfl) rfl ?_
      refine lv_goto (tgt := 72) hx hb (zdt zkX4_readClause 59 rfl) (by decide) ?_
      exact b_72  _ _ _ _ _ _ _ _ _ hf hP hD hS (lv_sub hl [0, 1, 2] rfl)
  unfold f_LawReader_readClause at hf
  refine lv_aload_n hx hb (zdt zkX4_readClause 0 rfl) rfl (lv_at hl 0 rfl) ?_
  refine lv_iconst (v := Int32.ofInt 0) hx hb (zdt zkX4_readClause 1 rfl) rfl ?_
  refine lv_iconst (v := Int32.ofInt 0) hx hb (zdt zkX4_readClause 2 rfl) rfl ?_
  refine xe_d3 hf (fun v1 v2 a3 hg hf => ?_)
  have hC : ([0, 1] : List Nat).map (fun i => (wd_LawReader_readClause cA q0 q1 q2 q3 q4 i_tokens i_values i_ordered i_at i_parts i_orders)[i]?) = (wd_LawReader_order cA q0 q1 q2 q3 q4 i_at i_parts i_ordered i_orders).map some := rfl
  refine xv_afterI (ws' := (wd_LawReader_readClause cA q0 q1 q2 q3 q4 i_tokens i_values v2 i_at i_parts a3)) (isC := [0, 1]) (ps := [some 0, some 1, none, none]) (va_runV (As := [.int (Int32.ofInt 0), .int (Int32.ofInt 0)]) (rest := []) ⟨hx, hb, hml, hown, hts⟩ (c_LawReader_order l ev dC dI cA q0 q1 q2 q3 q4 i_at i_parts hg H.size) (cwV 2 hts (zgV zw_748 zw_750 zw_6 zw_107 zw_751) rfl rfl rfl hd_LawReader_order ⟨Nat.le_of_ble_eq_true rfl, Nat.le_of_ble_eq_true rfl⟩) (xv_preV (T := TX4) (N := 7) hE hA hS hK hP hD (isC := [0, 1]) (by decide +kernel) hC (q0 := 0) (ci := 4) rfl rfl) rfl rfl hl.1 rfl (lv_room (Nat.le_of_ble_eq_true rfl)) (zdt zkX4_readClause 3 rfl) ⟨Nat.le_refl _, Nat.le_refl _⟩) hP hD hS hA (by decide +kernel) rfl hC rfl rfl (fun H locs hP hD hS => ?_)
  refine lv_istore_n (lv' := [(1, .int (Int32.ofInt v1)), (0, .ref q0)]) hx hb (zdt zkX4_readClause 6 rfl) rfl hl (by decide) rfl (fun ls hl => ?_)
  refine lv_aload_n hx hb (zdt zkX4_readClause 7 rfl) rfl (lv_at hl 1 rfl) ?_
  refine lv_sipush (v := Int32.ofInt 260) hx hb (zdt zkX4_readClause 8 rfl) (by decide) ?_
  refine xe_d2 hf (fun v4 v5 hg hf => ?_)
  have hC : ([0, 2] : List Nat).map (fun i => (wd_LawReader_readClause cA q0 q1 q2 q3 q4 i_tokens i_values v2 i_at i_parts a3)[i]?) = (wd_LawReader_pass cA q0 q1 q2 q3 q4 v2 i_parts i_tokens i_at).map some := rfl
  refine xv_afterI (ws' := (wd_LawReader_readClause cA q0 q1 q2 q3 q4 i_tokens i_values v2 v5 i_parts a3)) (isC := [0, 2]) (ps := [some 0, none, some 1, none]) (va_runV (As := [.int (Int32.ofInt 260)]) (rest := []) ⟨hx, hb, hml, hown, hts⟩ (c_LawReader_pass l ev dC dI cA q0 q1 q2 q3 q4 v2 i_parts hg H.size) (cwV 1 hts (zgV zw_752 zw_754 zw_7 zw_107 zw_755) rfl rfl rfl hd_LawReader_pass ⟨Nat.le_of_ble_eq_true rfl, Nat.le_of_ble_eq_true rfl⟩) (xv_preV (T := TX4) (N := 7) hE hA hS hK hP hD (isC := [0, 2]) (by decide +kernel) hC (q0 := 0) (ci := 4) rfl rfl) rfl rfl hl.1 rfl (lv_room (Nat.le_of_ble_eq_true rfl)) (zdt zkX4_readClause 11 rfl) ⟨Nat.le_refl _, Nat.le_refl _⟩) hP hD hS hA (by decide +kernel) rfl hC rfl rfl (fun H locs hP hD hS => ?_)
  refine lv_istore_n (lv' := [(2, .int (Int32.ofInt v4)), (1, .int (Int32.ofInt v1)), (0, .ref q0)]) hx hb (zdt zkX4_readClause 14 rfl) rfl hl (by decide) rfl (fun ls hl => ?_)
  refine lv_iload_n hx hb (zdt zkX4_readClause 15 rfl) rfl (lv_at hl 0 rfl) ?_
  refine xi_if_eq (tgt := 30) hx hb (zdt zkX4_readClause 16 rfl) (by decide) hf (fun hf => ?_) (fun hf => ?_)
  · refine lv_aload_n hx hb (zdt zkX4_readClause 30 rfl) rfl (lv_at hl 2 rfl) ?_
    refine lv_sipush (v := Int32.ofInt 261) hx hb (zdt zkX4_readClause 31 rfl) (by decide) ?_
    refine xe_d2 hf (fun v6 v7 hg hf => ?_)
    have hC : ([0, 2] : List Nat).map (fun i => (wd_LawReader_readClause cA q0 q1 q2 q3 q4 i_tokens i_values v2 v5 i_parts a3)[i]?) = (wd_LawReader_pass cA q0 q1 q2 q3 q4 v2 i_parts i_tokens v5).map some := rfl
    refine xv_afterI (ws' := (wd_LawReader_readClause cA q0 q1 q2 q3 q4 i_tokens i_values v2 v7 i_parts a3)) (isC := [0, 2]) (ps := [some 0, none, some 1, none]) (va_runV (As := [.int (Int32.ofInt 261)]) (rest := []) ⟨hx, hb, hml, hown, hts⟩ (c_LawReader_pass l ev dC dI cA q0 q1 q2 q3 q4 v2 i_parts hg H.size) (cwV 1 hts (zgV zw_752 zw_754 zw_7 zw_107 zw_755) rfl rfl rfl hd_LawReader_pass ⟨Nat.le_of_ble_eq_true rfl, Nat.le_of_ble_eq_true rfl⟩) (xv_preV (T := TX4) (N := 7) hE hA hS hK hP hD (isC := [0, 2]) (by decide +kernel) hC (q0 := 0) (ci := 4) rfl rfl) rfl rfl hl.1 rfl (lv_room (Nat.le_of_ble_eq_true rfl)) (zdt zkX4_readClause 34 rfl) ⟨Nat.le_refl _, Nat.le_refl _⟩) hP hD hS hA (by decide +kernel) rfl hC rfl rfl (fun H locs hP hD hS => ?_)
    refine xi_if_ne (tgt := 42) hx hb (zdt zkX4_readClause 37 rfl) (by decide) hf (fun hf => ?_) (fun hf => ?_)
    · exact b_42  _ _ _ _ _ _ _ _ _ hf hP hD hS (lv_sub hl [2, 1, 0] rfl)
    · refine lv_iconst (v := Int32.ofInt 0) hx hb (zdt zkX4_readClause 40 rfl) rfl ?_
      obtain rfl := Option.some.inj hf
      exact hret _ _ _ _ zz_b0 (zdt zkX4_readClause 41 rfl) hP hD hS
  · refine lv_aload_n hx hb (zdt zkX4_readClause 19 rfl) rfl (lv_at hl 2 rfl) ?_
    refine lv_iconst (v := Int32.ofInt 0) hx hb (zdt zkX4_readClause 20 rfl) rfl ?_
    refine xe_d5 hf (fun v8 v9 v10 v11 a12 hg hf => ?_)
    have hC : ([0, 1, 2, 3] : List Nat).map (fun i => (wd_LawReader_readClause cA q0 q1 q2 q3 q4 i_tokens i_values v2 v5 i_parts a3)[i]?) = (wd_LawReader_readSum cA q0 q1 q2 q3 q4 i_tokens i_values v2 v5 i_parts a3).map some := rfl
    refine xv_afterI (ws' := (wd_LawReader_readClause cA q0 q1 q2 q3 q4 i_tokens i_values v9 v10 v11 a12)) (isC := [0, 1, 2, 3]) (ps := [some 0, some 1, some 2, some 3]) (va_runV (As := [.int (Int32.ofInt 0)]) (rest := []) ⟨hx, hb, hml, hown, hts⟩ (c_LawReader_readSum l ev dC dI cA q0 q1 q2 q3 q4 hg H.size) (cwV 1 hts (zgV zw_756 zw_758 zw_8 zw_107 zw_759) rfl rfl rfl hd_LawReader_readSum ⟨Nat.le_of_ble_eq_true rfl, Nat.le_of_ble_eq_true rfl⟩) (xv_preV (T := TX4) (N := 7) hE hA hS hK hP hD (isC := [0, 1, 2, 3]) (by decide +kernel) hC (q0 := 0) (ci := 4) rfl rfl) rfl rfl hl.1 rfl (lv_room (Nat.le_of_ble_eq_true rfl)) (zdt zkX4_readClause 21 rfl) ⟨Nat.le_refl _, Nat.le_refl _⟩) hP hD hS hA (by decide +kernel) rfl hC rfl rfl (fun H locs hP hD hS => ?_)
    refine xi_if_ne (tgt := 42) hx hb (zdt zkX4_readClause 24 rfl) (by decide) hf (fun hf => ?_) (fun hf => ?_)
    · exact b_42  _ _ _ _ _ _ _ _ _ hf hP hD hS (lv_sub hl [2, 1, 0] rfl)
    · refine lv_goto (tgt := 40) hx hb (zdt zkX4_readClause 27 rfl) (by decide) ?_
      refine lv_iconst (v := Int32.ofInt 0) hx hb (zdt zkX4_readClause 40 rfl) rfl ?_
      obtain rfl := Option.some.inj hf
      exact hret _ _ _ _ zz_b0 (zdt zkX4_readClause 41 rfl) hP hD hS
set_option maxRecDepth 100000 in
noncomputable def ztX4_isLetter (p : Nat) : Option (Jvm.ClassFile.Instr × Nat) := bif Nat.ble 9 p then (bif Nat.ble 13 p then (bif Nat.ble 16 p then (bif Nat.ble 17 p then (bif Nat.beq p 17 then some (.ireturn, 1) else none) else (bif Nat.beq p 16 then some (.iconst 0, 1) else none)) else (bif Nat.beq p 13 then some (.goto 4, 3) else none)) else (bif Nat.ble 12 p then (bif Nat.beq p 12 then some (.iconst 1, 1) else none) else (bif Nat.beq p 9 then some (.if_icmp .gt 7, 3) else none))) else (bif Nat.ble 3 p then (bif Nat.ble 6 p then (bif Nat.ble 7 p then (bif Nat.beq p 7 then some (.bipush 122, 2) else none) else (bif Nat.beq p 6 then some (.iload_n 0, 1) else none)) else (bif Nat.beq p 3 then some (.if_icmp .lt 13, 3) else none)) else (bif Nat.ble 1 p then (bif Nat.beq p 1 then some (.bipush 97, 2) else none) else (bif Nat.beq p 0 then some (.iload_n 0, 1) else none)))
set_option maxRecDepth 100000 in
theorem zkX4_isLetter : (zbig cX4_isLetter.data.toList = 14984339347662989861900144620790095621984282 ∧ cX4_isLetter.data.toList.length = 18) ∧ zdk cX4_isLetter 14984339347662989861900144620790095621984282 18 ztX4_isLetter 17 = true := by decide +kernel
theorem zw_662 : (Jvm.Cond.code ({ cls := "HillSchool$LawReader", name := "isLetter", desc := "(I)Z" } : Jvm.MethodName) prog_6_method_14_code (1 : Nat) (Option.some Jvm.ClassFile.FieldType.boolean)) ∈ zall := zmemG (zmj_3 79 rfl) rfl
noncomputable abbrev w_LawReader_isLetter : List Cond := .code yX4_isLetter cX4_isLetter 1 (some .boolean) :: zall
noncomputable abbrev rm_LawReader_isLetter : Room := { frames := 0, cells := 0, slots := 0, locals := 0 }
theorem hd_LawReader_isLetter : yX4_isLetter.cls = yX4_isLetter.cls ∧ yX4_isLetter.cls ≠ "java/lang/invoke/MethodHandle" ∧ yX4_isLetter.cls ≠ "java/lang/invoke/VarHandle" ∧ (parseMethodDescriptor yX4_isLetter.desc).map (fun d => d.parameters.length) = some 1 := by decide +kernel
noncomputable def wd_LawReader_isLetter (cA : Nat → ClassId)   : va_W := []
noncomputable def wf_LawReader_isLetter (cA : Nat → ClassId)  (o : Int) : va_W := wd_LawReader_isLetter cA
noncomputable def f_LawReader_isLetter (x0 : Int) : Option (Int) :=
  if zi_w x0 < zi_w 97 then
    some 0
  else
    if zi_w 122 < zi_w x0 then
      some 0
    else
      some 1
set_option maxHeartbeats 4000000 in
set_option maxRecDepth 100000 in
theorem c_LawReader_isLetter (l : Launch) (ev : zEv) (dC : Nat → ClassId) (dI : Nat → Nat → Nat) (cA : Nat → ClassId) {x0 : Int} {out : Int} (hf : f_LawReader_isLetter x0 = some out) : xc_I l ev (dC, dI) vwCl (tyl cA) yX4_isLetter w_LawReader_isLetter rm_LawReader_isLetter [.int (Int32.ofInt x0)] (wd_LawReader_isLetter cA) (wf_LawReader_isLetter cA out) out := by
  refine xv_startI (cc := cX4_isLetter) (maxL := 1) (rt := .boolean) (by decide +kernel) rfl (Nat.le_of_ble_eq_true rfl) ?_
  intro p e s m args below meth c A Q H ls hx hb hml hts hown hK hA hP hD hS hl hE hret
  have hown : s.vm.findClass "HillSchool$LawReader" = some m.cls := hown
  have hz : ∀ w ∈ zall, w.before args s = true := fun w h => hts w (List.mem_cons_of_mem _ h)
  have hl : lv_has ls 1 [(0, .int (Int32.ofInt x0))] := hl
  unfold f_LawReader_isLetter at hf
  refine lv_iload_n hx hb (zdt zkX4_isLetter 0 rfl) rfl (lv_at hl 0 rfl) ?_
  refine lv_bipush (v := Int32.ofInt 97) hx hb (zdt zkX4_isLetter 1 rfl) (by decide) ?_
  refine xi_icmp_lt (tgt := 16) hx hb (zdt zkX4_isLetter 3 rfl) (by decide) hf (fun hf => ?_) (fun hf => ?_)
  · refine lv_iconst (v := Int32.ofInt 0) hx hb (zdt zkX4_isLetter 16 rfl) rfl ?_
    obtain rfl := Option.some.inj hf
    exact hret _ _ _ _ zz_b0 (zdt zkX4_isLetter 17 rfl) hP hD hS
  · refine lv_iload_n hx hb (zdt zkX4_isLetter 6 rfl) rfl (lv_at hl 0 rfl) ?_
    refine lv_bipush (v := Int32.ofInt 122) hx hb (zdt zkX4_isLetter 7 rfl) (by decide) ?_
    refine xi_icmp_gt (tgt := 16) hx hb (zdt zkX4_isLetter 9 rfl) (by decide) hf (fun hf => ?_) (fun hf => ?_)
    · refine lv_iconst (v := Int32.ofInt 0) hx hb (zdt zkX4_isLetter 16 rfl) rfl ?_
      obtain rfl := Option.some.inj hf
      exact hret _ _ _ _ zz_b0 (zdt zkX4_isLetter 17 rfl) hP hD hS
    · refine lv_iconst (v := Int32.ofInt 1) hx hb (zdt zkX4_isLetter 12 rfl) rfl ?_
      refine lv_goto (tgt := 17) hx hb (zdt zkX4_isLetter 13 rfl) (by decide) ?_
      obtain rfl := Option.some.inj hf
      exact hret _ _ _ _ zz_b1 (zdt zkX4_isLetter 17 rfl) hP hD hS
set_option maxRecDepth 100000 in
noncomputable def ztJ0_coder_7d493 (p : Nat) : Option (Jvm.ClassFile.Instr × Nat) := bif Nat.ble 7 p then (bif Nat.ble 13 p then (bif Nat.ble 14 p then (bif Nat.beq p 14 then some (.ireturn, 1) else none) else (bif Nat.beq p 13 then some (.iconst 1, 1) else none)) else (bif Nat.ble 10 p then (bif Nat.beq p 10 then some (.goto 4, 3) else none) else (bif Nat.beq p 7 then some (.getfield 15, 3) else none))) else (bif Nat.ble 3 p then (bif Nat.ble 6 p then (bif Nat.beq p 6 then some (.aload_n 0, 1) else none) else (bif Nat.beq p 3 then some (.ifCond .eq 10, 3) else none)) else (bif Nat.beq p 0 then some (.getstatic 38, 3) else none))
set_option maxRecDepth 100000 in
theorem zkJ0_coder_7d493 : (zbig cJ0_coder_7d493.data.toList = 893156506421016476201377522195497138 ∧ cJ0_coder_7d493.data.toList.length = 15) ∧ zdk cJ0_coder_7d493 893156506421016476201377522195497138 15 ztJ0_coder_7d493 14 = true := by decide +kernel
theorem zw_687 : (Jvm.Cond.code ({ cls := "java/lang/String", name := "coder", desc := "()B" } : Jvm.MethodName) prog_16_method_152_code (1 : Nat) (Option.some Jvm.ClassFile.FieldType.byte)) ∈ zall := zmemG (zmj_3 104 rfl) rfl
theorem zw_688 : (Jvm.Cond.fieldLink "java/lang/String" (38 : Nat) "java/lang/String" "COMPACT_STRINGS" "Z") ∈ zall := zmemG (zmj_3 105 rfl) rfl
theorem zw_1789 : (Jvm.Cond.fieldLink "java/lang/String" (15 : Nat) "java/lang/String" "coder" "B") ∈ zall := zmemG (zmj_8 6 rfl) rfl
noncomputable abbrev w_String_coder : List Cond := .code yJ0_coder_7d493 cJ0_coder_7d493 1 (some .byte) :: zall
noncomputable abbrev rm_String_coder : Room := { frames := 0, cells := 0, slots := 0, locals := 0 }
theorem hd_String_coder : yJ0_coder_7d493.cls = "java/lang/String" ∧ yJ0_coder_7d493.cls ≠ "java/lang/invoke/MethodHandle" ∧ yJ0_coder_7d493.cls ≠ "java/lang/invoke/VarHandle" ∧ (parseMethodDescriptor yJ0_coder_7d493.desc).map (fun d => d.parameters.length) = some 0 := by decide +kernel
noncomputable def wd_String_coder (cA : Nat → ClassId)   : va_W := []
noncomputable def wf_String_coder (cA : Nat → ClassId)  (o : Int) : va_W := wd_String_coder cA
noncomputable def f_String_coder (w0 : Nat) : Option (Int) :=
  if zi_w 1 = 0 then
    some 1
  else
    some 0
set_option maxHeartbeats 4000000 in
set_option maxRecDepth 100000 in
theorem c_String_coder (l : Launch) (ev : zEv) (dC : Nat → ClassId) (dI : Nat → Nat → Nat) (cA : Nat → ClassId) (w0 : Nat) (hw0 : w0 < 14) {out : Int} (hf : f_String_coder w0 = some out) : xc_I l ev (dC, dI) vwCl (tyl cA) yJ0_coder_7d493 w_String_coder rm_String_coder [.ref (ev.2.1 w0)] (wd_String_coder cA) (wf_String_coder cA out) out := by
  refine xv_startI (cc := cJ0_coder_7d493) (maxL := 1) (rt := .byte) (by decide +kernel) rfl (Nat.le_of_ble_eq_true rfl) ?_
  intro p e s m args below meth c A Q H ls hx hb hml hts hown hK hA hP hD hS hl hE hret
  have hown : s.vm.findClass "java/lang/String" = some m.cls := hown
  have hz : ∀ w ∈ zall, w.before args s = true := fun w h => hts w (List.mem_cons_of_mem _ h)
  have hl : lv_has ls 1 [(0, .ref (ev.2.1 w0))] := hl
  unfold f_String_coder at hf
  refine va_gets (v := .int (Int32.ofInt 1)) hx hb hE.2.2.1 hS hown (hz _ zw_688) (fun _ h9 => h9) (zdt zkJ0_coder_7d493 0 rfl) ?_
  refine xi_if_eq (tgt := 13) hx hb (zdt zkJ0_coder_7d493 3 rfl) (by decide) hf (fun hf => ?_) (fun hf => ?_)
  · refine lv_iconst (v := Int32.ofInt 1) hx hb (zdt zkJ0_coder_7d493 13 rfl) rfl ?_
    obtain rfl := Option.some.inj hf
    exact hret _ _ _ _ (by decide +kernel) (zdt zkJ0_coder_7d493 14 rfl) hP hD hS
  · refine lv_aload_n hx hb (zdt zkJ0_coder_7d493 6 rfl) rfl (lv_at hl 0 rfl) ?_
    refine vk_getf (v := .int (Int32.ofInt 0)) hx hb (hE.2.2.2.2.1 w0 hw0).2.1 hS hown (hz _ zw_1789) (fun _ h9 => h9) (zdt zkJ0_coder_7d493 7 rfl) ?_
    refine lv_goto (tgt := 14) hx hb (zdt zkJ0_coder_7d493 10 rfl) (by decide) ?_
    obtain rfl := Option.some.inj hf
    exact hret _ _ _ _ (by decide +kernel) (zdt zkJ0_coder_7d493 14 rfl) hP hD hS
set_option maxRecDepth 100000 in
noncomputable def ztJ0_length_8abf5 (p : Nat) : Option (Jvm.ClassFile.Instr × Nat) := bif Nat.ble 5 p then (bif Nat.ble 9 p then (bif Nat.ble 10 p then (bif Nat.beq p 10 then some (.ireturn, 1) else none) else (bif Nat.beq p 9 then some (.ishr, 1) else none)) else (bif Nat.ble 6 p then (bif Nat.beq p 6 then some (.invokevirtual 335, 3) else none) else (bif Nat.beq p 5 then some (.aload_n 0, 1) else none))) else (bif Nat.ble 1 p then (bif Nat.ble 4 p then (bif Nat.beq p 4 then some (.arraylength, 1) else none) else (bif Nat.beq p 1 then some (.getfield 9, 3) else none)) else (bif Nat.beq p 0 then some (.aload_n 0, 1) else none))
set_option maxRecDepth 100000 in
theorem zkJ0_length_8abf5 : (zbig cJ0_length_8abf5.data.toList = 208512827100741173302572074 ∧ cJ0_length_8abf5.data.toList.length = 11) ∧ zdk cJ0_length_8abf5 208512827100741173302572074 11 ztJ0_length_8abf5 10 = true := by decide +kernel
theorem zw_117 : (Jvm.Cond.initialized "java/lang/String") ∈ zall := zmemG (zmj_1 14 rfl) rfl
theorem zw_683 : (Jvm.Cond.code ({ cls := "java/lang/String", name := "length", desc := "()I" } : Jvm.MethodName) prog_16_method_54_code (1 : Nat) (Option.some Jvm.ClassFile.FieldType.int)) ∈ zall := zmemG (zmj_3 100 rfl) rfl
theorem zw_684 : (Jvm.Cond.methodLink "java/lang/String" (335 : Nat) ({ cls := "java/lang/String", name := "coder", desc := "()B" } : Jvm.MethodName)) ∈ zall := zmemG (zmj_3 101 rfl) rfl
theorem zw_685 : (Jvm.Cond.instanceMethod ({ cls := "java/lang/String", name := "coder", desc := "()B" } : Jvm.MethodName)) ∈ zall := zmemG (zmj_3 102 rfl) rfl
theorem zw_686 : (Jvm.Cond.selects "java/lang/String" ({ cls := "java/lang/String", name := "coder", desc := "()B" } : Jvm.MethodName) ({ cls := "java/lang/String", name := "coder", desc := "()B" } : Jvm.MethodName)) ∈ zall := zmemG (zmj_3 103 rfl) rfl
theorem zw_1788 : (Jvm.Cond.fieldLink "java/lang/String" (9 : Nat) "java/lang/String" "value" "[B") ∈ zall := zmemG (zmj_8 5 rfl) rfl
noncomputable abbrev w_String_length : List Cond := .code yJ0_length_8abf5 cJ0_length_8abf5 1 (some .int) :: zall
noncomputable abbrev rm_String_length : Room := { frames := 1, cells := 0, slots := 0, locals := 20 }
theorem hd_String_length : yJ0_length_8abf5.cls = "java/lang/String" ∧ yJ0_length_8abf5.cls ≠ "java/lang/invoke/MethodHandle" ∧ yJ0_length_8abf5.cls ≠ "java/lang/invoke/VarHandle" ∧ (parseMethodDescriptor yJ0_length_8abf5.desc).map (fun d => d.parameters.length) = some 0 := by decide +kernel
noncomputable def wd_String_length (cA : Nat → ClassId)   : va_W := []
noncomputable def wf_String_length (cA : Nat → ClassId)  (o : Int) : va_W := wd_String_length cA
noncomputable def f_String_length (w0 : Nat) : Option (Int) :=
  zn (zsl w0) fun v1 =>
  zd1 (f_String_coder w0) fun v2 =>
  zn (zi_shr v1 v2) fun v3 =>
  some v3
set_option maxHeartbeats 4000000 in
set_option maxRecDepth 100000 in
theorem c_String_length (l : Launch) (ev : zEv) (dC : Nat → ClassId) (dI : Nat → Nat → Nat) (cA : Nat → ClassId) (w0 : Nat) (hw0 : w0 < 14) {out : Int} (hf : f_String_length w0 = some out) : xc_I l ev (dC, dI) vwCl (tyl cA) yJ0_length_8abf5 w_String_length rm_String_length [.ref (ev.2.1 w0)] (wd_String_length cA) (wf_String_length cA out) out := by
  refine xv_startI (cc := cJ0_length_8abf5) (maxL := 1) (rt := .int) (by decide +kernel) rfl (Nat.le_of_ble_eq_true rfl) ?_
  intro p e s m args below meth c A Q H ls hx hb hml hts hown hK hA hP hD hS hl hE hret
  have hown : s.vm.findClass "java/lang/String" = some m.cls := hown
  have hz : ∀ w ∈ zall, w.before args s = true := fun w h => hts w (List.mem_cons_of_mem _ h)
  have hl : lv_has ls 1 [(0, .ref (ev.2.1 w0))] := hl
  unfold f_String_length at hf
  refine lv_aload_n hx hb (zdt zkJ0_length_8abf5 0 rfl) rfl (lv_at hl 0 rfl) ?_
  refine vk_getf (v := .ref (ev.2.2 w0)) hx hb (hE.2.2.2.2.1 w0 hw0).2.2.1 hS hown (hz _ zw_1788) (fun _ h9 => h9) (zdt zkJ0_length_8abf5 1 rfl) ?_
  refine xi_slen hx hb (hE.2.2.2.2.1 w0 hw0).2.2.2 hS (zdt zkJ0_length_8abf5 4 rfl) hf (fun v1 hf => ?_)
  refine lv_aload_n hx hb (zdt zkJ0_length_8abf5 5 rfl) rfl (lv_at hl 0 rfl) ?_
  refine xe_d1 hf (fun v2 hg hf => ?_)
  have hC : ([] : List Nat).map (fun i => (wd_String_length cA)[i]?) = (wd_String_coder cA).map some := rfl
  refine xv_afterI (ws' := (wd_String_length cA)) (isC := []) (ps := []) (va_runV (As := []) (rest := [.int (Int32.ofInt v1)]) ⟨hx, hb, hml, hown, hts⟩ (c_String_coder l ev dC dI cA w0 hw0 hg H.size) (cwV 0 hts (zgV zw_684 zw_685 zw_686 zw_117 zw_687) rfl rfl rfl hd_String_coder ⟨Nat.le_of_ble_eq_true rfl, Nat.le_of_ble_eq_true rfl⟩) (xv_preK (vk_recv hE.2.2.2.2 hw0 hS) hE hA hS hK hP hD (isC := []) (by decide +kernel) hC) rfl rfl hl.1 rfl (lv_room (Nat.le_of_ble_eq_true rfl)) (zdt zkJ0_length_8abf5 6 rfl) ⟨Nat.le_refl _, Nat.le_refl _⟩) hP hD hS hA (by decide +kernel) rfl hC rfl rfl (fun H locs hP hD hS => ?_)
  refine xi_ishr hx hb (zdt zkJ0_length_8abf5 9 rfl) hf (fun v3 hf => ?_)
  obtain rfl := Option.some.inj hf
  exact hret _ _ _ _ rfl (zdt zkJ0_length_8abf5 10 rfl) hP hD hS
set_option maxRecDepth 100000 in
noncomputable def ztJ3_checkIndex_8e157 (p : Nat) : Option (Jvm.ClassFile.Instr × Nat) := bif Nat.ble 9 p then (bif Nat.ble 12 p then (bif Nat.ble 16 p then (bif Nat.ble 17 p then (bif Nat.beq p 17 then some (.ireturn, 1) else none) else (bif Nat.beq p 16 then some (.iload_n 0, 1) else none)) else (bif Nat.beq p 12 then some (.invokestatic 95, 3) else none)) else (bif Nat.ble 10 p then (bif Nat.ble 11 p then (bif Nat.beq p 11 then some (.iload_n 1, 1) else none) else (bif Nat.beq p 10 then some (.iload_n 0, 1) else none)) else (bif Nat.beq p 9 then some (.aload_n 2, 1) else none))) else (bif Nat.ble 4 p then (bif Nat.ble 5 p then (bif Nat.ble 6 p then (bif Nat.beq p 6 then some (.if_icmp .lt 10, 3) else none) else (bif Nat.beq p 5 then some (.iload_n 1, 1) else none)) else (bif Nat.beq p 4 then some (.iload_n 0, 1) else none)) else (bif Nat.ble 1 p then (bif Nat.beq p 1 then some (.ifCond .lt 8, 3) else none) else (bif Nat.beq p 0 then some (.iload_n 0, 1) else none)))
set_option maxRecDepth 100000 in
theorem zkJ3_checkIndex_8e157 : (zbig cJ3_checkIndex_8e157.data.toList = 14992414897632689672647637554223206233053978 ∧ cJ3_checkIndex_8e157.data.toList.length = 18) ∧ zdk cJ3_checkIndex_8e157 14992414897632689672647637554223206233053978 18 ztJ3_checkIndex_8e157 17 = true := by decide +kernel
theorem zw_708 : (Jvm.Cond.code ({ cls := "jdk/internal/util/Preconditions", name := "checkIndex", desc := "(IILjava/util/function/BiFunction;)I" } : Jvm.MethodName) prog_21_method_11_code (3 : Nat) (Option.some Jvm.ClassFile.FieldType.int)) ∈ zall := zmemG (zmj_3 125 rfl) rfl
noncomputable abbrev w_Preconditions_checkIndex_nN : List Cond := .code yJ3_checkIndex_8e157 cJ3_checkIndex_8e157 3 (some .int) :: zall
noncomputable abbrev rm_Preconditions_checkIndex_nN : Room := { frames := 0, cells := 0, slots := 0, locals := 0 }
theorem hd_Preconditions_checkIndex_nN : yJ3_checkIndex_8e157.cls = yJ3_checkIndex_8e157.cls ∧ yJ3_checkIndex_8e157.cls ≠ "java/lang/invoke/MethodHandle" ∧ yJ3_checkIndex_8e157.cls ≠ "java/lang/invoke/VarHandle" ∧ (parseMethodDescriptor yJ3_checkIndex_8e157.desc).map (fun d => d.parameters.length) = some 3 := by decide +kernel
noncomputable def wd_Preconditions_checkIndex_nN (cA : Nat → ClassId)   : va_W := []
noncomputable def wf_Preconditions_checkIndex_nN (cA : Nat → ClassId)  (o : Int) : va_W := wd_Preconditions_checkIndex_nN cA
noncomputable def f_Preconditions_checkIndex_nN_9  (x0 : Int) (x1 : Int) : Option (Int) :=
  none
noncomputable def f_Preconditions_checkIndex_nN (x0 : Int) (x1 : Int) : Option (Int) :=
  if zi_w x0 < 0 then
    f_Preconditions_checkIndex_nN_9 x0 x1
  else
    if zi_w x0 < zi_w x1 then
      some x0
    else
      f_Preconditions_checkIndex_nN_9 x0 x1
set_option maxHeartbeats 4000000 in
set_option maxRecDepth 100000 in
theorem c_Preconditions_checkIndex_nN (l : Launch) (ev : zEv) (dC : Nat → ClassId) (dI : Nat → Nat → Nat) (cA : Nat → ClassId) {x0 x1 : Int} {out : Int} (hf : f_Preconditions_checkIndex_nN x0 x1 = some out) : xc_I l ev (dC, dI) vwCl (tyl cA) yJ3_checkIndex_8e157 w_Preconditions_checkIndex_nN rm_Preconditions_checkIndex_nN [.int (Int32.ofInt x0), .int (Int32.ofInt x1), .null] (wd_Preconditions_checkIndex_nN cA) (wf_Preconditions_checkIndex_nN cA out) out := by
  refine xv_startI (cc := cJ3_checkIndex_8e157) (maxL := 3) (rt := .int) (by decide +kernel) rfl (Nat.le_of_ble_eq_true rfl) ?_
  intro p e s m args below meth c A Q H ls hx hb hml hts hown hK hA hP hD hS hl hE hret
  have hown : s.vm.findClass "jdk/internal/util/Preconditions" = some m.cls := hown
  have hz : ∀ w ∈ zall, w.before args s = true := fun w h => hts w (List.mem_cons_of_mem _ h)
  have hl : lv_has ls 3 [(0, .int (Int32.ofInt x0)), (1, .int (Int32.ofInt x1)), (2, .null)] := hl
  have b_9 : ∀ (x0 : Int) (x1 : Int) (H : Heap) (locs : List Loc) (ls : Array Slot), f_Preconditions_checkIndex_nN_9 x0 x1 = some out → va_P (dC, dI) vwCl (wd_Preconditions_checkIndex_nN cA) H → va_D A (wd_Preconditions_checkIndex_nN cA) → va_S A s.heap H locs → lv_has ls 3 [(0, .int (Int32.ofInt x0)), (1, .int (Int32.ofInt x1)), (2, .null)] → W p l e rm_Preconditions_checkIndex_nN s m args below meth c H locs 0 0 Q (F0 m 9 ls []) := by
    intro x0 x1 H locs ls hf hP hD hS hl
    unfold f_Preconditions_checkIndex_nN_9 at hf
    exact nomatch hf
  unfold f_Preconditions_checkIndex_nN at hf
  refine lv_iload_n hx hb (zdt zkJ3_checkIndex_8e157 0 rfl) rfl (lv_at hl 0 rfl) ?_
  refine xi_if_lt (tgt := 9) hx hb (zdt zkJ3_checkIndex_8e157 1 rfl) (by decide) hf (fun hf => ?_) (fun hf => ?_)
  · exact b_9  _ _ _ _ _ hf hP hD hS (lv_sub hl [0, 1, 2] rfl)
  · refine lv_iload_n hx hb (zdt zkJ3_checkIndex_8e157 4 rfl) rfl (lv_at hl 0 rfl) ?_
    refine lv_iload_n hx hb (zdt zkJ3_checkIndex_8e157 5 rfl) rfl (lv_at hl 1 rfl) ?_
    refine xi_icmp_lt (tgt := 16) hx hb (zdt zkJ3_checkIndex_8e157 6 rfl) (by decide) hf (fun hf => ?_) (fun hf => ?_)
    · refine lv_iload_n hx hb (zdt zkJ3_checkIndex_8e157 16 rfl) rfl (lv_at hl 0 rfl) ?_
      obtain rfl := Option.some.inj hf
      exact hret _ _ _ _ rfl (zdt zkJ3_checkIndex_8e157 17 rfl) hP hD hS
    · exact b_9  _ _ _ _ _ hf hP hD hS (lv_sub hl [0, 1, 2] rfl)
noncomputable abbrev w_Preconditions_checkIndex_nt : List Cond := .code yJ3_checkIndex_8e157 cJ3_checkIndex_8e157 3 (some .int) :: zall
noncomputable abbrev rm_Preconditions_checkIndex_nt : Room := { frames := 0, cells := 0, slots := 0, locals := 0 }
theorem hd_Preconditions_checkIndex_nt : yJ3_checkIndex_8e157.cls = yJ3_checkIndex_8e157.cls ∧ yJ3_checkIndex_8e157.cls ≠ "java/lang/invoke/MethodHandle" ∧ yJ3_checkIndex_8e157.cls ≠ "java/lang/invoke/VarHandle" ∧ (parseMethodDescriptor yJ3_checkIndex_8e157.desc).map (fun d => d.parameters.length) = some 3 := by decide +kernel
noncomputable def wd_Preconditions_checkIndex_nt (cA : Nat → ClassId)   : va_W := []
noncomputable def wf_Preconditions_checkIndex_nt (cA : Nat → ClassId)  (o : Int) : va_W := wd_Preconditions_checkIndex_nt cA
noncomputable def f_Preconditions_checkIndex_nt_9  (x0 : Int) (x1 : Int) : Option (Int) :=
  none
noncomputable def f_Preconditions_checkIndex_nt (x0 : Int) (x1 : Int) : Option (Int) :=
  if zi_w x0 < 0 then
    f_Preconditions_checkIndex_nt_9 x0 x1
  else
    if zi_w x0 < zi_w x1 then
      some x0
    else
      f_Preconditions_checkIndex_nt_9 x0 x1
set_option maxHeartbeats 4000000 in
set_option maxRecDepth 100000 in
theorem c_Preconditions_checkIndex_nt (l : Launch) (ev : zEv) (dC : Nat → ClassId) (dI : Nat → Nat → Nat) (cA : Nat → ClassId) (t2 : Nat) {x0 x1 : Int} {out : Int} (hf : f_Preconditions_checkIndex_nt x0 x1 = some out) : xc_I l ev (dC, dI) vwCl (tyl cA) yJ3_checkIndex_8e157 w_Preconditions_checkIndex_nt rm_Preconditions_checkIndex_nt [.int (Int32.ofInt x0), .int (Int32.ofInt x1), .ref t2] (wd_Preconditions_checkIndex_nt cA) (wf_Preconditions_checkIndex_nt cA out) out := by
  refine xv_startI (cc := cJ3_checkIndex_8e157) (maxL := 3) (rt := .int) (by decide +kernel) rfl (Nat.le_of_ble_eq_true rfl) ?_
  intro p e s m args below meth c A Q H ls hx hb hml hts hown hK hA hP hD hS hl hE hret
  have hown : s.vm.findClass "jdk/internal/util/Preconditions" = some m.cls := hown
  have hz : ∀ w ∈ zall, w.before args s = true := fun w h => hts w (List.mem_cons_of_mem _ h)
  have hl : lv_has ls 3 [(0, .int (Int32.ofInt x0)), (1, .int (Int32.ofInt x1)), (2, .ref t2)] := hl
  have b_9 : ∀ (x0 : Int) (x1 : Int) (H : Heap) (locs : List Loc) (ls : Array Slot), f_Preconditions_checkIndex_nt_9 x0 x1 = some out → va_P (dC, dI) vwCl (wd_Preconditions_checkIndex_nt cA) H → va_D A (wd_Preconditions_checkIndex_nt cA) → va_S A s.heap H locs → lv_has ls 3 [(0, .int (Int32.ofInt x0)), (1, .int (Int32.ofInt x1)), (2, .ref t2)] → W p l e rm_Preconditions_checkIndex_nt s m args below meth c H locs 0 0 Q (F0 m 9 ls []) := by
    intro x0 x1 H locs ls hf hP hD hS hl
    unfold f_Preconditions_checkIndex_nt_9 at hf
    exact nomatch hf
  unfold f_Preconditions_checkIndex_nt at hf
  refine lv_iload_n hx hb (zdt zkJ3_checkIndex_8e157 0 rfl) rfl (lv_at hl 0 rfl) ?_
  refine xi_if_lt (tgt := 9) hx hb (zdt zkJ3_checkIndex_8e157 1 rfl) (by decide) hf (fun hf => ?_) (fun hf => ?_)
  · exact b_9  _ _ _ _ _ hf hP hD hS (lv_sub hl [0, 1, 2] rfl)
  · refine lv_iload_n hx hb (zdt zkJ3_checkIndex_8e157 4 rfl) rfl (lv_at hl 0 rfl) ?_
    refine lv_iload_n hx hb (zdt zkJ3_checkIndex_8e157 5 rfl) rfl (lv_at hl 1 rfl) ?_
    refine xi_icmp_lt (tgt := 16) hx hb (zdt zkJ3_checkIndex_8e157 6 rfl) (by decide) hf (fun hf => ?_) (fun hf => ?_)
    · refine lv_iload_n hx hb (zdt zkJ3_checkIndex_8e157 16 rfl) rfl (lv_at hl 0 rfl) ?_
      obtain rfl := Option.some.inj hf
      exact hret _ _ _ _ rfl (zdt zkJ3_checkIndex_8e157 17 rfl) hP hD hS
    · exact b_9  _ _ _ _ _ hf hP hD hS (lv_sub hl [0, 1, 2] rfl)
set_option maxRecDepth 100000 in
noncomputable def ztJ0_checkIndex_df160 (p : Nat) : Option (Jvm.ClassFile.Instr × Nat) := bif Nat.ble 5 p then (bif Nat.ble 8 p then (bif Nat.ble 9 p then (bif Nat.beq p 9 then some (.return_, 1) else none) else (bif Nat.beq p 8 then some (.pop, 1) else none)) else (bif Nat.beq p 5 then some (.invokestatic 1059, 3) else none)) else (bif Nat.ble 1 p then (bif Nat.ble 2 p then (bif Nat.beq p 2 then some (.getstatic 1053, 3) else none) else (bif Nat.beq p 1 then some (.iload_n 1, 1) else none)) else (bif Nat.beq p 0 then some (.iload_n 0, 1) else none))
set_option maxRecDepth 100000 in
theorem zkJ0_checkIndex_df160 : (zbig cJ0_checkIndex_df160.data.toList = 837466257546465940478746 ∧ cJ0_checkIndex_df160.data.toList.length = 10) ∧ zdk cJ0_checkIndex_df160 837466257546465940478746 10 ztJ0_checkIndex_df160 9 = true := by decide +kernel
theorem zw_119 : (Jvm.Cond.initialized "jdk/internal/util/Preconditions") ∈ zall := zmemG (zmj_1 16 rfl) rfl
theorem zw_703 : (Jvm.Cond.code ({ cls := "java/lang/String", name := "checkIndex", desc := "(II)V" } : Jvm.MethodName) prog_16_method_155_code (2 : Nat) (Option.none : Option Jvm.ClassFile.FieldType)) ∈ zall := zmemG (zmj_3 120 rfl) rfl
theorem zw_704 : (Jvm.Cond.fieldLink "java/lang/String" (1053 : Nat) "jdk/internal/util/Preconditions" "SIOOBE_FORMATTER" "Ljava/util/function/BiFunction;") ∈ zall := zmemG (zmj_3 121 rfl) rfl
theorem zw_706 : (Jvm.Cond.methodLink "java/lang/String" (1059 : Nat) ({ cls := "jdk/internal/util/Preconditions", name := "checkIndex", desc := "(IILjava/util/function/BiFunction;)I" } : Jvm.MethodName)) ∈ zall := zmemG (zmj_3 123 rfl) rfl
theorem zw_707 : (Jvm.Cond.static ({ cls := "jdk/internal/util/Preconditions", name := "checkIndex", desc := "(IILjava/util/function/BiFunction;)I" } : Jvm.MethodName)) ∈ zall := zmemG (zmj_3 124 rfl) rfl
noncomputable abbrev w_String_checkIndex : List Cond := .code yJ0_checkIndex_df160 cJ0_checkIndex_df160 2 none :: zall
noncomputable abbrev rm_String_checkIndex : Room := { frames := 1, cells := 0, slots := 0, locals := 22 }
theorem hd_String_checkIndex : yJ0_checkIndex_df160.cls = yJ0_checkIndex_df160.cls ∧ yJ0_checkIndex_df160.cls ≠ "java/lang/invoke/MethodHandle" ∧ yJ0_checkIndex_df160.cls ≠ "java/lang/invoke/VarHandle" ∧ (parseMethodDescriptor yJ0_checkIndex_df160.desc).map (fun d => d.parameters.length) = some 2 := by decide +kernel
noncomputable def wd_String_checkIndex (cA : Nat → ClassId)   : va_W := []
noncomputable def wf_String_checkIndex (cA : Nat → ClassId)  (o : Unit) : va_W := wd_String_checkIndex cA
noncomputable def f_String_checkIndex (x0 : Int) (x1 : Int) : Option (Unit) :=
  zd1 (f_Preconditions_checkIndex_nN x0 x1) fun v1 =>
  some ()
set_option maxHeartbeats 4000000 in
set_option maxRecDepth 100000 in
theorem c_String_checkIndex (l : Launch) (ev : zEv) (dC : Nat → ClassId) (dI : Nat → Nat → Nat) (cA : Nat → ClassId) {x0 x1 : Int} {out : Unit} (hf : f_String_checkIndex x0 x1 = some out) : xc_V l ev (dC, dI) vwCl (tyl cA) yJ0_checkIndex_df160 w_String_checkIndex rm_String_checkIndex [.int (Int32.ofInt x0), .int (Int32.ofInt x1)] (wd_String_checkIndex cA) (wf_String_checkIndex cA out) := by
  refine xv_startV (cc := cJ0_checkIndex_df160) (maxL := 2) (by decide +kernel) rfl (Nat.le_of_ble_eq_true rfl) ?_
  intro p e s m args below meth c A Q H ls hx hb hml hts hown hK hA hP hD hS hl hE hret
  have hown : s.vm.findClass "java/lang/String" = some m.cls := hown
  have hz : ∀ w ∈ zall, w.before args s = true := fun w h => hts w (List.mem_cons_of_mem _ h)
  have hl : lv_has ls 2 [(0, .int (Int32.ofInt x0)), (1, .int (Int32.ofInt x1))] := hl
  unfold f_String_checkIndex at hf
  refine lv_iload_n hx hb (zdt zkJ0_checkIndex_df160 0 rfl) rfl (lv_at hl 0 rfl) ?_
  refine lv_iload_n hx hb (zdt zkJ0_checkIndex_df160 1 rfl) rfl (lv_at hl 1 rfl) ?_
  rcases hE.2.2.2.1 with hZ9 | ⟨t9, hZ9⟩
  · refine va_gets (v := .null) hx hb hZ9 hS hown (hz _ zw_704) (fun _ h9 => h9) (zdt zkJ0_checkIndex_df160 2 rfl) ?_
    refine xe_d1 hf (fun v1 hg hf => ?_)
    have hC : ([] : List Nat).map (fun i => (wd_String_checkIndex cA)[i]?) = (wd_Preconditions_checkIndex_nN cA).map some := rfl
    refine xv_afterI (ws' := (wd_String_checkIndex cA)) (isC := []) (ps := []) (va_runS (As := [.int (Int32.ofInt x0), .int (Int32.ofInt x1), .null]) (rest := []) ⟨hx, hb, hml, hown, hts⟩ (c_Preconditions_checkIndex_nN l ev dC dI cA hg H.size) (va_cwS 3 hts (zgS zw_706 zw_707 zw_119 zw_708) rfl rfl rfl hd_Preconditions_checkIndex_nN.2 ⟨Nat.le_of_ble_eq_true rfl, Nat.le_of_ble_eq_true rfl⟩) (xv_preS hE hA hS hK hP hD (isC := []) (by decide +kernel) hC) rfl rfl hl.1 rfl (lv_room (Nat.le_of_ble_eq_true rfl)) (zdt zkJ0_checkIndex_df160 5 rfl) ⟨Nat.le_refl _, Nat.le_refl _⟩) hP hD hS hA (by decide +kernel) rfl hC rfl rfl (fun H locs hP hD hS => ?_)
    refine lv_pop hx hb (zdt zkJ0_checkIndex_df160 8 rfl) rfl ?_
    obtain rfl := Option.some.inj hf
    exact hret _ _ _ _ (zdt zkJ0_checkIndex_df160 9 rfl) hP hD hS
  · refine va_gets (v := .ref t9) hx hb hZ9 hS hown (hz _ zw_704) (fun _ h9 => h9) (zdt zkJ0_checkIndex_df160 2 rfl) ?_
    refine xe_d1 hf (fun v1 hg hf => ?_)
    have hC : ([] : List Nat).map (fun i => (wd_String_checkIndex cA)[i]?) = (wd_Preconditions_checkIndex_nt cA).map some := rfl
    refine xv_afterI (ws' := (wd_String_checkIndex cA)) (isC := []) (ps := []) (va_runS (As := [.int (Int32.ofInt x0), .int (Int32.ofInt x1), .ref t9]) (rest := []) ⟨hx, hb, hml, hown, hts⟩ (c_Preconditions_checkIndex_nt l ev dC dI cA t9 hg H.size) (va_cwS 3 hts (zgS zw_706 zw_707 zw_119 zw_708) rfl rfl rfl hd_Preconditions_checkIndex_nt.2 ⟨Nat.le_of_ble_eq_true rfl, Nat.le_of_ble_eq_true rfl⟩) (xv_preS hE hA hS hK hP hD (isC := []) (by decide +kernel) hC) rfl rfl hl.1 rfl (lv_room (Nat.le_of_ble_eq_true rfl)) (zdt zkJ0_checkIndex_df160 5 rfl) ⟨Nat.le_refl _, Nat.le_refl _⟩) hP hD hS hA (by decide +kernel) rfl hC rfl rfl (fun H locs hP hD hS => ?_)
    refine lv_pop hx hb (zdt zkJ0_checkIndex_df160 8 rfl) rfl ?_
    obtain rfl := Option.some.inj hf
    exact hret _ _ _ _ (zdt zkJ0_checkIndex_df160 9 rfl) hP hD hS
set_option maxRecDepth 100000 in
noncomputable def ztJ1_charAt_3b067 (p : Nat) : Option (Jvm.ClassFile.Instr × Nat) := bif Nat.ble 7 p then (bif Nat.ble 12 p then (bif Nat.ble 13 p then (bif Nat.ble 14 p then (bif Nat.beq p 14 then some (.ireturn, 1) else none) else (bif Nat.beq p 13 then some (.i2c, 1) else none)) else (bif Nat.beq p 12 then some (.iand, 1) else none)) else (bif Nat.ble 8 p then (bif Nat.ble 9 p then (bif Nat.beq p 9 then some (.sipush 255, 3) else none) else (bif Nat.beq p 8 then some (.baload, 1) else none)) else (bif Nat.beq p 7 then some (.iload_n 1, 1) else none))) else (bif Nat.ble 2 p then (bif Nat.ble 3 p then (bif Nat.ble 6 p then (bif Nat.beq p 6 then some (.aload_n 0, 1) else none) else (bif Nat.beq p 3 then some (.invokestatic 9, 3) else none)) else (bif Nat.beq p 2 then some (.arraylength, 1) else none)) else (bif Nat.ble 1 p then (bif Nat.beq p 1 then some (.aload_n 0, 1) else none) else (bif Nat.beq p 0 then some (.iload_n 1, 1) else none)))
set_option maxRecDepth 100000 in
theorem zkJ1_charAt_3b067 : (zbig cJ1_charAt_3b067.data.toList = 896046353137359020710214408576313883 ∧ cJ1_charAt_3b067.data.toList.length = 15) ∧ zdk cJ1_charAt_3b067 896046353137359020710214408576313883 15 ztJ1_charAt_3b067 14 = true := by decide +kernel
theorem zw_700 : (Jvm.Cond.code ({ cls := "java/lang/StringLatin1", name := "charAt", desc := "([BI)C" } : Jvm.MethodName) prog_17_method_2_code (2 : Nat) (Option.some Jvm.ClassFile.FieldType.char)) ∈ zall := zmemG (zmj_3 117 rfl) rfl
theorem zw_701 : (Jvm.Cond.methodLink "java/lang/StringLatin1" (9 : Nat) ({ cls := "java/lang/String", name := "checkIndex", desc := "(II)V" } : Jvm.MethodName)) ∈ zall := zmemG (zmj_3 118 rfl) rfl
theorem zw_702 : (Jvm.Cond.static ({ cls := "java/lang/String", name := "checkIndex", desc := "(II)V" } : Jvm.MethodName)) ∈ zall := zmemG (zmj_3 119 rfl) rfl
noncomputable abbrev w_StringLatin1_charAt : List Cond := .code yJ1_charAt_3b067 cJ1_charAt_3b067 2 (some .char) :: zall
noncomputable abbrev rm_StringLatin1_charAt : Room := { frames := 2, cells := 0, slots := 0, locals := 43 }
theorem hd_StringLatin1_charAt : yJ1_charAt_3b067.cls = yJ1_charAt_3b067.cls ∧ yJ1_charAt_3b067.cls ≠ "java/lang/invoke/MethodHandle" ∧ yJ1_charAt_3b067.cls ≠ "java/lang/invoke/VarHandle" ∧ (parseMethodDescriptor yJ1_charAt_3b067.desc).map (fun d => d.parameters.length) = some 2 := by decide +kernel
noncomputable def wd_StringLatin1_charAt (cA : Nat → ClassId)   : va_W := []
noncomputable def wf_StringLatin1_charAt (cA : Nat → ClassId)  (o : Int) : va_W := wd_StringLatin1_charAt cA
noncomputable def f_StringLatin1_charAt (x1 : Int) (w0 : Nat) : Option (Int) :=
  zn (zsl w0) fun v1 =>
  zd1 (f_String_checkIndex x1 v1) fun _ =>
  zg (zlen.getD w0 0) (zch w0) x1 fun v2 =>
  zn (zi_and v2 255) fun v3 =>
  zn (zi_chr v3) fun v4 =>
  if ¬ (0 ≤ zi_w v4 ∧ zi_w v4 < 128) then none else
  some v4
set_option maxHeartbeats 4000000 in
set_option maxRecDepth 100000 in
theorem c_StringLatin1_charAt (l : Launch) (ev : zEv) (dC : Nat → ClassId) (dI : Nat → Nat → Nat) (cA : Nat → ClassId) (w0 : Nat) (hw0 : w0 < 14) {x1 : Int} {out : Int} (hf : f_StringLatin1_charAt x1 w0 = some out) : xc_I l ev (dC, dI) vwCl (tyl cA) yJ1_charAt_3b067 w_StringLatin1_charAt rm_StringLatin1_charAt [.ref (ev.2.2 w0), .int (Int32.ofInt x1)] (wd_StringLatin1_charAt cA) (wf_StringLatin1_charAt cA out) out := by
  refine xv_startI (cc := cJ1_charAt_3b067) (maxL := 2) (rt := .char) (by decide +kernel) rfl (Nat.le_of_ble_eq_true rfl) ?_
  intro p e s m args below meth c A Q H ls hx hb hml hts hown hK hA hP hD hS hl hE hret
  have hown : s.vm.findClass "java/lang/StringLatin1" = some m.cls := hown
  have hz : ∀ w ∈ zall, w.before args s = true := fun w h => hts w (List.mem_cons_of_mem _ h)
  have hl : lv_has ls 2 [(0, .ref (ev.2.2 w0)), (1, .int (Int32.ofInt x1))] := hl
  unfold f_StringLatin1_charAt at hf
  refine lv_iload_n hx hb (zdt zkJ1_charAt_3b067 0 rfl) rfl (lv_at hl 1 rfl) ?_
  refine lv_aload_n hx hb (zdt zkJ1_charAt_3b067 1 rfl) rfl (lv_at hl 0 rfl) ?_
  refine xi_slen hx hb (hE.2.2.2.2.1 w0 hw0).2.2.2 hS (zdt zkJ1_charAt_3b067 2 rfl) hf (fun v1 hf => ?_)
  refine xe_d1 hf (fun _ hg hf => ?_)
  have hC : ([] : List Nat).map (fun i => (wd_StringLatin1_charAt cA)[i]?) = (wd_String_checkIndex cA).map some := rfl
  refine xv_afterV (ws' := (wd_StringLatin1_charAt cA)) (isC := []) (ps := []) (va_runS (As := [.int (Int32.ofInt x1), .int (Int32.ofInt v1)]) (rest := []) ⟨hx, hb, hml, hown, hts⟩ (c_String_checkIndex l ev dC dI cA hg H.size) (va_cwS 2 hts (zgS zw_701 zw_702 zw_117 zw_703) rfl rfl rfl hd_String_checkIndex.2 ⟨Nat.le_of_ble_eq_true rfl, Nat.le_of_ble_eq_true rfl⟩) (xv_preS hE hA hS hK hP hD (isC := []) (by decide +kernel) hC) rfl rfl hl.1 rfl (lv_room (Nat.le_of_ble_eq_true rfl)) (zdt zkJ1_charAt_3b067 3 rfl) ⟨Nat.le_refl _, Nat.le_refl _⟩) hP hD hS hA (by decide +kernel) rfl hC rfl rfl (fun H locs hP hD hS => ?_)
  refine lv_aload_n hx hb (zdt zkJ1_charAt_3b067 6 rfl) rfl (lv_at hl 0 rfl) ?_
  refine lv_iload_n hx hb (zdt zkJ1_charAt_3b067 7 rfl) rfl (lv_at hl 1 rfl) ?_
  refine xi_sbald hw0 hx hb (hE.2.2.2.2.1 w0 hw0).2.2.2 hS (zdt zkJ1_charAt_3b067 8 rfl) hf (fun v2 hf => ?_)
  refine lv_sipush (v := Int32.ofInt 255) hx hb (zdt zkJ1_charAt_3b067 9 rfl) (by decide) ?_
  refine xi_iand hx hb (zdt zkJ1_charAt_3b067 12 rfl) hf (fun v3 hf => ?_)
  refine xi_i2c hx hb (zdt zkJ1_charAt_3b067 13 rfl) hf (fun v4 hf => ?_)
  obtain ⟨hzb, hf⟩ := xz_q hf
  obtain rfl := Option.some.inj hf
  exact hret _ _ _ _ (zz_chr hzb) (zdt zkJ1_charAt_3b067 14 rfl) hP hD hS
set_option maxRecDepth 100000 in
noncomputable def ztJ0_isLatin1_aae02 (p : Nat) : Option (Jvm.ClassFile.Instr × Nat) := bif Nat.ble 10 p then (bif Nat.ble 14 p then (bif Nat.ble 17 p then (bif Nat.ble 18 p then (bif Nat.beq p 18 then some (.ireturn, 1) else none) else (bif Nat.beq p 17 then some (.iconst 0, 1) else none)) else (bif Nat.beq p 14 then some (.goto 4, 3) else none)) else (bif Nat.ble 13 p then (bif Nat.beq p 13 then some (.iconst 1, 1) else none) else (bif Nat.beq p 10 then some (.ifCond .ne 7, 3) else none))) else (bif Nat.ble 6 p then (bif Nat.ble 7 p then (bif Nat.beq p 7 then some (.getfield 15, 3) else none) else (bif Nat.beq p 6 then some (.aload_n 0, 1) else none)) else (bif Nat.ble 3 p then (bif Nat.beq p 3 then some (.ifCond .eq 14, 3) else none) else (bif Nat.beq p 0 then some (.getstatic 38, 3) else none)))
set_option maxRecDepth 100000 in
theorem zkJ0_isLatin1_aae02 : (zbig cJ0_isLatin1_aae02.data.toList = 3835990873001725404635051113289207544044454066 ∧ cJ0_isLatin1_aae02.data.toList.length = 19) ∧ zdk cJ0_isLatin1_aae02 3835990873001725404635051113289207544044454066 19 ztJ0_isLatin1_aae02 18 = true := by decide +kernel
theorem zw_697 : (Jvm.Cond.code ({ cls := "java/lang/String", name := "isLatin1", desc := "()Z" } : Jvm.MethodName) prog_16_method_154_code (1 : Nat) (Option.some Jvm.ClassFile.FieldType.boolean)) ∈ zall := zmemG (zmj_3 114 rfl) rfl
noncomputable abbrev w_String_isLatin1 : List Cond := .code yJ0_isLatin1_aae02 cJ0_isLatin1_aae02 1 (some .boolean) :: zall
noncomputable abbrev rm_String_isLatin1 : Room := { frames := 0, cells := 0, slots := 0, locals := 0 }
theorem hd_String_isLatin1 : yJ0_isLatin1_aae02.cls = "java/lang/String" ∧ yJ0_isLatin1_aae02.cls ≠ "java/lang/invoke/MethodHandle" ∧ yJ0_isLatin1_aae02.cls ≠ "java/lang/invoke/VarHandle" ∧ (parseMethodDescriptor yJ0_isLatin1_aae02.desc).map (fun d => d.parameters.length) = some 0 := by decide +kernel
noncomputable def wd_String_isLatin1 (cA : Nat → ClassId)   : va_W := []
noncomputable def wf_String_isLatin1 (cA : Nat → ClassId)  (o : Int) : va_W := wd_String_isLatin1 cA
noncomputable def f_String_isLatin1 (w0 : Nat) : Option (Int) :=
  if zi_w 1 = 0 then
    some 0
  else
    if zi_w 0 ≠ 0 then
      some 0
    else
      some 1
set_option maxHeartbeats 4000000 in
set_option maxRecDepth 100000 in
theorem c_String_isLatin1 (l : Launch) (ev : zEv) (dC : Nat → ClassId) (dI : Nat → Nat → Nat) (cA : Nat → ClassId) (w0 : Nat) (hw0 : w0 < 14) {out : Int} (hf : f_String_isLatin1 w0 = some out) : xc_I l ev (dC, dI) vwCl (tyl cA) yJ0_isLatin1_aae02 w_String_isLatin1 rm_String_isLatin1 [.ref (ev.2.1 w0)] (wd_String_isLatin1 cA) (wf_String_isLatin1 cA out) out := by
  refine xv_startI (cc := cJ0_isLatin1_aae02) (maxL := 1) (rt := .boolean) (by decide +kernel) rfl (Nat.le_of_ble_eq_true rfl) ?_
  intro p e s m args below meth c A Q H ls hx hb hml hts hown hK hA hP hD hS hl hE hret
  have hown : s.vm.findClass "java/lang/String" = some m.cls := hown
  have hz : ∀ w ∈ zall, w.before args s = true := fun w h => hts w (List.mem_cons_of_mem _ h)
  have hl : lv_has ls 1 [(0, .ref (ev.2.1 w0))] := hl
  unfold f_String_isLatin1 at hf
  refine va_gets (v := .int (Int32.ofInt 1)) hx hb hE.2.2.1 hS hown (hz _ zw_688) (fun _ h9 => h9) (zdt zkJ0_isLatin1_aae02 0 rfl) ?_
  refine xi_if_eq (tgt := 17) hx hb (zdt zkJ0_isLatin1_aae02 3 rfl) (by decide) hf (fun hf => ?_) (fun hf => ?_)
  · refine lv_iconst (v := Int32.ofInt 0) hx hb (zdt zkJ0_isLatin1_aae02 17 rfl) rfl ?_
    obtain rfl := Option.some.inj hf
    exact hret _ _ _ _ zz_b0 (zdt zkJ0_isLatin1_aae02 18 rfl) hP hD hS
  · refine lv_aload_n hx hb (zdt zkJ0_isLatin1_aae02 6 rfl) rfl (lv_at hl 0 rfl) ?_
    refine vk_getf (v := .int (Int32.ofInt 0)) hx hb (hE.2.2.2.2.1 w0 hw0).2.1 hS hown (hz _ zw_1789) (fun _ h9 => h9) (zdt zkJ0_isLatin1_aae02 7 rfl) ?_
    refine xi_if_ne (tgt := 17) hx hb (zdt zkJ0_isLatin1_aae02 10 rfl) (by decide) hf (fun hf => ?_) (fun hf => ?_)
    · refine lv_iconst (v := Int32.ofInt 0) hx hb (zdt zkJ0_isLatin1_aae02 17 rfl) rfl ?_
      obtain rfl := Option.some.inj hf
      exact hret _ _ _ _ zz_b0 (zdt zkJ0_isLatin1_aae02 18 rfl) hP hD hS
    · refine lv_iconst (v := Int32.ofInt 1) hx hb (zdt zkJ0_isLatin1_aae02 13 rfl) rfl ?_
      refine lv_goto (tgt := 18) hx hb (zdt zkJ0_isLatin1_aae02 14 rfl) (by decide) ?_
      obtain rfl := Option.some.inj hf
      exact hret _ _ _ _ zz_b1 (zdt zkJ0_isLatin1_aae02 18 rfl) hP hD hS
set_option maxRecDepth 100000 in
noncomputable def ztJ0_charAt_5068e (p : Nat) : Option (Jvm.ClassFile.Instr × Nat) := bif Nat.ble 12 p then (bif Nat.ble 17 p then (bif Nat.ble 20 p then (bif Nat.ble 21 p then (bif Nat.beq p 21 then some (.invokestatic 498, 3) else none) else (bif Nat.beq p 20 then some (.iload_n 1, 1) else none)) else (bif Nat.beq p 17 then some (.getfield 9, 3) else none)) else (bif Nat.ble 15 p then (bif Nat.ble 16 p then (bif Nat.beq p 16 then some (.aload_n 0, 1) else none) else (bif Nat.beq p 15 then some (.ireturn, 1) else none)) else (bif Nat.beq p 12 then some (.invokestatic 495, 3) else none))) else (bif Nat.ble 7 p then (bif Nat.ble 8 p then (bif Nat.ble 11 p then (bif Nat.beq p 11 then some (.iload_n 1, 1) else none) else (bif Nat.beq p 8 then some (.getfield 9, 3) else none)) else (bif Nat.beq p 7 then some (.aload_n 0, 1) else none)) else (bif Nat.ble 1 p then (bif Nat.ble 4 p then (bif Nat.beq p 4 then some (.ifCond .eq 12, 3) else none) else (bif Nat.beq p 1 then some (.invokevirtual 492, 3) else none)) else (bif Nat.beq p 0 then some (.aload_n 0, 1) else none)))
set_option maxRecDepth 100000 in
theorem zkJ0_charAt_5068e : (zbig cJ0_charAt_5068e.data.toList = 1085595485883798182811828995627738532365839674420030395758122 ∧ cJ0_charAt_5068e.data.toList.length = 25) ∧ zdk cJ0_charAt_5068e 1085595485883798182811828995627738532365839674420030395758122 25 ztJ0_charAt_5068e 21 = true := by decide +kernel
theorem zw_118 : (Jvm.Cond.initialized "java/lang/StringLatin1") ∈ zall := zmemG (zmj_1 15 rfl) rfl
theorem zw_693 : (Jvm.Cond.code ({ cls := "java/lang/String", name := "charAt", desc := "(I)C" } : Jvm.MethodName) prog_16_method_56_code (2 : Nat) (Option.some Jvm.ClassFile.FieldType.char)) ∈ zall := zmemG (zmj_3 110 rfl) rfl
theorem zw_694 : (Jvm.Cond.methodLink "java/lang/String" (492 : Nat) ({ cls := "java/lang/String", name := "isLatin1", desc := "()Z" } : Jvm.MethodName)) ∈ zall := zmemG (zmj_3 111 rfl) rfl
theorem zw_695 : (Jvm.Cond.instanceMethod ({ cls := "java/lang/String", name := "isLatin1", desc := "()Z" } : Jvm.MethodName)) ∈ zall := zmemG (zmj_3 112 rfl) rfl
theorem zw_696 : (Jvm.Cond.selects "java/lang/String" ({ cls := "java/lang/String", name := "isLatin1", desc := "()Z" } : Jvm.MethodName) ({ cls := "java/lang/String", name := "isLatin1", desc := "()Z" } : Jvm.MethodName)) ∈ zall := zmemG (zmj_3 113 rfl) rfl
theorem zw_698 : (Jvm.Cond.methodLink "java/lang/String" (495 : Nat) ({ cls := "java/lang/StringLatin1", name := "charAt", desc := "([BI)C" } : Jvm.MethodName)) ∈ zall := zmemG (zmj_3 115 rfl) rfl
theorem zw_699 : (Jvm.Cond.static ({ cls := "java/lang/StringLatin1", name := "charAt", desc := "([BI)C" } : Jvm.MethodName)) ∈ zall := zmemG (zmj_3 116 rfl) rfl
noncomputable abbrev w_String_charAt : List Cond := .code yJ0_charAt_5068e cJ0_charAt_5068e 2 (some .char) :: zall
noncomputable abbrev rm_String_charAt : Room := { frames := 3, cells := 0, slots := 0, locals := 64 }
theorem hd_String_charAt : yJ0_charAt_5068e.cls = "java/lang/String" ∧ yJ0_charAt_5068e.cls ≠ "java/lang/invoke/MethodHandle" ∧ yJ0_charAt_5068e.cls ≠ "java/lang/invoke/VarHandle" ∧ (parseMethodDescriptor yJ0_charAt_5068e.desc).map (fun d => d.parameters.length) = some 1 := by decide +kernel
noncomputable def wd_String_charAt (cA : Nat → ClassId)   : va_W := []
noncomputable def wf_String_charAt (cA : Nat → ClassId)  (o : Int) : va_W := wd_String_charAt cA
noncomputable def f_String_charAt (x1 : Int) (w0 : Nat) : Option (Int) :=
  zd1 (f_String_isLatin1 w0) fun v1 =>
  if zi_w v1 = 0 then
    none
  else
    zd1 (f_StringLatin1_charAt x1 w0) fun v2 =>
    if ¬ (0 ≤ zi_w v2 ∧ zi_w v2 < 128) then none else
    some v2
set_option maxHeartbeats 4000000 in
set_option maxRecDepth 100000 in
theorem c_String_charAt (l : Launch) (ev : zEv) (dC : Nat → ClassId) (dI : Nat → Nat → Nat) (cA : Nat → ClassId) (w0 : Nat) (hw0 : w0 < 14) {x1 : Int} {out : Int} (hf : f_String_charAt x1 w0 = some out) : xc_I l ev (dC, dI) vwCl (tyl cA) yJ0_charAt_5068e w_String_charAt rm_String_charAt [.ref (ev.2.1 w0), .int (Int32.ofInt x1)] (wd_String_charAt cA) (wf_String_charAt cA out) out := by
  refine xv_startI (cc := cJ0_charAt_5068e) (maxL := 2) (rt := .char) (by decide +kernel) rfl (Nat.le_of_ble_eq_true rfl) ?_
  intro p e s m args below meth c A Q H ls hx hb hml hts hown hK hA hP hD hS hl hE hret
  have hown : s.vm.findClass "java/lang/String" = some m.cls := hown
  have hz : ∀ w ∈ zall, w.before args s = true := fun w h => hts w (List.mem_cons_of_mem _ h)
  have hl : lv_has ls 2 [(0, .ref (ev.2.1 w0)), (1, .int (Int32.ofInt x1))] := hl
  unfold f_String_charAt at hf
  refine lv_aload_n hx hb (zdt zkJ0_charAt_5068e 0 rfl) rfl (lv_at hl 0 rfl) ?_
  refine xe_d1 hf (fun v1 hg hf => ?_)
  have hC : ([] : List Nat).map (fun i => (wd_String_charAt cA)[i]?) = (wd_String_isLatin1 cA).map some := rfl
  refine xv_afterI (ws' := (wd_String_charAt cA)) (isC := []) (ps := []) (va_runV (As := []) (rest := []) ⟨hx, hb, hml, hown, hts⟩ (c_String_isLatin1 l ev dC dI cA w0 hw0 hg H.size) (cwV 0 hts (zgV zw_694 zw_695 zw_696 zw_117 zw_697) rfl rfl rfl hd_String_isLatin1 ⟨Nat.le_of_ble_eq_true rfl, Nat.le_of_ble_eq_true rfl⟩) (xv_preK (vk_recv hE.2.2.2.2 hw0 hS) hE hA hS hK hP hD (isC := []) (by decide +kernel) hC) rfl rfl hl.1 rfl (lv_room (Nat.le_of_ble_eq_true rfl)) (zdt zkJ0_charAt_5068e 1 rfl) ⟨Nat.le_refl _, Nat.le_refl _⟩) hP hD hS hA (by decide +kernel) rfl hC rfl rfl (fun H locs hP hD hS => ?_)
  refine xi_if_eq (tgt := 16) hx hb (zdt zkJ0_charAt_5068e 4 rfl) (by decide) hf (fun hf => ?_) (fun hf => ?_)
  · exact nomatch hf
  · refine lv_aload_n hx hb (zdt zkJ0_charAt_5068e 7 rfl) rfl (lv_at hl 0 rfl) ?_
    refine vk_getf (v := .ref (ev.2.2 w0)) hx hb (hE.2.2.2.2.1 w0 hw0).2.2.1 hS hown (hz _ zw_1788) (fun _ h9 => h9) (zdt zkJ0_charAt_5068e 8 rfl) ?_
    refine lv_iload_n hx hb (zdt zkJ0_charAt_5068e 11 rfl) rfl (lv_at hl 1 rfl) ?_
    refine xe_d1 hf (fun v2 hg hf => ?_)
    have hC : ([] : List Nat).map (fun i => (wd_String_charAt cA)[i]?) = (wd_StringLatin1_charAt cA).map some := rfl
    refine xv_afterI (ws' := (wd_String_charAt cA)) (isC := []) (ps := []) (va_runS (As := [.ref (ev.2.2 w0), .int (Int32.ofInt x1)]) (rest := []) ⟨hx, hb, hml, hown, hts⟩ (c_StringLatin1_charAt l ev dC dI cA w0 hw0 hg H.size) (va_cwS 2 hts (zgS zw_698 zw_699 zw_118 zw_700) rfl rfl rfl hd_StringLatin1_charAt.2 ⟨Nat.le_of_ble_eq_true rfl, Nat.le_of_ble_eq_true rfl⟩) (xv_preS hE hA hS hK hP hD (isC := []) (by decide +kernel) hC) rfl rfl hl.1 rfl (lv_room (Nat.le_of_ble_eq_true rfl)) (zdt zkJ0_charAt_5068e 12 rfl) ⟨Nat.le_refl _, Nat.le_refl _⟩) hP hD hS hA (by decide +kernel) rfl hC rfl rfl (fun H locs hP hD hS => ?_)
    obtain ⟨hzb, hf⟩ := xz_q hf
    obtain rfl := Option.some.inj hf
    exact hret _ _ _ _ (zz_chr hzb) (zdt zkJ0_charAt_5068e 15 rfl) hP hD hS
set_option maxRecDepth 100000 in
noncomputable def ztX4_isWord (p : Nat) : Option (Jvm.ClassFile.Instr × Nat) := bif Nat.ble 24 p then (bif Nat.ble 33 p then (bif Nat.ble 41 p then (bif Nat.ble 47 p then (bif Nat.ble 48 p then (bif Nat.beq p 48 then some (.ireturn, 1) else none) else (bif Nat.beq p 47 then some (.iconst 1, 1) else none)) else (bif Nat.ble 44 p then (bif Nat.beq p 44 then some (.goto (-29), 3) else none) else (bif Nat.beq p 41 then some (.iinc 4 1, 3) else none))) else (bif Nat.ble 39 p then (bif Nat.ble 40 p then (bif Nat.beq p 40 then some (.ireturn, 1) else none) else (bif Nat.beq p 39 then some (.iconst 0, 1) else none)) else (bif Nat.ble 36 p then (bif Nat.beq p 36 then some (.if_icmp .eq 5, 3) else none) else (bif Nat.beq p 33 then some (.invokevirtual 138, 3) else none)))) else (bif Nat.ble 28 p then (bif Nat.ble 30 p then (bif Nat.ble 31 p then (bif Nat.beq p 31 then some (.iload 4, 2) else none) else (bif Nat.beq p 30 then some (.aload_n 0, 1) else none)) else (bif Nat.ble 29 p then (bif Nat.beq p 29 then some (.iaload, 1) else none) else (bif Nat.beq p 28 then some (.iadd, 1) else none))) else (bif Nat.ble 25 p then (bif Nat.ble 26 p then (bif Nat.beq p 26 then some (.iload 4, 2) else none) else (bif Nat.beq p 25 then some (.iload_n 2, 1) else none)) else (bif Nat.beq p 24 then some (.aload_n 1, 1) else none)))) else (bif Nat.ble 11 p then (bif Nat.ble 15 p then (bif Nat.ble 18 p then (bif Nat.ble 21 p then (bif Nat.beq p 21 then some (.if_icmp .ge 26, 3) else none) else (bif Nat.beq p 18 then some (.invokevirtual 132, 3) else none)) else (bif Nat.ble 17 p then (bif Nat.beq p 17 then some (.aload_n 0, 1) else none) else (bif Nat.beq p 15 then some (.iload 4, 2) else none))) else (bif Nat.ble 12 p then (bif Nat.ble 13 p then (bif Nat.beq p 13 then some (.istore 4, 2) else none) else (bif Nat.beq p 12 then some (.iconst 0, 1) else none)) else (bif Nat.beq p 11 then some (.ireturn, 1) else none))) else (bif Nat.ble 3 p then (bif Nat.ble 7 p then (bif Nat.ble 10 p then (bif Nat.beq p 10 then some (.iconst 0, 1) else none) else (bif Nat.beq p 7 then some (.if_icmp .eq 5, 3) else none)) else (bif Nat.ble 4 p then (bif Nat.beq p 4 then some (.invokevirtual 132, 3) else none) else (bif Nat.beq p 3 then some (.aload_n 0, 1) else none))) else (bif Nat.ble 1 p then (bif Nat.ble 2 p then (bif Nat.beq p 2 then some (.isub, 1) else none) else (bif Nat.beq p 1 then some (.iload_n 2, 1) else none)) else (bif Nat.beq p 0 then some (.iload_n 3, 1) else none))))
set_option maxRecDepth 100000 in
theorem zkX4_isWord : (zbig cX4_isWord.data.toList = 6777897801043691392453816023772796869852722861974001129663521138616897861921138922533074368789891283567192243261676573 ∧ cX4_isWord.data.toList.length = 49) ∧ zdk cX4_isWord 6777897801043691392453816023772796869852722861974001129663521138616897861921138922533074368789891283567192243261676573 49 ztX4_isWord 48 = true := by decide +kernel
theorem zw_679 : (Jvm.Cond.code ({ cls := "HillSchool$LawReader", name := "isWord", desc := "(Ljava/lang/String;[III)Z" } : Jvm.MethodName) prog_6_method_19_code (5 : Nat) (Option.some Jvm.ClassFile.FieldType.boolean)) ∈ zall := zmemG (zmj_3 96 rfl) rfl
theorem zw_680 : (Jvm.Cond.methodLink "HillSchool$LawReader" (132 : Nat) ({ cls := "java/lang/String", name := "length", desc := "()I" } : Jvm.MethodName)) ∈ zall := zmemG (zmj_3 97 rfl) rfl
theorem zw_681 : (Jvm.Cond.instanceMethod ({ cls := "java/lang/String", name := "length", desc := "()I" } : Jvm.MethodName)) ∈ zall := zmemG (zmj_3 98 rfl) rfl
theorem zw_682 : (Jvm.Cond.selects "java/lang/String" ({ cls := "java/lang/String", name := "length", desc := "()I" } : Jvm.MethodName) ({ cls := "java/lang/String", name := "length", desc := "()I" } : Jvm.MethodName)) ∈ zall := zmemG (zmj_3 99 rfl) rfl
theorem zw_690 : (Jvm.Cond.methodLink "HillSchool$LawReader" (138 : Nat) ({ cls := "java/lang/String", name := "charAt", desc := "(I)C" } : Jvm.MethodName)) ∈ zall := zmemG (zmj_3 107 rfl) rfl
theorem zw_691 : (Jvm.Cond.instanceMethod ({ cls := "java/lang/String", name := "charAt", desc := "(I)C" } : Jvm.MethodName)) ∈ zall := zmemG (zmj_3 108 rfl) rfl
theorem zw_692 : (Jvm.Cond.selects "java/lang/String" ({ cls := "java/lang/String", name := "charAt", desc := "(I)C" } : Jvm.MethodName) ({ cls := "java/lang/String", name := "charAt", desc := "(I)C" } : Jvm.MethodName)) ∈ zall := zmemG (zmj_3 109 rfl) rfl
noncomputable abbrev w_LawReader_isWord : List Cond := .code yX4_isWord cX4_isWord 5 (some .boolean) :: zall
noncomputable abbrev rm_LawReader_isWord : Room := { frames := 4, cells := 0, slots := 0, locals := 85 }
theorem hd_LawReader_isWord : yX4_isWord.cls = yX4_isWord.cls ∧ yX4_isWord.cls ≠ "java/lang/invoke/MethodHandle" ∧ yX4_isWord.cls ≠ "java/lang/invoke/VarHandle" ∧ (parseMethodDescriptor yX4_isWord.desc).map (fun d => d.parameters.length) = some 4 := by decide +kernel
noncomputable def wd_LawReader_isWord (cA : Nat → ClassId) (q0 : Nat) (i_a1 : Nat → Int)  : va_W := [(q0, .inl (cA 0, 400, .inl (za i_a1)))]
noncomputable def wf_LawReader_isWord (cA : Nat → ClassId) (q0 : Nat) (i_a1 : Nat → Int) (o : Int) : va_W := wd_LawReader_isWord cA q0 i_a1
noncomputable def f_LawReader_isWord_15_b (w0 : Nat) (i_a1 : Nat → Int) (k15 : Int → Int → Option (Int)) (x2 : Int) (x4 : Int) : Option (Int) :=
  zd1 (f_String_length w0) fun v1 =>
  if zi_w v1 ≤ zi_w x4 then
    some 1
  else
    zn (x2 + x4) fun v2 =>
    zg 400 i_a1 v2 fun v3 =>
    zd1 (f_String_charAt x4 w0) fun v4 =>
    if zi_w v3 = zi_w v4 then
      zn (x4 + 1) fun v5 =>
      k15 x2 v5
    else
      some 0
noncomputable def f_LawReader_isWord_15 (w0 : Nat) (i_a1 : Nat → Int) : Nat → Int → Int → Option (Int)
  | 0 => fun _ _ => none
  | n + 1 => fun y0 y1 => f_LawReader_isWord_15_b w0 i_a1 (f_LawReader_isWord_15 w0 i_a1 n) y0 y1
noncomputable def f_LawReader_isWord (x2 : Int) (x3 : Int) (w0 : Nat) (i_a1 : Nat → Int) : Option (Int) :=
  zn (x3 - x2) fun v1 =>
  zd1 (f_String_length w0) fun v2 =>
  if zi_w v1 = zi_w v2 then
    f_LawReader_isWord_15 w0 i_a1 zfu x2 0
  else
    some 0
set_option maxHeartbeats 4000000 in
set_option maxRecDepth 100000 in
theorem c_LawReader_isWord (l : Launch) (ev : zEv) (dC : Nat → ClassId) (dI : Nat → Nat → Nat) (cA : Nat → ClassId) (q0 : Nat) (w0 : Nat) (hw0 : w0 < 14) {x2 x3 : Int} {i_a1 : Nat → Int} {out : Int} (hf : f_LawReader_isWord x2 x3 w0 i_a1 = some out) : xc_I l ev (dC, dI) vwCl (tyl cA) yX4_isWord w_LawReader_isWord rm_LawReader_isWord [.ref (ev.2.1 w0), .ref q0, .int (Int32.ofInt x2), .int (Int32.ofInt x3)] (wd_LawReader_isWord cA q0 i_a1) (wf_LawReader_isWord cA q0 i_a1 out) out := by
  refine xv_startI (cc := cX4_isWord) (maxL := 5) (rt := .boolean) (by decide +kernel) rfl (Nat.le_of_ble_eq_true rfl) ?_
  intro p e s m args below meth c A Q H ls hx hb hml hts hown hK hA hP hD hS hl hE hret
  have hown : s.vm.findClass "HillSchool$LawReader" = some m.cls := hown
  have hz : ∀ w ∈ zall, w.before args s = true := fun w h => hts w (List.mem_cons_of_mem _ h)
  have hl : lv_has ls 5 [(0, .ref (ev.2.1 w0)), (1, .ref q0), (2, .int (Int32.ofInt x2)), (3, .int (Int32.ofInt x3))] := hl
  have b_15 : ∀ (k15 : Int → Int → Option (Int)) (_ : ∀ (x2 : Int) (x4 : Int) (H : Heap) (locs : List Loc) (ls : Array Slot), k15 x2 x4 = some out → va_P (dC, dI) vwCl (wd_LawReader_isWord cA q0 i_a1) H → va_D A (wd_LawReader_isWord cA q0 i_a1) → va_S A s.heap H locs → lv_has ls 5 [(0, .ref (ev.2.1 w0)), (1, .ref q0), (2, .int (Int32.ofInt x2)), (4, .int (Int32.ofInt x4))] → W p l e rm_LawReader_isWord s m args below meth c H locs 0 0 Q (F0 m 15 ls [])), ∀ (x2 : Int) (x4 : Int) (H : Heap) (locs : List Loc) (ls : Array Slot), f_LawReader_isWord_15_b w0 i_a1 k15 x2 x4 = some out → va_P (dC, dI) vwCl (wd_LawReader_isWord cA q0 i_a1) H → va_D A (wd_LawReader_isWord cA q0 i_a1) → va_S A s.heap H locs → lv_has ls 5 [(0, .ref (ev.2.1 w0)), (1, .ref q0), (2, .int (Int32.ofInt x2)), (4, .int (Int32.ofInt x4))] → W p l e rm_LawReader_isWord s m args below meth c H locs 0 0 Q (F0 m 15 ls []) := by
    intro k15 ih15 x2 x4 H locs ls hf hP hD hS hl
    unfold f_LawReader_isWord_15_b at hf
    refine lv_iload hx hb (zdt zkX4_isWord 15 rfl) (lv_at hl 3 rfl) ?_
    refine lv_aload_n hx hb (zdt zkX4_isWord 17 rfl) rfl (lv_at hl 0 rfl) ?_
    refine xe_d1 hf (fun v1 hg hf => ?_)
    have hC : ([] : List Nat).map (fun i => (wd_LawReader_isWord cA q0 i_a1)[i]?) = (wd_String_length cA).map some := rfl
    refine xv_afterI (ws' := (wd_LawReader_isWord cA q0 i_a1)) (isC := []) (ps := [none]) (va_runV (As := []) (rest := [.int (Int32.ofInt x4)]) ⟨hx, hb, hml, hown, hts⟩ (c_String_length l ev dC dI cA w0 hw0 hg H.size) (cwV 0 hts (zgV zw_680 zw_681 zw_682 zw_117 zw_683) rfl rfl rfl hd_String_length ⟨Nat.le_of_ble_eq_true rfl, Nat.le_of_ble_eq_true rfl⟩) (xv_preK (vk_recv hE.2.2.2.2 hw0 hS) hE hA hS hK hP hD (isC := []) (by decide +kernel) hC) rfl rfl hl.1 rfl (lv_room (Nat.le_of_ble_eq_true rfl)) (zdt zkX4_isWord 18 rfl) ⟨Nat.le_refl _, Nat.le_refl _⟩) hP hD hS hA (by decide +kernel) rfl hC rfl rfl (fun H locs hP hD hS => ?_)
    refine xi_icmp_ge (tgt := 47) hx hb (zdt zkX4_isWord 21 rfl) (by decide) hf (fun hf => ?_) (fun hf => ?_)
    · refine lv_iconst (v := Int32.ofInt 1) hx hb (zdt zkX4_isWord 47 rfl) rfl ?_
      obtain rfl := Option.some.inj hf
      exact hret _ _ _ _ zz_b1 (zdt zkX4_isWord 48 rfl) hP hD hS
    · refine lv_aload_n hx hb (zdt zkX4_isWord 24 rfl) rfl (lv_at hl 1 rfl) ?_
      refine lv_iload_n hx hb (zdt zkX4_isWord 25 rfl) rfl (lv_at hl 2 rfl) ?_
      refine lv_iload hx hb (zdt zkX4_isWord 26 rfl) (lv_at hl 3 rfl) ?_
      refine xi_iadd hx hb (zdt zkX4_isWord 28 rfl) hf (fun v2 hf => ?_)
      refine xi_iald hx hb hK hP 0 0 rfl rfl (zdt zkX4_isWord 29 rfl) hf (fun v3 hf => ?_)
      refine lv_aload_n hx hb (zdt zkX4_isWord 30 rfl) rfl (lv_at hl 0 rfl) ?_
      refine lv_iload hx hb (zdt zkX4_isWord 31 rfl) (lv_at hl 3 rfl) ?_
      refine xe_d1 hf (fun v4 hg hf => ?_)
      have hC : ([] : List Nat).map (fun i => (wd_LawReader_isWord cA q0 i_a1)[i]?) = (wd_String_charAt cA).map some := rfl
      refine xv_afterI (ws' := (wd_LawReader_isWord cA q0 i_a1)) (isC := []) (ps := [none]) (va_runV (As := [.int (Int32.ofInt x4)]) (rest := [.int (Int32.ofInt v3)]) ⟨hx, hb, hml, hown, hts⟩ (c_String_charAt l ev dC dI cA w0 hw0 hg H.size) (cwV 1 hts (zgV zw_690 zw_691 zw_692 zw_117 zw_693) rfl rfl rfl hd_String_charAt ⟨Nat.le_of_ble_eq_true rfl, Nat.le_of_ble_eq_true rfl⟩) (xv_preK (vk_recv hE.2.2.2.2 hw0 hS) hE hA hS hK hP hD (isC := []) (by decide +kernel) hC) rfl rfl hl.1 rfl (lv_room (Nat.le_of_ble_eq_true rfl)) (zdt zkX4_isWord 33 rfl) ⟨Nat.le_refl _, Nat.le_refl _⟩) hP hD hS hA (by decide +kernel) rfl hC rfl rfl (fun H locs hP hD hS => ?_)
      refine xi_icmp_eq (tgt := 41) hx hb (zdt zkX4_isWord 36 rfl) (by decide) hf (fun hf => ?_) (fun hf => ?_)
      · refine xi_iinc hx hb (zdt zkX4_isWord 41 rfl) hl (k := 3) rfl (by decide) hf (fun v5 ls hl hf => ?_)
        have hl : lv_has ls 5 [(4, .int (Int32.ofInt v5)), (0, .ref (ev.2.1 w0)), (1, .ref q0), (2, .int (Int32.ofInt x2))] := hl
        refine lv_goto (tgt := 15) hx hb (zdt zkX4_isWord 44 rfl) (by decide) ?_
        exact ih15 _ _ _ _ _ hf hP hD hS (lv_sub hl [1, 2, 3, 0] rfl)
      · refine lv_iconst (v := Int32.ofInt 0) hx hb (zdt zkX4_isWord 39 rfl) rfl ?_
        obtain rfl := Option.some.inj hf
        exact hret _ _ _ _ zz_b0 (zdt zkX4_isWord 40 rfl) hP hD hS
  have l_15 : ∀ (n : Nat), ∀ (x2 : Int) (x4 : Int) (H : Heap) (locs : List Loc) (ls : Array Slot), f_LawReader_isWord_15 w0 i_a1 n x2 x4 = some out → va_P (dC, dI) vwCl (wd_LawReader_isWord cA q0 i_a1) H → va_D A (wd_LawReader_isWord cA q0 i_a1) → va_S A s.heap H locs → lv_has ls 5 [(0, .ref (ev.2.1 w0)), (1, .ref q0), (2, .int (Int32.ofInt x2)), (4, .int (Int32.ofInt x4))] → W p l e rm_LawReader_isWord s m args below meth c H locs 0 0 Q (F0 m 15 ls []) := by
    intro n
    induction n with
    | zero => intro x2 x4 H locs ls hf hP hD hS hl; exact nomatch hf
    | succ n ih => intro x2 x4 H locs ls hf hP hD hS hl; exact b_15 (f_LawReader_isWord_15 w0 i_a1 n) ih x2 x4 H locs ls hf hP hD hS hl
  unfold f_LawReader_isWord at hf
  refine lv_iload_n hx hb (zdt zkX4_isWord 0 rfl) rfl (lv_at hl 3 rfl) ?_
  refine lv_iload_n hx hb (zdt zkX4_isWord 1 rfl) rfl (lv_at hl 2 rfl) ?_
  refine xi_isub hx hb (zdt zkX4_isWord 2 rfl) hf (fun v1 hf => ?_)
  refine lv_aload_n hx hb (zdt zkX4_isWord 3 rfl) rfl (lv_at hl 0 rfl) ?_
  refine xe_d1 hf (fun v2 hg hf => ?_)
  have hC : ([] : List Nat).map (fun i => (wd_LawReader_isWord cA q0 i_a1)[i]?) = (wd_String_length cA).map some := rfl
  refine xv_afterI (ws' := (wd_LawReader_isWord cA q0 i_a1)) (isC := []) (ps := [none]) (va_runV (As := []) (rest := [.int (Int32.ofInt v1)]) ⟨hx, hb, hml, hown, hts⟩ (c_String_length l ev dC dI cA w0 hw0 hg H.size) (cwV 0 hts (zgV zw_680 zw_681 zw_682 zw_117 zw_683) rfl rfl rfl hd_String_length ⟨Nat.le_of_ble_eq_true rfl, Nat.le_of_ble_eq_true rfl⟩) (xv_preK (vk_recv hE.2.2.2.2 hw0 hS) hE hA hS hK hP hD (isC := []) (by decide +kernel) hC) rfl rfl hl.1 rfl (lv_room (Nat.le_of_ble_eq_true rfl)) (zdt zkX4_isWord 4 rfl) ⟨Nat.le_refl _, Nat.le_refl _⟩) hP hD hS hA (by decide +kernel) rfl hC rfl rfl (fun H locs hP hD hS => ?_)
  refine xi_icmp_eq (tgt := 12) hx hb (zdt zkX4_isWord 7 rfl) (by decide) hf (fun hf => ?_) (fun hf => ?_)
  · refine lv_iconst (v := Int32.ofInt 0) hx hb (zdt zkX4_isWord 12 rfl) rfl ?_
    refine lv_istore (lv' := [(4, .int (Int32.ofInt 0)), (0, .ref (ev.2.1 w0)), (1, .ref q0), (2, .int (Int32.ofInt x2)), (3, .int (Int32.ofInt x3))]) hx hb (zdt zkX4_isWord 13 rfl) hl (by decide) rfl (fun ls hl => ?_)
    exact l_15  _ _ _ _ _ _ hf hP hD hS (lv_sub hl [1, 2, 3, 0] rfl)
  · refine lv_iconst (v := Int32.ofInt 0) hx hb (zdt zkX4_isWord 10 rfl) rfl ?_
    obtain rfl := Option.some.inj hf
    exact hret _ _ _ _ zz_b0 (zdt zkX4_isWord 11 rfl) hP hD hS
set_option maxRecDepth 100000 in
noncomputable def ztX4_ruleWordOf (p : Nat) : Option (Jvm.ClassFile.Instr × Nat) := bif Nat.ble 47 p then (bif Nat.ble 68 p then (bif Nat.ble 79 p then (bif Nat.ble 86 p then (bif Nat.ble 92 p then (bif Nat.ble 95 p then (bif Nat.beq p 95 then some (.ireturn, 1) else none) else (bif Nat.beq p 92 then some (.sipush 256, 3) else none)) else (bif Nat.ble 89 p then (bif Nat.beq p 89 then some (.goto 6, 3) else none) else (bif Nat.beq p 86 then some (.sipush 265, 3) else none))) else (bif Nat.ble 80 p then (bif Nat.ble 83 p then (bif Nat.beq p 83 then some (.ifCond .eq 9, 3) else none) else (bif Nat.beq p 80 then some (.invokestatic 100, 3) else none)) else (bif Nat.beq p 79 then some (.iload_n 2, 1) else none))) else (bif Nat.ble 75 p then (bif Nat.ble 77 p then (bif Nat.ble 78 p then (bif Nat.beq p 78 then some (.iload_n 1, 1) else none) else (bif Nat.beq p 77 then some (.aload_n 0, 1) else none)) else (bif Nat.beq p 75 then some (.ldc 130, 2) else none)) else (bif Nat.ble 71 p then (bif Nat.ble 74 p then (bif Nat.beq p 74 then some (.ireturn, 1) else none) else (bif Nat.beq p 71 then some (.sipush 264, 3) else none)) else (bif Nat.beq p 68 then some (.ifCond .eq 7, 3) else none)))) else (bif Nat.ble 59 p then (bif Nat.ble 63 p then (bif Nat.ble 64 p then (bif Nat.ble 65 p then (bif Nat.beq p 65 then some (.invokestatic 100, 3) else none) else (bif Nat.beq p 64 then some (.iload_n 2, 1) else none)) else (bif Nat.beq p 63 then some (.iload_n 1, 1) else none)) else (bif Nat.ble 60 p then (bif Nat.ble 62 p then (bif Nat.beq p 62 then some (.aload_n 0, 1) else none) else (bif Nat.beq p 60 then some (.ldc 128, 2) else none)) else (bif Nat.beq p 59 then some (.ireturn, 1) else none))) else (bif Nat.ble 50 p then (bif Nat.ble 53 p then (bif Nat.ble 56 p then (bif Nat.beq p 56 then some (.sipush 263, 3) else none) else (bif Nat.beq p 53 then some (.ifCond .eq 7, 3) else none)) else (bif Nat.beq p 50 then some (.invokestatic 100, 3) else none)) else (bif Nat.ble 48 p then (bif Nat.ble 49 p then (bif Nat.beq p 49 then some (.iload_n 2, 1) else none) else (bif Nat.beq p 48 then some (.iload_n 1, 1) else none)) else (bif Nat.beq p 47 then some (.aload_n 0, 1) else none))))) else (bif Nat.ble 20 p then (bif Nat.ble 33 p then (bif Nat.ble 38 p then (bif Nat.ble 44 p then (bif Nat.ble 45 p then (bif Nat.beq p 45 then some (.ldc 126, 2) else none) else (bif Nat.beq p 44 then some (.ireturn, 1) else none)) else (bif Nat.ble 41 p then (bif Nat.beq p 41 then some (.sipush 262, 3) else none) else (bif Nat.beq p 38 then some (.ifCond .eq 7, 3) else none))) else (bif Nat.ble 34 p then (bif Nat.ble 35 p then (bif Nat.beq p 35 then some (.invokestatic 100, 3) else none) else (bif Nat.beq p 34 then some (.iload_n 2, 1) else none)) else (bif Nat.beq p 33 then some (.iload_n 1, 1) else none))) else (bif Nat.ble 29 p then (bif Nat.ble 30 p then (bif Nat.ble 32 p then (bif Nat.beq p 32 then some (.aload_n 0, 1) else none) else (bif Nat.beq p 30 then some (.ldc 124, 2) else none)) else (bif Nat.beq p 29 then some (.ireturn, 1) else none)) else (bif Nat.ble 23 p then (bif Nat.ble 26 p then (bif Nat.beq p 26 then some (.sipush 261, 3) else none) else (bif Nat.beq p 23 then some (.ifCond .eq 7, 3) else none)) else (bif Nat.beq p 20 then some (.invokestatic 100, 3) else none)))) else (bif Nat.ble 11 p then (bif Nat.ble 17 p then (bif Nat.ble 18 p then (bif Nat.ble 19 p then (bif Nat.beq p 19 then some (.iload_n 2, 1) else none) else (bif Nat.beq p 18 then some (.iload_n 1, 1) else none)) else (bif Nat.beq p 17 then some (.aload_n 0, 1) else none)) else (bif Nat.ble 14 p then (bif Nat.ble 15 p then (bif Nat.beq p 15 then some (.ldc 122, 2) else none) else (bif Nat.beq p 14 then some (.ireturn, 1) else none)) else (bif Nat.beq p 11 then some (.sipush 260, 3) else none))) else (bif Nat.ble 4 p then (bif Nat.ble 5 p then (bif Nat.ble 8 p then (bif Nat.beq p 8 then some (.ifCond .eq 7, 3) else none) else (bif Nat.beq p 5 then some (.invokestatic 100, 3) else none)) else (bif Nat.beq p 4 then some (.iload_n 2, 1) else none)) else (bif Nat.ble 2 p then (bif Nat.ble 3 p then (bif Nat.beq p 3 then some (.iload_n 1, 1) else none) else (bif Nat.beq p 2 then some (.aload_n 0, 1) else none)) else (bif Nat.beq p 0 then some (.ldc 120, 2) else none)))))
set_option maxRecDepth 100000 in
theorem zkX4_ruleWordOf : (zbig cX4_ruleWordOf.data.toList = 1043098191955358229638388672723671973769865094732377803376587014540836526468809555120719161799799054258012349078509219335470093939645825774509452319676405643677771386402085922223986890775696541089979498398267513293647100475834267666 ∧ cX4_ruleWordOf.data.toList.length = 96) ∧ zdk cX4_ruleWordOf 1043098191955358229638388672723671973769865094732377803376587014540836526468809555120719161799799054258012349078509219335470093939645825774509452319676405643677771386402085922223986890775696541089979498398267513293647100475834267666 96 ztX4_ruleWordOf 95 = true := by decide +kernel
theorem zw_677 : (Jvm.Cond.methodLink "HillSchool$LawReader" (100 : Nat) ({ cls := "HillSchool$LawReader", name := "isWord", desc := "(Ljava/lang/String;[III)Z" } : Jvm.MethodName)) ∈ zall := zmemG (zmj_3 94 rfl) rfl
theorem zw_678 : (Jvm.Cond.static ({ cls := "HillSchool$LawReader", name := "isWord", desc := "(Ljava/lang/String;[III)Z" } : Jvm.MethodName)) ∈ zall := zmemG (zmj_3 95 rfl) rfl
theorem zw_737 : (Jvm.Cond.code ({ cls := "HillSchool$LawReader", name := "ruleWordOf", desc := "([III)I" } : Jvm.MethodName) prog_6_method_18_code (3 : Nat) (Option.some Jvm.ClassFile.FieldType.int)) ∈ zall := zmemG (zmj_3 154 rfl) rfl
noncomputable abbrev w_LawReader_ruleWordOf : List Cond := .code yX4_ruleWordOf cX4_ruleWordOf 3 (some .int) :: zall
noncomputable abbrev rm_LawReader_ruleWordOf : Room := { frames := 5, cells := 0, slots := 0, locals := 109 }
theorem hd_LawReader_ruleWordOf : yX4_ruleWordOf.cls = yX4_ruleWordOf.cls ∧ yX4_ruleWordOf.cls ≠ "java/lang/invoke/MethodHandle" ∧ yX4_ruleWordOf.cls ≠ "java/lang/invoke/VarHandle" ∧ (parseMethodDescriptor yX4_ruleWordOf.desc).map (fun d => d.parameters.length) = some 3 := by decide +kernel
noncomputable def wd_LawReader_ruleWordOf (cA : Nat → ClassId) (q0 : Nat) (i_a0 : Nat → Int)  : va_W := [(q0, .inl (cA 0, 400, .inl (za i_a0)))]
noncomputable def wf_LawReader_ruleWordOf (cA : Nat → ClassId) (q0 : Nat) (i_a0 : Nat → Int) (o : Int) : va_W := wd_LawReader_ruleWordOf cA q0 i_a0
noncomputable def f_LawReader_ruleWordOf (x1 : Int) (x2 : Int) (i_a0 : Nat → Int) : Option (Int) :=
  zd1 (f_LawReader_isWord x1 x2 8 i_a0) fun v1 =>
  if zi_w v1 = 0 then
    zd1 (f_LawReader_isWord x1 x2 9 i_a0) fun v2 =>
    if zi_w v2 = 0 then
      zd1 (f_LawReader_isWord x1 x2 10 i_a0) fun v3 =>
      if zi_w v3 = 0 then
        zd1 (f_LawReader_isWord x1 x2 11 i_a0) fun v4 =>
        if zi_w v4 = 0 then
          zd1 (f_LawReader_isWord x1 x2 12 i_a0) fun v5 =>
          if zi_w v5 = 0 then
            zd1 (f_LawReader_isWord x1 x2 13 i_a0) fun v6 =>
            if zi_w v6 = 0 then
              some 256
            else
              some 265
          else
            some 264
        else
          some 263
      else
        some 262
    else
      some 261
  else
    some 260
set_option maxHeartbeats 4000000 in
set_option maxRecDepth 100000 in
theorem c_LawReader_ruleWordOf (l : Launch) (ev : zEv) (dC : Nat → ClassId) (dI : Nat → Nat → Nat) (cA : Nat → ClassId) (q0 : Nat) {x1 x2 : Int} {i_a0 : Nat → Int} {out : Int} (hf : f_LawReader_ruleWordOf x1 x2 i_a0 = some out) : xc_I l ev (dC, dI) vwCl (tyl cA) yX4_ruleWordOf w_LawReader_ruleWordOf rm_LawReader_ruleWordOf [.ref q0, .int (Int32.ofInt x1), .int (Int32.ofInt x2)] (wd_LawReader_ruleWordOf cA q0 i_a0) (wf_LawReader_ruleWordOf cA q0 i_a0 out) out := by
  refine xv_startI (cc := cX4_ruleWordOf) (maxL := 3) (rt := .int) (by decide +kernel) rfl (Nat.le_of_ble_eq_true rfl) ?_
  intro p e s m args below meth c A Q H ls hx hb hml hts hown hK hA hP hD hS hl hE hret
  have hown : s.vm.findClass "HillSchool$LawReader" = some m.cls := hown
  have hz : ∀ w ∈ zall, w.before args s = true := fun w h => hts w (List.mem_cons_of_mem _ h)
  have hl : lv_has ls 3 [(0, .ref q0), (1, .int (Int32.ofInt x1)), (2, .int (Int32.ofInt x2))] := hl
  unfold f_LawReader_ruleWordOf at hf
  refine va_ldcS hx hb hown (hE.1.2 8 (by decide)) (zdt zkX4_ruleWordOf 0 rfl) ?_
  refine lv_aload_n hx hb (zdt zkX4_ruleWordOf 2 rfl) rfl (lv_at hl 0 rfl) ?_
  refine lv_iload_n hx hb (zdt zkX4_ruleWordOf 3 rfl) rfl (lv_at hl 1 rfl) ?_
  refine lv_iload_n hx hb (zdt zkX4_ruleWordOf 4 rfl) rfl (lv_at hl 2 rfl) ?_
  refine xe_d1 hf (fun v1 hg hf => ?_)
  have hC : ([0] : List Nat).map (fun i => (wd_LawReader_ruleWordOf cA q0 i_a0)[i]?) = (wd_LawReader_isWord cA q0 i_a0).map some := rfl
  refine xv_afterI (ws' := (wd_LawReader_ruleWordOf cA q0 i_a0)) (isC := [0]) (ps := [some 0]) (va_runS (As := [.ref (ev.2.1 8), .ref q0, .int (Int32.ofInt x1), .int (Int32.ofInt x2)]) (rest := []) ⟨hx, hb, hml, hown, hts⟩ (c_LawReader_isWord l ev dC dI cA q0 8 (by decide) hg H.size) (va_cwS 4 hts (zgS zw_677 zw_678 zw_107 zw_679) rfl rfl rfl hd_LawReader_isWord.2 ⟨Nat.le_of_ble_eq_true rfl, Nat.le_of_ble_eq_true rfl⟩) (xv_preS hE hA hS hK hP hD (isC := [0]) (by decide +kernel) hC) rfl rfl hl.1 rfl (lv_room (Nat.le_of_ble_eq_true rfl)) (zdt zkX4_ruleWordOf 5 rfl) ⟨Nat.le_refl _, Nat.le_refl _⟩) hP hD hS hA (by decide +kernel) rfl hC rfl rfl (fun H locs hP hD hS => ?_)
  refine xi_if_eq (tgt := 15) hx hb (zdt zkX4_ruleWordOf 8 rfl) (by decide) hf (fun hf => ?_) (fun hf => ?_)
  · refine va_ldcS hx hb hown (hE.1.2 9 (by decide)) (zdt zkX4_ruleWordOf 15 rfl) ?_
    refine lv_aload_n hx hb (zdt zkX4_ruleWordOf 17 rfl) rfl (lv_at hl 0 rfl) ?_
    refine lv_iload_n hx hb (zdt zkX4_ruleWordOf 18 rfl) rfl (lv_at hl 1 rfl) ?_
    refine lv_iload_n hx hb (zdt zkX4_ruleWordOf 19 rfl) rfl (lv_at hl 2 rfl) ?_
    refine xe_d1 hf (fun v2 hg hf => ?_)
    have hC : ([0] : List Nat).map (fun i => (wd_LawReader_ruleWordOf cA q0 i_a0)[i]?) = (wd_LawReader_isWord cA q0 i_a0).map some := rfl
    refine xv_afterI (ws' := (wd_LawReader_ruleWordOf cA q0 i_a0)) (isC := [0]) (ps := [some 0]) (va_runS (As := [.ref (ev.2.1 9), .ref q0, .int (Int32.ofInt x1), .int (Int32.ofInt x2)]) (rest := []) ⟨hx, hb, hml, hown, hts⟩ (c_LawReader_isWord l ev dC dI cA q0 9 (by decide) hg H.size) (va_cwS 4 hts (zgS zw_677 zw_678 zw_107 zw_679) rfl rfl rfl hd_LawReader_isWord.2 ⟨Nat.le_of_ble_eq_true rfl, Nat.le_of_ble_eq_true rfl⟩) (xv_preS hE hA hS hK hP hD (isC := [0]) (by decide +kernel) hC) rfl rfl hl.1 rfl (lv_room (Nat.le_of_ble_eq_true rfl)) (zdt zkX4_ruleWordOf 20 rfl) ⟨Nat.le_refl _, Nat.le_refl _⟩) hP hD hS hA (by decide +kernel) rfl hC rfl rfl (fun H locs hP hD hS => ?_)
    refine xi_if_eq (tgt := 30) hx hb (zdt zkX4_ruleWordOf 23 rfl) (by decide) hf (fun hf => ?_) (fun hf => ?_)
    · refine va_ldcS hx hb hown (hE.1.2 10 (by decide)) (zdt zkX4_ruleWordOf 30 rfl) ?_
      refine lv_aload_n hx hb (zdt zkX4_ruleWordOf 32 rfl) rfl (lv_at hl 0 rfl) ?_
      refine lv_iload_n hx hb (zdt zkX4_ruleWordOf 33 rfl) rfl (lv_at hl 1 rfl) ?_
      refine lv_iload_n hx hb (zdt zkX4_ruleWordOf 34 rfl) rfl (lv_at hl 2 rfl) ?_
      refine xe_d1 hf (fun v3 hg hf => ?_)
      have hC : ([0] : List Nat).map (fun i => (wd_LawReader_ruleWordOf cA q0 i_a0)[i]?) = (wd_LawReader_isWord cA q0 i_a0).map some := rfl
      refine xv_afterI (ws' := (wd_LawReader_ruleWordOf cA q0 i_a0)) (isC := [0]) (ps := [some 0]) (va_runS (As := [.ref (ev.2.1 10), .ref q0, .int (Int32.ofInt x1), .int (Int32.ofInt x2)]) (rest := []) ⟨hx, hb, hml, hown, hts⟩ (c_LawReader_isWord l ev dC dI cA q0 10 (by decide) hg H.size) (va_cwS 4 hts (zgS zw_677 zw_678 zw_107 zw_679) rfl rfl rfl hd_LawReader_isWord.2 ⟨Nat.le_of_ble_eq_true rfl, Nat.le_of_ble_eq_true rfl⟩) (xv_preS hE hA hS hK hP hD (isC := [0]) (by decide +kernel) hC) rfl rfl hl.1 rfl (lv_room (Nat.le_of_ble_eq_true rfl)) (zdt zkX4_ruleWordOf 35 rfl) ⟨Nat.le_refl _, Nat.le_refl _⟩) hP hD hS hA (by decide +kernel) rfl hC rfl rfl (fun H locs hP hD hS => ?_)
      refine xi_if_eq (tgt := 45) hx hb (zdt zkX4_ruleWordOf 38 rfl) (by decide) hf (fun hf => ?_) (fun hf => ?_)
      · refine va_ldcS hx hb hown (hE.1.2 11 (by decide)) (zdt zkX4_ruleWordOf 45 rfl) ?_
        refine lv_aload_n hx hb (zdt zkX4_ruleWordOf 47 rfl) rfl (lv_at hl 0 rfl) ?_
        refine lv_iload_n hx hb (zdt zkX4_ruleWordOf 48 rfl) rfl (lv_at hl 1 rfl) ?_
        refine lv_iload_n hx hb (zdt zkX4_ruleWordOf 49 rfl) rfl (lv_at hl 2 rfl) ?_
        refine xe_d1 hf (fun v4 hg hf => ?_)
        have hC : ([0] : List Nat).map (fun i => (wd_LawReader_ruleWordOf cA q0 i_a0)[i]?) = (wd_LawReader_isWord cA q0 i_a0).map some := rfl
        refine xv_afterI (ws' := (wd_LawReader_ruleWordOf cA q0 i_a0)) (isC := [0]) (ps := [some 0]) (va_runS (As := [.ref (ev.2.1 11), .ref q0, .int (Int32.ofInt x1), .int (Int32.ofInt x2)]) (rest := []) ⟨hx, hb, hml, hown, hts⟩ (c_LawReader_isWord l ev dC dI cA q0 11 (by decide) hg H.size) (va_cwS 4 hts (zgS zw_677 zw_678 zw_107 zw_679) rfl rfl rfl hd_LawReader_isWord.2 ⟨Nat.le_of_ble_eq_true rfl, Nat.le_of_ble_eq_true rfl⟩) (xv_preS hE hA hS hK hP hD (isC := [0]) (by decide +kernel) hC) rfl rfl hl.1 rfl (lv_room (Nat.le_of_ble_eq_true rfl)) (zdt zkX4_ruleWordOf 50 rfl) ⟨Nat.le_refl _, Nat.le_refl _⟩) hP hD hS hA (by decide +kernel) rfl hC rfl rfl (fun H locs hP hD hS => ?_)
        refine xi_if_eq (tgt := 60) hx hb (zdt zkX4_ruleWordOf 53 rfl) (by decide) hf (fun hf => ?_) (fun hf => ?_)
        · refine va_ldcS hx hb hown (hE.1.2 12 (by decide)) (zdt zkX4_ruleWordOf 60 rfl) ?_
          refine lv_aload_n hx hb (zdt zkX4_ruleWordOf 62 rfl) rfl (lv_at hl 0 rfl) ?_
          refine lv_iload_n hx hb (zdt zkX4_ruleWordOf 63 rfl) rfl (lv_at hl 1 rfl) ?_
          refine lv_iload_n hx hb (zdt zkX4_ruleWordOf 64 rfl) rfl (lv_at hl 2 rfl) ?_
          refine xe_d1 hf (fun v5 hg hf => ?_)
          have hC : ([0] : List Nat).map (fun i => (wd_LawReader_ruleWordOf cA q0 i_a0)[i]?) = (wd_LawReader_isWord cA q0 i_a0).map some := rfl
          refine xv_afterI (ws' := (wd_LawReader_ruleWordOf cA q0 i_a0)) (isC := [0]) (ps := [some 0]) (va_runS (As := [.ref (ev.2.1 12), .ref q0, .int (Int32.ofInt x1), .int (Int32.ofInt x2)]) (rest := []) ⟨hx, hb, hml, hown, hts⟩ (c_LawReader_isWord l ev dC dI cA q0 12 (by decide) hg H.size) (va_cwS 4 hts (zgS zw_677 zw_678 zw_107 zw_679) rfl rfl rfl hd_LawReader_isWord.2 ⟨Nat.le_of_ble_eq_true rfl, Nat.le_of_ble_eq_true rfl⟩) (xv_preS hE hA hS hK hP hD (isC := [0]) (by decide +kernel) hC) rfl rfl hl.1 rfl (lv_room (Nat.le_of_ble_eq_true rfl)) (zdt zkX4_ruleWordOf 65 rfl) ⟨Nat.le_refl _, Nat.le_refl _⟩) hP hD hS hA (by decide +kernel) rfl hC rfl rfl (fun H locs hP hD hS => ?_)
          refine xi_if_eq (tgt := 75) hx hb (zdt zkX4_ruleWordOf 68 rfl) (by decide) hf (fun hf => ?_) (fun hf => ?_)
          · refine va_ldcS hx hb hown (hE.1.2 13 (by decide)) (zdt zkX4_ruleWordOf 75 rfl) ?_
            refine lv_aload_n hx hb (zdt zkX4_ruleWordOf 77 rfl) rfl (lv_at hl 0 rfl) ?_
            refine lv_iload_n hx hb (zdt zkX4_ruleWordOf 78 rfl) rfl (lv_at hl 1 rfl) ?_
            refine lv_iload_n hx hb (zdt zkX4_ruleWordOf 79 rfl) rfl (lv_at hl 2 rfl) ?_
            refine xe_d1 hf (fun v6 hg hf => ?_)
            have hC : ([0] : List Nat).map (fun i => (wd_LawReader_ruleWordOf cA q0 i_a0)[i]?) = (wd_LawReader_isWord cA q0 i_a0).map some := rfl
            refine xv_afterI (ws' := (wd_LawReader_ruleWordOf cA q0 i_a0)) (isC := [0]) (ps := [some 0]) (va_runS (As := [.ref (ev.2.1 13), .ref q0, .int (Int32.ofInt x1), .int (Int32.ofInt x2)]) (rest := []) ⟨hx, hb, hml, hown, hts⟩ (c_LawReader_isWord l ev dC dI cA q0 13 (by decide) hg H.size) (va_cwS 4 hts (zgS zw_677 zw_678 zw_107 zw_679) rfl rfl rfl hd_LawReader_isWord.2 ⟨Nat.le_of_ble_eq_true rfl, Nat.le_of_ble_eq_true rfl⟩) (xv_preS hE hA hS hK hP hD (isC := [0]) (by decide +kernel) hC) rfl rfl hl.1 rfl (lv_room (Nat.le_of_ble_eq_true rfl)) (zdt zkX4_ruleWordOf 80 rfl) ⟨Nat.le_refl _, Nat.le_refl _⟩) hP hD hS hA (by decide +kernel) rfl hC rfl rfl (fun H locs hP hD hS => ?_)
            refine xi_if_eq (tgt := 92) hx hb (zdt zkX4_ruleWordOf 83 rfl) (by decide) hf (fun hf => ?_) (fun hf => ?_)
            · refine lv_sipush (v := Int32.ofInt 256) hx hb (zdt zkX4_ruleWordOf 92 rfl) (by decide) ?_
              obtain rfl := Option.some.inj hf
              exact hret _ _ _ _ rfl (zdt zkX4_ruleWordOf 95 rfl) hP hD hS
            · refine lv_sipush (v := Int32.ofInt 265) hx hb (zdt zkX4_ruleWordOf 86 rfl) (by decide) ?_
              refine lv_goto (tgt := 95) hx hb (zdt zkX4_ruleWordOf 89 rfl) (by decide) ?_
              obtain rfl := Option.some.inj hf
              exact hret _ _ _ _ rfl (zdt zkX4_ruleWordOf 95 rfl) hP hD hS
          · refine lv_sipush (v := Int32.ofInt 264) hx hb (zdt zkX4_ruleWordOf 71 rfl) (by decide) ?_
            obtain rfl := Option.some.inj hf
            exact hret _ _ _ _ rfl (zdt zkX4_ruleWordOf 74 rfl) hP hD hS
        · refine lv_sipush (v := Int32.ofInt 263) hx hb (zdt zkX4_ruleWordOf 56 rfl) (by decide) ?_
          obtain rfl := Option.some.inj hf
          exact hret _ _ _ _ rfl (zdt zkX4_ruleWordOf 59 rfl) hP hD hS
      · refine lv_sipush (v := Int32.ofInt 262) hx hb (zdt zkX4_ruleWordOf 41 rfl) (by decide) ?_
        obtain rfl := Option.some.inj hf
        exact hret _ _ _ _ rfl (zdt zkX4_ruleWordOf 44 rfl) hP hD hS
    · refine lv_sipush (v := Int32.ofInt 261) hx hb (zdt zkX4_ruleWordOf 26 rfl) (by decide) ?_
      obtain rfl := Option.some.inj hf
      exact hret _ _ _ _ rfl (zdt zkX4_ruleWordOf 29 rfl) hP hD hS
  · refine lv_sipush (v := Int32.ofInt 260) hx hb (zdt zkX4_ruleWordOf 11 rfl) (by decide) ?_
    obtain rfl := Option.some.inj hf
    exact hret _ _ _ _ rfl (zdt zkX4_ruleWordOf 14 rfl) hP hD hS
set_option maxRecDepth 100000 in
noncomputable def ztX4_wordOf (p : Nat) : Option (Jvm.ClassFile.Instr × Nat) := bif Nat.ble 54 p then (bif Nat.ble 80 p then (bif Nat.ble 94 p then (bif Nat.ble 100 p then (bif Nat.ble 105 p then (bif Nat.ble 108 p then (bif Nat.ble 109 p then (bif Nat.beq p 109 then some (.ireturn, 1) else none) else (bif Nat.beq p 108 then some (.iconst (-1), 1) else none)) else (bif Nat.beq p 105 then some (.goto 4, 3) else none)) else (bif Nat.ble 103 p then (bif Nat.beq p 103 then some (.bipush 7, 2) else none) else (bif Nat.beq p 100 then some (.ifCond .eq 8, 3) else none))) else (bif Nat.ble 96 p then (bif Nat.ble 97 p then (bif Nat.beq p 97 then some (.invokestatic 100, 3) else none) else (bif Nat.beq p 96 then some (.iload_n 2, 1) else none)) else (bif Nat.ble 95 p then (bif Nat.beq p 95 then some (.iload_n 1, 1) else none) else (bif Nat.beq p 94 then some (.aload_n 0, 1) else none)))) else (bif Nat.ble 86 p then (bif Nat.ble 91 p then (bif Nat.ble 92 p then (bif Nat.beq p 92 then some (.ldc 118, 2) else none) else (bif Nat.beq p 91 then some (.ireturn, 1) else none)) else (bif Nat.ble 89 p then (bif Nat.beq p 89 then some (.bipush 6, 2) else none) else (bif Nat.beq p 86 then some (.ifCond .eq 6, 3) else none))) else (bif Nat.ble 82 p then (bif Nat.ble 83 p then (bif Nat.beq p 83 then some (.invokestatic 100, 3) else none) else (bif Nat.beq p 82 then some (.iload_n 2, 1) else none)) else (bif Nat.ble 81 p then (bif Nat.beq p 81 then some (.iload_n 1, 1) else none) else (bif Nat.beq p 80 then some (.aload_n 0, 1) else none))))) else (bif Nat.ble 67 p then (bif Nat.ble 73 p then (bif Nat.ble 77 p then (bif Nat.ble 78 p then (bif Nat.beq p 78 then some (.ldc 116, 2) else none) else (bif Nat.beq p 77 then some (.ireturn, 1) else none)) else (bif Nat.ble 76 p then (bif Nat.beq p 76 then some (.iconst 5, 1) else none) else (bif Nat.beq p 73 then some (.ifCond .eq 5, 3) else none))) else (bif Nat.ble 69 p then (bif Nat.ble 70 p then (bif Nat.beq p 70 then some (.invokestatic 100, 3) else none) else (bif Nat.beq p 69 then some (.iload_n 2, 1) else none)) else (bif Nat.ble 68 p then (bif Nat.beq p 68 then some (.iload_n 1, 1) else none) else (bif Nat.beq p 67 then some (.aload_n 0, 1) else none)))) else (bif Nat.ble 60 p then (bif Nat.ble 64 p then (bif Nat.ble 65 p then (bif Nat.beq p 65 then some (.ldc 114, 2) else none) else (bif Nat.beq p 64 then some (.ireturn, 1) else none)) else (bif Nat.ble 63 p then (bif Nat.beq p 63 then some (.iconst 4, 1) else none) else (bif Nat.beq p 60 then some (.ifCond .eq 5, 3) else none))) else (bif Nat.ble 56 p then (bif Nat.ble 57 p then (bif Nat.beq p 57 then some (.invokestatic 100, 3) else none) else (bif Nat.beq p 56 then some (.iload_n 2, 1) else none)) else (bif Nat.ble 55 p then (bif Nat.beq p 55 then some (.iload_n 1, 1) else none) else (bif Nat.beq p 54 then some (.aload_n 0, 1) else none)))))) else (bif Nat.ble 26 p then (bif Nat.ble 39 p then (bif Nat.ble 44 p then (bif Nat.ble 50 p then (bif Nat.ble 51 p then (bif Nat.ble 52 p then (bif Nat.beq p 52 then some (.ldc 112, 2) else none) else (bif Nat.beq p 51 then some (.ireturn, 1) else none)) else (bif Nat.beq p 50 then some (.iconst 3, 1) else none)) else (bif Nat.ble 47 p then (bif Nat.beq p 47 then some (.ifCond .eq 5, 3) else none) else (bif Nat.beq p 44 then some (.invokestatic 100, 3) else none))) else (bif Nat.ble 42 p then (bif Nat.ble 43 p then (bif Nat.beq p 43 then some (.iload_n 2, 1) else none) else (bif Nat.beq p 42 then some (.iload_n 1, 1) else none)) else (bif Nat.ble 41 p then (bif Nat.beq p 41 then some (.aload_n 0, 1) else none) else (bif Nat.beq p 39 then some (.ldc 110, 2) else none)))) else (bif Nat.ble 31 p then (bif Nat.ble 37 p then (bif Nat.ble 38 p then (bif Nat.beq p 38 then some (.ireturn, 1) else none) else (bif Nat.beq p 37 then some (.iconst 2, 1) else none)) else (bif Nat.ble 34 p then (bif Nat.beq p 34 then some (.ifCond .eq 5, 3) else none) else (bif Nat.beq p 31 then some (.invokestatic 100, 3) else none))) else (bif Nat.ble 29 p then (bif Nat.ble 30 p then (bif Nat.beq p 30 then some (.iload_n 2, 1) else none) else (bif Nat.beq p 29 then some (.iload_n 1, 1) else none)) else (bif Nat.ble 28 p then (bif Nat.beq p 28 then some (.aload_n 0, 1) else none) else (bif Nat.beq p 26 then some (.ldc 108, 2) else none))))) else (bif Nat.ble 13 p then (bif Nat.ble 18 p then (bif Nat.ble 24 p then (bif Nat.ble 25 p then (bif Nat.beq p 25 then some (.ireturn, 1) else none) else (bif Nat.beq p 24 then some (.iconst 1, 1) else none)) else (bif Nat.ble 21 p then (bif Nat.beq p 21 then some (.ifCond .eq 5, 3) else none) else (bif Nat.beq p 18 then some (.invokestatic 100, 3) else none))) else (bif Nat.ble 16 p then (bif Nat.ble 17 p then (bif Nat.beq p 17 then some (.iload_n 2, 1) else none) else (bif Nat.beq p 16 then some (.iload_n 1, 1) else none)) else (bif Nat.ble 15 p then (bif Nat.beq p 15 then some (.aload_n 0, 1) else none) else (bif Nat.beq p 13 then some (.ldc 106, 2) else none)))) else (bif Nat.ble 5 p then (bif Nat.ble 11 p then (bif Nat.ble 12 p then (bif Nat.beq p 12 then some (.ireturn, 1) else none) else (bif Nat.beq p 11 then some (.iconst 0, 1) else none)) else (bif Nat.ble 8 p then (bif Nat.beq p 8 then some (.ifCond .eq 5, 3) else none) else (bif Nat.beq p 5 then some (.invokestatic 100, 3) else none))) else (bif Nat.ble 3 p then (bif Nat.ble 4 p then (bif Nat.beq p 4 then some (.iload_n 2, 1) else none) else (bif Nat.beq p 3 then some (.iload_n 1, 1) else none)) else (bif Nat.ble 2 p then (bif Nat.beq p 2 then some (.aload_n 0, 1) else none) else (bif Nat.beq p 0 then some (.ldc 98, 2) else none))))))
set_option maxRecDepth 100000 in
theorem zkX4_wordOf : (zbig cX4_wordOf.data.toList = 5416322882261460668158401916684513894166225908501226220764408463528428084205605561169349043054932213000718965408567866074825804356196988545274135000726717140533057561534905039564382908540933306181341084602906234336910307559678018662367646264331468960561163768848914 ∧ cX4_wordOf.data.toList.length = 110) ∧ zdk cX4_wordOf 5416322882261460668158401916684513894166225908501226220764408463528428084205605561169349043054932213000718965408567866074825804356196988545274135000726717140533057561534905039564382908540933306181341084602906234336910307559678018662367646264331468960561163768848914 110 ztX4_wordOf 109 = true := by decide +kernel
theorem zw_675 : (Jvm.Cond.code ({ cls := "HillSchool$LawReader", name := "wordOf", desc := "([III)I" } : Jvm.MethodName) prog_6_method_17_code (3 : Nat) (Option.some Jvm.ClassFile.FieldType.int)) ∈ zall := zmemG (zmj_3 92 rfl) rfl
noncomputable abbrev w_LawReader_wordOf : List Cond := .code yX4_wordOf cX4_wordOf 3 (some .int) :: zall
noncomputable abbrev rm_LawReader_wordOf : Room := { frames := 5, cells := 0, slots := 0, locals := 109 }
theorem hd_LawReader_wordOf : yX4_wordOf.cls = yX4_wordOf.cls ∧ yX4_wordOf.cls ≠ "java/lang/invoke/MethodHandle" ∧ yX4_wordOf.cls ≠ "java/lang/invoke/VarHandle" ∧ (parseMethodDescriptor yX4_wordOf.desc).map (fun d => d.parameters.length) = some 3 := by decide +kernel
noncomputable def wd_LawReader_wordOf (cA : Nat → ClassId) (q0 : Nat) (i_a0 : Nat → Int)  : va_W := [(q0, .inl (cA 0, 400, .inl (za i_a0)))]
noncomputable def wf_LawReader_wordOf (cA : Nat → ClassId) (q0 : Nat) (i_a0 : Nat → Int) (o : Int) : va_W := wd_LawReader_wordOf cA q0 i_a0
noncomputable def f_LawReader_wordOf (x1 : Int) (x2 : Int) (i_a0 : Nat → Int) : Option (Int) :=
  zd1 (f_LawReader_isWord x1 x2 0 i_a0) fun v1 =>
  if zi_w v1 = 0 then
    zd1 (f_LawReader_isWord x1 x2 1 i_a0) fun v2 =>
    if zi_w v2 = 0 then
      zd1 (f_LawReader_isWord x1 x2 2 i_a0) fun v3 =>
      if zi_w v3 = 0 then
        zd1 (f_LawReader_isWord x1 x2 3 i_a0) fun v4 =>
        if zi_w v4 = 0 then
          zd1 (f_LawReader_isWord x1 x2 4 i_a0) fun v5 =>
          if zi_w v5 = 0 then
            zd1 (f_LawReader_isWord x1 x2 5 i_a0) fun v6 =>
            if zi_w v6 = 0 then
              zd1 (f_LawReader_isWord x1 x2 6 i_a0) fun v7 =>
              if zi_w v7 = 0 then
                zd1 (f_LawReader_isWord x1 x2 7 i_a0) fun v8 =>
                if zi_w v8 = 0 then
                  some (-1)
                else
                  some 7
              else
                some 6
            else
              some 5
          else
            some 4
        else
          some 3
      else
        some 2
    else
      some 1
  else
    some 0
set_option maxHeartbeats 4000000 in
set_option maxRecDepth 100000 in
theorem c_LawReader_wordOf (l : Launch) (ev : zEv) (dC : Nat → ClassId) (dI : Nat → Nat → Nat) (cA : Nat → ClassId) (q0 : Nat) {x1 x2 : Int} {i_a0 : Nat → Int} {out : Int} (hf : f_LawReader_wordOf x1 x2 i_a0 = some out) : xc_I l ev (dC, dI) vwCl (tyl cA) yX4_wordOf w_LawReader_wordOf rm_LawReader_wordOf [.ref q0, .int (Int32.ofInt x1), .int (Int32.ofInt x2)] (wd_LawReader_wordOf cA q0 i_a0) (wf_LawReader_wordOf cA q0 i_a0 out) out := by
  refine xv_startI (cc := cX4_wordOf) (maxL := 3) (rt := .int) (by decide +kernel) rfl (Nat.le_of_ble_eq_true rfl) ?_
  intro p e s m args below meth c A Q H ls hx hb hml hts hown hK hA hP hD hS hl hE hret
  have hown : s.vm.findClass "HillSchool$LawReader" = some m.cls := hown
  have hz : ∀ w ∈ zall, w.before args s = true := fun w h => hts w (List.mem_cons_of_mem _ h)
  have hl : lv_has ls 3 [(0, .ref q0), (1, .int (Int32.ofInt x1)), (2, .int (Int32.ofInt x2))] := hl
  unfold f_LawReader_wordOf at hf
  refine va_ldcS hx hb hown (hE.1.2 0 (by decide)) (zdt zkX4_wordOf 0 rfl) ?_
  refine lv_aload_n hx hb (zdt zkX4_wordOf 2 rfl) rfl (lv_at hl 0 rfl) ?_
  refine lv_iload_n hx hb (zdt zkX4_wordOf 3 rfl) rfl (lv_at hl 1 rfl) ?_
  refine lv_iload_n hx hb (zdt zkX4_wordOf 4 rfl) rfl (lv_at hl 2 rfl) ?_
  refine xe_d1 hf (fun v1 hg hf => ?_)
  have hC : ([0] : List Nat).map (fun i => (wd_LawReader_wordOf cA q0 i_a0)[i]?) = (wd_LawReader_isWord cA q0 i_a0).map some := rfl
  refine xv_afterI (ws' := (wd_LawReader_wordOf cA q0 i_a0)) (isC := [0]) (ps := [some 0]) (va_runS (As := [.ref (ev.2.1 0), .ref q0, .int (Int32.ofInt x1), .int (Int32.ofInt x2)]) (rest := []) ⟨hx, hb, hml, hown, hts⟩ (c_LawReader_isWord l ev dC dI cA q0 0 (by decide) hg H.size) (va_cwS 4 hts (zgS zw_677 zw_678 zw_107 zw_679) rfl rfl rfl hd_LawReader_isWord.2 ⟨Nat.le_of_ble_eq_true rfl, Nat.le_of_ble_eq_true rfl⟩) (xv_preS hE hA hS hK hP hD (isC := [0]) (by decide +kernel) hC) rfl rfl hl.1 rfl (lv_room (Nat.le_of_ble_eq_true rfl)) (zdt zkX4_wordOf 5 rfl) ⟨Nat.le_refl _, Nat.le_refl _⟩) hP hD hS hA (by decide +kernel) rfl hC rfl rfl (fun H locs hP hD hS => ?_)
  refine xi_if_eq (tgt := 13) hx hb (zdt zkX4_wordOf 8 rfl) (by decide) hf (fun hf => ?_) (fun hf => ?_)
  · refine va_ldcS hx hb hown (hE.1.2 1 (by decide)) (zdt zkX4_wordOf 13 rfl) ?_
    refine lv_aload_n hx hb (zdt zkX4_wordOf 15 rfl) rfl (lv_at hl 0 rfl) ?_
    refine lv_iload_n hx hb (zdt zkX4_wordOf 16 rfl) rfl (lv_at hl 1 rfl) ?_
    refine lv_iload_n hx hb (zdt zkX4_wordOf 17 rfl) rfl (lv_at hl 2 rfl) ?_
    refine xe_d1 hf (fun v2 hg hf => ?_)
    have hC : ([0] : List Nat).map (fun i => (wd_LawReader_wordOf cA q0 i_a0)[i]?) = (wd_LawReader_isWord cA q0 i_a0).map some := rfl
    refine xv_afterI (ws' := (wd_LawReader_wordOf cA q0 i_a0)) (isC := [0]) (ps := [some 0]) (va_runS (As := [.ref (ev.2.1 1), .ref q0, .int (Int32.ofInt x1), .int (Int32.ofInt x2)]) (rest := []) ⟨hx, hb, hml, hown, hts⟩ (c_LawReader_isWord l ev dC dI cA q0 1 (by decide) hg H.size) (va_cwS 4 hts (zgS zw_677 zw_678 zw_107 zw_679) rfl rfl rfl hd_LawReader_isWord.2 ⟨Nat.le_of_ble_eq_true rfl, Nat.le_of_ble_eq_true rfl⟩) (xv_preS hE hA hS hK hP hD (isC := [0]) (by decide +kernel) hC) rfl rfl hl.1 rfl (lv_room (Nat.le_of_ble_eq_true rfl)) (zdt zkX4_wordOf 18 rfl) ⟨Nat.le_refl _, Nat.le_refl _⟩) hP hD hS hA (by decide +kernel) rfl hC rfl rfl (fun H locs hP hD hS => ?_)
    refine xi_if_eq (tgt := 26) hx hb (zdt zkX4_wordOf 21 rfl) (by decide) hf (fun hf => ?_) (fun hf => ?_)
    · refine va_ldcS hx hb hown (hE.1.2 2 (by decide)) (zdt zkX4_wordOf 26 rfl) ?_
      refine lv_aload_n hx hb (zdt zkX4_wordOf 28 rfl) rfl (lv_at hl 0 rfl) ?_
      refine lv_iload_n hx hb (zdt zkX4_wordOf 29 rfl) rfl (lv_at hl 1 rfl) ?_
      refine lv_iload_n hx hb (zdt zkX4_wordOf 30 rfl) rfl (lv_at hl 2 rfl) ?_
      refine xe_d1 hf (fun v3 hg hf => ?_)
      have hC : ([0] : List Nat).map (fun i => (wd_LawReader_wordOf cA q0 i_a0)[i]?) = (wd_LawReader_isWord cA q0 i_a0).map some := rfl
      refine xv_afterI (ws' := (wd_LawReader_wordOf cA q0 i_a0)) (isC := [0]) (ps := [some 0]) (va_runS (As := [.ref (ev.2.1 2), .ref q0, .int (Int32.ofInt x1), .int (Int32.ofInt x2)]) (rest := []) ⟨hx, hb, hml, hown, hts⟩ (c_LawReader_isWord l ev dC dI cA q0 2 (by decide) hg H.size) (va_cwS 4 hts (zgS zw_677 zw_678 zw_107 zw_679) rfl rfl rfl hd_LawReader_isWord.2 ⟨Nat.le_of_ble_eq_true rfl, Nat.le_of_ble_eq_true rfl⟩) (xv_preS hE hA hS hK hP hD (isC := [0]) (by decide +kernel) hC) rfl rfl hl.1 rfl (lv_room (Nat.le_of_ble_eq_true rfl)) (zdt zkX4_wordOf 31 rfl) ⟨Nat.le_refl _, Nat.le_refl _⟩) hP hD hS hA (by decide +kernel) rfl hC rfl rfl (fun H locs hP hD hS => ?_)
      refine xi_if_eq (tgt := 39) hx hb (zdt zkX4_wordOf 34 rfl) (by decide) hf (fun hf => ?_) (fun hf => ?_)
      · refine va_ldcS hx hb hown (hE.1.2 3 (by decide)) (zdt zkX4_wordOf 39 rfl) ?_
        refine lv_aload_n hx hb (zdt zkX4_wordOf 41 rfl) rfl (lv_at hl 0 rfl) ?_
        refine lv_iload_n hx hb (zdt zkX4_wordOf 42 rfl) rfl (lv_at hl 1 rfl) ?_
        refine lv_iload_n hx hb (zdt zkX4_wordOf 43 rfl) rfl (lv_at hl 2 rfl) ?_
        refine xe_d1 hf (fun v4 hg hf => ?_)
        have hC : ([0] : List Nat).map (fun i => (wd_LawReader_wordOf cA q0 i_a0)[i]?) = (wd_LawReader_isWord cA q0 i_a0).map some := rfl
        refine xv_afterI (ws' := (wd_LawReader_wordOf cA q0 i_a0)) (isC := [0]) (ps := [some 0]) (va_runS (As := [.ref (ev.2.1 3), .ref q0, .int (Int32.ofInt x1), .int (Int32.ofInt x2)]) (rest := []) ⟨hx, hb, hml, hown, hts⟩ (c_LawReader_isWord l ev dC dI cA q0 3 (by decide) hg H.size) (va_cwS 4 hts (zgS zw_677 zw_678 zw_107 zw_679) rfl rfl rfl hd_LawReader_isWord.2 ⟨Nat.le_of_ble_eq_true rfl, Nat.le_of_ble_eq_true rfl⟩) (xv_preS hE hA hS hK hP hD (isC := [0]) (by decide +kernel) hC) rfl rfl hl.1 rfl (lv_room (Nat.le_of_ble_eq_true rfl)) (zdt zkX4_wordOf 44 rfl) ⟨Nat.le_refl _, Nat.le_refl _⟩) hP hD hS hA (by decide +kernel) rfl hC rfl rfl (fun H locs hP hD hS => ?_)
        refine xi_if_eq (tgt := 52) hx hb (zdt zkX4_wordOf 47 rfl) (by decide) hf (fun hf => ?_) (fun hf => ?_)
        · refine va_ldcS hx hb hown (hE.1.2 4 (by decide)) (zdt zkX4_wordOf 52 rfl) ?_
          refine lv_aload_n hx hb (zdt zkX4_wordOf 54 rfl) rfl (lv_at hl 0 rfl) ?_
          refine lv_iload_n hx hb (zdt zkX4_wordOf 55 rfl) rfl (lv_at hl 1 rfl) ?_
          refine lv_iload_n hx hb (zdt zkX4_wordOf 56 rfl) rfl (lv_at hl 2 rfl) ?_
          refine xe_d1 hf (fun v5 hg hf => ?_)
          have hC : ([0] : List Nat).map (fun i => (wd_LawReader_wordOf cA q0 i_a0)[i]?) = (wd_LawReader_isWord cA q0 i_a0).map some := rfl
          refine xv_afterI (ws' := (wd_LawReader_wordOf cA q0 i_a0)) (isC := [0]) (ps := [some 0]) (va_runS (As := [.ref (ev.2.1 4), .ref q0, .int (Int32.ofInt x1), .int (Int32.ofInt x2)]) (rest := []) ⟨hx, hb, hml, hown, hts⟩ (c_LawReader_isWord l ev dC dI cA q0 4 (by decide) hg H.size) (va_cwS 4 hts (zgS zw_677 zw_678 zw_107 zw_679) rfl rfl rfl hd_LawReader_isWord.2 ⟨Nat.le_of_ble_eq_true rfl, Nat.le_of_ble_eq_true rfl⟩) (xv_preS hE hA hS hK hP hD (isC := [0]) (by decide +kernel) hC) rfl rfl hl.1 rfl (lv_room (Nat.le_of_ble_eq_true rfl)) (zdt zkX4_wordOf 57 rfl) ⟨Nat.le_refl _, Nat.le_refl _⟩) hP hD hS hA (by decide +kernel) rfl hC rfl rfl (fun H locs hP hD hS => ?_)
          refine xi_if_eq (tgt := 65) hx hb (zdt zkX4_wordOf 60 rfl) (by decide) hf (fun hf => ?_) (fun hf => ?_)
          · refine va_ldcS hx hb hown (hE.1.2 5 (by decide)) (zdt zkX4_wordOf 65 rfl) ?_
            refine lv_aload_n hx hb (zdt zkX4_wordOf 67 rfl) rfl (lv_at hl 0 rfl) ?_
            refine lv_iload_n hx hb (zdt zkX4_wordOf 68 rfl) rfl (lv_at hl 1 rfl) ?_
            refine lv_iload_n hx hb (zdt zkX4_wordOf 69 rfl) rfl (lv_at hl 2 rfl) ?_
            refine xe_d1 hf (fun v6 hg hf => ?_)
            have hC : ([0] : List Nat).map (fun i => (wd_LawReader_wordOf cA q0 i_a0)[i]?) = (wd_LawReader_isWord cA q0 i_a0).map some := rfl
            refine xv_afterI (ws' := (wd_LawReader_wordOf cA q0 i_a0)) (isC := [0]) (ps := [some 0]) (va_runS (As := [.ref (ev.2.1 5), .ref q0, .int (Int32.ofInt x1), .int (Int32.ofInt x2)]) (rest := []) ⟨hx, hb, hml, hown, hts⟩ (c_LawReader_isWord l ev dC dI cA q0 5 (by decide) hg H.size) (va_cwS 4 hts (zgS zw_677 zw_678 zw_107 zw_679) rfl rfl rfl hd_LawReader_isWord.2 ⟨Nat.le_of_ble_eq_true rfl, Nat.le_of_ble_eq_true rfl⟩) (xv_preS hE hA hS hK hP hD (isC := [0]) (by decide +kernel) hC) rfl rfl hl.1 rfl (lv_room (Nat.le_of_ble_eq_true rfl)) (zdt zkX4_wordOf 70 rfl) ⟨Nat.le_refl _, Nat.le_refl _⟩) hP hD hS hA (by decide +kernel) rfl hC rfl rfl (fun H locs hP hD hS => ?_)
            refine xi_if_eq (tgt := 78) hx hb (zdt zkX4_wordOf 73 rfl) (by decide) hf (fun hf => ?_) (fun hf => ?_)
            · refine va_ldcS hx hb hown (hE.1.2 6 (by decide)) (zdt zkX4_wordOf 78 rfl) ?_
              refine lv_aload_n hx hb (zdt zkX4_wordOf 80 rfl) rfl (lv_at hl 0 rfl) ?_
              refine lv_iload_n hx hb (zdt zkX4_wordOf 81 rfl) rfl (lv_at hl 1 rfl) ?_
              refine lv_iload_n hx hb (zdt zkX4_wordOf 82 rfl) rfl (lv_at hl 2 rfl) ?_
              refine xe_d1 hf (fun v7 hg hf => ?_)
              have hC : ([0] : List Nat).map (fun i => (wd_LawReader_wordOf cA q0 i_a0)[i]?) = (wd_LawReader_isWord cA q0 i_a0).map some := rfl
              refine xv_afterI (ws' := (wd_LawReader_wordOf cA q0 i_a0)) (isC := [0]) (ps := [some 0]) (va_runS (As := [.ref (ev.2.1 6), .ref q0, .int (Int32.ofInt x1), .int (Int32.ofInt x2)]) (rest := []) ⟨hx, hb, hml, hown, hts⟩ (c_LawReader_isWord l ev dC dI cA q0 6 (by decide) hg H.size) (va_cwS 4 hts (zgS zw_677 zw_678 zw_107 zw_679) rfl rfl rfl hd_LawReader_isWord.2 ⟨Nat.le_of_ble_eq_true rfl, Nat.le_of_ble_eq_true rfl⟩) (xv_preS hE hA hS hK hP hD (isC := [0]) (by decide +kernel) hC) rfl rfl hl.1 rfl (lv_room (Nat.le_of_ble_eq_true rfl)) (zdt zkX4_wordOf 83 rfl) ⟨Nat.le_refl _, Nat.le_refl _⟩) hP hD hS hA (by decide +kernel) rfl hC rfl rfl (fun H locs hP hD hS => ?_)
              refine xi_if_eq (tgt := 92) hx hb (zdt zkX4_wordOf 86 rfl) (by decide) hf (fun hf => ?_) (fun hf => ?_)
              · refine va_ldcS hx hb hown (hE.1.2 7 (by decide)) (zdt zkX4_wordOf 92 rfl) ?_
                refine lv_aload_n hx hb (zdt zkX4_wordOf 94 rfl) rfl (lv_at hl 0 rfl) ?_
                refine lv_iload_n hx hb (zdt zkX4_wordOf 95 rfl) rfl (lv_at hl 1 rfl) ?_
                refine lv_iload_n hx hb (zdt zkX4_wordOf 96 rfl) rfl (lv_at hl 2 rfl) ?_
                refine xe_d1 hf (fun v8 hg hf => ?_)
                have hC : ([0] : List Nat).map (fun i => (wd_LawReader_wordOf cA q0 i_a0)[i]?) = (wd_LawReader_isWord cA q0 i_a0).map some := rfl
                refine xv_afterI (ws' := (wd_LawReader_wordOf cA q0 i_a0)) (isC := [0]) (ps := [some 0]) (va_runS (As := [.ref (ev.2.1 7), .ref q0, .int (Int32.ofInt x1), .int (Int32.ofInt x2)]) (rest := []) ⟨hx, hb, hml, hown, hts⟩ (c_LawReader_isWord l ev dC dI cA q0 7 (by decide) hg H.size) (va_cwS 4 hts (zgS zw_677 zw_678 zw_107 zw_679) rfl rfl rfl hd_LawReader_isWord.2 ⟨Nat.le_of_ble_eq_true rfl, Nat.le_of_ble_eq_true rfl⟩) (xv_preS hE hA hS hK hP hD (isC := [0]) (by decide +kernel) hC) rfl rfl hl.1 rfl (lv_room (Nat.le_of_ble_eq_true rfl)) (zdt zkX4_wordOf 97 rfl) ⟨Nat.le_refl _, Nat.le_refl _⟩) hP hD hS hA (by decide +kernel) rfl hC rfl rfl (fun H locs hP hD hS => ?_)
                refine xi_if_eq (tgt := 108) hx hb (zdt zkX4_wordOf 100 rfl) (by decide) hf (fun hf => ?_) (fun hf => ?_)
                · refine lv_iconst (v := Int32.ofInt (-1)) hx hb (zdt zkX4_wordOf 108 rfl) rfl ?_
                  obtain rfl := Option.some.inj hf
                  exact hret _ _ _ _ rfl (zdt zkX4_wordOf 109 rfl) hP hD hS
                · refine lv_bipush (v := Int32.ofInt 7) hx hb (zdt zkX4_wordOf 103 rfl) (by decide) ?_
                  refine lv_goto (tgt := 109) hx hb (zdt zkX4_wordOf 105 rfl) (by decide) ?_
                  obtain rfl := Option.some.inj hf
                  exact hret _ _ _ _ rfl (zdt zkX4_wordOf 109 rfl) hP hD hS
              · refine lv_bipush (v := Int32.ofInt 6) hx hb (zdt zkX4_wordOf 89 rfl) (by decide) ?_
                obtain rfl := Option.some.inj hf
                exact hret _ _ _ _ rfl (zdt zkX4_wordOf 91 rfl) hP hD hS
            · refine lv_iconst (v := Int32.ofInt 5) hx hb (zdt zkX4_wordOf 76 rfl) rfl ?_
              obtain rfl := Option.some.inj hf
              exact hret _ _ _ _ rfl (zdt zkX4_wordOf 77 rfl) hP hD hS
          · refine lv_iconst (v := Int32.ofInt 4) hx hb (zdt zkX4_wordOf 63 rfl) rfl ?_
            obtain rfl := Option.some.inj hf
            exact hret _ _ _ _ rfl (zdt zkX4_wordOf 64 rfl) hP hD hS
        · refine lv_iconst (v := Int32.ofInt 3) hx hb (zdt zkX4_wordOf 50 rfl) rfl ?_
          obtain rfl := Option.some.inj hf
          exact hret _ _ _ _ rfl (zdt zkX4_wordOf 51 rfl) hP hD hS
      · refine lv_iconst (v := Int32.ofInt 2) hx hb (zdt zkX4_wordOf 37 rfl) rfl ?_
        obtain rfl := Option.some.inj hf
        exact hret _ _ _ _ rfl (zdt zkX4_wordOf 38 rfl) hP hD hS
    · refine lv_iconst (v := Int32.ofInt 1) hx hb (zdt zkX4_wordOf 24 rfl) rfl ?_
      obtain rfl := Option.some.inj hf
      exact hret _ _ _ _ rfl (zdt zkX4_wordOf 25 rfl) hP hD hS
  · refine lv_iconst (v := Int32.ofInt 0) hx hb (zdt zkX4_wordOf 11 rfl) rfl ?_
    obtain rfl := Option.some.inj hf
    exact hret _ _ _ _ rfl (zdt zkX4_wordOf 12 rfl) hP hD hS
set_option maxRecDepth 100000 in
noncomputable def ztX4_numberOf (p : Nat) : Option (Jvm.ClassFile.Instr × Nat) := bif Nat.ble 19 p then (bif Nat.ble 28 p then (bif Nat.ble 33 p then (bif Nat.ble 39 p then (bif Nat.ble 40 p then (bif Nat.beq p 40 then some (.ireturn, 1) else none) else (bif Nat.beq p 39 then some (.iload_n 3, 1) else none)) else (bif Nat.ble 36 p then (bif Nat.beq p 36 then some (.goto (-31), 3) else none) else (bif Nat.beq p 33 then some (.iinc 4 1, 3) else none))) else (bif Nat.ble 31 p then (bif Nat.ble 32 p then (bif Nat.beq p 32 then some (.ireturn, 1) else none) else (bif Nat.beq p 31 then some (.iconst (-1), 1) else none)) else (bif Nat.beq p 28 then some (.if_icmp .le 5, 3) else none))) else (bif Nat.ble 23 p then (bif Nat.ble 24 p then (bif Nat.ble 25 p then (bif Nat.beq p 25 then some (.sipush 1000, 3) else none) else (bif Nat.beq p 24 then some (.iload_n 3, 1) else none)) else (bif Nat.beq p 23 then some (.istore_n 3, 1) else none)) else (bif Nat.ble 20 p then (bif Nat.ble 22 p then (bif Nat.beq p 22 then some (.isub, 1) else none) else (bif Nat.beq p 20 then some (.bipush 48, 2) else none)) else (bif Nat.beq p 19 then some (.iadd, 1) else none)))) else (bif Nat.ble 8 p then (bif Nat.ble 14 p then (bif Nat.ble 16 p then (bif Nat.ble 18 p then (bif Nat.beq p 18 then some (.iaload, 1) else none) else (bif Nat.beq p 16 then some (.iload 4, 2) else none)) else (bif Nat.ble 15 p then (bif Nat.beq p 15 then some (.aload_n 0, 1) else none) else (bif Nat.beq p 14 then some (.imul, 1) else none))) else (bif Nat.ble 11 p then (bif Nat.ble 12 p then (bif Nat.beq p 12 then some (.bipush 10, 2) else none) else (bif Nat.beq p 11 then some (.iload_n 3, 1) else none)) else (bif Nat.beq p 8 then some (.if_icmp .ge 31, 3) else none))) else (bif Nat.ble 3 p then (bif Nat.ble 5 p then (bif Nat.ble 7 p then (bif Nat.beq p 7 then some (.iload_n 2, 1) else none) else (bif Nat.beq p 5 then some (.iload 4, 2) else none)) else (bif Nat.beq p 3 then some (.istore 4, 2) else none)) else (bif Nat.ble 1 p then (bif Nat.ble 2 p then (bif Nat.beq p 2 then some (.iload_n 1, 1) else none) else (bif Nat.beq p 1 then some (.istore_n 3, 1) else none)) else (bif Nat.beq p 0 then some (.iconst 0, 1) else none))))
set_option maxRecDepth 100000 in
theorem zkX4_numberOf : (zbig cX4_numberOf.data.toList = 367639103337640084184289079138268520849583010562991356826646954345985848496341969852566656457063939 ∧ cX4_numberOf.data.toList.length = 41) ∧ zdk cX4_numberOf 367639103337640084184289079138268520849583010562991356826646954345985848496341969852566656457063939 41 ztX4_numberOf 40 = true := by decide +kernel
theorem zw_672 : (Jvm.Cond.code ({ cls := "HillSchool$LawReader", name := "numberOf", desc := "([III)I" } : Jvm.MethodName) prog_6_method_16_code (5 : Nat) (Option.some Jvm.ClassFile.FieldType.int)) ∈ zall := zmemG (zmj_3 89 rfl) rfl
noncomputable abbrev w_LawReader_numberOf : List Cond := .code yX4_numberOf cX4_numberOf 5 (some .int) :: zall
noncomputable abbrev rm_LawReader_numberOf : Room := { frames := 0, cells := 0, slots := 0, locals := 0 }
theorem hd_LawReader_numberOf : yX4_numberOf.cls = yX4_numberOf.cls ∧ yX4_numberOf.cls ≠ "java/lang/invoke/MethodHandle" ∧ yX4_numberOf.cls ≠ "java/lang/invoke/VarHandle" ∧ (parseMethodDescriptor yX4_numberOf.desc).map (fun d => d.parameters.length) = some 3 := by decide +kernel
noncomputable def wd_LawReader_numberOf (cA : Nat → ClassId) (q0 : Nat) (i_a0 : Nat → Int)  : va_W := [(q0, .inl (cA 0, 400, .inl (za i_a0)))]
noncomputable def wf_LawReader_numberOf (cA : Nat → ClassId) (q0 : Nat) (i_a0 : Nat → Int) (o : Int) : va_W := wd_LawReader_numberOf cA q0 i_a0
noncomputable def f_LawReader_numberOf_5_b (i_a0 : Nat → Int) (k5 : Int → Int → Int → Option (Int)) (x2 : Int) (x3 : Int) (x4 : Int) : Option (Int) :=
  if zi_w x2 ≤ zi_w x4 then
    some x3
  else
    zn (x3 * 10) fun v1 =>
    zg 400 i_a0 x4 fun v2 =>
    zn (v1 + v2) fun v3 =>
    zn (v3 - 48) fun v4 =>
    if zi_w v4 ≤ zi_w 1000 then
      zn (x4 + 1) fun v5 =>
      k5 x2 v4 v5
    else
      some (-1)
noncomputable def f_LawReader_numberOf_5 (i_a0 : Nat → Int) : Nat → Int → Int → Int → Option (Int)
  | 0 => fun _ _ _ => none
  | n + 1 => fun y0 y1 y2 => f_LawReader_numberOf_5_b i_a0 (f_LawReader_numberOf_5 i_a0 n) y0 y1 y2
noncomputable def f_LawReader_numberOf (x1 : Int) (x2 : Int) (i_a0 : Nat → Int) : Option (Int) :=
  f_LawReader_numberOf_5 i_a0 zfu x2 0 x1
set_option maxHeartbeats 4000000 in
set_option maxRecDepth 100000 in
theorem c_LawReader_numberOf (l : Launch) (ev : zEv) (dC : Nat → ClassId) (dI : Nat → Nat → Nat) (cA : Nat → ClassId) (q0 : Nat) {x1 x2 : Int} {i_a0 : Nat → Int} {out : Int} (hf : f_LawReader_numberOf x1 x2 i_a0 = some out) : xc_I l ev (dC, dI) vwCl (tyl cA) yX4_numberOf w_LawReader_numberOf rm_LawReader_numberOf [.ref q0, .int (Int32.ofInt x1), .int (Int32.ofInt x2)] (wd_LawReader_numberOf cA q0 i_a0) (wf_LawReader_numberOf cA q0 i_a0 out) out := by
  refine xv_startI (cc := cX4_numberOf) (maxL := 5) (rt := .int) (by decide +kernel) rfl (Nat.le_of_ble_eq_true rfl) ?_
  intro p e s m args below meth c A Q H ls hx hb hml hts hown hK hA hP hD hS hl hE hret
  have hown : s.vm.findClass "HillSchool$LawReader" = some m.cls := hown
  have hz : ∀ w ∈ zall, w.before args s = true := fun w h => hts w (List.mem_cons_of_mem _ h)
  have hl : lv_has ls 5 [(0, .ref q0), (1, .int (Int32.ofInt x1)), (2, .int (Int32.ofInt x2))] := hl
  have b_5 : ∀ (k5 : Int → Int → Int → Option (Int)) (_ : ∀ (x2 : Int) (x3 : Int) (x4 : Int) (H : Heap) (locs : List Loc) (ls : Array Slot), k5 x2 x3 x4 = some out → va_P (dC, dI) vwCl (wd_LawReader_numberOf cA q0 i_a0) H → va_D A (wd_LawReader_numberOf cA q0 i_a0) → va_S A s.heap H locs → lv_has ls 5 [(0, .ref q0), (2, .int (Int32.ofInt x2)), (3, .int (Int32.ofInt x3)), (4, .int (Int32.ofInt x4))] → W p l e rm_LawReader_numberOf s m args below meth c H locs 0 0 Q (F0 m 5 ls [])), ∀ (x2 : Int) (x3 : Int) (x4 : Int) (H : Heap) (locs : List Loc) (ls : Array Slot), f_LawReader_numberOf_5_b i_a0 k5 x2 x3 x4 = some out → va_P (dC, dI) vwCl (wd_LawReader_numberOf cA q0 i_a0) H → va_D A (wd_LawReader_numberOf cA q0 i_a0) → va_S A s.heap H locs → lv_has ls 5 [(0, .ref q0), (2, .int (Int32.ofInt x2)), (3, .int (Int32.ofInt x3)), (4, .int (Int32.ofInt x4))] → W p l e rm_LawReader_numberOf s m args below meth c H locs 0 0 Q (F0 m 5 ls []) := by
    intro k5 ih5 x2 x3 x4 H locs ls hf hP hD hS hl
    unfold f_LawReader_numberOf_5_b at hf
    refine lv_iload hx hb (zdt zkX4_numberOf 5 rfl) (lv_at hl 3 rfl) ?_
    refine lv_iload_n hx hb (zdt zkX4_numberOf 7 rfl) rfl (lv_at hl 1 rfl) ?_
    refine xi_icmp_ge (tgt := 39) hx hb (zdt zkX4_numberOf 8 rfl) (by decide) hf (fun hf => ?_) (fun hf => ?_)
    · refine lv_iload_n hx hb (zdt zkX4_numberOf 39 rfl) rfl (lv_at hl 2 rfl) ?_
      obtain rfl := Option.some.inj hf
      exact hret _ _ _ _ rfl (zdt zkX4_numberOf 40 rfl) hP hD hS
    · refine lv_iload_n hx hb (zdt zkX4_numberOf 11 rfl) rfl (lv_at hl 2 rfl) ?_
      refine lv_bipush (v := Int32.ofInt 10) hx hb (zdt zkX4_numberOf 12 rfl) (by decide) ?_
      refine xi_imul hx hb (zdt zkX4_numberOf 14 rfl) hf (fun v1 hf => ?_)
      refine lv_aload_n hx hb (zdt zkX4_numberOf 15 rfl) rfl (lv_at hl 0 rfl) ?_
      refine lv_iload hx hb (zdt zkX4_numberOf 16 rfl) (lv_at hl 3 rfl) ?_
      refine xi_iald hx hb hK hP 0 0 rfl rfl (zdt zkX4_numberOf 18 rfl) hf (fun v2 hf => ?_)
      refine xi_iadd hx hb (zdt zkX4_numberOf 19 rfl) hf (fun v3 hf => ?_)
      refine lv_bipush (v := Int32.ofInt 48) hx hb (zdt zkX4_numberOf 20 rfl) (by decide) ?_
      refine xi_isub hx hb (zdt zkX4_numberOf 22 rfl) hf (fun v4 hf => ?_)
      refine lv_istore_n (lv' := [(3, .int (Int32.ofInt v4)), (0, .ref q0), (2, .int (Int32.ofInt x2)), (4, .int (Int32.ofInt x4))]) hx hb (zdt zkX4_numberOf 23 rfl) rfl hl (by decide) rfl (fun ls hl => ?_)
      refine lv_iload_n hx hb (zdt zkX4_numberOf 24 rfl) rfl (lv_at hl 0 rfl) ?_
      refine lv_sipush (v := Int32.ofInt 1000) hx hb (zdt zkX4_numberOf 25 rfl) (by decide) ?_
      refine xi_icmp_le (tgt := 33) hx hb (zdt zkX4_numberOf 28 rfl) (by decide) hf (fun hf => ?_) (fun hf => ?_)
      · refine xi_iinc hx hb (zdt zkX4_numberOf 33 rfl) hl (k := 3) rfl (by decide) hf (fun v5 ls hl hf => ?_)
        have hl : lv_has ls 5 [(4, .int (Int32.ofInt v5)), (3, .int (Int32.ofInt v4)), (0, .ref q0), (2, .int (Int32.ofInt x2))] := hl
        refine lv_goto (tgt := 5) hx hb (zdt zkX4_numberOf 36 rfl) (by decide) ?_
        exact ih5 _ _ _ _ _ _ hf hP hD hS (lv_sub hl [2, 3, 1, 0] rfl)
      · refine lv_iconst (v := Int32.ofInt (-1)) hx hb (zdt zkX4_numberOf 31 rfl) rfl ?_
        obtain rfl := Option.some.inj hf
        exact hret _ _ _ _ rfl (zdt zkX4_numberOf 32 rfl) hP hD hS
  have l_5 : ∀ (n : Nat), ∀ (x2 : Int) (x3 : Int) (x4 : Int) (H : Heap) (locs : List Loc) (ls : Array Slot), f_LawReader_numberOf_5 i_a0 n x2 x3 x4 = some out → va_P (dC, dI) vwCl (wd_LawReader_numberOf cA q0 i_a0) H → va_D A (wd_LawReader_numberOf cA q0 i_a0) → va_S A s.heap H locs → lv_has ls 5 [(0, .ref q0), (2, .int (Int32.ofInt x2)), (3, .int (Int32.ofInt x3)), (4, .int (Int32.ofInt x4))] → W p l e rm_LawReader_numberOf s m args below meth c H locs 0 0 Q (F0 m 5 ls []) := by
    intro n
    induction n with
    | zero => intro x2 x3 x4 H locs ls hf hP hD hS hl; exact nomatch hf
    | succ n ih => intro x2 x3 x4 H locs ls hf hP hD hS hl; exact b_5 (f_LawReader_numberOf_5 i_a0 n) ih x2 x3 x4 H locs ls hf hP hD hS hl
  unfold f_LawReader_numberOf at hf
  refine lv_iconst (v := Int32.ofInt 0) hx hb (zdt zkX4_numberOf 0 rfl) rfl ?_
  refine lv_istore_n (lv' := [(3, .int (Int32.ofInt 0)), (0, .ref q0), (1, .int (Int32.ofInt x1)), (2, .int (Int32.ofInt x2))]) hx hb (zdt zkX4_numberOf 1 rfl) rfl hl (by decide) rfl (fun ls hl => ?_)
  refine lv_iload_n hx hb (zdt zkX4_numberOf 2 rfl) rfl (lv_at hl 2 rfl) ?_
  refine lv_istore (lv' := [(4, .int (Int32.ofInt x1)), (3, .int (Int32.ofInt 0)), (0, .ref q0), (1, .int (Int32.ofInt x1)), (2, .int (Int32.ofInt x2))]) hx hb (zdt zkX4_numberOf 3 rfl) hl (by decide) rfl (fun ls hl => ?_)
  exact l_5  _ _ _ _ _ _ _ hf hP hD hS (lv_sub hl [2, 4, 1, 0] rfl)
set_option maxRecDepth 100000 in
noncomputable def ztX4_isDigit (p : Nat) : Option (Jvm.ClassFile.Instr × Nat) := bif Nat.ble 9 p then (bif Nat.ble 13 p then (bif Nat.ble 16 p then (bif Nat.ble 17 p then (bif Nat.beq p 17 then some (.ireturn, 1) else none) else (bif Nat.beq p 16 then some (.iconst 0, 1) else none)) else (bif Nat.beq p 13 then some (.goto 4, 3) else none)) else (bif Nat.ble 12 p then (bif Nat.beq p 12 then some (.iconst 1, 1) else none) else (bif Nat.beq p 9 then some (.if_icmp .gt 7, 3) else none))) else (bif Nat.ble 3 p then (bif Nat.ble 6 p then (bif Nat.ble 7 p then (bif Nat.beq p 7 then some (.bipush 57, 2) else none) else (bif Nat.beq p 6 then some (.iload_n 0, 1) else none)) else (bif Nat.beq p 3 then some (.if_icmp .lt 13, 3) else none)) else (bif Nat.ble 1 p then (bif Nat.beq p 1 then some (.bipush 48, 2) else none) else (bif Nat.beq p 0 then some (.iload_n 0, 1) else none)))
set_option maxRecDepth 100000 in
theorem zkX4_isDigit : (zbig cX4_isDigit.data.toList = 14984339347662989861898945582425304497917978 ∧ cX4_isDigit.data.toList.length = 18) ∧ zdk cX4_isDigit 14984339347662989861898945582425304497917978 18 ztX4_isDigit 17 = true := by decide +kernel
theorem zw_665 : (Jvm.Cond.code ({ cls := "HillSchool$LawReader", name := "isDigit", desc := "(I)Z" } : Jvm.MethodName) prog_6_method_15_code (1 : Nat) (Option.some Jvm.ClassFile.FieldType.boolean)) ∈ zall := zmemG (zmj_3 82 rfl) rfl
noncomputable abbrev w_LawReader_isDigit : List Cond := .code yX4_isDigit cX4_isDigit 1 (some .boolean) :: zall
noncomputable abbrev rm_LawReader_isDigit : Room := { frames := 0, cells := 0, slots := 0, locals := 0 }
theorem hd_LawReader_isDigit : yX4_isDigit.cls = yX4_isDigit.cls ∧ yX4_isDigit.cls ≠ "java/lang/invoke/MethodHandle" ∧ yX4_isDigit.cls ≠ "java/lang/invoke/VarHandle" ∧ (parseMethodDescriptor yX4_isDigit.desc).map (fun d => d.parameters.length) = some 1 := by decide +kernel
noncomputable def wd_LawReader_isDigit (cA : Nat → ClassId)   : va_W := []
noncomputable def wf_LawReader_isDigit (cA : Nat → ClassId)  (o : Int) : va_W := wd_LawReader_isDigit cA
noncomputable def f_LawReader_isDigit (x0 : Int) : Option (Int) :=
  if zi_w x0 < zi_w 48 then
    some 0
  else
    if zi_w 57 < zi_w x0 then
      some 0
    else
      some 1
set_option maxHeartbeats 4000000 in
set_option maxRecDepth 100000 in
theorem c_LawReader_isDigit (l : Launch) (ev : zEv) (dC : Nat → ClassId) (dI : Nat → Nat → Nat) (cA : Nat → ClassId) {x0 : Int} {out : Int} (hf : f_LawReader_isDigit x0 = some out) : xc_I l ev (dC, dI) vwCl (tyl cA) yX4_isDigit w_LawReader_isDigit rm_LawReader_isDigit [.int (Int32.ofInt x0)] (wd_LawReader_isDigit cA) (wf_LawReader_isDigit cA out) out := by
  refine xv_startI (cc := cX4_isDigit) (maxL := 1) (rt := .boolean) (by decide +kernel) rfl (Nat.le_of_ble_eq_true rfl) ?_
  intro p e s m args below meth c A Q H ls hx hb hml hts hown hK hA hP hD hS hl hE hret
  have hown : s.vm.findClass "HillSchool$LawReader" = some m.cls := hown
  have hz : ∀ w ∈ zall, w.before args s = true := fun w h => hts w (List.mem_cons_of_mem _ h)
  have hl : lv_has ls 1 [(0, .int (Int32.ofInt x0))] := hl
  unfold f_LawReader_isDigit at hf
  refine lv_iload_n hx hb (zdt zkX4_isDigit 0 rfl) rfl (lv_at hl 0 rfl) ?_
  refine lv_bipush (v := Int32.ofInt 48) hx hb (zdt zkX4_isDigit 1 rfl) (by decide) ?_
  refine xi_icmp_lt (tgt := 16) hx hb (zdt zkX4_isDigit 3 rfl) (by decide) hf (fun hf => ?_) (fun hf => ?_)
  · refine lv_iconst (v := Int32.ofInt 0) hx hb (zdt zkX4_isDigit 16 rfl) rfl ?_
    obtain rfl := Option.some.inj hf
    exact hret _ _ _ _ zz_b0 (zdt zkX4_isDigit 17 rfl) hP hD hS
  · refine lv_iload_n hx hb (zdt zkX4_isDigit 6 rfl) rfl (lv_at hl 0 rfl) ?_
    refine lv_bipush (v := Int32.ofInt 57) hx hb (zdt zkX4_isDigit 7 rfl) (by decide) ?_
    refine xi_icmp_gt (tgt := 16) hx hb (zdt zkX4_isDigit 9 rfl) (by decide) hf (fun hf => ?_) (fun hf => ?_)
    · refine lv_iconst (v := Int32.ofInt 0) hx hb (zdt zkX4_isDigit 16 rfl) rfl ?_
      obtain rfl := Option.some.inj hf
      exact hret _ _ _ _ zz_b0 (zdt zkX4_isDigit 17 rfl) hP hD hS
    · refine lv_iconst (v := Int32.ofInt 1) hx hb (zdt zkX4_isDigit 12 rfl) rfl ?_
      refine lv_goto (tgt := 17) hx hb (zdt zkX4_isDigit 13 rfl) (by decide) ?_
      obtain rfl := Option.some.inj hf
      exact hret _ _ _ _ zz_b1 (zdt zkX4_isDigit 17 rfl) hP hD hS
set_option maxRecDepth 100000 in
noncomputable def ztX4_note (p : Nat) : Option (Jvm.ClassFile.Instr × Nat) := bif Nat.ble 66 p then (bif Nat.ble 99 p then (bif Nat.ble 116 p then (bif Nat.ble 123 p then (bif Nat.ble 127 p then (bif Nat.ble 128 p then (bif Nat.ble 129 p then (bif Nat.beq p 129 then some (.return_, 1) else none) else (bif Nat.beq p 128 then some (.iastore, 1) else none)) else (bif Nat.beq p 127 then some (.iand, 1) else none)) else (bif Nat.ble 124 p then (bif Nat.beq p 124 then some (.sipush 255, 3) else none) else (bif Nat.beq p 123 then some (.iaload, 1) else none))) else (bif Nat.ble 121 p then (bif Nat.ble 122 p then (bif Nat.beq p 122 then some (.iload_n 2, 1) else none) else (bif Nat.beq p 121 then some (.aload_n 1, 1) else none)) else (bif Nat.ble 119 p then (bif Nat.beq p 119 then some (.iload 4, 2) else none) else (bif Nat.beq p 116 then some (.getfield 19, 3) else none)))) else (bif Nat.ble 105 p then (bif Nat.ble 111 p then (bif Nat.ble 112 p then (bif Nat.ble 115 p then (bif Nat.beq p 115 then some (.aload_n 0, 1) else none) else (bif Nat.beq p 112 then some (.goto 17, 3) else none)) else (bif Nat.beq p 111 then some (.iastore, 1) else none)) else (bif Nat.ble 108 p then (bif Nat.beq p 108 then some (.sipush 259, 3) else none) else (bif Nat.beq p 105 then some (.goto 6, 3) else none))) else (bif Nat.ble 101 p then (bif Nat.ble 102 p then (bif Nat.beq p 102 then some (.invokestatic 95, 3) else none) else (bif Nat.beq p 101 then some (.iload_n 3, 1) else none)) else (bif Nat.ble 100 p then (bif Nat.beq p 100 then some (.iload_n 2, 1) else none) else (bif Nat.beq p 99 then some (.aload_n 1, 1) else none))))) else (bif Nat.ble 82 p then (bif Nat.ble 89 p then (bif Nat.ble 94 p then (bif Nat.ble 95 p then (bif Nat.ble 96 p then (bif Nat.beq p 96 then some (.if_icmp .ne 12, 3) else none) else (bif Nat.beq p 95 then some (.iconst (-1), 1) else none)) else (bif Nat.beq p 94 then some (.iaload, 1) else none)) else (bif Nat.ble 92 p then (bif Nat.beq p 92 then some (.iload 4, 2) else none) else (bif Nat.beq p 89 then some (.getfield 25, 3) else none))) else (bif Nat.ble 86 p then (bif Nat.ble 88 p then (bif Nat.beq p 88 then some (.aload_n 0, 1) else none) else (bif Nat.beq p 86 then some (.iload 4, 2) else none)) else (bif Nat.ble 83 p then (bif Nat.beq p 83 then some (.getfield 19, 3) else none) else (bif Nat.beq p 82 then some (.aload_n 0, 1) else none)))) else (bif Nat.ble 75 p then (bif Nat.ble 77 p then (bif Nat.ble 78 p then (bif Nat.ble 81 p then (bif Nat.beq p 81 then some (.iastore, 1) else none) else (bif Nat.beq p 78 then some (.invokestatic 92, 3) else none)) else (bif Nat.beq p 77 then some (.iload_n 3, 1) else none)) else (bif Nat.ble 76 p then (bif Nat.beq p 76 then some (.iload_n 2, 1) else none) else (bif Nat.beq p 75 then some (.aload_n 1, 1) else none))) else (bif Nat.ble 70 p then (bif Nat.ble 73 p then (bif Nat.beq p 73 then some (.iload 4, 2) else none) else (bif Nat.beq p 70 then some (.getfield 25, 3) else none)) else (bif Nat.ble 69 p then (bif Nat.beq p 69 then some (.aload_n 0, 1) else none) else (bif Nat.beq p 66 then some (.ifCond .eq 49, 3) else none)))))) else (bif Nat.ble 30 p then (bif Nat.ble 47 p then (bif Nat.ble 57 p then (bif Nat.ble 61 p then (bif Nat.ble 62 p then (bif Nat.ble 63 p then (bif Nat.beq p 63 then some (.invokestatic 78, 3) else none) else (bif Nat.beq p 62 then some (.iaload, 1) else none)) else (bif Nat.beq p 61 then some (.iload_n 2, 1) else none)) else (bif Nat.ble 60 p then (bif Nat.beq p 60 then some (.aload_n 1, 1) else none) else (bif Nat.beq p 57 then some (.goto 72, 3) else none))) else (bif Nat.ble 53 p then (bif Nat.ble 56 p then (bif Nat.beq p 56 then some (.iastore, 1) else none) else (bif Nat.beq p 53 then some (.sipush 258, 3) else none)) else (bif Nat.ble 50 p then (bif Nat.beq p 50 then some (.goto 6, 3) else none) else (bif Nat.beq p 47 then some (.sipush 256, 3) else none)))) else (bif Nat.ble 37 p then (bif Nat.ble 42 p then (bif Nat.ble 43 p then (bif Nat.ble 44 p then (bif Nat.beq p 44 then some (.if_icmp .ne 9, 3) else none) else (bif Nat.beq p 43 then some (.iconst (-1), 1) else none)) else (bif Nat.beq p 42 then some (.iaload, 1) else none)) else (bif Nat.ble 40 p then (bif Nat.beq p 40 then some (.iload 4, 2) else none) else (bif Nat.beq p 37 then some (.getfield 25, 3) else none))) else (bif Nat.ble 34 p then (bif Nat.ble 36 p then (bif Nat.beq p 36 then some (.aload_n 0, 1) else none) else (bif Nat.beq p 34 then some (.iload 4, 2) else none)) else (bif Nat.ble 31 p then (bif Nat.beq p 31 then some (.getfield 19, 3) else none) else (bif Nat.beq p 30 then some (.aload_n 0, 1) else none))))) else (bif Nat.ble 14 p then (bif Nat.ble 23 p then (bif Nat.ble 25 p then (bif Nat.ble 26 p then (bif Nat.ble 29 p then (bif Nat.beq p 29 then some (.iastore, 1) else none) else (bif Nat.beq p 26 then some (.invokestatic 88, 3) else none)) else (bif Nat.beq p 25 then some (.iload_n 3, 1) else none)) else (bif Nat.ble 24 p then (bif Nat.beq p 24 then some (.iload_n 2, 1) else none) else (bif Nat.beq p 23 then some (.aload_n 1, 1) else none))) else (bif Nat.ble 18 p then (bif Nat.ble 21 p then (bif Nat.beq p 21 then some (.iload 4, 2) else none) else (bif Nat.beq p 18 then some (.getfield 25, 3) else none)) else (bif Nat.ble 17 p then (bif Nat.beq p 17 then some (.aload_n 0, 1) else none) else (bif Nat.beq p 14 then some (.ifCond .eq 46, 3) else none)))) else (bif Nat.ble 7 p then (bif Nat.ble 9 p then (bif Nat.ble 10 p then (bif Nat.ble 11 p then (bif Nat.beq p 11 then some (.invokestatic 81, 3) else none) else (bif Nat.beq p 10 then some (.iaload, 1) else none)) else (bif Nat.beq p 9 then some (.iload_n 2, 1) else none)) else (bif Nat.ble 8 p then (bif Nat.beq p 8 then some (.aload_n 1, 1) else none) else (bif Nat.beq p 7 then some (.iastore, 1) else none))) else (bif Nat.ble 4 p then (bif Nat.ble 6 p then (bif Nat.beq p 6 then some (.iconst (-1), 1) else none) else (bif Nat.beq p 4 then some (.iload 4, 2) else none)) else (bif Nat.ble 1 p then (bif Nat.beq p 1 then some (.getfield 25, 3) else none) else (bif Nat.beq p 0 then some (.aload_n 0, 1) else none))))))
set_option maxRecDepth 100000 in
theorem zkX4_note : (zbig cX4_note.data.toList = 8159998088144057500219940088471028536814973738680166274120971948800255614697020605051963425835781022546405078177195147706865061491217211632698834015240886092160255363110122236147678542099104556298557852968630291911914183787446712446354779232705611648577274237121768232768875671426878294800832065322049562831008810 ∧ cX4_note.data.toList.length = 130) ∧ zdk cX4_note 8159998088144057500219940088471028536814973738680166274120971948800255614697020605051963425835781022546405078177195147706865061491217211632698834015240886092160255363110122236147678542099104556298557852968630291911914183787446712446354779232705611648577274237121768232768875671426878294800832065322049562831008810 130 ztX4_note 129 = true := by decide +kernel
theorem zw_660 : (Jvm.Cond.methodLink "HillSchool$LawReader" (78 : Nat) ({ cls := "HillSchool$LawReader", name := "isLetter", desc := "(I)Z" } : Jvm.MethodName)) ∈ zall := zmemG (zmj_3 77 rfl) rfl
theorem zw_661 : (Jvm.Cond.static ({ cls := "HillSchool$LawReader", name := "isLetter", desc := "(I)Z" } : Jvm.MethodName)) ∈ zall := zmemG (zmj_3 78 rfl) rfl
theorem zw_663 : (Jvm.Cond.methodLink "HillSchool$LawReader" (81 : Nat) ({ cls := "HillSchool$LawReader", name := "isDigit", desc := "(I)Z" } : Jvm.MethodName)) ∈ zall := zmemG (zmj_3 80 rfl) rfl
theorem zw_664 : (Jvm.Cond.static ({ cls := "HillSchool$LawReader", name := "isDigit", desc := "(I)Z" } : Jvm.MethodName)) ∈ zall := zmemG (zmj_3 81 rfl) rfl
theorem zw_669 : (Jvm.Cond.code ({ cls := "HillSchool$LawReader", name := "note", desc := "([IIII)V" } : Jvm.MethodName) prog_6_method_13_code (5 : Nat) (Option.none : Option Jvm.ClassFile.FieldType)) ∈ zall := zmemG (zmj_3 86 rfl) rfl
theorem zw_670 : (Jvm.Cond.methodLink "HillSchool$LawReader" (88 : Nat) ({ cls := "HillSchool$LawReader", name := "numberOf", desc := "([III)I" } : Jvm.MethodName)) ∈ zall := zmemG (zmj_3 87 rfl) rfl
theorem zw_671 : (Jvm.Cond.static ({ cls := "HillSchool$LawReader", name := "numberOf", desc := "([III)I" } : Jvm.MethodName)) ∈ zall := zmemG (zmj_3 88 rfl) rfl
theorem zw_673 : (Jvm.Cond.methodLink "HillSchool$LawReader" (92 : Nat) ({ cls := "HillSchool$LawReader", name := "wordOf", desc := "([III)I" } : Jvm.MethodName)) ∈ zall := zmemG (zmj_3 90 rfl) rfl
theorem zw_674 : (Jvm.Cond.static ({ cls := "HillSchool$LawReader", name := "wordOf", desc := "([III)I" } : Jvm.MethodName)) ∈ zall := zmemG (zmj_3 91 rfl) rfl
theorem zw_735 : (Jvm.Cond.methodLink "HillSchool$LawReader" (95 : Nat) ({ cls := "HillSchool$LawReader", name := "ruleWordOf", desc := "([III)I" } : Jvm.MethodName)) ∈ zall := zmemG (zmj_3 152 rfl) rfl
theorem zw_736 : (Jvm.Cond.static ({ cls := "HillSchool$LawReader", name := "ruleWordOf", desc := "([III)I" } : Jvm.MethodName)) ∈ zall := zmemG (zmj_3 153 rfl) rfl
noncomputable abbrev w_LawReader_note : List Cond := .code yX4_note cX4_note 5 none :: zall
noncomputable abbrev rm_LawReader_note : Room := { frames := 6, cells := 0, slots := 0, locals := 131 }
theorem hd_LawReader_note : yX4_note.cls = "HillSchool$LawReader" ∧ yX4_note.cls ≠ "java/lang/invoke/MethodHandle" ∧ yX4_note.cls ≠ "java/lang/invoke/VarHandle" ∧ (parseMethodDescriptor yX4_note.desc).map (fun d => d.parameters.length) = some 4 := by decide +kernel
noncomputable def wd_LawReader_note (cA : Nat → ClassId) (q0 q1 q2 q3 q4 q5 : Nat) (u0 u1 u2 : Int) (i_a1 : Nat → Int) (i_tokens : Nat → Int) (i_values : Nat → Int) : va_W := [(q0, .inr (4, [.ref q1, .int (Int32.ofInt u0), .ref q2, .ref q3, .ref q4, .int (Int32.ofInt u1), .int (Int32.ofInt u2)])), (q5, .inl (cA 0, 400, .inl (za i_a1))), (q2, .inl (cA 0, 401, .inl (za i_tokens))), (q4, .inl (cA 0, 401, .inl (za i_values)))]
noncomputable def wf_LawReader_note (cA : Nat → ClassId) (q0 q1 q2 q3 q4 q5 : Nat) (u0 u1 u2 : Int) (i_a1 : Nat → Int) (o : (Nat → Int) × (Nat → Int)) : va_W := wd_LawReader_note cA q0 q1 q2 q3 q4 q5 u0 u1 u2 i_a1 o.1 o.2
noncomputable def f_LawReader_note (x2 : Int) (x3 : Int) (x4 : Int) (i_a1 : Nat → Int) (i_tokens : Nat → Int) (i_values : Nat → Int) : Option ((Nat → Int) × (Nat → Int)) :=
  zs 401 i_values x4 (-1) fun a1 =>
  zg 400 i_a1 x2 fun v2 =>
  zd1 (f_LawReader_isDigit v2) fun v3 =>
  if zi_w v3 = 0 then
    zg 400 i_a1 x2 fun v4 =>
    zd1 (f_LawReader_isLetter v4) fun v5 =>
    if zi_w v5 = 0 then
      zg 400 i_a1 x2 fun v6 =>
      zn (zi_and v6 255) fun v7 =>
      zs 401 i_tokens x4 v7 fun a8 =>
      some (a8, a1)
    else
      zd1 (f_LawReader_wordOf x2 x3 i_a1) fun v9 =>
      zs 401 a1 x4 v9 fun a10 =>
      zg 401 a10 x4 fun v11 =>
      if zi_w v11 ≠ zi_w (-1) then
        zs 401 i_tokens x4 259 fun a12 =>
        some (a12, a10)
      else
        zd1 (f_LawReader_ruleWordOf x2 x3 i_a1) fun v13 =>
        zs 401 i_tokens x4 v13 fun a14 =>
        some (a14, a10)
  else
    zd1 (f_LawReader_numberOf x2 x3 i_a1) fun v15 =>
    zs 401 a1 x4 v15 fun a16 =>
    zg 401 a16 x4 fun v17 =>
    if zi_w v17 ≠ zi_w (-1) then
      zs 401 i_tokens x4 258 fun a18 =>
      some (a18, a16)
    else
      zs 401 i_tokens x4 256 fun a19 =>
      some (a19, a16)
set_option maxHeartbeats 4000000 in
set_option maxRecDepth 100000 in
theorem c_LawReader_note (l : Launch) (ev : zEv) (dC : Nat → ClassId) (dI : Nat → Nat → Nat) (cA : Nat → ClassId) (q0 q1 q2 q3 q4 q5 : Nat) (u0 u1 u2 : Int) {x2 x3 x4 : Int} {i_a1 : Nat → Int} {i_tokens : Nat → Int} {i_values : Nat → Int} {out : (Nat → Int) × (Nat → Int)} (hf : f_LawReader_note x2 x3 x4 i_a1 i_tokens i_values = some out) : xc_V l ev (dC, dI) vwCl (tyl cA) yX4_note w_LawReader_note rm_LawReader_note [.ref q0, .ref q5, .int (Int32.ofInt x2), .int (Int32.ofInt x3), .int (Int32.ofInt x4)] (wd_LawReader_note cA q0 q1 q2 q3 q4 q5 u0 u1 u2 i_a1 i_tokens i_values) (wf_LawReader_note cA q0 q1 q2 q3 q4 q5 u0 u1 u2 i_a1 out) := by
  refine xv_startV (cc := cX4_note) (maxL := 5) (by decide +kernel) rfl (Nat.le_of_ble_eq_true rfl) ?_
  intro p e s m args below meth c A Q H ls hx hb hml hts hown hK hA hP hD hS hl hE hret
  have hown : s.vm.findClass "HillSchool$LawReader" = some m.cls := hown
  have hz : ∀ w ∈ zall, w.before args s = true := fun w h => hts w (List.mem_cons_of_mem _ h)
  have hl : lv_has ls 5 [(0, .ref q0), (1, .ref q5), (2, .int (Int32.ofInt x2)), (3, .int (Int32.ofInt x3)), (4, .int (Int32.ofInt x4))] := hl
  unfold f_LawReader_note at hf
  refine lv_aload_n hx hb (zdt zkX4_note 0 rfl) rfl (lv_at hl 0 rfl) ?_
  refine va_get (D := (dC, dI)) (ci := 4) (v := .ref q4) (C := RX4) (T := TX4) (N := 7) hx hb hz zi_X4 hown hK hP 0 rfl rfl 4 (by decide) (hz _ zw_254) (fun _ h9 => h9) rfl (zdt zkX4_note 1 rfl) ?_
  refine lv_iload hx hb (zdt zkX4_note 4 rfl) (lv_at hl 4 rfl) ?_
  refine lv_iconst (v := Int32.ofInt (-1)) hx hb (zdt zkX4_note 6 rfl) rfl ?_
  refine xi_iast hx hb hK hP hD hS 3 0 rfl rfl (zdt zkX4_note 7 rfl) hf (fun a1 H locs hP hD hS hf => ?_)
  refine xw_PD (wd_LawReader_note cA q0 q1 q2 q3 q4 q5 u0 u1 u2 i_a1 i_tokens a1) hP hD (fun hP hD => ?_)
  refine lv_aload_n hx hb (zdt zkX4_note 8 rfl) rfl (lv_at hl 1 rfl) ?_
  refine lv_iload_n hx hb (zdt zkX4_note 9 rfl) rfl (lv_at hl 2 rfl) ?_
  refine xi_iald hx hb hK hP 1 0 rfl rfl (zdt zkX4_note 10 rfl) hf (fun v2 hf => ?_)
  refine xe_d1 hf (fun v3 hg hf => ?_)
  have hC : ([] : List Nat).map (fun i => (wd_LawReader_note cA q0 q1 q2 q3 q4 q5 u0 u1 u2 i_a1 i_tokens a1)[i]?) = (wd_LawReader_isDigit cA).map some := rfl
  refine xv_afterI (ws' := (wd_LawReader_note cA q0 q1 q2 q3 q4 q5 u0 u1 u2 i_a1 i_tokens a1)) (isC := []) (ps := [none, none, none, none]) (va_runS (As := [.int (Int32.ofInt v2)]) (rest := []) ⟨hx, hb, hml, hown, hts⟩ (c_LawReader_isDigit l ev dC dI cA hg H.size) (va_cwS 1 hts (zgS zw_663 zw_664 zw_107 zw_665) rfl rfl rfl hd_LawReader_isDigit.2 ⟨Nat.le_of_ble_eq_true rfl, Nat.le_of_ble_eq_true rfl⟩) (xv_preS hE hA hS hK hP hD (isC := []) (by decide +kernel) hC) rfl rfl hl.1 rfl (lv_room (Nat.le_of_ble_eq_true rfl)) (zdt zkX4_note 11 rfl) ⟨Nat.le_refl _, Nat.le_refl _⟩) hP hD hS hA (by decide +kernel) rfl hC rfl rfl (fun H locs hP hD hS => ?_)
  refine xi_if_eq (tgt := 60) hx hb (zdt zkX4_note 14 rfl) (by decide) hf (fun hf => ?_) (fun hf => ?_)
  · refine lv_aload_n hx hb (zdt zkX4_note 60 rfl) rfl (lv_at hl 1 rfl) ?_
    refine lv_iload_n hx hb (zdt zkX4_note 61 rfl) rfl (lv_at hl 2 rfl) ?_
    refine xi_iald hx hb hK hP 1 0 rfl rfl (zdt zkX4_note 62 rfl) hf (fun v4 hf => ?_)
    refine xe_d1 hf (fun v5 hg hf => ?_)
    have hC : ([] : List Nat).map (fun i => (wd_LawReader_note cA q0 q1 q2 q3 q4 q5 u0 u1 u2 i_a1 i_tokens a1)[i]?) = (wd_LawReader_isLetter cA).map some := rfl
    refine xv_afterI (ws' := (wd_LawReader_note cA q0 q1 q2 q3 q4 q5 u0 u1 u2 i_a1 i_tokens a1)) (isC := []) (ps := [none, none, none, none]) (va_runS (As := [.int (Int32.ofInt v4)]) (rest := []) ⟨hx, hb, hml, hown, hts⟩ (c_LawReader_isLetter l ev dC dI cA hg H.size) (va_cwS 1 hts (zgS zw_660 zw_661 zw_107 zw_662) rfl rfl rfl hd_LawReader_isLetter.2 ⟨Nat.le_of_ble_eq_true rfl, Nat.le_of_ble_eq_true rfl⟩) (xv_preS hE hA hS hK hP hD (isC := []) (by decide +kernel) hC) rfl rfl hl.1 rfl (lv_room (Nat.le_of_ble_eq_true rfl)) (zdt zkX4_note 63 rfl) ⟨Nat.le_refl _, Nat.le_refl _⟩) hP hD hS hA (by decide +kernel) rfl hC rfl rfl (fun H locs hP hD hS => ?_)
    refine xi_if_eq (tgt := 115) hx hb (zdt zkX4_note 66 rfl) (by decide) hf (fun hf => ?_) (fun hf => ?_)
    · refine lv_aload_n hx hb (zdt zkX4_note 115 rfl) rfl (lv_at hl 0 rfl) ?_
      refine va_get (D := (dC, dI)) (ci := 4) (v := .ref q2) (C := RX4) (T := TX4) (N := 7) hx hb hz zi_X4 hown hK hP 0 rfl rfl 2 (by decide) (hz _ zw_252) (fun _ h9 => h9) rfl (zdt zkX4_note 116 rfl) ?_
      refine lv_iload hx hb (zdt zkX4_note 119 rfl) (lv_at hl 4 rfl) ?_
      refine lv_aload_n hx hb (zdt zkX4_note 121 rfl) rfl (lv_at hl 1 rfl) ?_
      refine lv_iload_n hx hb (zdt zkX4_note 122 rfl) rfl (lv_at hl 2 rfl) ?_
      refine xi_iald hx hb hK hP 1 0 rfl rfl (zdt zkX4_note 123 rfl) hf (fun v6 hf => ?_)
      refine lv_sipush (v := Int32.ofInt 255) hx hb (zdt zkX4_note 124 rfl) (by decide) ?_
      refine xi_iand hx hb (zdt zkX4_note 127 rfl) hf (fun v7 hf => ?_)
      refine xi_iast hx hb hK hP hD hS 2 0 rfl rfl (zdt zkX4_note 128 rfl) hf (fun a8 H locs hP hD hS hf => ?_)
      refine xw_PD (wd_LawReader_note cA q0 q1 q2 q3 q4 q5 u0 u1 u2 i_a1 a8 a1) hP hD (fun hP hD => ?_)
      obtain rfl := Option.some.inj hf
      exact hret _ _ _ _ (zdt zkX4_note 129 rfl) hP hD hS
    · refine lv_aload_n hx hb (zdt zkX4_note 69 rfl) rfl (lv_at hl 0 rfl) ?_
      refine va_get (D := (dC, dI)) (ci := 4) (v := .ref q4) (C := RX4) (T := TX4) (N := 7) hx hb hz zi_X4 hown hK hP 0 rfl rfl 4 (by decide) (hz _ zw_254) (fun _ h9 => h9) rfl (zdt zkX4_note 70 rfl) ?_
      refine lv_iload hx hb (zdt zkX4_note 73 rfl) (lv_at hl 4 rfl) ?_
      refine lv_aload_n hx hb (zdt zkX4_note 75 rfl) rfl (lv_at hl 1 rfl) ?_
      refine lv_iload_n hx hb (zdt zkX4_note 76 rfl) rfl (lv_at hl 2 rfl) ?_
      refine lv_iload_n hx hb (zdt zkX4_note 77 rfl) rfl (lv_at hl 3 rfl) ?_
      refine xe_d1 hf (fun v9 hg hf => ?_)
      have hC : ([1] : List Nat).map (fun i => (wd_LawReader_note cA q0 q1 q2 q3 q4 q5 u0 u1 u2 i_a1 i_tokens a1)[i]?) = (wd_LawReader_wordOf cA q5 i_a1).map some := rfl
      refine xv_afterI (ws' := (wd_LawReader_note cA q0 q1 q2 q3 q4 q5 u0 u1 u2 i_a1 i_tokens a1)) (isC := [1]) (ps := [none, some 0, none, none]) (va_runS (As := [.ref q5, .int (Int32.ofInt x2), .int (Int32.ofInt x3)]) (rest := [.int (Int32.ofInt x4), .ref q4]) ⟨hx, hb, hml, hown, hts⟩ (c_LawReader_wordOf l ev dC dI cA q5 hg H.size) (va_cwS 3 hts (zgS zw_673 zw_674 zw_107 zw_675) rfl rfl rfl hd_LawReader_wordOf.2 ⟨Nat.le_of_ble_eq_true rfl, Nat.le_of_ble_eq_true rfl⟩) (xv_preS hE hA hS hK hP hD (isC := [1]) (by decide +kernel) hC) rfl rfl hl.1 rfl (lv_room (Nat.le_of_ble_eq_true rfl)) (zdt zkX4_note 78 rfl) ⟨Nat.le_refl _, Nat.le_refl _⟩) hP hD hS hA (by decide +kernel) rfl hC rfl rfl (fun H locs hP hD hS => ?_)
      refine xi_iast hx hb hK hP hD hS 3 0 rfl rfl (zdt zkX4_note 81 rfl) hf (fun a10 H locs hP hD hS hf => ?_)
      refine xw_PD (wd_LawReader_note cA q0 q1 q2 q3 q4 q5 u0 u1 u2 i_a1 i_tokens a10) hP hD (fun hP hD => ?_)
      refine lv_aload_n hx hb (zdt zkX4_note 82 rfl) rfl (lv_at hl 0 rfl) ?_
      refine va_get (D := (dC, dI)) (ci := 4) (v := .ref q2) (C := RX4) (T := TX4) (N := 7) hx hb hz zi_X4 hown hK hP 0 rfl rfl 2 (by decide) (hz _ zw_252) (fun _ h9 => h9) rfl (zdt zkX4_note 83 rfl) ?_
      refine lv_iload hx hb (zdt zkX4_note 86 rfl) (lv_at hl 4 rfl) ?_
      refine lv_aload_n hx hb (zdt zkX4_note 88 rfl) rfl (lv_at hl 0 rfl) ?_
      refine va_get (D := (dC, dI)) (ci := 4) (v := .ref q4) (C := RX4) (T := TX4) (N := 7) hx hb hz zi_X4 hown hK hP 0 rfl rfl 4 (by decide) (hz _ zw_254) (fun _ h9 => h9) rfl (zdt zkX4_note 89 rfl) ?_
      refine lv_iload hx hb (zdt zkX4_note 92 rfl) (lv_at hl 4 rfl) ?_
      refine xi_iald hx hb hK hP 3 0 rfl rfl (zdt zkX4_note 94 rfl) hf (fun v11 hf => ?_)
      refine lv_iconst (v := Int32.ofInt (-1)) hx hb (zdt zkX4_note 95 rfl) rfl ?_
      refine xi_icmp_ne (tgt := 108) hx hb (zdt zkX4_note 96 rfl) (by decide) hf (fun hf => ?_) (fun hf => ?_)
      · refine lv_sipush (v := Int32.ofInt 259) hx hb (zdt zkX4_note 108 rfl) (by decide) ?_
        refine xi_iast hx hb hK hP hD hS 2 0 rfl rfl (zdt zkX4_note 111 rfl) hf (fun a12 H locs hP hD hS hf => ?_)
        refine xw_PD (wd_LawReader_note cA q0 q1 q2 q3 q4 q5 u0 u1 u2 i_a1 a12 a10) hP hD (fun hP hD => ?_)
        refine lv_goto (tgt := 129) hx hb (zdt zkX4_note 112 rfl) (by decide) ?_
        obtain rfl := Option.some.inj hf
        exact hret _ _ _ _ (zdt zkX4_note 129 rfl) hP hD hS
      · refine lv_aload_n hx hb (zdt zkX4_note 99 rfl) rfl (lv_at hl 1 rfl) ?_
        refine lv_iload_n hx hb (zdt zkX4_note 100 rfl) rfl (lv_at hl 2 rfl) ?_
        refine lv_iload_n hx hb (zdt zkX4_note 101 rfl) rfl (lv_at hl 3 rfl) ?_
        refine xe_d1 hf (fun v13 hg hf => ?_)
        have hC : ([1] : List Nat).map (fun i => (wd_LawReader_note cA q0 q1 q2 q3 q4 q5 u0 u1 u2 i_a1 i_tokens a10)[i]?) = (wd_LawReader_ruleWordOf cA q5 i_a1).map some := rfl
        refine xv_afterI (ws' := (wd_LawReader_note cA q0 q1 q2 q3 q4 q5 u0 u1 u2 i_a1 i_tokens a10)) (isC := [1]) (ps := [none, some 0, none, none]) (va_runS (As := [.ref q5, .int (Int32.ofInt x2), .int (Int32.ofInt x3)]) (rest := [.int (Int32.ofInt x4), .ref q2]) ⟨hx, hb, hml, hown, hts⟩ (c_LawReader_ruleWordOf l ev dC dI cA q5 hg H.size) (va_cwS 3 hts (zgS zw_735 zw_736 zw_107 zw_737) rfl rfl rfl hd_LawReader_ruleWordOf.2 ⟨Nat.le_of_ble_eq_true rfl, Nat.le_of_ble_eq_true rfl⟩) (xv_preS hE hA hS hK hP hD (isC := [1]) (by decide +kernel) hC) rfl rfl hl.1 rfl (lv_room (Nat.le_of_ble_eq_true rfl)) (zdt zkX4_note 102 rfl) ⟨Nat.le_refl _, Nat.le_refl _⟩) hP hD hS hA (by decide +kernel) rfl hC rfl rfl (fun H locs hP hD hS => ?_)
        refine lv_goto (tgt := 111) hx hb (zdt zkX4_note 105 rfl) (by decide) ?_
        refine xi_iast hx hb hK hP hD hS 2 0 rfl rfl (zdt zkX4_note 111 rfl) hf (fun a14 H locs hP hD hS hf => ?_)
        refine xw_PD (wd_LawReader_note cA q0 q1 q2 q3 q4 q5 u0 u1 u2 i_a1 a14 a10) hP hD (fun hP hD => ?_)
        refine lv_goto (tgt := 129) hx hb (zdt zkX4_note 112 rfl) (by decide) ?_
        obtain rfl := Option.some.inj hf
        exact hret _ _ _ _ (zdt zkX4_note 129 rfl) hP hD hS
  · refine lv_aload_n hx hb (zdt zkX4_note 17 rfl) rfl (lv_at hl 0 rfl) ?_
    refine va_get (D := (dC, dI)) (ci := 4) (v := .ref q4) (C := RX4) (T := TX4) (N := 7) hx hb hz zi_X4 hown hK hP 0 rfl rfl 4 (by decide) (hz _ zw_254) (fun _ h9 => h9) rfl (zdt zkX4_note 18 rfl) ?_
    refine lv_iload hx hb (zdt zkX4_note 21 rfl) (lv_at hl 4 rfl) ?_
    refine lv_aload_n hx hb (zdt zkX4_note 23 rfl) rfl (lv_at hl 1 rfl) ?_
    refine lv_iload_n hx hb (zdt zkX4_note 24 rfl) rfl (lv_at hl 2 rfl) ?_
    refine lv_iload_n hx hb (zdt zkX4_note 25 rfl) rfl (lv_at hl 3 rfl) ?_
    refine xe_d1 hf (fun v15 hg hf => ?_)
    have hC : ([1] : List Nat).map (fun i => (wd_LawReader_note cA q0 q1 q2 q3 q4 q5 u0 u1 u2 i_a1 i_tokens a1)[i]?) = (wd_LawReader_numberOf cA q5 i_a1).map some := rfl
    refine xv_afterI (ws' := (wd_LawReader_note cA q0 q1 q2 q3 q4 q5 u0 u1 u2 i_a1 i_tokens a1)) (isC := [1]) (ps := [none, some 0, none, none]) (va_runS (As := [.ref q5, .int (Int32.ofInt x2), .int (Int32.ofInt x3)]) (rest := [.int (Int32.ofInt x4), .ref q4]) ⟨hx, hb, hml, hown, hts⟩ (c_LawReader_numberOf l ev dC dI cA q5 hg H.size) (va_cwS 3 hts (zgS zw_670 zw_671 zw_107 zw_672) rfl rfl rfl hd_LawReader_numberOf.2 ⟨Nat.le_of_ble_eq_true rfl, Nat.le_of_ble_eq_true rfl⟩) (xv_preS hE hA hS hK hP hD (isC := [1]) (by decide +kernel) hC) rfl rfl hl.1 rfl (lv_room (Nat.le_of_ble_eq_true rfl)) (zdt zkX4_note 26 rfl) ⟨Nat.le_refl _, Nat.le_refl _⟩) hP hD hS hA (by decide +kernel) rfl hC rfl rfl (fun H locs hP hD hS => ?_)
    refine xi_iast hx hb hK hP hD hS 3 0 rfl rfl (zdt zkX4_note 29 rfl) hf (fun a16 H locs hP hD hS hf => ?_)
    refine xw_PD (wd_LawReader_note cA q0 q1 q2 q3 q4 q5 u0 u1 u2 i_a1 i_tokens a16) hP hD (fun hP hD => ?_)
    refine lv_aload_n hx hb (zdt zkX4_note 30 rfl) rfl (lv_at hl 0 rfl) ?_
    refine va_get (D := (dC, dI)) (ci := 4) (v := .ref q2) (C := RX4) (T := TX4) (N := 7) hx hb hz zi_X4 hown hK hP 0 rfl rfl 2 (by decide) (hz _ zw_252) (fun _ h9 => h9) rfl (zdt zkX4_note 31 rfl) ?_
    refine lv_iload hx hb (zdt zkX4_note 34 rfl) (lv_at hl 4 rfl) ?_
    refine lv_aload_n hx hb (zdt zkX4_note 36 rfl) rfl (lv_at hl 0 rfl) ?_
    refine va_get (D := (dC, dI)) (ci := 4) (v := .ref q4) (C := RX4) (T := TX4) (N := 7) hx hb hz zi_X4 hown hK hP 0 rfl rfl 4 (by decide) (hz _ zw_254) (fun _ h9 => h9) rfl (zdt zkX4_note 37 rfl) ?_
    refine lv_iload hx hb (zdt zkX4_note 40 rfl) (lv_at hl 4 rfl) ?_
    refine xi_iald hx hb hK hP 3 0 rfl rfl (zdt zkX4_note 42 rfl) hf (fun v17 hf => ?_)
    refine lv_iconst (v := Int32.ofInt (-1)) hx hb (zdt zkX4_note 43 rfl) rfl ?_
    refine xi_icmp_ne (tgt := 53) hx hb (zdt zkX4_note 44 rfl) (by decide) hf (fun hf => ?_) (fun hf => ?_)
    · refine lv_sipush (v := Int32.ofInt 258) hx hb (zdt zkX4_note 53 rfl) (by decide) ?_
      refine xi_iast hx hb hK hP hD hS 2 0 rfl rfl (zdt zkX4_note 56 rfl) hf (fun a18 H locs hP hD hS hf => ?_)
      refine xw_PD (wd_LawReader_note cA q0 q1 q2 q3 q4 q5 u0 u1 u2 i_a1 a18 a16) hP hD (fun hP hD => ?_)
      refine lv_goto (tgt := 129) hx hb (zdt zkX4_note 57 rfl) (by decide) ?_
      obtain rfl := Option.some.inj hf
      exact hret _ _ _ _ (zdt zkX4_note 129 rfl) hP hD hS
    · refine lv_sipush (v := Int32.ofInt 256) hx hb (zdt zkX4_note 47 rfl) (by decide) ?_
      refine lv_goto (tgt := 56) hx hb (zdt zkX4_note 50 rfl) (by decide) ?_
      refine xi_iast hx hb hK hP hD hS 2 0 rfl rfl (zdt zkX4_note 56 rfl) hf (fun a19 H locs hP hD hS hf => ?_)
      refine xw_PD (wd_LawReader_note cA q0 q1 q2 q3 q4 q5 u0 u1 u2 i_a1 a19 a16) hP hD (fun hP hD => ?_)
      refine lv_goto (tgt := 129) hx hb (zdt zkX4_note 57 rfl) (by decide) ?_
      obtain rfl := Option.some.inj hf
      exact hret _ _ _ _ (zdt zkX4_note 129 rfl) hP hD hS
end
