theorem dX10_accept_0 : decode cX10_accept 0 = .ok (.aload_n 0, 1) := by decide +kernel
theorem dX10_accept_1 : decode cX10_accept 1 = .ok (.iconst 0, 1) := by decide +kernel
theorem dX10_accept_2 : decode cX10_accept 2 = .ok (.putfield 41, 3) := by decide +kernel
theorem dX10_accept_5 : decode cX10_accept 5 = .ok (.aload_n 0, 1) := by decide +kernel
theorem dX10_accept_6 : decode cX10_accept 6 = .ok (.getfield 10, 3) := by decide +kernel
theorem dX10_accept_9 : decode cX10_accept 9 = .ok (.dup, 1) := by decide +kernel
theorem dX10_accept_10 : decode cX10_accept 10 = .ok (.getfield 220, 3) := by decide +kernel
theorem dX10_accept_13 : decode cX10_accept 13 = .ok (.iconst 1, 1) := by decide +kernel
theorem dX10_accept_14 : decode cX10_accept 14 = .ok (.iadd, 1) := by decide +kernel
theorem dX10_accept_15 : decode cX10_accept 15 = .ok (.putfield 220, 3) := by decide +kernel
theorem dX10_accept_18 : decode cX10_accept 18 = .ok (.iload_n 1, 1) := by decide +kernel
theorem dX10_accept_19 : decode cX10_accept 19 = .ok (.ireturn, 1) := by decide +kernel
theorem zw_211 : (Jvm.Cond.fieldLinkNest "HillSchool" (220 : Nat) "HillSchool$Hill" "changes" "I" "HillSchool") ∈ znest := zmemH (zmj_1 108 rfl) rfl
theorem zw_477 : (Jvm.Cond.fieldLink "HillSchool" (10 : Nat) "HillSchool" "hill" "LHillSchool$Hill;") ∈ zall := zmemG (zmj_2 134 rfl) rfl
theorem zw_485 : (Jvm.Cond.fieldLink "HillSchool" (41 : Nat) "HillSchool" "latestStatus" "I") ∈ zall := zmemG (zmj_2 142 rfl) rfl
theorem zw_541 : (Jvm.Cond.code ({ cls := "HillSchool", name := "accept", desc := "(I)I" } : Jvm.MethodName) prog_1_method_41_code (2 : Nat) (Option.some Jvm.ClassFile.FieldType.int)) ∈ zall := zmemG (zmj_2 198 rfl) rfl
abbrev w_HS_accept : List Cond := .code yX10_accept cX10_accept 2 (some .int) :: zall
abbrev rm_HS_accept : Room := { frames := 0, cells := 0, slots := 0, locals := 0 }
theorem hd_HS_accept : yX10_accept.cls = "HillSchool" ∧ yX10_accept.cls ≠ "java/lang/invoke/MethodHandle" ∧ yX10_accept.cls ≠ "java/lang/invoke/VarHandle" ∧ (parseMethodDescriptor yX10_accept.desc).map (fun d => d.parameters.length) = some 1 := by decide +kernel
def wd_HS_accept (cA : Nat → ClassId) (q0 q1 q2 q3 q4 q5 q6 q7 q8 q9 q10 q11 q12 q13 q14 q15 q16 q17 q18 q19 q20 q21 : Nat) (u0 u1 u2 u3 u4 u5 u6 : Int)  (i_latestStatus : Int) (i_hill_changes : Int) : va_W := [(q0, .inr (10, [.ref q1, .ref q2, .ref q3, .ref q4, .int (Int32.ofInt u0), .int (Int32.ofInt u1), .int (Int32.ofInt u2), .ref q5, .int (Int32.ofInt i_latestStatus), .ref q6, .ref q7, .ref q8, .ref q9, .ref q10, .ref q11, .ref q12])), (q1, .inr (2, [.ref q13, .int (Int32.ofInt u3), .ref q14, .ref q15, .ref q16, .int (Int32.ofInt u4), .ref q17, .ref q18, .ref q19, .int (Int32.ofInt u5), .ref q20, .ref q21, .int (Int32.ofInt u6), .int (Int32.ofInt i_hill_changes)]))]
def wf_HS_accept (cA : Nat → ClassId) (q0 q1 q2 q3 q4 q5 q6 q7 q8 q9 q10 q11 q12 q13 q14 q15 q16 q17 q18 q19 q20 q21 : Nat) (u0 u1 u2 u3 u4 u5 u6 : Int)  (o : Int × Int × Int) : va_W := wd_HS_accept cA q0 q1 q2 q3 q4 q5 q6 q7 q8 q9 q10 q11 q12 q13 q14 q15 q16 q17 q18 q19 q20 q21 u0 u1 u2 u3 u4 u5 u6 o.2.1 o.2.2
def f_HS_accept (x1 : Int) (i_latestStatus : Int) (i_hill_changes : Int) : Option (Int × Int × Int) :=
  zn (i_hill_changes + 1) fun v1 =>
  some (x1, 0, v1)
set_option maxHeartbeats 4000000 in
set_option maxRecDepth 100000 in
theorem c_HS_accept (l : Launch) (ev : zEv) (dC : Nat → ClassId) (dI : Nat → Nat → Nat) (cA : Nat → ClassId) (q0 q1 q2 q3 q4 q5 q6 q7 q8 q9 q10 q11 q12 q13 q14 q15 q16 q17 q18 q19 q20 q21 : Nat) (u0 u1 u2 u3 u4 u5 u6 : Int) {x1 : Int} {i_latestStatus : Int} {i_hill_changes : Int} {out : Int × Int × Int} (hf : f_HS_accept x1 i_latestStatus i_hill_changes = some out) : xc_I l ev (dC, dI) vwCl (tyl cA) yX10_accept w_HS_accept rm_HS_accept [.ref q0, .int (Int32.ofInt x1)] (wd_HS_accept cA q0 q1 q2 q3 q4 q5 q6 q7 q8 q9 q10 q11 q12 q13 q14 q15 q16 q17 q18 q19 q20 q21 u0 u1 u2 u3 u4 u5 u6 i_latestStatus i_hill_changes) (wf_HS_accept cA q0 q1 q2 q3 q4 q5 q6 q7 q8 q9 q10 q11 q12 q13 q14 q15 q16 q17 q18 q19 q20 q21 u0 u1 u2 u3 u4 u5 u6 out) out.1 := by
  refine xv_startI (cc := cX10_accept) (maxL := 2) (rt := .int) (by decide +kernel) rfl (Nat.le_of_ble_eq_true rfl) ?_
  intro p e s m args below meth c A Q H ls hx hb hml hts hown hK hA hP hD hS hl hE hret
  have hown : s.vm.findClass "HillSchool" = some m.cls := hown
  have hz : ∀ w ∈ zall, w.before args s = true := fun w h => hts w (List.mem_cons_of_mem _ h)
  have hl : lv_has ls 2 [(0, .ref q0), (1, .int (Int32.ofInt x1))] := hl
  unfold f_HS_accept at hf
  refine lv_aload_n hx hb dX10_accept_0 rfl (lv_at hl 0 rfl) ?_
  refine lv_iconst (v := Int32.ofInt 0) hx hb dX10_accept_1 rfl ?_
  refine va_put (D := (dC, dI)) (ci := 10) (v := .int (Int32.ofInt 0)) (ty := .int) (C := RX10) (T := TX10) (N := 16) hx hb hz zi_X10 tyX10 tyX10_ok nmX10 hown hK hP hD hS 0 rfl rfl 8 (by decide) (hz _ zw_485) (fun _ h9 => h9) rfl (by decide +kernel) rfl rfl (Nat.le_of_ble_eq_true rfl) dX10_accept_2 (fun H locs hP hD hS => ?_)
  have hP : va_P (dC, dI) vwCl (wd_HS_accept cA q0 q1 q2 q3 q4 q5 q6 q7 q8 q9 q10 q11 q12 q13 q14 q15 q16 q17 q18 q19 q20 q21 u0 u1 u2 u3 u4 u5 u6 0 i_hill_changes) H := hP
  have hD : va_D A (wd_HS_accept cA q0 q1 q2 q3 q4 q5 q6 q7 q8 q9 q10 q11 q12 q13 q14 q15 q16 q17 q18 q19 q20 q21 u0 u1 u2 u3 u4 u5 u6 0 i_hill_changes) := hD
  refine lv_aload_n hx hb dX10_accept_5 rfl (lv_at hl 0 rfl) ?_
  refine va_get (D := (dC, dI)) (ci := 10) (v := .ref q1) (C := RX10) (T := TX10) (N := 16) hx hb hz zi_X10 hown hK hP 0 rfl rfl 0 (by decide) (hz _ zw_477) (fun _ h9 => h9) rfl dX10_accept_6 ?_
  refine lv_dup hx hb dX10_accept_9 rfl ?_
  refine va_getN (D := (dC, dI)) (ci := 2) (v := .int (Int32.ofInt i_hill_changes)) (C := RX2) (T := TX2) (N := 14) hx hb hz zi_X2 hown hK hP 1 rfl rfl 13 (by decide) (va_Nw.use rfl (hE.1.1 _ zw_211)) (fun _ h9 => h9) rfl dX10_accept_10 ?_
  refine lv_iconst (v := Int32.ofInt 1) hx hb dX10_accept_13 rfl ?_
  refine xi_iadd hx hb dX10_accept_14 hf (fun v1 hf => ?_)
  refine va_putN (D := (dC, dI)) (ci := 2) (v := .int (Int32.ofInt v1)) (ty := .int) (C := RX2) (T := TX2) (N := 14) hx hb hz zi_X2 tyX2 tyX2_ok nmX2 hown hK hP hD hS 1 rfl rfl 13 (by decide) (va_Nw.use rfl (hE.1.1 _ zw_211)) (fun _ h9 => h9) rfl (by decide +kernel) rfl rfl (Nat.le_of_ble_eq_true rfl) dX10_accept_15 (fun H locs hP hD hS => ?_)
  have hP : va_P (dC, dI) vwCl (wd_HS_accept cA q0 q1 q2 q3 q4 q5 q6 q7 q8 q9 q10 q11 q12 q13 q14 q15 q16 q17 q18 q19 q20 q21 u0 u1 u2 u3 u4 u5 u6 0 v1) H := hP
  have hD : va_D A (wd_HS_accept cA q0 q1 q2 q3 q4 q5 q6 q7 q8 q9 q10 q11 q12 q13 q14 q15 q16 q17 q18 q19 q20 q21 u0 u1 u2 u3 u4 u5 u6 0 v1) := hD
  refine lv_iload_n hx hb dX10_accept_18 rfl (lv_at hl 1 rfl) ?_
  obtain rfl := Option.some.inj hf
  exact hret _ _ _ _ rfl dX10_accept_19 hP hD hS
theorem dX10_refuse_0 : decode cX10_refuse 0 = .ok (.aload_n 0, 1) := by decide +kernel
theorem dX10_refuse_1 : decode cX10_refuse 1 = .ok (.iload_n 1, 1) := by decide +kernel
theorem dX10_refuse_2 : decode cX10_refuse 2 = .ok (.putfield 41, 3) := by decide +kernel
theorem dX10_refuse_5 : decode cX10_refuse 5 = .ok (.aload_n 0, 1) := by decide +kernel
theorem dX10_refuse_6 : decode cX10_refuse 6 = .ok (.getfield 38, 3) := by decide +kernel
theorem dX10_refuse_9 : decode cX10_refuse 9 = .ok (.iload_n 1, 1) := by decide +kernel
theorem dX10_refuse_10 : decode cX10_refuse 10 = .ok (.ineg, 1) := by decide +kernel
theorem dX10_refuse_11 : decode cX10_refuse 11 = .ok (.dup2, 1) := by decide +kernel
theorem dX10_refuse_12 : decode cX10_refuse 12 = .ok (.iaload, 1) := by decide +kernel
theorem dX10_refuse_13 : decode cX10_refuse 13 = .ok (.iconst 1, 1) := by decide +kernel
theorem dX10_refuse_14 : decode cX10_refuse 14 = .ok (.iadd, 1) := by decide +kernel
theorem dX10_refuse_15 : decode cX10_refuse 15 = .ok (.iastore, 1) := by decide +kernel
theorem dX10_refuse_16 : decode cX10_refuse 16 = .ok (.iload_n 1, 1) := by decide +kernel
theorem dX10_refuse_17 : decode cX10_refuse 17 = .ok (.ireturn, 1) := by decide +kernel
theorem zw_484 : (Jvm.Cond.fieldLink "HillSchool" (38 : Nat) "HillSchool" "refusals" "[I") ∈ zall := zmemG (zmj_2 141 rfl) rfl
theorem zw_537 : (Jvm.Cond.code ({ cls := "HillSchool", name := "refuse", desc := "(I)I" } : Jvm.MethodName) prog_1_method_40_code (2 : Nat) (Option.some Jvm.ClassFile.FieldType.int)) ∈ zall := zmemG (zmj_2 194 rfl) rfl
abbrev w_HS_refuse : List Cond := .code yX10_refuse cX10_refuse 2 (some .int) :: zall
abbrev rm_HS_refuse : Room := { frames := 0, cells := 0, slots := 0, locals := 0 }
theorem hd_HS_refuse : yX10_refuse.cls = "HillSchool" ∧ yX10_refuse.cls ≠ "java/lang/invoke/MethodHandle" ∧ yX10_refuse.cls ≠ "java/lang/invoke/VarHandle" ∧ (parseMethodDescriptor yX10_refuse.desc).map (fun d => d.parameters.length) = some 1 := by decide +kernel
def wd_HS_refuse (cA : Nat → ClassId) (q0 q1 q2 q3 q4 q5 q6 q7 q8 q9 q10 q11 q12 : Nat) (u0 u1 u2 : Int)  (i_latestStatus : Int) (i_refusals : Nat → Int) : va_W := [(q0, .inr (10, [.ref q1, .ref q2, .ref q3, .ref q4, .int (Int32.ofInt u0), .int (Int32.ofInt u1), .int (Int32.ofInt u2), .ref q5, .int (Int32.ofInt i_latestStatus), .ref q6, .ref q7, .ref q8, .ref q9, .ref q10, .ref q11, .ref q12])), (q5, .inl (cA 0, 7, .inl (za i_refusals)))]
def wf_HS_refuse (cA : Nat → ClassId) (q0 q1 q2 q3 q4 q5 q6 q7 q8 q9 q10 q11 q12 : Nat) (u0 u1 u2 : Int)  (o : Int × Int × (Nat → Int)) : va_W := wd_HS_refuse cA q0 q1 q2 q3 q4 q5 q6 q7 q8 q9 q10 q11 q12 u0 u1 u2 o.2.1 o.2.2
def f_HS_refuse (x1 : Int) (i_latestStatus : Int) (i_refusals : Nat → Int) : Option (Int × Int × (Nat → Int)) :=
  zn (-x1) fun v1 =>
  zg 7 i_refusals v1 fun v2 =>
  zn (v2 + 1) fun v3 =>
  zs 7 i_refusals v1 v3 fun a4 =>
  some (x1, x1, a4)
set_option maxHeartbeats 4000000 in
set_option maxRecDepth 100000 in
theorem c_HS_refuse (l : Launch) (ev : zEv) (dC : Nat → ClassId) (dI : Nat → Nat → Nat) (cA : Nat → ClassId) (q0 q1 q2 q3 q4 q5 q6 q7 q8 q9 q10 q11 q12 : Nat) (u0 u1 u2 : Int) {x1 : Int} {i_latestStatus : Int} {i_refusals : Nat → Int} {out : Int × Int × (Nat → Int)} (hf : f_HS_refuse x1 i_latestStatus i_refusals = some out) : xc_I l ev (dC, dI) vwCl (tyl cA) yX10_refuse w_HS_refuse rm_HS_refuse [.ref q0, .int (Int32.ofInt x1)] (wd_HS_refuse cA q0 q1 q2 q3 q4 q5 q6 q7 q8 q9 q10 q11 q12 u0 u1 u2 i_latestStatus i_refusals) (wf_HS_refuse cA q0 q1 q2 q3 q4 q5 q6 q7 q8 q9 q10 q11 q12 u0 u1 u2 out) out.1 := by
  refine xv_startI (cc := cX10_refuse) (maxL := 2) (rt := .int) (by decide +kernel) rfl (Nat.le_of_ble_eq_true rfl) ?_
  intro p e s m args below meth c A Q H ls hx hb hml hts hown hK hA hP hD hS hl hE hret
  have hown : s.vm.findClass "HillSchool" = some m.cls := hown
  have hz : ∀ w ∈ zall, w.before args s = true := fun w h => hts w (List.mem_cons_of_mem _ h)
  have hl : lv_has ls 2 [(0, .ref q0), (1, .int (Int32.ofInt x1))] := hl
  unfold f_HS_refuse at hf
  refine lv_aload_n hx hb dX10_refuse_0 rfl (lv_at hl 0 rfl) ?_
  refine lv_iload_n hx hb dX10_refuse_1 rfl (lv_at hl 1 rfl) ?_
  refine va_put (D := (dC, dI)) (ci := 10) (v := .int (Int32.ofInt x1)) (ty := .int) (C := RX10) (T := TX10) (N := 16) hx hb hz zi_X10 tyX10 tyX10_ok nmX10 hown hK hP hD hS 0 rfl rfl 8 (by decide) (hz _ zw_485) (fun _ h9 => h9) rfl (by decide +kernel) rfl rfl (Nat.le_of_ble_eq_true rfl) dX10_refuse_2 (fun H locs hP hD hS => ?_)
  have hP : va_P (dC, dI) vwCl (wd_HS_refuse cA q0 q1 q2 q3 q4 q5 q6 q7 q8 q9 q10 q11 q12 u0 u1 u2 x1 i_refusals) H := hP
  have hD : va_D A (wd_HS_refuse cA q0 q1 q2 q3 q4 q5 q6 q7 q8 q9 q10 q11 q12 u0 u1 u2 x1 i_refusals) := hD
  refine lv_aload_n hx hb dX10_refuse_5 rfl (lv_at hl 0 rfl) ?_
  refine va_get (D := (dC, dI)) (ci := 10) (v := .ref q5) (C := RX10) (T := TX10) (N := 16) hx hb hz zi_X10 hown hK hP 0 rfl rfl 7 (by decide) (hz _ zw_484) (fun _ h9 => h9) rfl dX10_refuse_6 ?_
  refine lv_iload_n hx hb dX10_refuse_9 rfl (lv_at hl 1 rfl) ?_
  refine xi_ineg hx hb dX10_refuse_10 hf (fun v1 hf => ?_)
  refine lv_dup2_11 hx hb dX10_refuse_11 rfl rfl ?_
  refine xi_iald hx hb hK hP 1 0 rfl rfl dX10_refuse_12 hf (fun v2 hf => ?_)
  refine lv_iconst (v := Int32.ofInt 1) hx hb dX10_refuse_13 rfl ?_
  refine xi_iadd hx hb dX10_refuse_14 hf (fun v3 hf => ?_)
  refine xi_iast hx hb hK hP hD hS 1 0 rfl rfl dX10_refuse_15 hf (fun a4 H locs hP hD hS hf => ?_)
  have hP : va_P (dC, dI) vwCl (wd_HS_refuse cA q0 q1 q2 q3 q4 q5 q6 q7 q8 q9 q10 q11 q12 u0 u1 u2 x1 a4) H := hP
  have hD : va_D A (wd_HS_refuse cA q0 q1 q2 q3 q4 q5 q6 q7 q8 q9 q10 q11 q12 u0 u1 u2 x1 a4) := hD
  refine lv_iload_n hx hb dX10_refuse_16 rfl (lv_at hl 1 rfl) ?_
  obtain rfl := Option.some.inj hf
  exact hret _ _ _ _ rfl dX10_refuse_17 hP hD hS
theorem dX1_grow_0 : decode cX1_grow 0 = .ok (.aload_n 0, 1) := by decide +kernel
theorem dX1_grow_1 : decode cX1_grow 1 = .ok (.getfield 9, 3) := by decide +kernel
theorem dX1_grow_4 : decode cX1_grow 4 = .ok (.bipush 12, 2) := by decide +kernel
theorem dX1_grow_6 : decode cX1_grow 6 = .ok (.if_icmp .lt 5, 3) := by decide +kernel
theorem dX1_grow_9 : decode cX1_grow 9 = .ok (.iconst 0, 1) := by decide +kernel
theorem dX1_grow_10 : decode cX1_grow 10 = .ok (.ireturn, 1) := by decide +kernel
theorem dX1_grow_11 : decode cX1_grow 11 = .ok (.aload_n 0, 1) := by decide +kernel
theorem dX1_grow_12 : decode cX1_grow 12 = .ok (.getfield 15, 3) := by decide +kernel
theorem dX1_grow_15 : decode cX1_grow 15 = .ok (.aload_n 0, 1) := by decide +kernel
theorem dX1_grow_16 : decode cX1_grow 16 = .ok (.getfield 9, 3) := by decide +kernel
theorem dX1_grow_19 : decode cX1_grow 19 = .ok (.iconst 0, 1) := by decide +kernel
theorem dX1_grow_20 : decode cX1_grow 20 = .ok (.iastore, 1) := by decide +kernel
theorem dX1_grow_21 : decode cX1_grow 21 = .ok (.aload_n 0, 1) := by decide +kernel
theorem dX1_grow_22 : decode cX1_grow 22 = .ok (.dup, 1) := by decide +kernel
theorem dX1_grow_23 : decode cX1_grow 23 = .ok (.getfield 9, 3) := by decide +kernel
theorem dX1_grow_26 : decode cX1_grow 26 = .ok (.iconst 1, 1) := by decide +kernel
theorem dX1_grow_27 : decode cX1_grow 27 = .ok (.iadd, 1) := by decide +kernel
theorem dX1_grow_28 : decode cX1_grow 28 = .ok (.putfield 9, 3) := by decide +kernel
theorem dX1_grow_31 : decode cX1_grow 31 = .ok (.iconst 1, 1) := by decide +kernel
theorem dX1_grow_32 : decode cX1_grow 32 = .ok (.ireturn, 1) := by decide +kernel
theorem zw_143 : (Jvm.Cond.fieldLink "HillSchool$Columns" (9 : Nat) "HillSchool$Columns" "many" "I") ∈ zall := zmemG (zmj_1 40 rfl) rfl
theorem zw_149 : (Jvm.Cond.fieldLink "HillSchool$Columns" (15 : Nat) "HillSchool$Columns" "heights" "[I") ∈ zall := zmemG (zmj_1 46 rfl) rfl
theorem zw_533 : (Jvm.Cond.code ({ cls := "HillSchool$Columns", name := "grow", desc := "()Z" } : Jvm.MethodName) prog_3_method_3_code (1 : Nat) (Option.some Jvm.ClassFile.FieldType.boolean)) ∈ zall := zmemG (zmj_2 190 rfl) rfl
abbrev w_Columns_grow : List Cond := .code yX1_grow cX1_grow 1 (some .boolean) :: zall
abbrev rm_Columns_grow : Room := { frames := 0, cells := 0, slots := 0, locals := 0 }
theorem hd_Columns_grow : yX1_grow.cls = "HillSchool$Columns" ∧ yX1_grow.cls ≠ "java/lang/invoke/MethodHandle" ∧ yX1_grow.cls ≠ "java/lang/invoke/VarHandle" ∧ (parseMethodDescriptor yX1_grow.desc).map (fun d => d.parameters.length) = some 0 := by decide +kernel
def wd_Columns_grow (cA : Nat → ClassId) (q0 q1 q2 : Nat)  (i_many : Int) (i_heights : Nat → Int) : va_W := [(q0, .inr (1, [.int (Int32.ofInt i_many), .ref q1, .ref q2])), (q1, .inl (cA 0, 12, .inl (za i_heights)))]
def wf_Columns_grow (cA : Nat → ClassId) (q0 q1 q2 : Nat)  (o : Int × Int × (Nat → Int)) : va_W := wd_Columns_grow cA q0 q1 q2 o.2.1 o.2.2
def f_Columns_grow (i_many : Int) (i_heights : Nat → Int) : Option (Int × Int × (Nat → Int)) :=
  if zi_w i_many < zi_w 12 then
    zs 12 i_heights i_many 0 fun a1 =>
    zn (i_many + 1) fun v2 =>
    some (1, v2, a1)
  else
    some (0, i_many, i_heights)
set_option maxHeartbeats 4000000 in
set_option maxRecDepth 100000 in
theorem c_Columns_grow (l : Launch) (ev : zEv) (dC : Nat → ClassId) (dI : Nat → Nat → Nat) (cA : Nat → ClassId) (q0 q1 q2 : Nat) {i_many : Int} {i_heights : Nat → Int} {out : Int × Int × (Nat → Int)} (hf : f_Columns_grow i_many i_heights = some out) : xc_I l ev (dC, dI) vwCl (tyl cA) yX1_grow w_Columns_grow rm_Columns_grow [.ref q0] (wd_Columns_grow cA q0 q1 q2 i_many i_heights) (wf_Columns_grow cA q0 q1 q2 out) out.1 := by
  refine xv_startI (cc := cX1_grow) (maxL := 1) (rt := .boolean) (by decide +kernel) rfl (Nat.le_of_ble_eq_true rfl) ?_
  intro p e s m args below meth c A Q H ls hx hb hml hts hown hK hA hP hD hS hl hE hret
  have hown : s.vm.findClass "HillSchool$Columns" = some m.cls := hown
  have hz : ∀ w ∈ zall, w.before args s = true := fun w h => hts w (List.mem_cons_of_mem _ h)
  have hl : lv_has ls 1 [(0, .ref q0)] := hl
  unfold f_Columns_grow at hf
  refine lv_aload_n hx hb dX1_grow_0 rfl (lv_at hl 0 rfl) ?_
  refine va_get (D := (dC, dI)) (ci := 1) (v := .int (Int32.ofInt i_many)) (C := RX1) (T := TX1) (N := 3) hx hb hz zi_X1 hown hK hP 0 rfl rfl 0 (by decide) (hz _ zw_143) (fun _ h9 => h9) rfl dX1_grow_1 ?_
  refine lv_bipush (v := Int32.ofInt 12) hx hb dX1_grow_4 (by decide) ?_
  refine xi_icmp_lt (tgt := 11) hx hb dX1_grow_6 (by decide) hf (fun hf => ?_) (fun hf => ?_)
  · refine lv_aload_n hx hb dX1_grow_11 rfl (lv_at hl 0 rfl) ?_
    refine va_get (D := (dC, dI)) (ci := 1) (v := .ref q1) (C := RX1) (T := TX1) (N := 3) hx hb hz zi_X1 hown hK hP 0 rfl rfl 1 (by decide) (hz _ zw_149) (fun _ h9 => h9) rfl dX1_grow_12 ?_
    refine lv_aload_n hx hb dX1_grow_15 rfl (lv_at hl 0 rfl) ?_
    refine va_get (D := (dC, dI)) (ci := 1) (v := .int (Int32.ofInt i_many)) (C := RX1) (T := TX1) (N := 3) hx hb hz zi_X1 hown hK hP 0 rfl rfl 0 (by decide) (hz _ zw_143) (fun _ h9 => h9) rfl dX1_grow_16 ?_
    refine lv_iconst (v := Int32.ofInt 0) hx hb dX1_grow_19 rfl ?_
    refine xi_iast hx hb hK hP hD hS 1 0 rfl rfl dX1_grow_20 hf (fun a1 H locs hP hD hS hf => ?_)
    have hP : va_P (dC, dI) vwCl (wd_Columns_grow cA q0 q1 q2 i_many a1) H := hP
    have hD : va_D A (wd_Columns_grow cA q0 q1 q2 i_many a1) := hD
    refine lv_aload_n hx hb dX1_grow_21 rfl (lv_at hl 0 rfl) ?_
    refine lv_dup hx hb dX1_grow_22 rfl ?_
    refine va_get (D := (dC, dI)) (ci := 1) (v := .int (Int32.ofInt i_many)) (C := RX1) (T := TX1) (N := 3) hx hb hz zi_X1 hown hK hP 0 rfl rfl 0 (by decide) (hz _ zw_143) (fun _ h9 => h9) rfl dX1_grow_23 ?_
    refine lv_iconst (v := Int32.ofInt 1) hx hb dX1_grow_26 rfl ?_
    refine xi_iadd hx hb dX1_grow_27 hf (fun v2 hf => ?_)
    refine va_put (D := (dC, dI)) (ci := 1) (v := .int (Int32.ofInt v2)) (ty := .int) (C := RX1) (T := TX1) (N := 3) hx hb hz zi_X1 tyX1 tyX1_ok nmX1 hown hK hP hD hS 0 rfl rfl 0 (by decide) (hz _ zw_143) (fun _ h9 => h9) rfl (by decide +kernel) rfl rfl (Nat.le_of_ble_eq_true rfl) dX1_grow_28 (fun H locs hP hD hS => ?_)
    have hP : va_P (dC, dI) vwCl (wd_Columns_grow cA q0 q1 q2 v2 a1) H := hP
    have hD : va_D A (wd_Columns_grow cA q0 q1 q2 v2 a1) := hD
    refine lv_iconst (v := Int32.ofInt 1) hx hb dX1_grow_31 rfl ?_
    obtain rfl := Option.some.inj hf
    exact hret _ _ _ _ zz_b1 dX1_grow_32 hP hD hS
  · refine lv_iconst (v := Int32.ofInt 0) hx hb dX1_grow_9 rfl ?_
    obtain rfl := Option.some.inj hf
    exact hret _ _ _ _ zz_b0 dX1_grow_10 hP hD hS
theorem dX10_column_0 : decode cX10_column 0 = .ok (.aload_n 0, 1) := by decide +kernel
theorem dX10_column_1 : decode cX10_column 1 = .ok (.getfield 10, 3) := by decide +kernel
theorem dX10_column_4 : decode cX10_column 4 = .ok (.getfield 99, 3) := by decide +kernel
theorem dX10_column_7 : decode cX10_column 7 = .ok (.invokevirtual 103, 3) := by decide +kernel
theorem dX10_column_10 : decode cX10_column 10 = .ok (.ifCond .ne 10, 3) := by decide +kernel
theorem dX10_column_13 : decode cX10_column 13 = .ok (.aload_n 0, 1) := by decide +kernel
theorem dX10_column_14 : decode cX10_column 14 = .ok (.bipush (-5), 2) := by decide +kernel
theorem dX10_column_16 : decode cX10_column 16 = .ok (.invokevirtual 109, 3) := by decide +kernel
theorem dX10_column_19 : decode cX10_column 19 = .ok (.ireturn, 1) := by decide +kernel
theorem dX10_column_20 : decode cX10_column 20 = .ok (.aload_n 0, 1) := by decide +kernel
theorem dX10_column_21 : decode cX10_column 21 = .ok (.getfield 10, 3) := by decide +kernel
theorem dX10_column_24 : decode cX10_column 24 = .ok (.getfield 99, 3) := by decide +kernel
theorem dX10_column_27 : decode cX10_column 27 = .ok (.getfield 113, 3) := by decide +kernel
theorem dX10_column_30 : decode cX10_column 30 = .ok (.iconst 1, 1) := by decide +kernel
theorem dX10_column_31 : decode cX10_column 31 = .ok (.isub, 1) := by decide +kernel
theorem dX10_column_32 : decode cX10_column 32 = .ok (.istore_n 1, 1) := by decide +kernel
theorem dX10_column_33 : decode cX10_column 33 = .ok (.aload_n 0, 1) := by decide +kernel
theorem dX10_column_34 : decode cX10_column 34 = .ok (.getfield 10, 3) := by decide +kernel
theorem dX10_column_37 : decode cX10_column 37 = .ok (.getfield 116, 3) := by decide +kernel
theorem dX10_column_40 : decode cX10_column 40 = .ok (.iload_n 1, 1) := by decide +kernel
theorem dX10_column_41 : decode cX10_column 41 = .ok (.iconst (-1), 1) := by decide +kernel
theorem dX10_column_42 : decode cX10_column 42 = .ok (.iastore, 1) := by decide +kernel
theorem dX10_column_43 : decode cX10_column 43 = .ok (.aload_n 0, 1) := by decide +kernel
theorem dX10_column_44 : decode cX10_column 44 = .ok (.iload_n 1, 1) := by decide +kernel
theorem dX10_column_45 : decode cX10_column 45 = .ok (.invokevirtual 119, 3) := by decide +kernel
theorem dX10_column_48 : decode cX10_column 48 = .ok (.ireturn, 1) := by decide +kernel
theorem zw_0 : (Jvm.Cond.selects "HillSchool" ({ cls := "HillSchool", name := "refuse", desc := "(I)I" } : Jvm.MethodName) ({ cls := "HillSchool", name := "refuse", desc := "(I)I" } : Jvm.MethodName)) ∈ zall := zmemG (zmj_0 0 rfl) rfl
theorem zw_1 : (Jvm.Cond.selects "HillSchool" ({ cls := "HillSchool", name := "accept", desc := "(I)I" } : Jvm.MethodName) ({ cls := "HillSchool", name := "accept", desc := "(I)I" } : Jvm.MethodName)) ∈ zall := zmemG (zmj_0 1 rfl) rfl
theorem zw_104 : (Jvm.Cond.initialized "HillSchool") ∈ zall := zmemG (zmj_1 1 rfl) rfl
theorem zw_106 : (Jvm.Cond.initialized "HillSchool$Columns") ∈ zall := zmemG (zmj_1 3 rfl) rfl
theorem zw_146 : (Jvm.Cond.fieldLinkNest "HillSchool" (113 : Nat) "HillSchool$Columns" "many" "I" "HillSchool") ∈ znest := zmemH (zmj_1 43 rfl) rfl
theorem zw_169 : (Jvm.Cond.fieldLinkNest "HillSchool" (99 : Nat) "HillSchool$Hill" "columns" "LHillSchool$Columns;" "HillSchool") ∈ znest := zmemH (zmj_1 66 rfl) rfl
theorem zw_194 : (Jvm.Cond.fieldLinkNest "HillSchool" (116 : Nat) "HillSchool$Hill" "goals" "[I" "HillSchool") ∈ znest := zmemH (zmj_1 91 rfl) rfl
theorem zw_529 : (Jvm.Cond.code ({ cls := "HillSchool", name := "column", desc := "()I" } : Jvm.MethodName) prog_1_method_2_code (2 : Nat) (Option.some Jvm.ClassFile.FieldType.int)) ∈ zall := zmemG (zmj_2 186 rfl) rfl
theorem zw_530 : (Jvm.Cond.methodLink "HillSchool" (103 : Nat) ({ cls := "HillSchool$Columns", name := "grow", desc := "()Z" } : Jvm.MethodName)) ∈ zall := zmemG (zmj_2 187 rfl) rfl
theorem zw_531 : (Jvm.Cond.instanceMethod ({ cls := "HillSchool$Columns", name := "grow", desc := "()Z" } : Jvm.MethodName)) ∈ zall := zmemG (zmj_2 188 rfl) rfl
theorem zw_532 : (Jvm.Cond.selects "HillSchool$Columns" ({ cls := "HillSchool$Columns", name := "grow", desc := "()Z" } : Jvm.MethodName) ({ cls := "HillSchool$Columns", name := "grow", desc := "()Z" } : Jvm.MethodName)) ∈ zall := zmemG (zmj_2 189 rfl) rfl
theorem zw_534 : (Jvm.Cond.methodLink "HillSchool" (109 : Nat) ({ cls := "HillSchool", name := "refuse", desc := "(I)I" } : Jvm.MethodName)) ∈ zall := zmemG (zmj_2 191 rfl) rfl
theorem zw_536 : (Jvm.Cond.instanceMethod ({ cls := "HillSchool", name := "refuse", desc := "(I)I" } : Jvm.MethodName)) ∈ zall := zmemG (zmj_2 193 rfl) rfl
theorem zw_538 : (Jvm.Cond.methodLink "HillSchool" (119 : Nat) ({ cls := "HillSchool", name := "accept", desc := "(I)I" } : Jvm.MethodName)) ∈ zall := zmemG (zmj_2 195 rfl) rfl
theorem zw_540 : (Jvm.Cond.instanceMethod ({ cls := "HillSchool", name := "accept", desc := "(I)I" } : Jvm.MethodName)) ∈ zall := zmemG (zmj_2 197 rfl) rfl
abbrev w_HS_column : List Cond := .code yX10_column cX10_column 2 (some .int) :: zall
abbrev rm_HS_column : Room := { frames := 1, cells := 0, slots := 0, locals := 21 }
theorem hd_HS_column : yX10_column.cls = "HillSchool" ∧ yX10_column.cls ≠ "java/lang/invoke/MethodHandle" ∧ yX10_column.cls ≠ "java/lang/invoke/VarHandle" ∧ (parseMethodDescriptor yX10_column.desc).map (fun d => d.parameters.length) = some 0 := by decide +kernel
def wd_HS_column (cA : Nat → ClassId) (q0 q1 q2 q3 q4 q5 q6 q7 q8 q9 q10 q11 q12 q13 q14 q15 q16 q17 q18 q19 q20 q21 q22 q23 : Nat) (u0 u1 u2 u3 u4 u5 u6 : Int)  (i_latestStatus : Int) (i_hill_changes : Int) (i_refusals : Nat → Int) (i_hill_columns_many : Int) (i_hill_goals : Nat → Int) (i_hill_columns_heights : Nat → Int) : va_W := [(q0, .inr (10, [.ref q1, .ref q2, .ref q3, .ref q4, .int (Int32.ofInt u0), .int (Int32.ofInt u1), .int (Int32.ofInt u2), .ref q5, .int (Int32.ofInt i_latestStatus), .ref q6, .ref q7, .ref q8, .ref q9, .ref q10, .ref q11, .ref q12])), (q1, .inr (2, [.ref q13, .int (Int32.ofInt u3), .ref q14, .ref q15, .ref q16, .int (Int32.ofInt u4), .ref q17, .ref q18, .ref q19, .int (Int32.ofInt u5), .ref q20, .ref q21, .int (Int32.ofInt u6), .int (Int32.ofInt i_hill_changes)])), (q5, .inl (cA 0, 7, .inl (za i_refusals))), (q13, .inr (1, [.int (Int32.ofInt i_hill_columns_many), .ref q22, .ref q23])), (q19, .inl (cA 0, 12, .inl (za i_hill_goals))), (q22, .inl (cA 0, 12, .inl (za i_hill_columns_heights)))]
def wf_HS_column (cA : Nat → ClassId) (q0 q1 q2 q3 q4 q5 q6 q7 q8 q9 q10 q11 q12 q13 q14 q15 q16 q17 q18 q19 q20 q21 q22 q23 : Nat) (u0 u1 u2 u3 u4 u5 u6 : Int)  (o : Int × Int × Int × (Nat → Int) × Int × (Nat → Int) × (Nat → Int)) : va_W := wd_HS_column cA q0 q1 q2 q3 q4 q5 q6 q7 q8 q9 q10 q11 q12 q13 q14 q15 q16 q17 q18 q19 q20 q21 q22 q23 u0 u1 u2 u3 u4 u5 u6 o.2.1 o.2.2.1 o.2.2.2.1 o.2.2.2.2.1 o.2.2.2.2.2.1 o.2.2.2.2.2.2
def f_HS_column (i_latestStatus : Int) (i_hill_changes : Int) (i_refusals : Nat → Int) (i_hill_columns_many : Int) (i_hill_goals : Nat → Int) (i_hill_columns_heights : Nat → Int) : Option (Int × Int × Int × (Nat → Int) × Int × (Nat → Int) × (Nat → Int)) :=
  zd3 (f_Columns_grow i_hill_columns_many i_hill_columns_heights) fun v1 v2 a3 =>
  if zi_w v1 ≠ 0 then
    zn (v2 - 1) fun v4 =>
    zs 12 i_hill_goals v4 (-1) fun a5 =>
    zd3 (f_HS_accept v4 i_latestStatus i_hill_changes) fun v6 v7 v8 =>
    some (v6, v7, v8, i_refusals, v2, a5, a3)
  else
    zd3 (f_HS_refuse (-5) i_latestStatus i_refusals) fun v9 v10 a11 =>
    some (v9, v10, i_hill_changes, a11, v2, i_hill_goals, a3)
set_option maxHeartbeats 4000000 in
set_option maxRecDepth 100000 in
theorem c_HS_column (l : Launch) (ev : zEv) (dC : Nat → ClassId) (dI : Nat → Nat → Nat) (cA : Nat → ClassId) (q0 q1 q2 q3 q4 q5 q6 q7 q8 q9 q10 q11 q12 q13 q14 q15 q16 q17 q18 q19 q20 q21 q22 q23 : Nat) (u0 u1 u2 u3 u4 u5 u6 : Int) {i_latestStatus : Int} {i_hill_changes : Int} {i_refusals : Nat → Int} {i_hill_columns_many : Int} {i_hill_goals : Nat → Int} {i_hill_columns_heights : Nat → Int} {out : Int × Int × Int × (Nat → Int) × Int × (Nat → Int) × (Nat → Int)} (hf : f_HS_column i_latestStatus i_hill_changes i_refusals i_hill_columns_many i_hill_goals i_hill_columns_heights = some out) : xc_I l ev (dC, dI) vwCl (tyl cA) yX10_column w_HS_column rm_HS_column [.ref q0] (wd_HS_column cA q0 q1 q2 q3 q4 q5 q6 q7 q8 q9 q10 q11 q12 q13 q14 q15 q16 q17 q18 q19 q20 q21 q22 q23 u0 u1 u2 u3 u4 u5 u6 i_latestStatus i_hill_changes i_refusals i_hill_columns_many i_hill_goals i_hill_columns_heights) (wf_HS_column cA q0 q1 q2 q3 q4 q5 q6 q7 q8 q9 q10 q11 q12 q13 q14 q15 q16 q17 q18 q19 q20 q21 q22 q23 u0 u1 u2 u3 u4 u5 u6 out) out.1 := by
  refine xv_startI (cc := cX10_column) (maxL := 2) (rt := .int) (by decide +kernel) rfl (Nat.le_of_ble_eq_true rfl) ?_
  intro p e s m args below meth c A Q H ls hx hb hml hts hown hK hA hP hD hS hl hE hret
  have hown : s.vm.findClass "HillSchool" = some m.cls := hown
  have hz : ∀ w ∈ zall, w.before args s = true := fun w h => hts w (List.mem_cons_of_mem _ h)
  have hl : lv_has ls 2 [(0, .ref q0)] := hl
  unfold f_HS_column at hf
  refine lv_aload_n hx hb dX10_column_0 rfl (lv_at hl 0 rfl) ?_
  refine va_get (D := (dC, dI)) (ci := 10) (v := .ref q1) (C := RX10) (T := TX10) (N := 16) hx hb hz zi_X10 hown hK hP 0 rfl rfl 0 (by decide) (hz _ zw_477) (fun _ h9 => h9) rfl dX10_column_1 ?_
  refine va_getN (D := (dC, dI)) (ci := 2) (v := .ref q13) (C := RX2) (T := TX2) (N := 14) hx hb hz zi_X2 hown hK hP 1 rfl rfl 0 (by decide) (va_Nw.use rfl (hE.1.1 _ zw_169)) (fun _ h9 => h9) rfl dX10_column_4 ?_
  refine xe_d3 hf (fun v1 v2 a3 hg hf => ?_)
  have hC : ([3, 5] : List Nat).map (fun i => (wd_HS_column cA q0 q1 q2 q3 q4 q5 q6 q7 q8 q9 q10 q11 q12 q13 q14 q15 q16 q17 q18 q19 q20 q21 q22 q23 u0 u1 u2 u3 u4 u5 u6 i_latestStatus i_hill_changes i_refusals i_hill_columns_many i_hill_goals i_hill_columns_heights)[i]?) = (wd_Columns_grow cA q13 q22 q23 i_hill_columns_many i_hill_columns_heights).map some := rfl
  refine xv_afterI (ws' := (wd_HS_column cA q0 q1 q2 q3 q4 q5 q6 q7 q8 q9 q10 q11 q12 q13 q14 q15 q16 q17 q18 q19 q20 q21 q22 q23 u0 u1 u2 u3 u4 u5 u6 i_latestStatus i_hill_changes i_refusals v2 i_hill_goals a3)) (isC := [3, 5]) (ps := [none, none, none, some 0, none, some 1]) (va_runV (As := []) (rest := []) ⟨hx, hb, hml, hown, hts⟩ (c_Columns_grow l ev dC dI cA q13 q22 q23 hg H.size) (cwV 0 hts (zgV zw_530 zw_531 zw_532 zw_106 zw_533) rfl rfl rfl hd_Columns_grow ⟨Nat.le_of_ble_eq_true rfl, Nat.le_of_ble_eq_true rfl⟩) (xv_preV (T := TX1) (N := 3) hE hA hS hK hP hD (isC := [3, 5]) (by decide +kernel) hC (q0 := 3) (ci := 1) rfl rfl) rfl rfl hl.1 rfl (lv_room (Nat.le_of_ble_eq_true rfl)) dX10_column_7 ⟨Nat.le_refl _, Nat.le_refl _⟩) hP hD hS hA (by decide +kernel) rfl hC rfl rfl (fun H locs hP hD hS => ?_)
  refine xi_if_ne (tgt := 20) hx hb dX10_column_10 (by decide) hf (fun hf => ?_) (fun hf => ?_)
  · refine lv_aload_n hx hb dX10_column_20 rfl (lv_at hl 0 rfl) ?_
    refine va_get (D := (dC, dI)) (ci := 10) (v := .ref q1) (C := RX10) (T := TX10) (N := 16) hx hb hz zi_X10 hown hK hP 0 rfl rfl 0 (by decide) (hz _ zw_477) (fun _ h9 => h9) rfl dX10_column_21 ?_
    refine va_getN (D := (dC, dI)) (ci := 2) (v := .ref q13) (C := RX2) (T := TX2) (N := 14) hx hb hz zi_X2 hown hK hP 1 rfl rfl 0 (by decide) (va_Nw.use rfl (hE.1.1 _ zw_169)) (fun _ h9 => h9) rfl dX10_column_24 ?_
    refine va_getN (D := (dC, dI)) (ci := 1) (v := .int (Int32.ofInt v2)) (C := RX1) (T := TX1) (N := 3) hx hb hz zi_X1 hown hK hP 3 rfl rfl 0 (by decide) (va_Nw.use rfl (hE.1.1 _ zw_146)) (fun _ h9 => h9) rfl dX10_column_27 ?_
    refine lv_iconst (v := Int32.ofInt 1) hx hb dX10_column_30 rfl ?_
    refine xi_isub hx hb dX10_column_31 hf (fun v4 hf => ?_)
    refine lv_istore_n (lv' := [(1, .int (Int32.ofInt v4)), (0, .ref q0)]) hx hb dX10_column_32 rfl hl (by decide) rfl (fun ls hl => ?_)
    refine lv_aload_n hx hb dX10_column_33 rfl (lv_at hl 1 rfl) ?_
    refine va_get (D := (dC, dI)) (ci := 10) (v := .ref q1) (C := RX10) (T := TX10) (N := 16) hx hb hz zi_X10 hown hK hP 0 rfl rfl 0 (by decide) (hz _ zw_477) (fun _ h9 => h9) rfl dX10_column_34 ?_
    refine va_getN (D := (dC, dI)) (ci := 2) (v := .ref q19) (C := RX2) (T := TX2) (N := 14) hx hb hz zi_X2 hown hK hP 1 rfl rfl 8 (by decide) (va_Nw.use rfl (hE.1.1 _ zw_194)) (fun _ h9 => h9) rfl dX10_column_37 ?_
    refine lv_iload_n hx hb dX10_column_40 rfl (lv_at hl 0 rfl) ?_
    refine lv_iconst (v := Int32.ofInt (-1)) hx hb dX10_column_41 rfl ?_
    refine xi_iast hx hb hK hP hD hS 4 0 rfl rfl dX10_column_42 hf (fun a5 H locs hP hD hS hf => ?_)
    have hP : va_P (dC, dI) vwCl (wd_HS_column cA q0 q1 q2 q3 q4 q5 q6 q7 q8 q9 q10 q11 q12 q13 q14 q15 q16 q17 q18 q19 q20 q21 q22 q23 u0 u1 u2 u3 u4 u5 u6 i_latestStatus i_hill_changes i_refusals v2 a5 a3) H := hP
    have hD : va_D A (wd_HS_column cA q0 q1 q2 q3 q4 q5 q6 q7 q8 q9 q10 q11 q12 q13 q14 q15 q16 q17 q18 q19 q20 q21 q22 q23 u0 u1 u2 u3 u4 u5 u6 i_latestStatus i_hill_changes i_refusals v2 a5 a3) := hD
    refine lv_aload_n hx hb dX10_column_43 rfl (lv_at hl 1 rfl) ?_
    refine lv_iload_n hx hb dX10_column_44 rfl (lv_at hl 0 rfl) ?_
    refine xe_d3 hf (fun v6 v7 v8 hg hf => ?_)
    have hC : ([0, 1] : List Nat).map (fun i => (wd_HS_column cA q0 q1 q2 q3 q4 q5 q6 q7 q8 q9 q10 q11 q12 q13 q14 q15 q16 q17 q18 q19 q20 q21 q22 q23 u0 u1 u2 u3 u4 u5 u6 i_latestStatus i_hill_changes i_refusals v2 a5 a3)[i]?) = (wd_HS_accept cA q0 q1 q2 q3 q4 q5 q6 q7 q8 q9 q10 q11 q12 q13 q14 q15 q16 q17 q18 q19 q20 q21 u0 u1 u2 u3 u4 u5 u6 i_latestStatus i_hill_changes).map some := rfl
    refine xv_afterI (ws' := (wd_HS_column cA q0 q1 q2 q3 q4 q5 q6 q7 q8 q9 q10 q11 q12 q13 q14 q15 q16 q17 q18 q19 q20 q21 q22 q23 u0 u1 u2 u3 u4 u5 u6 v7 v8 i_refusals v2 a5 a3)) (isC := [0, 1]) (ps := [some 0, some 1, none, none, none, none]) (va_runV (As := [.int (Int32.ofInt v4)]) (rest := []) ⟨hx, hb, hml, hown, hts⟩ (c_HS_accept l ev dC dI cA q0 q1 q2 q3 q4 q5 q6 q7 q8 q9 q10 q11 q12 q13 q14 q15 q16 q17 q18 q19 q20 q21 u0 u1 u2 u3 u4 u5 u6 hg H.size) (cwV 1 hts (zgV zw_538 zw_540 zw_1 zw_104 zw_541) rfl rfl rfl hd_HS_accept ⟨Nat.le_of_ble_eq_true rfl, Nat.le_of_ble_eq_true rfl⟩) (xv_preV (T := TX10) (N := 16) hE hA hS hK hP hD (isC := [0, 1]) (by decide +kernel) hC (q0 := 0) (ci := 10) rfl rfl) rfl rfl hl.1 rfl (lv_room (Nat.le_of_ble_eq_true rfl)) dX10_column_45 ⟨Nat.le_refl _, Nat.le_refl _⟩) hP hD hS hA (by decide +kernel) rfl hC rfl rfl (fun H locs hP hD hS => ?_)
    obtain rfl := Option.some.inj hf
    exact hret _ _ _ _ rfl dX10_column_48 hP hD hS
  · refine lv_aload_n hx hb dX10_column_13 rfl (lv_at hl 0 rfl) ?_
    refine lv_bipush (v := Int32.ofInt (-5)) hx hb dX10_column_14 (by decide) ?_
    refine xe_d3 hf (fun v9 v10 a11 hg hf => ?_)
    have hC : ([0, 2] : List Nat).map (fun i => (wd_HS_column cA q0 q1 q2 q3 q4 q5 q6 q7 q8 q9 q10 q11 q12 q13 q14 q15 q16 q17 q18 q19 q20 q21 q22 q23 u0 u1 u2 u3 u4 u5 u6 i_latestStatus i_hill_changes i_refusals v2 i_hill_goals a3)[i]?) = (wd_HS_refuse cA q0 q1 q2 q3 q4 q5 q6 q7 q8 q9 q10 q11 q12 u0 u1 u2 i_latestStatus i_refusals).map some := rfl
    refine xv_afterI (ws' := (wd_HS_column cA q0 q1 q2 q3 q4 q5 q6 q7 q8 q9 q10 q11 q12 q13 q14 q15 q16 q17 q18 q19 q20 q21 q22 q23 u0 u1 u2 u3 u4 u5 u6 v10 i_hill_changes a11 v2 i_hill_goals a3)) (isC := [0, 2]) (ps := [some 0, none, some 1, none, none, none]) (va_runV (As := [.int (Int32.ofInt (-5))]) (rest := []) ⟨hx, hb, hml, hown, hts⟩ (c_HS_refuse l ev dC dI cA q0 q1 q2 q3 q4 q5 q6 q7 q8 q9 q10 q11 q12 u0 u1 u2 hg H.size) (cwV 1 hts (zgV zw_534 zw_536 zw_0 zw_104 zw_537) rfl rfl rfl hd_HS_refuse ⟨Nat.le_of_ble_eq_true rfl, Nat.le_of_ble_eq_true rfl⟩) (xv_preV (T := TX10) (N := 16) hE hA hS hK hP hD (isC := [0, 2]) (by decide +kernel) hC (q0 := 0) (ci := 10) rfl rfl) rfl rfl hl.1 rfl (lv_room (Nat.le_of_ble_eq_true rfl)) dX10_column_16 ⟨Nat.le_refl _, Nat.le_refl _⟩) hP hD hS hA (by decide +kernel) rfl hC rfl rfl (fun H locs hP hD hS => ?_)
    obtain rfl := Option.some.inj hf
    exact hret _ _ _ _ rfl dX10_column_19 hP hD hS
theorem dX1_has_0 : decode cX1_has 0 = .ok (.iload_n 1, 1) := by decide +kernel
theorem dX1_has_1 : decode cX1_has 1 = .ok (.ifCond .lt 15, 3) := by decide +kernel
theorem dX1_has_4 : decode cX1_has 4 = .ok (.iload_n 1, 1) := by decide +kernel
theorem dX1_has_5 : decode cX1_has 5 = .ok (.aload_n 0, 1) := by decide +kernel
theorem dX1_has_6 : decode cX1_has 6 = .ok (.getfield 9, 3) := by decide +kernel
theorem dX1_has_9 : decode cX1_has 9 = .ok (.if_icmp .ge 7, 3) := by decide +kernel
theorem dX1_has_12 : decode cX1_has 12 = .ok (.iconst 1, 1) := by decide +kernel
theorem dX1_has_13 : decode cX1_has 13 = .ok (.goto 4, 3) := by decide +kernel
theorem dX1_has_16 : decode cX1_has 16 = .ok (.iconst 0, 1) := by decide +kernel
theorem dX1_has_17 : decode cX1_has 17 = .ok (.ireturn, 1) := by decide +kernel
theorem zw_549 : (Jvm.Cond.code ({ cls := "HillSchool$Columns", name := "has", desc := "(I)Z" } : Jvm.MethodName) prog_3_method_2_code (2 : Nat) (Option.some Jvm.ClassFile.FieldType.boolean)) ∈ zall := zmemG (zmj_2 206 rfl) rfl
abbrev w_Columns_has : List Cond := .code yX1_has cX1_has 2 (some .boolean) :: zall
abbrev rm_Columns_has : Room := { frames := 0, cells := 0, slots := 0, locals := 0 }
theorem hd_Columns_has : yX1_has.cls = "HillSchool$Columns" ∧ yX1_has.cls ≠ "java/lang/invoke/MethodHandle" ∧ yX1_has.cls ≠ "java/lang/invoke/VarHandle" ∧ (parseMethodDescriptor yX1_has.desc).map (fun d => d.parameters.length) = some 1 := by decide +kernel
def wd_Columns_has (cA : Nat → ClassId) (q0 q1 q2 : Nat) (i_many : Int)  : va_W := [(q0, .inr (1, [.int (Int32.ofInt i_many), .ref q1, .ref q2]))]
def wf_Columns_has (cA : Nat → ClassId) (q0 q1 q2 : Nat) (i_many : Int) (o : Int) : va_W := wd_Columns_has cA q0 q1 q2 i_many
def f_Columns_has (x1 : Int) (i_many : Int) : Option (Int) :=
  if zi_w x1 < 0 then
    some 0
  else
    if zi_w i_many ≤ zi_w x1 then
      some 0
    else
      some 1
set_option maxHeartbeats 4000000 in
set_option maxRecDepth 100000 in
theorem c_Columns_has (l : Launch) (ev : zEv) (dC : Nat → ClassId) (dI : Nat → Nat → Nat) (cA : Nat → ClassId) (q0 q1 q2 : Nat) {x1 : Int} {i_many : Int} {out : Int} (hf : f_Columns_has x1 i_many = some out) : xc_I l ev (dC, dI) vwCl (tyl cA) yX1_has w_Columns_has rm_Columns_has [.ref q0, .int (Int32.ofInt x1)] (wd_Columns_has cA q0 q1 q2 i_many) (wf_Columns_has cA q0 q1 q2 i_many out) out := by
  refine xv_startI (cc := cX1_has) (maxL := 2) (rt := .boolean) (by decide +kernel) rfl (Nat.le_of_ble_eq_true rfl) ?_
  intro p e s m args below meth c A Q H ls hx hb hml hts hown hK hA hP hD hS hl hE hret
  have hown : s.vm.findClass "HillSchool$Columns" = some m.cls := hown
  have hz : ∀ w ∈ zall, w.before args s = true := fun w h => hts w (List.mem_cons_of_mem _ h)
  have hl : lv_has ls 2 [(0, .ref q0), (1, .int (Int32.ofInt x1))] := hl
  unfold f_Columns_has at hf
  refine lv_iload_n hx hb dX1_has_0 rfl (lv_at hl 1 rfl) ?_
  refine xi_if_lt (tgt := 16) hx hb dX1_has_1 (by decide) hf (fun hf => ?_) (fun hf => ?_)
  · refine lv_iconst (v := Int32.ofInt 0) hx hb dX1_has_16 rfl ?_
    obtain rfl := Option.some.inj hf
    exact hret _ _ _ _ zz_b0 dX1_has_17 hP hD hS
  · refine lv_iload_n hx hb dX1_has_4 rfl (lv_at hl 1 rfl) ?_
    refine lv_aload_n hx hb dX1_has_5 rfl (lv_at hl 0 rfl) ?_
    refine va_get (D := (dC, dI)) (ci := 1) (v := .int (Int32.ofInt i_many)) (C := RX1) (T := TX1) (N := 3) hx hb hz zi_X1 hown hK hP 0 rfl rfl 0 (by decide) (hz _ zw_143) (fun _ h9 => h9) rfl dX1_has_6 ?_
    refine xi_icmp_ge (tgt := 16) hx hb dX1_has_9 (by decide) hf (fun hf => ?_) (fun hf => ?_)
    · refine lv_iconst (v := Int32.ofInt 0) hx hb dX1_has_16 rfl ?_
      obtain rfl := Option.some.inj hf
      exact hret _ _ _ _ zz_b0 dX1_has_17 hP hD hS
    · refine lv_iconst (v := Int32.ofInt 1) hx hb dX1_has_12 rfl ?_
      refine lv_goto (tgt := 17) hx hb dX1_has_13 (by decide) ?_
      obtain rfl := Option.some.inj hf
      exact hret _ _ _ _ zz_b1 dX1_has_17 hP hD hS
theorem dX1_put_0 : decode cX1_put 0 = .ok (.aload_n 0, 1) := by decide +kernel
theorem dX1_put_1 : decode cX1_put 1 = .ok (.iload_n 1, 1) := by decide +kernel
theorem dX1_put_2 : decode cX1_put 2 = .ok (.invokevirtual 22, 3) := by decide +kernel
theorem dX1_put_5 : decode cX1_put 5 = .ok (.ifCond .eq 14, 3) := by decide +kernel
theorem dX1_put_8 : decode cX1_put 8 = .ok (.aload_n 0, 1) := by decide +kernel
theorem dX1_put_9 : decode cX1_put 9 = .ok (.getfield 15, 3) := by decide +kernel
theorem dX1_put_12 : decode cX1_put 12 = .ok (.iload_n 1, 1) := by decide +kernel
theorem dX1_put_13 : decode cX1_put 13 = .ok (.iaload, 1) := by decide +kernel
theorem dX1_put_14 : decode cX1_put 14 = .ok (.bipush 10, 2) := by decide +kernel
theorem dX1_put_16 : decode cX1_put 16 = .ok (.if_icmp .lt 5, 3) := by decide +kernel
theorem dX1_put_19 : decode cX1_put 19 = .ok (.iconst 0, 1) := by decide +kernel
theorem dX1_put_20 : decode cX1_put 20 = .ok (.ireturn, 1) := by decide +kernel
theorem dX1_put_21 : decode cX1_put 21 = .ok (.aload_n 0, 1) := by decide +kernel
theorem dX1_put_22 : decode cX1_put 22 = .ok (.getfield 19, 3) := by decide +kernel
theorem dX1_put_25 : decode cX1_put 25 = .ok (.iload_n 1, 1) := by decide +kernel
theorem dX1_put_26 : decode cX1_put 26 = .ok (.bipush 10, 2) := by decide +kernel
theorem dX1_put_28 : decode cX1_put 28 = .ok (.imul, 1) := by decide +kernel
theorem dX1_put_29 : decode cX1_put 29 = .ok (.aload_n 0, 1) := by decide +kernel
theorem dX1_put_30 : decode cX1_put 30 = .ok (.getfield 15, 3) := by decide +kernel
theorem dX1_put_33 : decode cX1_put 33 = .ok (.iload_n 1, 1) := by decide +kernel
theorem dX1_put_34 : decode cX1_put 34 = .ok (.iaload, 1) := by decide +kernel
theorem dX1_put_35 : decode cX1_put 35 = .ok (.iadd, 1) := by decide +kernel
theorem dX1_put_36 : decode cX1_put 36 = .ok (.iload_n 2, 1) := by decide +kernel
theorem dX1_put_37 : decode cX1_put 37 = .ok (.iastore, 1) := by decide +kernel
theorem dX1_put_38 : decode cX1_put 38 = .ok (.aload_n 0, 1) := by decide +kernel
theorem dX1_put_39 : decode cX1_put 39 = .ok (.getfield 15, 3) := by decide +kernel
theorem dX1_put_42 : decode cX1_put 42 = .ok (.iload_n 1, 1) := by decide +kernel
theorem dX1_put_43 : decode cX1_put 43 = .ok (.dup2, 1) := by decide +kernel
theorem dX1_put_44 : decode cX1_put 44 = .ok (.iaload, 1) := by decide +kernel
theorem dX1_put_45 : decode cX1_put 45 = .ok (.iconst 1, 1) := by decide +kernel
theorem dX1_put_46 : decode cX1_put 46 = .ok (.iadd, 1) := by decide +kernel
theorem dX1_put_47 : decode cX1_put 47 = .ok (.iastore, 1) := by decide +kernel
theorem dX1_put_48 : decode cX1_put 48 = .ok (.iconst 1, 1) := by decide +kernel
theorem dX1_put_49 : decode cX1_put 49 = .ok (.ireturn, 1) := by decide +kernel
theorem zw_150 : (Jvm.Cond.fieldLink "HillSchool$Columns" (19 : Nat) "HillSchool$Columns" "weights" "[I") ∈ zall := zmemG (zmj_1 47 rfl) rfl
theorem zw_547 : (Jvm.Cond.instanceMethod ({ cls := "HillSchool$Columns", name := "has", desc := "(I)Z" } : Jvm.MethodName)) ∈ zall := zmemG (zmj_2 204 rfl) rfl
theorem zw_548 : (Jvm.Cond.selects "HillSchool$Columns" ({ cls := "HillSchool$Columns", name := "has", desc := "(I)Z" } : Jvm.MethodName) ({ cls := "HillSchool$Columns", name := "has", desc := "(I)Z" } : Jvm.MethodName)) ∈ zall := zmemG (zmj_2 205 rfl) rfl
theorem zw_553 : (Jvm.Cond.code ({ cls := "HillSchool$Columns", name := "put", desc := "(II)Z" } : Jvm.MethodName) prog_3_method_9_code (3 : Nat) (Option.some Jvm.ClassFile.FieldType.boolean)) ∈ zall := zmemG (zmj_2 210 rfl) rfl
theorem zw_554 : (Jvm.Cond.methodLink "HillSchool$Columns" (22 : Nat) ({ cls := "HillSchool$Columns", name := "has", desc := "(I)Z" } : Jvm.MethodName)) ∈ zall := zmemG (zmj_2 211 rfl) rfl
abbrev w_Columns_put : List Cond := .code yX1_put cX1_put 3 (some .boolean) :: zall
abbrev rm_Columns_put : Room := { frames := 1, cells := 0, slots := 0, locals := 21 }
theorem hd_Columns_put : yX1_put.cls = "HillSchool$Columns" ∧ yX1_put.cls ≠ "java/lang/invoke/MethodHandle" ∧ yX1_put.cls ≠ "java/lang/invoke/VarHandle" ∧ (parseMethodDescriptor yX1_put.desc).map (fun d => d.parameters.length) = some 2 := by decide +kernel
def wd_Columns_put (cA : Nat → ClassId) (q0 q1 q2 : Nat) (i_many : Int) (i_heights : Nat → Int) (i_weights : Nat → Int) : va_W := [(q0, .inr (1, [.int (Int32.ofInt i_many), .ref q1, .ref q2])), (q1, .inl (cA 0, 12, .inl (za i_heights))), (q2, .inl (cA 0, 120, .inl (za i_weights)))]
def wf_Columns_put (cA : Nat → ClassId) (q0 q1 q2 : Nat) (i_many : Int) (o : Int × (Nat → Int) × (Nat → Int)) : va_W := wd_Columns_put cA q0 q1 q2 i_many o.2.1 o.2.2
def f_Columns_put (x1 : Int) (x2 : Int) (i_many : Int) (i_heights : Nat → Int) (i_weights : Nat → Int) : Option (Int × (Nat → Int) × (Nat → Int)) :=
  zd1 (f_Columns_has x1 i_many) fun v1 =>
  if zi_w v1 = 0 then
    some (0, i_heights, i_weights)
  else
    zg 12 i_heights x1 fun v2 =>
    if zi_w v2 < zi_w 10 then
      zn (x1 * 10) fun v3 =>
      zg 12 i_heights x1 fun v4 =>
      zn (v3 + v4) fun v5 =>
      zs 120 i_weights v5 x2 fun a6 =>
      zg 12 i_heights x1 fun v7 =>
      zn (v7 + 1) fun v8 =>
      zs 12 i_heights x1 v8 fun a9 =>
      some (1, a9, a6)
    else
      some (0, i_heights, i_weights)
set_option maxHeartbeats 4000000 in
set_option maxRecDepth 100000 in
theorem c_Columns_put (l : Launch) (ev : zEv) (dC : Nat → ClassId) (dI : Nat → Nat → Nat) (cA : Nat → ClassId) (q0 q1 q2 : Nat) {x1 x2 : Int} {i_many : Int} {i_heights : Nat → Int} {i_weights : Nat → Int} {out : Int × (Nat → Int) × (Nat → Int)} (hf : f_Columns_put x1 x2 i_many i_heights i_weights = some out) : xc_I l ev (dC, dI) vwCl (tyl cA) yX1_put w_Columns_put rm_Columns_put [.ref q0, .int (Int32.ofInt x1), .int (Int32.ofInt x2)] (wd_Columns_put cA q0 q1 q2 i_many i_heights i_weights) (wf_Columns_put cA q0 q1 q2 i_many out) out.1 := by
  refine xv_startI (cc := cX1_put) (maxL := 3) (rt := .boolean) (by decide +kernel) rfl (Nat.le_of_ble_eq_true rfl) ?_
  intro p e s m args below meth c A Q H ls hx hb hml hts hown hK hA hP hD hS hl hE hret
  have hown : s.vm.findClass "HillSchool$Columns" = some m.cls := hown
  have hz : ∀ w ∈ zall, w.before args s = true := fun w h => hts w (List.mem_cons_of_mem _ h)
  have hl : lv_has ls 3 [(0, .ref q0), (1, .int (Int32.ofInt x1)), (2, .int (Int32.ofInt x2))] := hl
  unfold f_Columns_put at hf
  refine lv_aload_n hx hb dX1_put_0 rfl (lv_at hl 0 rfl) ?_
  refine lv_iload_n hx hb dX1_put_1 rfl (lv_at hl 1 rfl) ?_
  refine xe_d1 hf (fun v1 hg hf => ?_)
  have hC : ([0] : List Nat).map (fun i => (wd_Columns_put cA q0 q1 q2 i_many i_heights i_weights)[i]?) = (wd_Columns_has cA q0 q1 q2 i_many).map some := rfl
  refine xv_afterI (ws' := (wd_Columns_put cA q0 q1 q2 i_many i_heights i_weights)) (isC := [0]) (ps := [some 0, none, none]) (va_runV (As := [.int (Int32.ofInt x1)]) (rest := []) ⟨hx, hb, hml, hown, hts⟩ (c_Columns_has l ev dC dI cA q0 q1 q2 hg H.size) (cwV 1 hts (zgV zw_554 zw_547 zw_548 zw_106 zw_549) rfl rfl rfl hd_Columns_has ⟨Nat.le_of_ble_eq_true rfl, Nat.le_of_ble_eq_true rfl⟩) (xv_preV (T := TX1) (N := 3) hE hA hS hK hP hD (isC := [0]) (by decide +kernel) hC (q0 := 0) (ci := 1) rfl rfl) rfl rfl hl.1 rfl (lv_room (Nat.le_of_ble_eq_true rfl)) dX1_put_2 ⟨Nat.le_refl _, Nat.le_refl _⟩) hP hD hS hA (by decide +kernel) rfl hC rfl rfl (fun H locs hP hD hS => ?_)
  refine xi_if_eq (tgt := 19) hx hb dX1_put_5 (by decide) hf (fun hf => ?_) (fun hf => ?_)
  · refine lv_iconst (v := Int32.ofInt 0) hx hb dX1_put_19 rfl ?_
    obtain rfl := Option.some.inj hf
    exact hret _ _ _ _ zz_b0 dX1_put_20 hP hD hS
  · refine lv_aload_n hx hb dX1_put_8 rfl (lv_at hl 0 rfl) ?_
    refine va_get (D := (dC, dI)) (ci := 1) (v := .ref q1) (C := RX1) (T := TX1) (N := 3) hx hb hz zi_X1 hown hK hP 0 rfl rfl 1 (by decide) (hz _ zw_149) (fun _ h9 => h9) rfl dX1_put_9 ?_
    refine lv_iload_n hx hb dX1_put_12 rfl (lv_at hl 1 rfl) ?_
    refine xi_iald hx hb hK hP 1 0 rfl rfl dX1_put_13 hf (fun v2 hf => ?_)
    refine lv_bipush (v := Int32.ofInt 10) hx hb dX1_put_14 (by decide) ?_
    refine xi_icmp_lt (tgt := 21) hx hb dX1_put_16 (by decide) hf (fun hf => ?_) (fun hf => ?_)
    · refine lv_aload_n hx hb dX1_put_21 rfl (lv_at hl 0 rfl) ?_
      refine va_get (D := (dC, dI)) (ci := 1) (v := .ref q2) (C := RX1) (T := TX1) (N := 3) hx hb hz zi_X1 hown hK hP 0 rfl rfl 2 (by decide) (hz _ zw_150) (fun _ h9 => h9) rfl dX1_put_22 ?_
      refine lv_iload_n hx hb dX1_put_25 rfl (lv_at hl 1 rfl) ?_
      refine lv_bipush (v := Int32.ofInt 10) hx hb dX1_put_26 (by decide) ?_
      refine xi_imul hx hb dX1_put_28 hf (fun v3 hf => ?_)
      refine lv_aload_n hx hb dX1_put_29 rfl (lv_at hl 0 rfl) ?_
      refine va_get (D := (dC, dI)) (ci := 1) (v := .ref q1) (C := RX1) (T := TX1) (N := 3) hx hb hz zi_X1 hown hK hP 0 rfl rfl 1 (by decide) (hz _ zw_149) (fun _ h9 => h9) rfl dX1_put_30 ?_
      refine lv_iload_n hx hb dX1_put_33 rfl (lv_at hl 1 rfl) ?_
      refine xi_iald hx hb hK hP 1 0 rfl rfl dX1_put_34 hf (fun v4 hf => ?_)
      refine xi_iadd hx hb dX1_put_35 hf (fun v5 hf => ?_)
      refine lv_iload_n hx hb dX1_put_36 rfl (lv_at hl 2 rfl) ?_
      refine xi_iast hx hb hK hP hD hS 2 0 rfl rfl dX1_put_37 hf (fun a6 H locs hP hD hS hf => ?_)
      have hP : va_P (dC, dI) vwCl (wd_Columns_put cA q0 q1 q2 i_many i_heights a6) H := hP
      have hD : va_D A (wd_Columns_put cA q0 q1 q2 i_many i_heights a6) := hD
      refine lv_aload_n hx hb dX1_put_38 rfl (lv_at hl 0 rfl) ?_
      refine va_get (D := (dC, dI)) (ci := 1) (v := .ref q1) (C := RX1) (T := TX1) (N := 3) hx hb hz zi_X1 hown hK hP 0 rfl rfl 1 (by decide) (hz _ zw_149) (fun _ h9 => h9) rfl dX1_put_39 ?_
      refine lv_iload_n hx hb dX1_put_42 rfl (lv_at hl 1 rfl) ?_
      refine lv_dup2_11 hx hb dX1_put_43 rfl rfl ?_
      refine xi_iald hx hb hK hP 1 0 rfl rfl dX1_put_44 hf (fun v7 hf => ?_)
      refine lv_iconst (v := Int32.ofInt 1) hx hb dX1_put_45 rfl ?_
      refine xi_iadd hx hb dX1_put_46 hf (fun v8 hf => ?_)
      refine xi_iast hx hb hK hP hD hS 1 0 rfl rfl dX1_put_47 hf (fun a9 H locs hP hD hS hf => ?_)
      have hP : va_P (dC, dI) vwCl (wd_Columns_put cA q0 q1 q2 i_many a9 a6) H := hP
      have hD : va_D A (wd_Columns_put cA q0 q1 q2 i_many a9 a6) := hD
      refine lv_iconst (v := Int32.ofInt 1) hx hb dX1_put_48 rfl ?_
      obtain rfl := Option.some.inj hf
      exact hret _ _ _ _ zz_b1 dX1_put_49 hP hD hS
    · refine lv_iconst (v := Int32.ofInt 0) hx hb dX1_put_19 rfl ?_
      obtain rfl := Option.some.inj hf
      exact hret _ _ _ _ zz_b0 dX1_put_20 hP hD hS
theorem dX1_high_0 : decode cX1_high 0 = .ok (.aload_n 0, 1) := by decide +kernel
theorem dX1_high_1 : decode cX1_high 1 = .ok (.iload_n 1, 1) := by decide +kernel
theorem dX1_high_2 : decode cX1_high 2 = .ok (.invokevirtual 22, 3) := by decide +kernel
theorem dX1_high_5 : decode cX1_high 5 = .ok (.ifCond .eq 12, 3) := by decide +kernel
theorem dX1_high_8 : decode cX1_high 8 = .ok (.aload_n 0, 1) := by decide +kernel
theorem dX1_high_9 : decode cX1_high 9 = .ok (.getfield 15, 3) := by decide +kernel
theorem dX1_high_12 : decode cX1_high 12 = .ok (.iload_n 1, 1) := by decide +kernel
theorem dX1_high_13 : decode cX1_high 13 = .ok (.iaload, 1) := by decide +kernel
theorem dX1_high_14 : decode cX1_high 14 = .ok (.goto 4, 3) := by decide +kernel
theorem dX1_high_17 : decode cX1_high 17 = .ok (.iconst 0, 1) := by decide +kernel
theorem dX1_high_18 : decode cX1_high 18 = .ok (.ireturn, 1) := by decide +kernel
theorem zw_558 : (Jvm.Cond.code ({ cls := "HillSchool$Columns", name := "high", desc := "(I)I" } : Jvm.MethodName) prog_3_method_4_code (2 : Nat) (Option.some Jvm.ClassFile.FieldType.int)) ∈ zall := zmemG (zmj_2 215 rfl) rfl
abbrev w_Columns_high : List Cond := .code yX1_high cX1_high 2 (some .int) :: zall
abbrev rm_Columns_high : Room := { frames := 1, cells := 0, slots := 0, locals := 21 }
theorem hd_Columns_high : yX1_high.cls = "HillSchool$Columns" ∧ yX1_high.cls ≠ "java/lang/invoke/MethodHandle" ∧ yX1_high.cls ≠ "java/lang/invoke/VarHandle" ∧ (parseMethodDescriptor yX1_high.desc).map (fun d => d.parameters.length) = some 1 := by decide +kernel
def wd_Columns_high (cA : Nat → ClassId) (q0 q1 q2 : Nat) (i_many : Int) (i_heights : Nat → Int)  : va_W := [(q0, .inr (1, [.int (Int32.ofInt i_many), .ref q1, .ref q2])), (q1, .inl (cA 0, 12, .inl (za i_heights)))]
def wf_Columns_high (cA : Nat → ClassId) (q0 q1 q2 : Nat) (i_many : Int) (i_heights : Nat → Int) (o : Int) : va_W := wd_Columns_high cA q0 q1 q2 i_many i_heights
def f_Columns_high (x1 : Int) (i_many : Int) (i_heights : Nat → Int) : Option (Int) :=
  zd1 (f_Columns_has x1 i_many) fun v1 =>
  if zi_w v1 = 0 then
    some 0
  else
    zg 12 i_heights x1 fun v2 =>
    some v2
set_option maxHeartbeats 4000000 in
set_option maxRecDepth 100000 in
theorem c_Columns_high (l : Launch) (ev : zEv) (dC : Nat → ClassId) (dI : Nat → Nat → Nat) (cA : Nat → ClassId) (q0 q1 q2 : Nat) {x1 : Int} {i_many : Int} {i_heights : Nat → Int} {out : Int} (hf : f_Columns_high x1 i_many i_heights = some out) : xc_I l ev (dC, dI) vwCl (tyl cA) yX1_high w_Columns_high rm_Columns_high [.ref q0, .int (Int32.ofInt x1)] (wd_Columns_high cA q0 q1 q2 i_many i_heights) (wf_Columns_high cA q0 q1 q2 i_many i_heights out) out := by
  refine xv_startI (cc := cX1_high) (maxL := 2) (rt := .int) (by decide +kernel) rfl (Nat.le_of_ble_eq_true rfl) ?_
  intro p e s m args below meth c A Q H ls hx hb hml hts hown hK hA hP hD hS hl hE hret
  have hown : s.vm.findClass "HillSchool$Columns" = some m.cls := hown
  have hz : ∀ w ∈ zall, w.before args s = true := fun w h => hts w (List.mem_cons_of_mem _ h)
  have hl : lv_has ls 2 [(0, .ref q0), (1, .int (Int32.ofInt x1))] := hl
  unfold f_Columns_high at hf
  refine lv_aload_n hx hb dX1_high_0 rfl (lv_at hl 0 rfl) ?_
  refine lv_iload_n hx hb dX1_high_1 rfl (lv_at hl 1 rfl) ?_
  refine xe_d1 hf (fun v1 hg hf => ?_)
  have hC : ([0] : List Nat).map (fun i => (wd_Columns_high cA q0 q1 q2 i_many i_heights)[i]?) = (wd_Columns_has cA q0 q1 q2 i_many).map some := rfl
  refine xv_afterI (ws' := (wd_Columns_high cA q0 q1 q2 i_many i_heights)) (isC := [0]) (ps := [some 0, none]) (va_runV (As := [.int (Int32.ofInt x1)]) (rest := []) ⟨hx, hb, hml, hown, hts⟩ (c_Columns_has l ev dC dI cA q0 q1 q2 hg H.size) (cwV 1 hts (zgV zw_554 zw_547 zw_548 zw_106 zw_549) rfl rfl rfl hd_Columns_has ⟨Nat.le_of_ble_eq_true rfl, Nat.le_of_ble_eq_true rfl⟩) (xv_preV (T := TX1) (N := 3) hE hA hS hK hP hD (isC := [0]) (by decide +kernel) hC (q0 := 0) (ci := 1) rfl rfl) rfl rfl hl.1 rfl (lv_room (Nat.le_of_ble_eq_true rfl)) dX1_high_2 ⟨Nat.le_refl _, Nat.le_refl _⟩) hP hD hS hA (by decide +kernel) rfl hC rfl rfl (fun H locs hP hD hS => ?_)
  refine xi_if_eq (tgt := 17) hx hb dX1_high_5 (by decide) hf (fun hf => ?_) (fun hf => ?_)
  · refine lv_iconst (v := Int32.ofInt 0) hx hb dX1_high_17 rfl ?_
    obtain rfl := Option.some.inj hf
    exact hret _ _ _ _ rfl dX1_high_18 hP hD hS
  · refine lv_aload_n hx hb dX1_high_8 rfl (lv_at hl 0 rfl) ?_
    refine va_get (D := (dC, dI)) (ci := 1) (v := .ref q1) (C := RX1) (T := TX1) (N := 3) hx hb hz zi_X1 hown hK hP 0 rfl rfl 1 (by decide) (hz _ zw_149) (fun _ h9 => h9) rfl dX1_high_9 ?_
    refine lv_iload_n hx hb dX1_high_12 rfl (lv_at hl 1 rfl) ?_
    refine xi_iald hx hb hK hP 1 0 rfl rfl dX1_high_13 hf (fun v2 hf => ?_)
    refine lv_goto (tgt := 18) hx hb dX1_high_14 (by decide) ?_
    obtain rfl := Option.some.inj hf
    exact hret _ _ _ _ rfl dX1_high_18 hP hD hS
theorem dX10_stone_0 : decode cX10_stone 0 = .ok (.iload_n 2, 1) := by decide +kernel
theorem dX10_stone_1 : decode cX10_stone 1 = .ok (.iconst 1, 1) := by decide +kernel
theorem dX10_stone_2 : decode cX10_stone 2 = .ok (.if_icmp .lt 9, 3) := by decide +kernel
theorem dX10_stone_5 : decode cX10_stone 5 = .ok (.iload_n 2, 1) := by decide +kernel
theorem dX10_stone_6 : decode cX10_stone 6 = .ok (.bipush 30, 2) := by decide +kernel
theorem dX10_stone_8 : decode cX10_stone 8 = .ok (.if_icmp .le 9, 3) := by decide +kernel
theorem dX10_stone_11 : decode cX10_stone 11 = .ok (.aload_n 0, 1) := by decide +kernel
theorem dX10_stone_12 : decode cX10_stone 12 = .ok (.iconst (-1), 1) := by decide +kernel
theorem dX10_stone_13 : decode cX10_stone 13 = .ok (.invokevirtual 109, 3) := by decide +kernel
theorem dX10_stone_16 : decode cX10_stone 16 = .ok (.ireturn, 1) := by decide +kernel
theorem dX10_stone_17 : decode cX10_stone 17 = .ok (.aload_n 0, 1) := by decide +kernel
theorem dX10_stone_18 : decode cX10_stone 18 = .ok (.getfield 10, 3) := by decide +kernel
theorem dX10_stone_21 : decode cX10_stone 21 = .ok (.getfield 99, 3) := by decide +kernel
theorem dX10_stone_24 : decode cX10_stone 24 = .ok (.iload_n 1, 1) := by decide +kernel
theorem dX10_stone_25 : decode cX10_stone 25 = .ok (.invokevirtual 122, 3) := by decide +kernel
theorem dX10_stone_28 : decode cX10_stone 28 = .ok (.ifCond .ne 10, 3) := by decide +kernel
theorem dX10_stone_31 : decode cX10_stone 31 = .ok (.aload_n 0, 1) := by decide +kernel
theorem dX10_stone_32 : decode cX10_stone 32 = .ok (.bipush (-2), 2) := by decide +kernel
theorem dX10_stone_34 : decode cX10_stone 34 = .ok (.invokevirtual 109, 3) := by decide +kernel
theorem dX10_stone_37 : decode cX10_stone 37 = .ok (.ireturn, 1) := by decide +kernel
theorem dX10_stone_38 : decode cX10_stone 38 = .ok (.aload_n 0, 1) := by decide +kernel
theorem dX10_stone_39 : decode cX10_stone 39 = .ok (.getfield 10, 3) := by decide +kernel
theorem dX10_stone_42 : decode cX10_stone 42 = .ok (.getfield 99, 3) := by decide +kernel
theorem dX10_stone_45 : decode cX10_stone 45 = .ok (.iload_n 1, 1) := by decide +kernel
theorem dX10_stone_46 : decode cX10_stone 46 = .ok (.iload_n 2, 1) := by decide +kernel
theorem dX10_stone_47 : decode cX10_stone 47 = .ok (.invokevirtual 126, 3) := by decide +kernel
theorem dX10_stone_50 : decode cX10_stone 50 = .ok (.ifCond .ne 10, 3) := by decide +kernel
theorem dX10_stone_53 : decode cX10_stone 53 = .ok (.aload_n 0, 1) := by decide +kernel
theorem dX10_stone_54 : decode cX10_stone 54 = .ok (.bipush (-5), 2) := by decide +kernel
theorem dX10_stone_56 : decode cX10_stone 56 = .ok (.invokevirtual 109, 3) := by decide +kernel
theorem dX10_stone_59 : decode cX10_stone 59 = .ok (.ireturn, 1) := by decide +kernel
theorem dX10_stone_60 : decode cX10_stone 60 = .ok (.aload_n 0, 1) := by decide +kernel
theorem dX10_stone_61 : decode cX10_stone 61 = .ok (.aload_n 0, 1) := by decide +kernel
theorem dX10_stone_62 : decode cX10_stone 62 = .ok (.getfield 10, 3) := by decide +kernel
theorem dX10_stone_65 : decode cX10_stone 65 = .ok (.getfield 99, 3) := by decide +kernel
theorem dX10_stone_68 : decode cX10_stone 68 = .ok (.iload_n 1, 1) := by decide +kernel
theorem dX10_stone_69 : decode cX10_stone 69 = .ok (.invokevirtual 130, 3) := by decide +kernel
theorem dX10_stone_72 : decode cX10_stone 72 = .ok (.invokevirtual 119, 3) := by decide +kernel
theorem dX10_stone_75 : decode cX10_stone 75 = .ok (.ireturn, 1) := by decide +kernel
theorem zw_545 : (Jvm.Cond.code ({ cls := "HillSchool", name := "stone", desc := "(II)I" } : Jvm.MethodName) prog_1_method_3_code (3 : Nat) (Option.some Jvm.ClassFile.FieldType.int)) ∈ zall := zmemG (zmj_2 202 rfl) rfl
theorem zw_546 : (Jvm.Cond.methodLink "HillSchool" (122 : Nat) ({ cls := "HillSchool$Columns", name := "has", desc := "(I)Z" } : Jvm.MethodName)) ∈ zall := zmemG (zmj_2 203 rfl) rfl
theorem zw_550 : (Jvm.Cond.methodLink "HillSchool" (126 : Nat) ({ cls := "HillSchool$Columns", name := "put", desc := "(II)Z" } : Jvm.MethodName)) ∈ zall := zmemG (zmj_2 207 rfl) rfl
theorem zw_551 : (Jvm.Cond.instanceMethod ({ cls := "HillSchool$Columns", name := "put", desc := "(II)Z" } : Jvm.MethodName)) ∈ zall := zmemG (zmj_2 208 rfl) rfl
theorem zw_552 : (Jvm.Cond.selects "HillSchool$Columns" ({ cls := "HillSchool$Columns", name := "put", desc := "(II)Z" } : Jvm.MethodName) ({ cls := "HillSchool$Columns", name := "put", desc := "(II)Z" } : Jvm.MethodName)) ∈ zall := zmemG (zmj_2 209 rfl) rfl
theorem zw_555 : (Jvm.Cond.methodLink "HillSchool" (130 : Nat) ({ cls := "HillSchool$Columns", name := "high", desc := "(I)I" } : Jvm.MethodName)) ∈ zall := zmemG (zmj_2 212 rfl) rfl
theorem zw_556 : (Jvm.Cond.instanceMethod ({ cls := "HillSchool$Columns", name := "high", desc := "(I)I" } : Jvm.MethodName)) ∈ zall := zmemG (zmj_2 213 rfl) rfl
theorem zw_557 : (Jvm.Cond.selects "HillSchool$Columns" ({ cls := "HillSchool$Columns", name := "high", desc := "(I)I" } : Jvm.MethodName) ({ cls := "HillSchool$Columns", name := "high", desc := "(I)I" } : Jvm.MethodName)) ∈ zall := zmemG (zmj_2 214 rfl) rfl
abbrev w_HS_stone : List Cond := .code yX10_stone cX10_stone 3 (some .int) :: zall
abbrev rm_HS_stone : Room := { frames := 2, cells := 0, slots := 0, locals := 43 }
theorem hd_HS_stone : yX10_stone.cls = "HillSchool" ∧ yX10_stone.cls ≠ "java/lang/invoke/MethodHandle" ∧ yX10_stone.cls ≠ "java/lang/invoke/VarHandle" ∧ (parseMethodDescriptor yX10_stone.desc).map (fun d => d.parameters.length) = some 2 := by decide +kernel
def wd_HS_stone (cA : Nat → ClassId) (q0 q1 q2 q3 q4 q5 q6 q7 q8 q9 q10 q11 q12 q13 q14 q15 q16 q17 q18 q19 q20 q21 q22 q23 : Nat) (u0 u1 u2 u3 u4 u5 u6 : Int) (i_hill_columns_many : Int) (i_latestStatus : Int) (i_hill_changes : Int) (i_refusals : Nat → Int) (i_hill_columns_heights : Nat → Int) (i_hill_columns_weights : Nat → Int) : va_W := [(q0, .inr (10, [.ref q1, .ref q2, .ref q3, .ref q4, .int (Int32.ofInt u0), .int (Int32.ofInt u1), .int (Int32.ofInt u2), .ref q5, .int (Int32.ofInt i_latestStatus), .ref q6, .ref q7, .ref q8, .ref q9, .ref q10, .ref q11, .ref q12])), (q1, .inr (2, [.ref q13, .int (Int32.ofInt u3), .ref q14, .ref q15, .ref q16, .int (Int32.ofInt u4), .ref q17, .ref q18, .ref q19, .int (Int32.ofInt u5), .ref q20, .ref q21, .int (Int32.ofInt u6), .int (Int32.ofInt i_hill_changes)])), (q5, .inl (cA 0, 7, .inl (za i_refusals))), (q13, .inr (1, [.int (Int32.ofInt i_hill_columns_many), .ref q22, .ref q23])), (q22, .inl (cA 0, 12, .inl (za i_hill_columns_heights))), (q23, .inl (cA 0, 120, .inl (za i_hill_columns_weights)))]
def wf_HS_stone (cA : Nat → ClassId) (q0 q1 q2 q3 q4 q5 q6 q7 q8 q9 q10 q11 q12 q13 q14 q15 q16 q17 q18 q19 q20 q21 q22 q23 : Nat) (u0 u1 u2 u3 u4 u5 u6 : Int) (i_hill_columns_many : Int) (o : Int × Int × Int × (Nat → Int) × (Nat → Int) × (Nat → Int)) : va_W := wd_HS_stone cA q0 q1 q2 q3 q4 q5 q6 q7 q8 q9 q10 q11 q12 q13 q14 q15 q16 q17 q18 q19 q20 q21 q22 q23 u0 u1 u2 u3 u4 u5 u6 i_hill_columns_many o.2.1 o.2.2.1 o.2.2.2.1 o.2.2.2.2.1 o.2.2.2.2.2
def f_HS_stone_11 (i_hill_columns_many : Int) (i_latestStatus : Int) (i_hill_changes : Int) (i_refusals : Nat → Int) (i_hill_columns_heights : Nat → Int) (i_hill_columns_weights : Nat → Int) : Option (Int × Int × Int × (Nat → Int) × (Nat → Int) × (Nat → Int)) :=
  zd3 (f_HS_refuse (-1) i_latestStatus i_refusals) fun v1 v2 a3 =>
  some (v1, v2, i_hill_changes, a3, i_hill_columns_heights, i_hill_columns_weights)
def f_HS_stone (x1 : Int) (x2 : Int) (i_hill_columns_many : Int) (i_latestStatus : Int) (i_hill_changes : Int) (i_refusals : Nat → Int) (i_hill_columns_heights : Nat → Int) (i_hill_columns_weights : Nat → Int) : Option (Int × Int × Int × (Nat → Int) × (Nat → Int) × (Nat → Int)) :=
  if zi_w x2 < zi_w 1 then
    f_HS_stone_11 i_hill_columns_many i_latestStatus i_hill_changes i_refusals i_hill_columns_heights i_hill_columns_weights
  else
    if zi_w x2 ≤ zi_w 30 then
      zd1 (f_Columns_has x1 i_hill_columns_many) fun v1 =>
      if zi_w v1 ≠ 0 then
        zd3 (f_Columns_put x1 x2 i_hill_columns_many i_hill_columns_heights i_hill_columns_weights) fun v2 a3 a4 =>
        if zi_w v2 ≠ 0 then
          zd1 (f_Columns_high x1 i_hill_columns_many a3) fun v5 =>
          zd3 (f_HS_accept v5 i_latestStatus i_hill_changes) fun v6 v7 v8 =>
          some (v6, v7, v8, i_refusals, a3, a4)
        else
          zd3 (f_HS_refuse (-5) i_latestStatus i_refusals) fun v9 v10 a11 =>
          some (v9, v10, i_hill_changes, a11, a3, a4)
      else
        zd3 (f_HS_refuse (-2) i_latestStatus i_refusals) fun v12 v13 a14 =>
        some (v12, v13, i_hill_changes, a14, i_hill_columns_heights, i_hill_columns_weights)
    else
      f_HS_stone_11 i_hill_columns_many i_latestStatus i_hill_changes i_refusals i_hill_columns_heights i_hill_columns_weights
set_option maxHeartbeats 4000000 in
set_option maxRecDepth 100000 in
theorem c_HS_stone (l : Launch) (ev : zEv) (dC : Nat → ClassId) (dI : Nat → Nat → Nat) (cA : Nat → ClassId) (q0 q1 q2 q3 q4 q5 q6 q7 q8 q9 q10 q11 q12 q13 q14 q15 q16 q17 q18 q19 q20 q21 q22 q23 : Nat) (u0 u1 u2 u3 u4 u5 u6 : Int) {x1 x2 : Int} {i_hill_columns_many : Int} {i_latestStatus : Int} {i_hill_changes : Int} {i_refusals : Nat → Int} {i_hill_columns_heights : Nat → Int} {i_hill_columns_weights : Nat → Int} {out : Int × Int × Int × (Nat → Int) × (Nat → Int) × (Nat → Int)} (hf : f_HS_stone x1 x2 i_hill_columns_many i_latestStatus i_hill_changes i_refusals i_hill_columns_heights i_hill_columns_weights = some out) : xc_I l ev (dC, dI) vwCl (tyl cA) yX10_stone w_HS_stone rm_HS_stone [.ref q0, .int (Int32.ofInt x1), .int (Int32.ofInt x2)] (wd_HS_stone cA q0 q1 q2 q3 q4 q5 q6 q7 q8 q9 q10 q11 q12 q13 q14 q15 q16 q17 q18 q19 q20 q21 q22 q23 u0 u1 u2 u3 u4 u5 u6 i_hill_columns_many i_latestStatus i_hill_changes i_refusals i_hill_columns_heights i_hill_columns_weights) (wf_HS_stone cA q0 q1 q2 q3 q4 q5 q6 q7 q8 q9 q10 q11 q12 q13 q14 q15 q16 q17 q18 q19 q20 q21 q22 q23 u0 u1 u2 u3 u4 u5 u6 i_hill_columns_many out) out.1 := by
  refine xv_startI (cc := cX10_stone) (maxL := 3) (rt := .int) (by decide +kernel) rfl (Nat.le_of_ble_eq_true rfl) ?_
  intro p e s m args below meth c A Q H ls hx hb hml hts hown hK hA hP hD hS hl hE hret
  have hown : s.vm.findClass "HillSchool" = some m.cls := hown
  have hz : ∀ w ∈ zall, w.before args s = true := fun w h => hts w (List.mem_cons_of_mem _ h)
  have hl : lv_has ls 3 [(0, .ref q0), (1, .int (Int32.ofInt x1)), (2, .int (Int32.ofInt x2))] := hl
  have b_11 : ∀ (i_latestStatus : Int) (i_hill_changes : Int) (i_refusals : Nat → Int) (i_hill_columns_heights : Nat → Int) (i_hill_columns_weights : Nat → Int) (H : Heap) (locs : List Loc) (ls : Array Slot), f_HS_stone_11 i_hill_columns_many i_latestStatus i_hill_changes i_refusals i_hill_columns_heights i_hill_columns_weights = some out → va_P (dC, dI) vwCl (wd_HS_stone cA q0 q1 q2 q3 q4 q5 q6 q7 q8 q9 q10 q11 q12 q13 q14 q15 q16 q17 q18 q19 q20 q21 q22 q23 u0 u1 u2 u3 u4 u5 u6 i_hill_columns_many i_latestStatus i_hill_changes i_refusals i_hill_columns_heights i_hill_columns_weights) H → va_D A (wd_HS_stone cA q0 q1 q2 q3 q4 q5 q6 q7 q8 q9 q10 q11 q12 q13 q14 q15 q16 q17 q18 q19 q20 q21 q22 q23 u0 u1 u2 u3 u4 u5 u6 i_hill_columns_many i_latestStatus i_hill_changes i_refusals i_hill_columns_heights i_hill_columns_weights) → va_S A s.heap H locs → lv_has ls 3 [(0, .ref q0)] → W p l e rm_HS_stone s m args below meth c H locs 0 0 Q (F0 m 11 ls []) := by
    intro i_latestStatus i_hill_changes i_refusals i_hill_columns_heights i_hill_columns_weights H locs ls hf hP hD hS hl
    unfold f_HS_stone_11 at hf
    refine lv_aload_n hx hb dX10_stone_11 rfl (lv_at hl 0 rfl) ?_
    refine lv_iconst (v := Int32.ofInt (-1)) hx hb dX10_stone_12 rfl ?_
    refine xe_d3 hf (fun v1 v2 a3 hg hf => ?_)
    have hC : ([0, 2] : List Nat).map (fun i => (wd_HS_stone cA q0 q1 q2 q3 q4 q5 q6 q7 q8 q9 q10 q11 q12 q13 q14 q15 q16 q17 q18 q19 q20 q21 q22 q23 u0 u1 u2 u3 u4 u5 u6 i_hill_columns_many i_latestStatus i_hill_changes i_refusals i_hill_columns_heights i_hill_columns_weights)[i]?) = (wd_HS_refuse cA q0 q1 q2 q3 q4 q5 q6 q7 q8 q9 q10 q11 q12 u0 u1 u2 i_latestStatus i_refusals).map some := rfl
    refine xv_afterI (ws' := (wd_HS_stone cA q0 q1 q2 q3 q4 q5 q6 q7 q8 q9 q10 q11 q12 q13 q14 q15 q16 q17 q18 q19 q20 q21 q22 q23 u0 u1 u2 u3 u4 u5 u6 i_hill_columns_many v2 i_hill_changes a3 i_hill_columns_heights i_hill_columns_weights)) (isC := [0, 2]) (ps := [some 0, none, some 1, none, none, none]) (va_runV (As := [.int (Int32.ofInt (-1))]) (rest := []) ⟨hx, hb, hml, hown, hts⟩ (c_HS_refuse l ev dC dI cA q0 q1 q2 q3 q4 q5 q6 q7 q8 q9 q10 q11 q12 u0 u1 u2 hg H.size) (cwV 1 hts (zgV zw_534 zw_536 zw_0 zw_104 zw_537) rfl rfl rfl hd_HS_refuse ⟨Nat.le_of_ble_eq_true rfl, Nat.le_of_ble_eq_true rfl⟩) (xv_preV (T := TX10) (N := 16) hE hA hS hK hP hD (isC := [0, 2]) (by decide +kernel) hC (q0 := 0) (ci := 10) rfl rfl) rfl rfl hl.1 rfl (lv_room (Nat.le_of_ble_eq_true rfl)) dX10_stone_13 ⟨Nat.le_refl _, Nat.le_refl _⟩) hP hD hS hA (by decide +kernel) rfl hC rfl rfl (fun H locs hP hD hS => ?_)
    obtain rfl := Option.some.inj hf
    exact hret _ _ _ _ rfl dX10_stone_16 hP hD hS
  unfold f_HS_stone at hf
  refine lv_iload_n hx hb dX10_stone_0 rfl (lv_at hl 2 rfl) ?_
  refine lv_iconst (v := Int32.ofInt 1) hx hb dX10_stone_1 rfl ?_
  refine xi_icmp_lt (tgt := 11) hx hb dX10_stone_2 (by decide) hf (fun hf => ?_) (fun hf => ?_)
  · exact b_11  _ _ _ _ _ _ _ _ hf hP hD hS (lv_sub hl [0] rfl)
  · refine lv_iload_n hx hb dX10_stone_5 rfl (lv_at hl 2 rfl) ?_
    refine lv_bipush (v := Int32.ofInt 30) hx hb dX10_stone_6 (by decide) ?_
    refine xi_icmp_le (tgt := 17) hx hb dX10_stone_8 (by decide) hf (fun hf => ?_) (fun hf => ?_)
    · refine lv_aload_n hx hb dX10_stone_17 rfl (lv_at hl 0 rfl) ?_
      refine va_get (D := (dC, dI)) (ci := 10) (v := .ref q1) (C := RX10) (T := TX10) (N := 16) hx hb hz zi_X10 hown hK hP 0 rfl rfl 0 (by decide) (hz _ zw_477) (fun _ h9 => h9) rfl dX10_stone_18 ?_
      refine va_getN (D := (dC, dI)) (ci := 2) (v := .ref q13) (C := RX2) (T := TX2) (N := 14) hx hb hz zi_X2 hown hK hP 1 rfl rfl 0 (by decide) (va_Nw.use rfl (hE.1.1 _ zw_169)) (fun _ h9 => h9) rfl dX10_stone_21 ?_
      refine lv_iload_n hx hb dX10_stone_24 rfl (lv_at hl 1 rfl) ?_
      refine xe_d1 hf (fun v1 hg hf => ?_)
      have hC : ([3] : List Nat).map (fun i => (wd_HS_stone cA q0 q1 q2 q3 q4 q5 q6 q7 q8 q9 q10 q11 q12 q13 q14 q15 q16 q17 q18 q19 q20 q21 q22 q23 u0 u1 u2 u3 u4 u5 u6 i_hill_columns_many i_latestStatus i_hill_changes i_refusals i_hill_columns_heights i_hill_columns_weights)[i]?) = (wd_Columns_has cA q13 q22 q23 i_hill_columns_many).map some := rfl
      refine xv_afterI (ws' := (wd_HS_stone cA q0 q1 q2 q3 q4 q5 q6 q7 q8 q9 q10 q11 q12 q13 q14 q15 q16 q17 q18 q19 q20 q21 q22 q23 u0 u1 u2 u3 u4 u5 u6 i_hill_columns_many i_latestStatus i_hill_changes i_refusals i_hill_columns_heights i_hill_columns_weights)) (isC := [3]) (ps := [none, none, none, some 0, none, none]) (va_runV (As := [.int (Int32.ofInt x1)]) (rest := []) ⟨hx, hb, hml, hown, hts⟩ (c_Columns_has l ev dC dI cA q13 q22 q23 hg H.size) (cwV 1 hts (zgV zw_546 zw_547 zw_548 zw_106 zw_549) rfl rfl rfl hd_Columns_has ⟨Nat.le_of_ble_eq_true rfl, Nat.le_of_ble_eq_true rfl⟩) (xv_preV (T := TX1) (N := 3) hE hA hS hK hP hD (isC := [3]) (by decide +kernel) hC (q0 := 3) (ci := 1) rfl rfl) rfl rfl hl.1 rfl (lv_room (Nat.le_of_ble_eq_true rfl)) dX10_stone_25 ⟨Nat.le_refl _, Nat.le_refl _⟩) hP hD hS hA (by decide +kernel) rfl hC rfl rfl (fun H locs hP hD hS => ?_)
      refine xi_if_ne (tgt := 38) hx hb dX10_stone_28 (by decide) hf (fun hf => ?_) (fun hf => ?_)
      · refine lv_aload_n hx hb dX10_stone_38 rfl (lv_at hl 0 rfl) ?_
        refine va_get (D := (dC, dI)) (ci := 10) (v := .ref q1) (C := RX10) (T := TX10) (N := 16) hx hb hz zi_X10 hown hK hP 0 rfl rfl 0 (by decide) (hz _ zw_477) (fun _ h9 => h9) rfl dX10_stone_39 ?_
        refine va_getN (D := (dC, dI)) (ci := 2) (v := .ref q13) (C := RX2) (T := TX2) (N := 14) hx hb hz zi_X2 hown hK hP 1 rfl rfl 0 (by decide) (va_Nw.use rfl (hE.1.1 _ zw_169)) (fun _ h9 => h9) rfl dX10_stone_42 ?_
        refine lv_iload_n hx hb dX10_stone_45 rfl (lv_at hl 1 rfl) ?_
        refine lv_iload_n hx hb dX10_stone_46 rfl (lv_at hl 2 rfl) ?_
        refine xe_d3 hf (fun v2 a3 a4 hg hf => ?_)
        have hC : ([3, 4, 5] : List Nat).map (fun i => (wd_HS_stone cA q0 q1 q2 q3 q4 q5 q6 q7 q8 q9 q10 q11 q12 q13 q14 q15 q16 q17 q18 q19 q20 q21 q22 q23 u0 u1 u2 u3 u4 u5 u6 i_hill_columns_many i_latestStatus i_hill_changes i_refusals i_hill_columns_heights i_hill_columns_weights)[i]?) = (wd_Columns_put cA q13 q22 q23 i_hill_columns_many i_hill_columns_heights i_hill_columns_weights).map some := rfl
        refine xv_afterI (ws' := (wd_HS_stone cA q0 q1 q2 q3 q4 q5 q6 q7 q8 q9 q10 q11 q12 q13 q14 q15 q16 q17 q18 q19 q20 q21 q22 q23 u0 u1 u2 u3 u4 u5 u6 i_hill_columns_many i_latestStatus i_hill_changes i_refusals a3 a4)) (isC := [3, 4, 5]) (ps := [none, none, none, some 0, some 1, some 2]) (va_runV (As := [.int (Int32.ofInt x1), .int (Int32.ofInt x2)]) (rest := []) ⟨hx, hb, hml, hown, hts⟩ (c_Columns_put l ev dC dI cA q13 q22 q23 hg H.size) (cwV 2 hts (zgV zw_550 zw_551 zw_552 zw_106 zw_553) rfl rfl rfl hd_Columns_put ⟨Nat.le_of_ble_eq_true rfl, Nat.le_of_ble_eq_true rfl⟩) (xv_preV (T := TX1) (N := 3) hE hA hS hK hP hD (isC := [3, 4, 5]) (by decide +kernel) hC (q0 := 3) (ci := 1) rfl rfl) rfl rfl hl.1 rfl (lv_room (Nat.le_of_ble_eq_true rfl)) dX10_stone_47 ⟨Nat.le_refl _, Nat.le_refl _⟩) hP hD hS hA (by decide +kernel) rfl hC rfl rfl (fun H locs hP hD hS => ?_)
        refine xi_if_ne (tgt := 60) hx hb dX10_stone_50 (by decide) hf (fun hf => ?_) (fun hf => ?_)
        · refine lv_aload_n hx hb dX10_stone_60 rfl (lv_at hl 0 rfl) ?_
          refine lv_aload_n hx hb dX10_stone_61 rfl (lv_at hl 0 rfl) ?_
          refine va_get (D := (dC, dI)) (ci := 10) (v := .ref q1) (C := RX10) (T := TX10) (N := 16) hx hb hz zi_X10 hown hK hP 0 rfl rfl 0 (by decide) (hz _ zw_477) (fun _ h9 => h9) rfl dX10_stone_62 ?_
          refine va_getN (D := (dC, dI)) (ci := 2) (v := .ref q13) (C := RX2) (T := TX2) (N := 14) hx hb hz zi_X2 hown hK hP 1 rfl rfl 0 (by decide) (va_Nw.use rfl (hE.1.1 _ zw_169)) (fun _ h9 => h9) rfl dX10_stone_65 ?_
          refine lv_iload_n hx hb dX10_stone_68 rfl (lv_at hl 1 rfl) ?_
          refine xe_d1 hf (fun v5 hg hf => ?_)
          have hC : ([3, 4] : List Nat).map (fun i => (wd_HS_stone cA q0 q1 q2 q3 q4 q5 q6 q7 q8 q9 q10 q11 q12 q13 q14 q15 q16 q17 q18 q19 q20 q21 q22 q23 u0 u1 u2 u3 u4 u5 u6 i_hill_columns_many i_latestStatus i_hill_changes i_refusals a3 a4)[i]?) = (wd_Columns_high cA q13 q22 q23 i_hill_columns_many a3).map some := rfl
          refine xv_afterI (ws' := (wd_HS_stone cA q0 q1 q2 q3 q4 q5 q6 q7 q8 q9 q10 q11 q12 q13 q14 q15 q16 q17 q18 q19 q20 q21 q22 q23 u0 u1 u2 u3 u4 u5 u6 i_hill_columns_many i_latestStatus i_hill_changes i_refusals a3 a4)) (isC := [3, 4]) (ps := [none, none, none, some 0, some 1, none]) (va_runV (As := [.int (Int32.ofInt x1)]) (rest := [.ref q0]) ⟨hx, hb, hml, hown, hts⟩ (c_Columns_high l ev dC dI cA q13 q22 q23 hg H.size) (cwV 1 hts (zgV zw_555 zw_556 zw_557 zw_106 zw_558) rfl rfl rfl hd_Columns_high ⟨Nat.le_of_ble_eq_true rfl, Nat.le_of_ble_eq_true rfl⟩) (xv_preV (T := TX1) (N := 3) hE hA hS hK hP hD (isC := [3, 4]) (by decide +kernel) hC (q0 := 3) (ci := 1) rfl rfl) rfl rfl hl.1 rfl (lv_room (Nat.le_of_ble_eq_true rfl)) dX10_stone_69 ⟨Nat.le_refl _, Nat.le_refl _⟩) hP hD hS hA (by decide +kernel) rfl hC rfl rfl (fun H locs hP hD hS => ?_)
          refine xe_d3 hf (fun v6 v7 v8 hg hf => ?_)
          have hC : ([0, 1] : List Nat).map (fun i => (wd_HS_stone cA q0 q1 q2 q3 q4 q5 q6 q7 q8 q9 q10 q11 q12 q13 q14 q15 q16 q17 q18 q19 q20 q21 q22 q23 u0 u1 u2 u3 u4 u5 u6 i_hill_columns_many i_latestStatus i_hill_changes i_refusals a3 a4)[i]?) = (wd_HS_accept cA q0 q1 q2 q3 q4 q5 q6 q7 q8 q9 q10 q11 q12 q13 q14 q15 q16 q17 q18 q19 q20 q21 u0 u1 u2 u3 u4 u5 u6 i_latestStatus i_hill_changes).map some := rfl
          refine xv_afterI (ws' := (wd_HS_stone cA q0 q1 q2 q3 q4 q5 q6 q7 q8 q9 q10 q11 q12 q13 q14 q15 q16 q17 q18 q19 q20 q21 q22 q23 u0 u1 u2 u3 u4 u5 u6 i_hill_columns_many v7 v8 i_refusals a3 a4)) (isC := [0, 1]) (ps := [some 0, some 1, none, none, none, none]) (va_runV (As := [.int (Int32.ofInt v5)]) (rest := []) ⟨hx, hb, hml, hown, hts⟩ (c_HS_accept l ev dC dI cA q0 q1 q2 q3 q4 q5 q6 q7 q8 q9 q10 q11 q12 q13 q14 q15 q16 q17 q18 q19 q20 q21 u0 u1 u2 u3 u4 u5 u6 hg H.size) (cwV 1 hts (zgV zw_538 zw_540 zw_1 zw_104 zw_541) rfl rfl rfl hd_HS_accept ⟨Nat.le_of_ble_eq_true rfl, Nat.le_of_ble_eq_true rfl⟩) (xv_preV (T := TX10) (N := 16) hE hA hS hK hP hD (isC := [0, 1]) (by decide +kernel) hC (q0 := 0) (ci := 10) rfl rfl) rfl rfl hl.1 rfl (lv_room (Nat.le_of_ble_eq_true rfl)) dX10_stone_72 ⟨Nat.le_refl _, Nat.le_refl _⟩) hP hD hS hA (by decide +kernel) rfl hC rfl rfl (fun H locs hP hD hS => ?_)
          obtain rfl := Option.some.inj hf
          exact hret _ _ _ _ rfl dX10_stone_75 hP hD hS
        · refine lv_aload_n hx hb dX10_stone_53 rfl (lv_at hl 0 rfl) ?_
          refine lv_bipush (v := Int32.ofInt (-5)) hx hb dX10_stone_54 (by decide) ?_
          refine xe_d3 hf (fun v9 v10 a11 hg hf => ?_)
          have hC : ([0, 2] : List Nat).map (fun i => (wd_HS_stone cA q0 q1 q2 q3 q4 q5 q6 q7 q8 q9 q10 q11 q12 q13 q14 q15 q16 q17 q18 q19 q20 q21 q22 q23 u0 u1 u2 u3 u4 u5 u6 i_hill_columns_many i_latestStatus i_hill_changes i_refusals a3 a4)[i]?) = (wd_HS_refuse cA q0 q1 q2 q3 q4 q5 q6 q7 q8 q9 q10 q11 q12 u0 u1 u2 i_latestStatus i_refusals).map some := rfl
          refine xv_afterI (ws' := (wd_HS_stone cA q0 q1 q2 q3 q4 q5 q6 q7 q8 q9 q10 q11 q12 q13 q14 q15 q16 q17 q18 q19 q20 q21 q22 q23 u0 u1 u2 u3 u4 u5 u6 i_hill_columns_many v10 i_hill_changes a11 a3 a4)) (isC := [0, 2]) (ps := [some 0, none, some 1, none, none, none]) (va_runV (As := [.int (Int32.ofInt (-5))]) (rest := []) ⟨hx, hb, hml, hown, hts⟩ (c_HS_refuse l ev dC dI cA q0 q1 q2 q3 q4 q5 q6 q7 q8 q9 q10 q11 q12 u0 u1 u2 hg H.size) (cwV 1 hts (zgV zw_534 zw_536 zw_0 zw_104 zw_537) rfl rfl rfl hd_HS_refuse ⟨Nat.le_of_ble_eq_true rfl, Nat.le_of_ble_eq_true rfl⟩) (xv_preV (T := TX10) (N := 16) hE hA hS hK hP hD (isC := [0, 2]) (by decide +kernel) hC (q0 := 0) (ci := 10) rfl rfl) rfl rfl hl.1 rfl (lv_room (Nat.le_of_ble_eq_true rfl)) dX10_stone_56 ⟨Nat.le_refl _, Nat.le_refl _⟩) hP hD hS hA (by decide +kernel) rfl hC rfl rfl (fun H locs hP hD hS => ?_)
          obtain rfl := Option.some.inj hf
          exact hret _ _ _ _ rfl dX10_stone_59 hP hD hS
      · refine lv_aload_n hx hb dX10_stone_31 rfl (lv_at hl 0 rfl) ?_
        refine lv_bipush (v := Int32.ofInt (-2)) hx hb dX10_stone_32 (by decide) ?_
        refine xe_d3 hf (fun v12 v13 a14 hg hf => ?_)
        have hC : ([0, 2] : List Nat).map (fun i => (wd_HS_stone cA q0 q1 q2 q3 q4 q5 q6 q7 q8 q9 q10 q11 q12 q13 q14 q15 q16 q17 q18 q19 q20 q21 q22 q23 u0 u1 u2 u3 u4 u5 u6 i_hill_columns_many i_latestStatus i_hill_changes i_refusals i_hill_columns_heights i_hill_columns_weights)[i]?) = (wd_HS_refuse cA q0 q1 q2 q3 q4 q5 q6 q7 q8 q9 q10 q11 q12 u0 u1 u2 i_latestStatus i_refusals).map some := rfl
        refine xv_afterI (ws' := (wd_HS_stone cA q0 q1 q2 q3 q4 q5 q6 q7 q8 q9 q10 q11 q12 q13 q14 q15 q16 q17 q18 q19 q20 q21 q22 q23 u0 u1 u2 u3 u4 u5 u6 i_hill_columns_many v13 i_hill_changes a14 i_hill_columns_heights i_hill_columns_weights)) (isC := [0, 2]) (ps := [some 0, none, some 1, none, none, none]) (va_runV (As := [.int (Int32.ofInt (-2))]) (rest := []) ⟨hx, hb, hml, hown, hts⟩ (c_HS_refuse l ev dC dI cA q0 q1 q2 q3 q4 q5 q6 q7 q8 q9 q10 q11 q12 u0 u1 u2 hg H.size) (cwV 1 hts (zgV zw_534 zw_536 zw_0 zw_104 zw_537) rfl rfl rfl hd_HS_refuse ⟨Nat.le_of_ble_eq_true rfl, Nat.le_of_ble_eq_true rfl⟩) (xv_preV (T := TX10) (N := 16) hE hA hS hK hP hD (isC := [0, 2]) (by decide +kernel) hC (q0 := 0) (ci := 10) rfl rfl) rfl rfl hl.1 rfl (lv_room (Nat.le_of_ble_eq_true rfl)) dX10_stone_34 ⟨Nat.le_refl _, Nat.le_refl _⟩) hP hD hS hA (by decide +kernel) rfl hC rfl rfl (fun H locs hP hD hS => ?_)
        obtain rfl := Option.some.inj hf
        exact hret _ _ _ _ rfl dX10_stone_37 hP hD hS
    · exact b_11  _ _ _ _ _ _ _ _ hf hP hD hS (lv_sub hl [0] rfl)
theorem dX1_top_0 : decode cX1_top 0 = .ok (.aload_n 0, 1) := by decide +kernel
theorem dX1_top_1 : decode cX1_top 1 = .ok (.iload_n 1, 1) := by decide +kernel
theorem dX1_top_2 : decode cX1_top 2 = .ok (.invokevirtual 26, 3) := by decide +kernel
theorem dX1_top_5 : decode cX1_top 5 = .ok (.istore_n 2, 1) := by decide +kernel
theorem dX1_top_6 : decode cX1_top 6 = .ok (.iload_n 2, 1) := by decide +kernel
theorem dX1_top_7 : decode cX1_top 7 = .ok (.ifCond .le 19, 3) := by decide +kernel
theorem dX1_top_10 : decode cX1_top 10 = .ok (.aload_n 0, 1) := by decide +kernel
theorem dX1_top_11 : decode cX1_top 11 = .ok (.getfield 19, 3) := by decide +kernel
theorem dX1_top_14 : decode cX1_top 14 = .ok (.iload_n 1, 1) := by decide +kernel
theorem dX1_top_15 : decode cX1_top 15 = .ok (.bipush 10, 2) := by decide +kernel
theorem dX1_top_17 : decode cX1_top 17 = .ok (.imul, 1) := by decide +kernel
theorem dX1_top_18 : decode cX1_top 18 = .ok (.iload_n 2, 1) := by decide +kernel
theorem dX1_top_19 : decode cX1_top 19 = .ok (.iadd, 1) := by decide +kernel
theorem dX1_top_20 : decode cX1_top 20 = .ok (.iconst 1, 1) := by decide +kernel
theorem dX1_top_21 : decode cX1_top 21 = .ok (.isub, 1) := by decide +kernel
theorem dX1_top_22 : decode cX1_top 22 = .ok (.iaload, 1) := by decide +kernel
theorem dX1_top_23 : decode cX1_top 23 = .ok (.goto 4, 3) := by decide +kernel
theorem dX1_top_26 : decode cX1_top 26 = .ok (.iconst 0, 1) := by decide +kernel
theorem dX1_top_27 : decode cX1_top 27 = .ok (.ireturn, 1) := by decide +kernel
theorem zw_570 : (Jvm.Cond.code ({ cls := "HillSchool$Columns", name := "top", desc := "(I)I" } : Jvm.MethodName) prog_3_method_6_code (3 : Nat) (Option.some Jvm.ClassFile.FieldType.int)) ∈ zall := zmemG (zmj_2 227 rfl) rfl
theorem zw_571 : (Jvm.Cond.methodLink "HillSchool$Columns" (26 : Nat) ({ cls := "HillSchool$Columns", name := "high", desc := "(I)I" } : Jvm.MethodName)) ∈ zall := zmemG (zmj_2 228 rfl) rfl
abbrev w_Columns_top : List Cond := .code yX1_top cX1_top 3 (some .int) :: zall
abbrev rm_Columns_top : Room := { frames := 2, cells := 0, slots := 0, locals := 42 }
theorem hd_Columns_top : yX1_top.cls = "HillSchool$Columns" ∧ yX1_top.cls ≠ "java/lang/invoke/MethodHandle" ∧ yX1_top.cls ≠ "java/lang/invoke/VarHandle" ∧ (parseMethodDescriptor yX1_top.desc).map (fun d => d.parameters.length) = some 1 := by decide +kernel
def wd_Columns_top (cA : Nat → ClassId) (q0 q1 q2 : Nat) (i_many : Int) (i_heights : Nat → Int) (i_weights : Nat → Int)  : va_W := [(q0, .inr (1, [.int (Int32.ofInt i_many), .ref q1, .ref q2])), (q1, .inl (cA 0, 12, .inl (za i_heights))), (q2, .inl (cA 0, 120, .inl (za i_weights)))]
def wf_Columns_top (cA : Nat → ClassId) (q0 q1 q2 : Nat) (i_many : Int) (i_heights : Nat → Int) (i_weights : Nat → Int) (o : Int) : va_W := wd_Columns_top cA q0 q1 q2 i_many i_heights i_weights
def f_Columns_top (x1 : Int) (i_many : Int) (i_heights : Nat → Int) (i_weights : Nat → Int) : Option (Int) :=
  zd1 (f_Columns_high x1 i_many i_heights) fun v1 =>
  if zi_w v1 ≤ 0 then
    some 0
  else
    zn (x1 * 10) fun v2 =>
    zn (v2 + v1) fun v3 =>
    zn (v3 - 1) fun v4 =>
    zg 120 i_weights v4 fun v5 =>
    some v5
set_option maxHeartbeats 4000000 in
set_option maxRecDepth 100000 in
theorem c_Columns_top (l : Launch) (ev : zEv) (dC : Nat → ClassId) (dI : Nat → Nat → Nat) (cA : Nat → ClassId) (q0 q1 q2 : Nat) {x1 : Int} {i_many : Int} {i_heights : Nat → Int} {i_weights : Nat → Int} {out : Int} (hf : f_Columns_top x1 i_many i_heights i_weights = some out) : xc_I l ev (dC, dI) vwCl (tyl cA) yX1_top w_Columns_top rm_Columns_top [.ref q0, .int (Int32.ofInt x1)] (wd_Columns_top cA q0 q1 q2 i_many i_heights i_weights) (wf_Columns_top cA q0 q1 q2 i_many i_heights i_weights out) out := by
  refine xv_startI (cc := cX1_top) (maxL := 3) (rt := .int) (by decide +kernel) rfl (Nat.le_of_ble_eq_true rfl) ?_
  intro p e s m args below meth c A Q H ls hx hb hml hts hown hK hA hP hD hS hl hE hret
  have hown : s.vm.findClass "HillSchool$Columns" = some m.cls := hown
  have hz : ∀ w ∈ zall, w.before args s = true := fun w h => hts w (List.mem_cons_of_mem _ h)
  have hl : lv_has ls 3 [(0, .ref q0), (1, .int (Int32.ofInt x1))] := hl
  unfold f_Columns_top at hf
  refine lv_aload_n hx hb dX1_top_0 rfl (lv_at hl 0 rfl) ?_
  refine lv_iload_n hx hb dX1_top_1 rfl (lv_at hl 1 rfl) ?_
  refine xe_d1 hf (fun v1 hg hf => ?_)
  have hC : ([0, 1] : List Nat).map (fun i => (wd_Columns_top cA q0 q1 q2 i_many i_heights i_weights)[i]?) = (wd_Columns_high cA q0 q1 q2 i_many i_heights).map some := rfl
  refine xv_afterI (ws' := (wd_Columns_top cA q0 q1 q2 i_many i_heights i_weights)) (isC := [0, 1]) (ps := [some 0, some 1, none]) (va_runV (As := [.int (Int32.ofInt x1)]) (rest := []) ⟨hx, hb, hml, hown, hts⟩ (c_Columns_high l ev dC dI cA q0 q1 q2 hg H.size) (cwV 1 hts (zgV zw_571 zw_556 zw_557 zw_106 zw_558) rfl rfl rfl hd_Columns_high ⟨Nat.le_of_ble_eq_true rfl, Nat.le_of_ble_eq_true rfl⟩) (xv_preV (T := TX1) (N := 3) hE hA hS hK hP hD (isC := [0, 1]) (by decide +kernel) hC (q0 := 0) (ci := 1) rfl rfl) rfl rfl hl.1 rfl (lv_room (Nat.le_of_ble_eq_true rfl)) dX1_top_2 ⟨Nat.le_refl _, Nat.le_refl _⟩) hP hD hS hA (by decide +kernel) rfl hC rfl rfl (fun H locs hP hD hS => ?_)
  refine lv_istore_n (lv' := [(2, .int (Int32.ofInt v1)), (0, .ref q0), (1, .int (Int32.ofInt x1))]) hx hb dX1_top_5 rfl hl (by decide) rfl (fun ls hl => ?_)
  refine lv_iload_n hx hb dX1_top_6 rfl (lv_at hl 0 rfl) ?_
  refine xi_if_le (tgt := 26) hx hb dX1_top_7 (by decide) hf (fun hf => ?_) (fun hf => ?_)
  · refine lv_iconst (v := Int32.ofInt 0) hx hb dX1_top_26 rfl ?_
    obtain rfl := Option.some.inj hf
    exact hret _ _ _ _ rfl dX1_top_27 hP hD hS
  · refine lv_aload_n hx hb dX1_top_10 rfl (lv_at hl 1 rfl) ?_
    refine va_get (D := (dC, dI)) (ci := 1) (v := .ref q2) (C := RX1) (T := TX1) (N := 3) hx hb hz zi_X1 hown hK hP 0 rfl rfl 2 (by decide) (hz _ zw_150) (fun _ h9 => h9) rfl dX1_top_11 ?_
    refine lv_iload_n hx hb dX1_top_14 rfl (lv_at hl 2 rfl) ?_
    refine lv_bipush (v := Int32.ofInt 10) hx hb dX1_top_15 (by decide) ?_
    refine xi_imul hx hb dX1_top_17 hf (fun v2 hf => ?_)
    refine lv_iload_n hx hb dX1_top_18 rfl (lv_at hl 0 rfl) ?_
    refine xi_iadd hx hb dX1_top_19 hf (fun v3 hf => ?_)
    refine lv_iconst (v := Int32.ofInt 1) hx hb dX1_top_20 rfl ?_
    refine xi_isub hx hb dX1_top_21 hf (fun v4 hf => ?_)
    refine xi_iald hx hb hK hP 2 0 rfl rfl dX1_top_22 hf (fun v5 hf => ?_)
    refine lv_goto (tgt := 27) hx hb dX1_top_23 (by decide) ?_
    obtain rfl := Option.some.inj hf
    exact hret _ _ _ _ rfl dX1_top_27 hP hD hS
theorem dX1_take_0 : decode cX1_take 0 = .ok (.aload_n 0, 1) := by decide +kernel
theorem dX1_take_1 : decode cX1_take 1 = .ok (.iload_n 1, 1) := by decide +kernel
theorem dX1_take_2 : decode cX1_take 2 = .ok (.invokevirtual 34, 3) := by decide +kernel
theorem dX1_take_5 : decode cX1_take 5 = .ok (.istore_n 2, 1) := by decide +kernel
theorem dX1_take_6 : decode cX1_take 6 = .ok (.aload_n 0, 1) := by decide +kernel
theorem dX1_take_7 : decode cX1_take 7 = .ok (.iload_n 1, 1) := by decide +kernel
theorem dX1_take_8 : decode cX1_take 8 = .ok (.invokevirtual 26, 3) := by decide +kernel
theorem dX1_take_11 : decode cX1_take 11 = .ok (.ifCond .le 13, 3) := by decide +kernel
theorem dX1_take_14 : decode cX1_take 14 = .ok (.aload_n 0, 1) := by decide +kernel
theorem dX1_take_15 : decode cX1_take 15 = .ok (.getfield 15, 3) := by decide +kernel
theorem dX1_take_18 : decode cX1_take 18 = .ok (.iload_n 1, 1) := by decide +kernel
theorem dX1_take_19 : decode cX1_take 19 = .ok (.dup2, 1) := by decide +kernel
theorem dX1_take_20 : decode cX1_take 20 = .ok (.iaload, 1) := by decide +kernel
theorem dX1_take_21 : decode cX1_take 21 = .ok (.iconst 1, 1) := by decide +kernel
theorem dX1_take_22 : decode cX1_take 22 = .ok (.isub, 1) := by decide +kernel
theorem dX1_take_23 : decode cX1_take 23 = .ok (.iastore, 1) := by decide +kernel
theorem dX1_take_24 : decode cX1_take 24 = .ok (.iload_n 2, 1) := by decide +kernel
theorem dX1_take_25 : decode cX1_take 25 = .ok (.ireturn, 1) := by decide +kernel
theorem zw_566 : (Jvm.Cond.code ({ cls := "HillSchool$Columns", name := "take", desc := "(I)I" } : Jvm.MethodName) prog_3_method_10_code (3 : Nat) (Option.some Jvm.ClassFile.FieldType.int)) ∈ zall := zmemG (zmj_2 223 rfl) rfl
theorem zw_567 : (Jvm.Cond.methodLink "HillSchool$Columns" (34 : Nat) ({ cls := "HillSchool$Columns", name := "top", desc := "(I)I" } : Jvm.MethodName)) ∈ zall := zmemG (zmj_2 224 rfl) rfl
theorem zw_568 : (Jvm.Cond.instanceMethod ({ cls := "HillSchool$Columns", name := "top", desc := "(I)I" } : Jvm.MethodName)) ∈ zall := zmemG (zmj_2 225 rfl) rfl
theorem zw_569 : (Jvm.Cond.selects "HillSchool$Columns" ({ cls := "HillSchool$Columns", name := "top", desc := "(I)I" } : Jvm.MethodName) ({ cls := "HillSchool$Columns", name := "top", desc := "(I)I" } : Jvm.MethodName)) ∈ zall := zmemG (zmj_2 226 rfl) rfl
abbrev w_Columns_take : List Cond := .code yX1_take cX1_take 3 (some .int) :: zall
abbrev rm_Columns_take : Room := { frames := 3, cells := 0, slots := 0, locals := 64 }
theorem hd_Columns_take : yX1_take.cls = "HillSchool$Columns" ∧ yX1_take.cls ≠ "java/lang/invoke/MethodHandle" ∧ yX1_take.cls ≠ "java/lang/invoke/VarHandle" ∧ (parseMethodDescriptor yX1_take.desc).map (fun d => d.parameters.length) = some 1 := by decide +kernel
def wd_Columns_take (cA : Nat → ClassId) (q0 q1 q2 : Nat) (i_many : Int) (i_weights : Nat → Int) (i_heights : Nat → Int) : va_W := [(q0, .inr (1, [.int (Int32.ofInt i_many), .ref q1, .ref q2])), (q1, .inl (cA 0, 12, .inl (za i_heights))), (q2, .inl (cA 0, 120, .inl (za i_weights)))]
def wf_Columns_take (cA : Nat → ClassId) (q0 q1 q2 : Nat) (i_many : Int) (i_weights : Nat → Int) (o : Int × (Nat → Int)) : va_W := wd_Columns_take cA q0 q1 q2 i_many i_weights o.2
def f_Columns_take (x1 : Int) (i_many : Int) (i_weights : Nat → Int) (i_heights : Nat → Int) : Option (Int × (Nat → Int)) :=
  zd1 (f_Columns_top x1 i_many i_heights i_weights) fun v1 =>
  zd1 (f_Columns_high x1 i_many i_heights) fun v2 =>
  if zi_w v2 ≤ 0 then
    some (v1, i_heights)
  else
    zg 12 i_heights x1 fun v3 =>
    zn (v3 - 1) fun v4 =>
    zs 12 i_heights x1 v4 fun a5 =>
    some (v1, a5)
set_option maxHeartbeats 4000000 in
set_option maxRecDepth 100000 in
theorem c_Columns_take (l : Launch) (ev : zEv) (dC : Nat → ClassId) (dI : Nat → Nat → Nat) (cA : Nat → ClassId) (q0 q1 q2 : Nat) {x1 : Int} {i_many : Int} {i_weights : Nat → Int} {i_heights : Nat → Int} {out : Int × (Nat → Int)} (hf : f_Columns_take x1 i_many i_weights i_heights = some out) : xc_I l ev (dC, dI) vwCl (tyl cA) yX1_take w_Columns_take rm_Columns_take [.ref q0, .int (Int32.ofInt x1)] (wd_Columns_take cA q0 q1 q2 i_many i_weights i_heights) (wf_Columns_take cA q0 q1 q2 i_many i_weights out) out.1 := by
  refine xv_startI (cc := cX1_take) (maxL := 3) (rt := .int) (by decide +kernel) rfl (Nat.le_of_ble_eq_true rfl) ?_
  intro p e s m args below meth c A Q H ls hx hb hml hts hown hK hA hP hD hS hl hE hret
  have hown : s.vm.findClass "HillSchool$Columns" = some m.cls := hown
  have hz : ∀ w ∈ zall, w.before args s = true := fun w h => hts w (List.mem_cons_of_mem _ h)
  have hl : lv_has ls 3 [(0, .ref q0), (1, .int (Int32.ofInt x1))] := hl
  unfold f_Columns_take at hf
  refine lv_aload_n hx hb dX1_take_0 rfl (lv_at hl 0 rfl) ?_
  refine lv_iload_n hx hb dX1_take_1 rfl (lv_at hl 1 rfl) ?_
  refine xe_d1 hf (fun v1 hg hf => ?_)
  have hC : ([0, 1, 2] : List Nat).map (fun i => (wd_Columns_take cA q0 q1 q2 i_many i_weights i_heights)[i]?) = (wd_Columns_top cA q0 q1 q2 i_many i_heights i_weights).map some := rfl
  refine xv_afterI (ws' := (wd_Columns_take cA q0 q1 q2 i_many i_weights i_heights)) (isC := [0, 1, 2]) (ps := [some 0, some 1, some 2]) (va_runV (As := [.int (Int32.ofInt x1)]) (rest := []) ⟨hx, hb, hml, hown, hts⟩ (c_Columns_top l ev dC dI cA q0 q1 q2 hg H.size) (cwV 1 hts (zgV zw_567 zw_568 zw_569 zw_106 zw_570) rfl rfl rfl hd_Columns_top ⟨Nat.le_of_ble_eq_true rfl, Nat.le_of_ble_eq_true rfl⟩) (xv_preV (T := TX1) (N := 3) hE hA hS hK hP hD (isC := [0, 1, 2]) (by decide +kernel) hC (q0 := 0) (ci := 1) rfl rfl) rfl rfl hl.1 rfl (lv_room (Nat.le_of_ble_eq_true rfl)) dX1_take_2 ⟨Nat.le_refl _, Nat.le_refl _⟩) hP hD hS hA (by decide +kernel) rfl hC rfl rfl (fun H locs hP hD hS => ?_)
  refine lv_istore_n (lv' := [(2, .int (Int32.ofInt v1)), (0, .ref q0), (1, .int (Int32.ofInt x1))]) hx hb dX1_take_5 rfl hl (by decide) rfl (fun ls hl => ?_)
  refine lv_aload_n hx hb dX1_take_6 rfl (lv_at hl 1 rfl) ?_
  refine lv_iload_n hx hb dX1_take_7 rfl (lv_at hl 2 rfl) ?_
  refine xe_d1 hf (fun v2 hg hf => ?_)
  have hC : ([0, 1] : List Nat).map (fun i => (wd_Columns_take cA q0 q1 q2 i_many i_weights i_heights)[i]?) = (wd_Columns_high cA q0 q1 q2 i_many i_heights).map some := rfl
  refine xv_afterI (ws' := (wd_Columns_take cA q0 q1 q2 i_many i_weights i_heights)) (isC := [0, 1]) (ps := [some 0, some 1, none]) (va_runV (As := [.int (Int32.ofInt x1)]) (rest := []) ⟨hx, hb, hml, hown, hts⟩ (c_Columns_high l ev dC dI cA q0 q1 q2 hg H.size) (cwV 1 hts (zgV zw_571 zw_556 zw_557 zw_106 zw_558) rfl rfl rfl hd_Columns_high ⟨Nat.le_of_ble_eq_true rfl, Nat.le_of_ble_eq_true rfl⟩) (xv_preV (T := TX1) (N := 3) hE hA hS hK hP hD (isC := [0, 1]) (by decide +kernel) hC (q0 := 0) (ci := 1) rfl rfl) rfl rfl hl.1 rfl (lv_room (Nat.le_of_ble_eq_true rfl)) dX1_take_8 ⟨Nat.le_refl _, Nat.le_refl _⟩) hP hD hS hA (by decide +kernel) rfl hC rfl rfl (fun H locs hP hD hS => ?_)
  refine xi_if_le (tgt := 24) hx hb dX1_take_11 (by decide) hf (fun hf => ?_) (fun hf => ?_)
  · refine lv_iload_n hx hb dX1_take_24 rfl (lv_at hl 0 rfl) ?_
    obtain rfl := Option.some.inj hf
    exact hret _ _ _ _ rfl dX1_take_25 hP hD hS
  · refine lv_aload_n hx hb dX1_take_14 rfl (lv_at hl 1 rfl) ?_
    refine va_get (D := (dC, dI)) (ci := 1) (v := .ref q1) (C := RX1) (T := TX1) (N := 3) hx hb hz zi_X1 hown hK hP 0 rfl rfl 1 (by decide) (hz _ zw_149) (fun _ h9 => h9) rfl dX1_take_15 ?_
    refine lv_iload_n hx hb dX1_take_18 rfl (lv_at hl 2 rfl) ?_
    refine lv_dup2_11 hx hb dX1_take_19 rfl rfl ?_
    refine xi_iald hx hb hK hP 1 0 rfl rfl dX1_take_20 hf (fun v3 hf => ?_)
    refine lv_iconst (v := Int32.ofInt 1) hx hb dX1_take_21 rfl ?_
    refine xi_isub hx hb dX1_take_22 hf (fun v4 hf => ?_)
    refine xi_iast hx hb hK hP hD hS 1 0 rfl rfl dX1_take_23 hf (fun a5 H locs hP hD hS hf => ?_)
    have hP : va_P (dC, dI) vwCl (wd_Columns_take cA q0 q1 q2 i_many i_weights a5) H := hP
    have hD : va_D A (wd_Columns_take cA q0 q1 q2 i_many i_weights a5) := hD
    refine lv_iload_n hx hb dX1_take_24 rfl (lv_at hl 0 rfl) ?_
    obtain rfl := Option.some.inj hf
    exact hret _ _ _ _ rfl dX1_take_25 hP hD hS
theorem dX10_lift_0 : decode cX10_lift 0 = .ok (.aload_n 0, 1) := by decide +kernel
theorem dX10_lift_1 : decode cX10_lift 1 = .ok (.getfield 10, 3) := by decide +kernel
theorem dX10_lift_4 : decode cX10_lift 4 = .ok (.getfield 99, 3) := by decide +kernel
theorem dX10_lift_7 : decode cX10_lift 7 = .ok (.iload_n 1, 1) := by decide +kernel
theorem dX10_lift_8 : decode cX10_lift 8 = .ok (.invokevirtual 122, 3) := by decide +kernel
theorem dX10_lift_11 : decode cX10_lift 11 = .ok (.ifCond .ne 10, 3) := by decide +kernel
theorem dX10_lift_14 : decode cX10_lift 14 = .ok (.aload_n 0, 1) := by decide +kernel
theorem dX10_lift_15 : decode cX10_lift 15 = .ok (.bipush (-2), 2) := by decide +kernel
theorem dX10_lift_17 : decode cX10_lift 17 = .ok (.invokevirtual 109, 3) := by decide +kernel
theorem dX10_lift_20 : decode cX10_lift 20 = .ok (.ireturn, 1) := by decide +kernel
theorem dX10_lift_21 : decode cX10_lift 21 = .ok (.aload_n 0, 1) := by decide +kernel
theorem dX10_lift_22 : decode cX10_lift 22 = .ok (.getfield 10, 3) := by decide +kernel
theorem dX10_lift_25 : decode cX10_lift 25 = .ok (.getfield 99, 3) := by decide +kernel
theorem dX10_lift_28 : decode cX10_lift 28 = .ok (.iload_n 1, 1) := by decide +kernel
theorem dX10_lift_29 : decode cX10_lift 29 = .ok (.invokevirtual 130, 3) := by decide +kernel
theorem dX10_lift_32 : decode cX10_lift 32 = .ok (.ifCond .ne 10, 3) := by decide +kernel
theorem dX10_lift_35 : decode cX10_lift 35 = .ok (.aload_n 0, 1) := by decide +kernel
theorem dX10_lift_36 : decode cX10_lift 36 = .ok (.bipush (-3), 2) := by decide +kernel
theorem dX10_lift_38 : decode cX10_lift 38 = .ok (.invokevirtual 109, 3) := by decide +kernel
theorem dX10_lift_41 : decode cX10_lift 41 = .ok (.ireturn, 1) := by decide +kernel
theorem dX10_lift_42 : decode cX10_lift 42 = .ok (.aload_n 0, 1) := by decide +kernel
theorem dX10_lift_43 : decode cX10_lift 43 = .ok (.aload_n 0, 1) := by decide +kernel
theorem dX10_lift_44 : decode cX10_lift 44 = .ok (.getfield 10, 3) := by decide +kernel
theorem dX10_lift_47 : decode cX10_lift 47 = .ok (.getfield 99, 3) := by decide +kernel
theorem dX10_lift_50 : decode cX10_lift 50 = .ok (.iload_n 1, 1) := by decide +kernel
theorem dX10_lift_51 : decode cX10_lift 51 = .ok (.invokevirtual 133, 3) := by decide +kernel
theorem dX10_lift_54 : decode cX10_lift 54 = .ok (.invokevirtual 119, 3) := by decide +kernel
theorem dX10_lift_57 : decode cX10_lift 57 = .ok (.ireturn, 1) := by decide +kernel
theorem zw_562 : (Jvm.Cond.code ({ cls := "HillSchool", name := "lift", desc := "(I)I" } : Jvm.MethodName) prog_1_method_4_code (2 : Nat) (Option.some Jvm.ClassFile.FieldType.int)) ∈ zall := zmemG (zmj_2 219 rfl) rfl
theorem zw_563 : (Jvm.Cond.methodLink "HillSchool" (133 : Nat) ({ cls := "HillSchool$Columns", name := "take", desc := "(I)I" } : Jvm.MethodName)) ∈ zall := zmemG (zmj_2 220 rfl) rfl
theorem zw_564 : (Jvm.Cond.instanceMethod ({ cls := "HillSchool$Columns", name := "take", desc := "(I)I" } : Jvm.MethodName)) ∈ zall := zmemG (zmj_2 221 rfl) rfl
theorem zw_565 : (Jvm.Cond.selects "HillSchool$Columns" ({ cls := "HillSchool$Columns", name := "take", desc := "(I)I" } : Jvm.MethodName) ({ cls := "HillSchool$Columns", name := "take", desc := "(I)I" } : Jvm.MethodName)) ∈ zall := zmemG (zmj_2 222 rfl) rfl
abbrev w_HS_lift : List Cond := .code yX10_lift cX10_lift 2 (some .int) :: zall
abbrev rm_HS_lift : Room := { frames := 4, cells := 0, slots := 0, locals := 86 }
theorem hd_HS_lift : yX10_lift.cls = "HillSchool" ∧ yX10_lift.cls ≠ "java/lang/invoke/MethodHandle" ∧ yX10_lift.cls ≠ "java/lang/invoke/VarHandle" ∧ (parseMethodDescriptor yX10_lift.desc).map (fun d => d.parameters.length) = some 1 := by decide +kernel
def wd_HS_lift (cA : Nat → ClassId) (q0 q1 q2 q3 q4 q5 q6 q7 q8 q9 q10 q11 q12 q13 q14 q15 q16 q17 q18 q19 q20 q21 q22 q23 : Nat) (u0 u1 u2 u3 u4 u5 u6 : Int) (i_hill_columns_many : Int) (i_hill_columns_weights : Nat → Int) (i_latestStatus : Int) (i_hill_changes : Int) (i_refusals : Nat → Int) (i_hill_columns_heights : Nat → Int) : va_W := [(q0, .inr (10, [.ref q1, .ref q2, .ref q3, .ref q4, .int (Int32.ofInt u0), .int (Int32.ofInt u1), .int (Int32.ofInt u2), .ref q5, .int (Int32.ofInt i_latestStatus), .ref q6, .ref q7, .ref q8, .ref q9, .ref q10, .ref q11, .ref q12])), (q1, .inr (2, [.ref q13, .int (Int32.ofInt u3), .ref q14, .ref q15, .ref q16, .int (Int32.ofInt u4), .ref q17, .ref q18, .ref q19, .int (Int32.ofInt u5), .ref q20, .ref q21, .int (Int32.ofInt u6), .int (Int32.ofInt i_hill_changes)])), (q5, .inl (cA 0, 7, .inl (za i_refusals))), (q13, .inr (1, [.int (Int32.ofInt i_hill_columns_many), .ref q22, .ref q23])), (q22, .inl (cA 0, 12, .inl (za i_hill_columns_heights))), (q23, .inl (cA 0, 120, .inl (za i_hill_columns_weights)))]
def wf_HS_lift (cA : Nat → ClassId) (q0 q1 q2 q3 q4 q5 q6 q7 q8 q9 q10 q11 q12 q13 q14 q15 q16 q17 q18 q19 q20 q21 q22 q23 : Nat) (u0 u1 u2 u3 u4 u5 u6 : Int) (i_hill_columns_many : Int) (i_hill_columns_weights : Nat → Int) (o : Int × Int × Int × (Nat → Int) × (Nat → Int)) : va_W := wd_HS_lift cA q0 q1 q2 q3 q4 q5 q6 q7 q8 q9 q10 q11 q12 q13 q14 q15 q16 q17 q18 q19 q20 q21 q22 q23 u0 u1 u2 u3 u4 u5 u6 i_hill_columns_many i_hill_columns_weights o.2.1 o.2.2.1 o.2.2.2.1 o.2.2.2.2
def f_HS_lift (x1 : Int) (i_hill_columns_many : Int) (i_hill_columns_weights : Nat → Int) (i_latestStatus : Int) (i_hill_changes : Int) (i_refusals : Nat → Int) (i_hill_columns_heights : Nat → Int) : Option (Int × Int × Int × (Nat → Int) × (Nat → Int)) :=
  zd1 (f_Columns_has x1 i_hill_columns_many) fun v1 =>
  if zi_w v1 ≠ 0 then
    zd1 (f_Columns_high x1 i_hill_columns_many i_hill_columns_heights) fun v2 =>
    if zi_w v2 ≠ 0 then
      zd2 (f_Columns_take x1 i_hill_columns_many i_hill_columns_weights i_hill_columns_heights) fun v3 a4 =>
      zd3 (f_HS_accept v3 i_latestStatus i_hill_changes) fun v5 v6 v7 =>
      some (v5, v6, v7, i_refusals, a4)
    else
      zd3 (f_HS_refuse (-3) i_latestStatus i_refusals) fun v8 v9 a10 =>
      some (v8, v9, i_hill_changes, a10, i_hill_columns_heights)
  else
    zd3 (f_HS_refuse (-2) i_latestStatus i_refusals) fun v11 v12 a13 =>
    some (v11, v12, i_hill_changes, a13, i_hill_columns_heights)
set_option maxHeartbeats 4000000 in
set_option maxRecDepth 100000 in
theorem c_HS_lift (l : Launch) (ev : zEv) (dC : Nat → ClassId) (dI : Nat → Nat → Nat) (cA : Nat → ClassId) (q0 q1 q2 q3 q4 q5 q6 q7 q8 q9 q10 q11 q12 q13 q14 q15 q16 q17 q18 q19 q20 q21 q22 q23 : Nat) (u0 u1 u2 u3 u4 u5 u6 : Int) {x1 : Int} {i_hill_columns_many : Int} {i_hill_columns_weights : Nat → Int} {i_latestStatus : Int} {i_hill_changes : Int} {i_refusals : Nat → Int} {i_hill_columns_heights : Nat → Int} {out : Int × Int × Int × (Nat → Int) × (Nat → Int)} (hf : f_HS_lift x1 i_hill_columns_many i_hill_columns_weights i_latestStatus i_hill_changes i_refusals i_hill_columns_heights = some out) : xc_I l ev (dC, dI) vwCl (tyl cA) yX10_lift w_HS_lift rm_HS_lift [.ref q0, .int (Int32.ofInt x1)] (wd_HS_lift cA q0 q1 q2 q3 q4 q5 q6 q7 q8 q9 q10 q11 q12 q13 q14 q15 q16 q17 q18 q19 q20 q21 q22 q23 u0 u1 u2 u3 u4 u5 u6 i_hill_columns_many i_hill_columns_weights i_latestStatus i_hill_changes i_refusals i_hill_columns_heights) (wf_HS_lift cA q0 q1 q2 q3 q4 q5 q6 q7 q8 q9 q10 q11 q12 q13 q14 q15 q16 q17 q18 q19 q20 q21 q22 q23 u0 u1 u2 u3 u4 u5 u6 i_hill_columns_many i_hill_columns_weights out) out.1 := by
  refine xv_startI (cc := cX10_lift) (maxL := 2) (rt := .int) (by decide +kernel) rfl (Nat.le_of_ble_eq_true rfl) ?_
  intro p e s m args below meth c A Q H ls hx hb hml hts hown hK hA hP hD hS hl hE hret
  have hown : s.vm.findClass "HillSchool" = some m.cls := hown
  have hz : ∀ w ∈ zall, w.before args s = true := fun w h => hts w (List.mem_cons_of_mem _ h)
  have hl : lv_has ls 2 [(0, .ref q0), (1, .int (Int32.ofInt x1))] := hl
  unfold f_HS_lift at hf
  refine lv_aload_n hx hb dX10_lift_0 rfl (lv_at hl 0 rfl) ?_
  refine va_get (D := (dC, dI)) (ci := 10) (v := .ref q1) (C := RX10) (T := TX10) (N := 16) hx hb hz zi_X10 hown hK hP 0 rfl rfl 0 (by decide) (hz _ zw_477) (fun _ h9 => h9) rfl dX10_lift_1 ?_
  refine va_getN (D := (dC, dI)) (ci := 2) (v := .ref q13) (C := RX2) (T := TX2) (N := 14) hx hb hz zi_X2 hown hK hP 1 rfl rfl 0 (by decide) (va_Nw.use rfl (hE.1.1 _ zw_169)) (fun _ h9 => h9) rfl dX10_lift_4 ?_
  refine lv_iload_n hx hb dX10_lift_7 rfl (lv_at hl 1 rfl) ?_
  refine xe_d1 hf (fun v1 hg hf => ?_)
  have hC : ([3] : List Nat).map (fun i => (wd_HS_lift cA q0 q1 q2 q3 q4 q5 q6 q7 q8 q9 q10 q11 q12 q13 q14 q15 q16 q17 q18 q19 q20 q21 q22 q23 u0 u1 u2 u3 u4 u5 u6 i_hill_columns_many i_hill_columns_weights i_latestStatus i_hill_changes i_refusals i_hill_columns_heights)[i]?) = (wd_Columns_has cA q13 q22 q23 i_hill_columns_many).map some := rfl
  refine xv_afterI (ws' := (wd_HS_lift cA q0 q1 q2 q3 q4 q5 q6 q7 q8 q9 q10 q11 q12 q13 q14 q15 q16 q17 q18 q19 q20 q21 q22 q23 u0 u1 u2 u3 u4 u5 u6 i_hill_columns_many i_hill_columns_weights i_latestStatus i_hill_changes i_refusals i_hill_columns_heights)) (isC := [3]) (ps := [none, none, none, some 0, none, none]) (va_runV (As := [.int (Int32.ofInt x1)]) (rest := []) ⟨hx, hb, hml, hown, hts⟩ (c_Columns_has l ev dC dI cA q13 q22 q23 hg H.size) (cwV 1 hts (zgV zw_546 zw_547 zw_548 zw_106 zw_549) rfl rfl rfl hd_Columns_has ⟨Nat.le_of_ble_eq_true rfl, Nat.le_of_ble_eq_true rfl⟩) (xv_preV (T := TX1) (N := 3) hE hA hS hK hP hD (isC := [3]) (by decide +kernel) hC (q0 := 3) (ci := 1) rfl rfl) rfl rfl hl.1 rfl (lv_room (Nat.le_of_ble_eq_true rfl)) dX10_lift_8 ⟨Nat.le_refl _, Nat.le_refl _⟩) hP hD hS hA (by decide +kernel) rfl hC rfl rfl (fun H locs hP hD hS => ?_)
  refine xi_if_ne (tgt := 21) hx hb dX10_lift_11 (by decide) hf (fun hf => ?_) (fun hf => ?_)
  · refine lv_aload_n hx hb dX10_lift_21 rfl (lv_at hl 0 rfl) ?_
    refine va_get (D := (dC, dI)) (ci := 10) (v := .ref q1) (C := RX10) (T := TX10) (N := 16) hx hb hz zi_X10 hown hK hP 0 rfl rfl 0 (by decide) (hz _ zw_477) (fun _ h9 => h9) rfl dX10_lift_22 ?_
    refine va_getN (D := (dC, dI)) (ci := 2) (v := .ref q13) (C := RX2) (T := TX2) (N := 14) hx hb hz zi_X2 hown hK hP 1 rfl rfl 0 (by decide) (va_Nw.use rfl (hE.1.1 _ zw_169)) (fun _ h9 => h9) rfl dX10_lift_25 ?_
    refine lv_iload_n hx hb dX10_lift_28 rfl (lv_at hl 1 rfl) ?_
    refine xe_d1 hf (fun v2 hg hf => ?_)
    have hC : ([3, 4] : List Nat).map (fun i => (wd_HS_lift cA q0 q1 q2 q3 q4 q5 q6 q7 q8 q9 q10 q11 q12 q13 q14 q15 q16 q17 q18 q19 q20 q21 q22 q23 u0 u1 u2 u3 u4 u5 u6 i_hill_columns_many i_hill_columns_weights i_latestStatus i_hill_changes i_refusals i_hill_columns_heights)[i]?) = (wd_Columns_high cA q13 q22 q23 i_hill_columns_many i_hill_columns_heights).map some := rfl
    refine xv_afterI (ws' := (wd_HS_lift cA q0 q1 q2 q3 q4 q5 q6 q7 q8 q9 q10 q11 q12 q13 q14 q15 q16 q17 q18 q19 q20 q21 q22 q23 u0 u1 u2 u3 u4 u5 u6 i_hill_columns_many i_hill_columns_weights i_latestStatus i_hill_changes i_refusals i_hill_columns_heights)) (isC := [3, 4]) (ps := [none, none, none, some 0, some 1, none]) (va_runV (As := [.int (Int32.ofInt x1)]) (rest := []) ⟨hx, hb, hml, hown, hts⟩ (c_Columns_high l ev dC dI cA q13 q22 q23 hg H.size) (cwV 1 hts (zgV zw_555 zw_556 zw_557 zw_106 zw_558) rfl rfl rfl hd_Columns_high ⟨Nat.le_of_ble_eq_true rfl, Nat.le_of_ble_eq_true rfl⟩) (xv_preV (T := TX1) (N := 3) hE hA hS hK hP hD (isC := [3, 4]) (by decide +kernel) hC (q0 := 3) (ci := 1) rfl rfl) rfl rfl hl.1 rfl (lv_room (Nat.le_of_ble_eq_true rfl)) dX10_lift_29 ⟨Nat.le_refl _, Nat.le_refl _⟩) hP hD hS hA (by decide +kernel) rfl hC rfl rfl (fun H locs hP hD hS => ?_)
    refine xi_if_ne (tgt := 42) hx hb dX10_lift_32 (by decide) hf (fun hf => ?_) (fun hf => ?_)
    · refine lv_aload_n hx hb dX10_lift_42 rfl (lv_at hl 0 rfl) ?_
      refine lv_aload_n hx hb dX10_lift_43 rfl (lv_at hl 0 rfl) ?_
      refine va_get (D := (dC, dI)) (ci := 10) (v := .ref q1) (C := RX10) (T := TX10) (N := 16) hx hb hz zi_X10 hown hK hP 0 rfl rfl 0 (by decide) (hz _ zw_477) (fun _ h9 => h9) rfl dX10_lift_44 ?_
      refine va_getN (D := (dC, dI)) (ci := 2) (v := .ref q13) (C := RX2) (T := TX2) (N := 14) hx hb hz zi_X2 hown hK hP 1 rfl rfl 0 (by decide) (va_Nw.use rfl (hE.1.1 _ zw_169)) (fun _ h9 => h9) rfl dX10_lift_47 ?_
      refine lv_iload_n hx hb dX10_lift_50 rfl (lv_at hl 1 rfl) ?_
      refine xe_d2 hf (fun v3 a4 hg hf => ?_)
      have hC : ([3, 4, 5] : List Nat).map (fun i => (wd_HS_lift cA q0 q1 q2 q3 q4 q5 q6 q7 q8 q9 q10 q11 q12 q13 q14 q15 q16 q17 q18 q19 q20 q21 q22 q23 u0 u1 u2 u3 u4 u5 u6 i_hill_columns_many i_hill_columns_weights i_latestStatus i_hill_changes i_refusals i_hill_columns_heights)[i]?) = (wd_Columns_take cA q13 q22 q23 i_hill_columns_many i_hill_columns_weights i_hill_columns_heights).map some := rfl
      refine xv_afterI (ws' := (wd_HS_lift cA q0 q1 q2 q3 q4 q5 q6 q7 q8 q9 q10 q11 q12 q13 q14 q15 q16 q17 q18 q19 q20 q21 q22 q23 u0 u1 u2 u3 u4 u5 u6 i_hill_columns_many i_hill_columns_weights i_latestStatus i_hill_changes i_refusals a4)) (isC := [3, 4, 5]) (ps := [none, none, none, some 0, some 1, some 2]) (va_runV (As := [.int (Int32.ofInt x1)]) (rest := [.ref q0]) ⟨hx, hb, hml, hown, hts⟩ (c_Columns_take l ev dC dI cA q13 q22 q23 hg H.size) (cwV 1 hts (zgV zw_563 zw_564 zw_565 zw_106 zw_566) rfl rfl rfl hd_Columns_take ⟨Nat.le_of_ble_eq_true rfl, Nat.le_of_ble_eq_true rfl⟩) (xv_preV (T := TX1) (N := 3) hE hA hS hK hP hD (isC := [3, 4, 5]) (by decide +kernel) hC (q0 := 3) (ci := 1) rfl rfl) rfl rfl hl.1 rfl (lv_room (Nat.le_of_ble_eq_true rfl)) dX10_lift_51 ⟨Nat.le_refl _, Nat.le_refl _⟩) hP hD hS hA (by decide +kernel) rfl hC rfl rfl (fun H locs hP hD hS => ?_)
      refine xe_d3 hf (fun v5 v6 v7 hg hf => ?_)
      have hC : ([0, 1] : List Nat).map (fun i => (wd_HS_lift cA q0 q1 q2 q3 q4 q5 q6 q7 q8 q9 q10 q11 q12 q13 q14 q15 q16 q17 q18 q19 q20 q21 q22 q23 u0 u1 u2 u3 u4 u5 u6 i_hill_columns_many i_hill_columns_weights i_latestStatus i_hill_changes i_refusals a4)[i]?) = (wd_HS_accept cA q0 q1 q2 q3 q4 q5 q6 q7 q8 q9 q10 q11 q12 q13 q14 q15 q16 q17 q18 q19 q20 q21 u0 u1 u2 u3 u4 u5 u6 i_latestStatus i_hill_changes).map some := rfl
      refine xv_afterI (ws' := (wd_HS_lift cA q0 q1 q2 q3 q4 q5 q6 q7 q8 q9 q10 q11 q12 q13 q14 q15 q16 q17 q18 q19 q20 q21 q22 q23 u0 u1 u2 u3 u4 u5 u6 i_hill_columns_many i_hill_columns_weights v6 v7 i_refusals a4)) (isC := [0, 1]) (ps := [some 0, some 1, none, none, none, none]) (va_runV (As := [.int (Int32.ofInt v3)]) (rest := []) ⟨hx, hb, hml, hown, hts⟩ (c_HS_accept l ev dC dI cA q0 q1 q2 q3 q4 q5 q6 q7 q8 q9 q10 q11 q12 q13 q14 q15 q16 q17 q18 q19 q20 q21 u0 u1 u2 u3 u4 u5 u6 hg H.size) (cwV 1 hts (zgV zw_538 zw_540 zw_1 zw_104 zw_541) rfl rfl rfl hd_HS_accept ⟨Nat.le_of_ble_eq_true rfl, Nat.le_of_ble_eq_true rfl⟩) (xv_preV (T := TX10) (N := 16) hE hA hS hK hP hD (isC := [0, 1]) (by decide +kernel) hC (q0 := 0) (ci := 10) rfl rfl) rfl rfl hl.1 rfl (lv_room (Nat.le_of_ble_eq_true rfl)) dX10_lift_54 ⟨Nat.le_refl _, Nat.le_refl _⟩) hP hD hS hA (by decide +kernel) rfl hC rfl rfl (fun H locs hP hD hS => ?_)
      obtain rfl := Option.some.inj hf
      exact hret _ _ _ _ rfl dX10_lift_57 hP hD hS
    · refine lv_aload_n hx hb dX10_lift_35 rfl (lv_at hl 0 rfl) ?_
      refine lv_bipush (v := Int32.ofInt (-3)) hx hb dX10_lift_36 (by decide) ?_
      refine xe_d3 hf (fun v8 v9 a10 hg hf => ?_)
      have hC : ([0, 2] : List Nat).map (fun i => (wd_HS_lift cA q0 q1 q2 q3 q4 q5 q6 q7 q8 q9 q10 q11 q12 q13 q14 q15 q16 q17 q18 q19 q20 q21 q22 q23 u0 u1 u2 u3 u4 u5 u6 i_hill_columns_many i_hill_columns_weights i_latestStatus i_hill_changes i_refusals i_hill_columns_heights)[i]?) = (wd_HS_refuse cA q0 q1 q2 q3 q4 q5 q6 q7 q8 q9 q10 q11 q12 u0 u1 u2 i_latestStatus i_refusals).map some := rfl
      refine xv_afterI (ws' := (wd_HS_lift cA q0 q1 q2 q3 q4 q5 q6 q7 q8 q9 q10 q11 q12 q13 q14 q15 q16 q17 q18 q19 q20 q21 q22 q23 u0 u1 u2 u3 u4 u5 u6 i_hill_columns_many i_hill_columns_weights v9 i_hill_changes a10 i_hill_columns_heights)) (isC := [0, 2]) (ps := [some 0, none, some 1, none, none, none]) (va_runV (As := [.int (Int32.ofInt (-3))]) (rest := []) ⟨hx, hb, hml, hown, hts⟩ (c_HS_refuse l ev dC dI cA q0 q1 q2 q3 q4 q5 q6 q7 q8 q9 q10 q11 q12 u0 u1 u2 hg H.size) (cwV 1 hts (zgV zw_534 zw_536 zw_0 zw_104 zw_537) rfl rfl rfl hd_HS_refuse ⟨Nat.le_of_ble_eq_true rfl, Nat.le_of_ble_eq_true rfl⟩) (xv_preV (T := TX10) (N := 16) hE hA hS hK hP hD (isC := [0, 2]) (by decide +kernel) hC (q0 := 0) (ci := 10) rfl rfl) rfl rfl hl.1 rfl (lv_room (Nat.le_of_ble_eq_true rfl)) dX10_lift_38 ⟨Nat.le_refl _, Nat.le_refl _⟩) hP hD hS hA (by decide +kernel) rfl hC rfl rfl (fun H locs hP hD hS => ?_)
      obtain rfl := Option.some.inj hf
      exact hret _ _ _ _ rfl dX10_lift_41 hP hD hS
  · refine lv_aload_n hx hb dX10_lift_14 rfl (lv_at hl 0 rfl) ?_
    refine lv_bipush (v := Int32.ofInt (-2)) hx hb dX10_lift_15 (by decide) ?_
    refine xe_d3 hf (fun v11 v12 a13 hg hf => ?_)
    have hC : ([0, 2] : List Nat).map (fun i => (wd_HS_lift cA q0 q1 q2 q3 q4 q5 q6 q7 q8 q9 q10 q11 q12 q13 q14 q15 q16 q17 q18 q19 q20 q21 q22 q23 u0 u1 u2 u3 u4 u5 u6 i_hill_columns_many i_hill_columns_weights i_latestStatus i_hill_changes i_refusals i_hill_columns_heights)[i]?) = (wd_HS_refuse cA q0 q1 q2 q3 q4 q5 q6 q7 q8 q9 q10 q11 q12 u0 u1 u2 i_latestStatus i_refusals).map some := rfl
    refine xv_afterI (ws' := (wd_HS_lift cA q0 q1 q2 q3 q4 q5 q6 q7 q8 q9 q10 q11 q12 q13 q14 q15 q16 q17 q18 q19 q20 q21 q22 q23 u0 u1 u2 u3 u4 u5 u6 i_hill_columns_many i_hill_columns_weights v12 i_hill_changes a13 i_hill_columns_heights)) (isC := [0, 2]) (ps := [some 0, none, some 1, none, none, none]) (va_runV (As := [.int (Int32.ofInt (-2))]) (rest := []) ⟨hx, hb, hml, hown, hts⟩ (c_HS_refuse l ev dC dI cA q0 q1 q2 q3 q4 q5 q6 q7 q8 q9 q10 q11 q12 u0 u1 u2 hg H.size) (cwV 1 hts (zgV zw_534 zw_536 zw_0 zw_104 zw_537) rfl rfl rfl hd_HS_refuse ⟨Nat.le_of_ble_eq_true rfl, Nat.le_of_ble_eq_true rfl⟩) (xv_preV (T := TX10) (N := 16) hE hA hS hK hP hD (isC := [0, 2]) (by decide +kernel) hC (q0 := 0) (ci := 10) rfl rfl) rfl rfl hl.1 rfl (lv_room (Nat.le_of_ble_eq_true rfl)) dX10_lift_17 ⟨Nat.le_refl _, Nat.le_refl _⟩) hP hD hS hA (by decide +kernel) rfl hC rfl rfl (fun H locs hP hD hS => ?_)
    obtain rfl := Option.some.inj hf
    exact hret _ _ _ _ rfl dX10_lift_20 hP hD hS
theorem dX1_heft_0 : decode cX1_heft 0 = .ok (.iload_n 2, 1) := by decide +kernel
theorem dX1_heft_1 : decode cX1_heft 1 = .ok (.ifCond .lt 26, 3) := by decide +kernel
theorem dX1_heft_4 : decode cX1_heft 4 = .ok (.iload_n 2, 1) := by decide +kernel
theorem dX1_heft_5 : decode cX1_heft 5 = .ok (.aload_n 0, 1) := by decide +kernel
theorem dX1_heft_6 : decode cX1_heft 6 = .ok (.iload_n 1, 1) := by decide +kernel
theorem dX1_heft_7 : decode cX1_heft 7 = .ok (.invokevirtual 26, 3) := by decide +kernel
theorem dX1_heft_10 : decode cX1_heft 10 = .ok (.if_icmp .ge 17, 3) := by decide +kernel
theorem dX1_heft_13 : decode cX1_heft 13 = .ok (.aload_n 0, 1) := by decide +kernel
theorem dX1_heft_14 : decode cX1_heft 14 = .ok (.getfield 19, 3) := by decide +kernel
theorem dX1_heft_17 : decode cX1_heft 17 = .ok (.iload_n 1, 1) := by decide +kernel
theorem dX1_heft_18 : decode cX1_heft 18 = .ok (.bipush 10, 2) := by decide +kernel
theorem dX1_heft_20 : decode cX1_heft 20 = .ok (.imul, 1) := by decide +kernel
theorem dX1_heft_21 : decode cX1_heft 21 = .ok (.iload_n 2, 1) := by decide +kernel
theorem dX1_heft_22 : decode cX1_heft 22 = .ok (.iadd, 1) := by decide +kernel
theorem dX1_heft_23 : decode cX1_heft 23 = .ok (.iaload, 1) := by decide +kernel
theorem dX1_heft_24 : decode cX1_heft 24 = .ok (.goto 4, 3) := by decide +kernel
theorem dX1_heft_27 : decode cX1_heft 27 = .ok (.iconst 0, 1) := by decide +kernel
theorem dX1_heft_28 : decode cX1_heft 28 = .ok (.ireturn, 1) := by decide +kernel
theorem zw_579 : (Jvm.Cond.code ({ cls := "HillSchool$Columns", name := "heft", desc := "(II)I" } : Jvm.MethodName) prog_3_method_5_code (3 : Nat) (Option.some Jvm.ClassFile.FieldType.int)) ∈ zall := zmemG (zmj_2 236 rfl) rfl
abbrev w_Columns_heft : List Cond := .code yX1_heft cX1_heft 3 (some .int) :: zall
abbrev rm_Columns_heft : Room := { frames := 2, cells := 0, slots := 0, locals := 42 }
theorem hd_Columns_heft : yX1_heft.cls = "HillSchool$Columns" ∧ yX1_heft.cls ≠ "java/lang/invoke/MethodHandle" ∧ yX1_heft.cls ≠ "java/lang/invoke/VarHandle" ∧ (parseMethodDescriptor yX1_heft.desc).map (fun d => d.parameters.length) = some 2 := by decide +kernel
def wd_Columns_heft (cA : Nat → ClassId) (q0 q1 q2 : Nat) (i_many : Int) (i_heights : Nat → Int) (i_weights : Nat → Int)  : va_W := [(q0, .inr (1, [.int (Int32.ofInt i_many), .ref q1, .ref q2])), (q1, .inl (cA 0, 12, .inl (za i_heights))), (q2, .inl (cA 0, 120, .inl (za i_weights)))]
def wf_Columns_heft (cA : Nat → ClassId) (q0 q1 q2 : Nat) (i_many : Int) (i_heights : Nat → Int) (i_weights : Nat → Int) (o : Int) : va_W := wd_Columns_heft cA q0 q1 q2 i_many i_heights i_weights
def f_Columns_heft (x1 : Int) (x2 : Int) (i_many : Int) (i_heights : Nat → Int) (i_weights : Nat → Int) : Option (Int) :=
  if zi_w x2 < 0 then
    some 0
  else
    zd1 (f_Columns_high x1 i_many i_heights) fun v1 =>
    if zi_w v1 ≤ zi_w x2 then
      some 0
    else
      zn (x1 * 10) fun v2 =>
      zn (v2 + x2) fun v3 =>
      zg 120 i_weights v3 fun v4 =>
      some v4
set_option maxHeartbeats 4000000 in
set_option maxRecDepth 100000 in
theorem c_Columns_heft (l : Launch) (ev : zEv) (dC : Nat → ClassId) (dI : Nat → Nat → Nat) (cA : Nat → ClassId) (q0 q1 q2 : Nat) {x1 x2 : Int} {i_many : Int} {i_heights : Nat → Int} {i_weights : Nat → Int} {out : Int} (hf : f_Columns_heft x1 x2 i_many i_heights i_weights = some out) : xc_I l ev (dC, dI) vwCl (tyl cA) yX1_heft w_Columns_heft rm_Columns_heft [.ref q0, .int (Int32.ofInt x1), .int (Int32.ofInt x2)] (wd_Columns_heft cA q0 q1 q2 i_many i_heights i_weights) (wf_Columns_heft cA q0 q1 q2 i_many i_heights i_weights out) out := by
  refine xv_startI (cc := cX1_heft) (maxL := 3) (rt := .int) (by decide +kernel) rfl (Nat.le_of_ble_eq_true rfl) ?_
  intro p e s m args below meth c A Q H ls hx hb hml hts hown hK hA hP hD hS hl hE hret
  have hown : s.vm.findClass "HillSchool$Columns" = some m.cls := hown
  have hz : ∀ w ∈ zall, w.before args s = true := fun w h => hts w (List.mem_cons_of_mem _ h)
  have hl : lv_has ls 3 [(0, .ref q0), (1, .int (Int32.ofInt x1)), (2, .int (Int32.ofInt x2))] := hl
  unfold f_Columns_heft at hf
  refine lv_iload_n hx hb dX1_heft_0 rfl (lv_at hl 2 rfl) ?_
  refine xi_if_lt (tgt := 27) hx hb dX1_heft_1 (by decide) hf (fun hf => ?_) (fun hf => ?_)
  · refine lv_iconst (v := Int32.ofInt 0) hx hb dX1_heft_27 rfl ?_
    obtain rfl := Option.some.inj hf
    exact hret _ _ _ _ rfl dX1_heft_28 hP hD hS
  · refine lv_iload_n hx hb dX1_heft_4 rfl (lv_at hl 2 rfl) ?_
    refine lv_aload_n hx hb dX1_heft_5 rfl (lv_at hl 0 rfl) ?_
    refine lv_iload_n hx hb dX1_heft_6 rfl (lv_at hl 1 rfl) ?_
    refine xe_d1 hf (fun v1 hg hf => ?_)
    have hC : ([0, 1] : List Nat).map (fun i => (wd_Columns_heft cA q0 q1 q2 i_many i_heights i_weights)[i]?) = (wd_Columns_high cA q0 q1 q2 i_many i_heights).map some := rfl
    refine xv_afterI (ws' := (wd_Columns_heft cA q0 q1 q2 i_many i_heights i_weights)) (isC := [0, 1]) (ps := [some 0, some 1, none]) (va_runV (As := [.int (Int32.ofInt x1)]) (rest := [.int (Int32.ofInt x2)]) ⟨hx, hb, hml, hown, hts⟩ (c_Columns_high l ev dC dI cA q0 q1 q2 hg H.size) (cwV 1 hts (zgV zw_571 zw_556 zw_557 zw_106 zw_558) rfl rfl rfl hd_Columns_high ⟨Nat.le_of_ble_eq_true rfl, Nat.le_of_ble_eq_true rfl⟩) (xv_preV (T := TX1) (N := 3) hE hA hS hK hP hD (isC := [0, 1]) (by decide +kernel) hC (q0 := 0) (ci := 1) rfl rfl) rfl rfl hl.1 rfl (lv_room (Nat.le_of_ble_eq_true rfl)) dX1_heft_7 ⟨Nat.le_refl _, Nat.le_refl _⟩) hP hD hS hA (by decide +kernel) rfl hC rfl rfl (fun H locs hP hD hS => ?_)
    refine xi_icmp_ge (tgt := 27) hx hb dX1_heft_10 (by decide) hf (fun hf => ?_) (fun hf => ?_)
    · refine lv_iconst (v := Int32.ofInt 0) hx hb dX1_heft_27 rfl ?_
      obtain rfl := Option.some.inj hf
      exact hret _ _ _ _ rfl dX1_heft_28 hP hD hS
    · refine lv_aload_n hx hb dX1_heft_13 rfl (lv_at hl 0 rfl) ?_
      refine va_get (D := (dC, dI)) (ci := 1) (v := .ref q2) (C := RX1) (T := TX1) (N := 3) hx hb hz zi_X1 hown hK hP 0 rfl rfl 2 (by decide) (hz _ zw_150) (fun _ h9 => h9) rfl dX1_heft_14 ?_
      refine lv_iload_n hx hb dX1_heft_17 rfl (lv_at hl 1 rfl) ?_
      refine lv_bipush (v := Int32.ofInt 10) hx hb dX1_heft_18 (by decide) ?_
      refine xi_imul hx hb dX1_heft_20 hf (fun v2 hf => ?_)
      refine lv_iload_n hx hb dX1_heft_21 rfl (lv_at hl 2 rfl) ?_
      refine xi_iadd hx hb dX1_heft_22 hf (fun v3 hf => ?_)
      refine xi_iald hx hb hK hP 2 0 rfl rfl dX1_heft_23 hf (fun v4 hf => ?_)
      refine lv_goto (tgt := 28) hx hb dX1_heft_24 (by decide) ?_
      obtain rfl := Option.some.inj hf
      exact hret _ _ _ _ rfl dX1_heft_28 hP hD hS
theorem dX10_of_0 : decode cX10_of 0 = .ok (.aload_n 0, 1) := by decide +kernel
theorem dX10_of_1 : decode cX10_of 1 = .ok (.getfield 10, 3) := by decide +kernel
theorem dX10_of_4 : decode cX10_of 4 = .ok (.getfield 99, 3) := by decide +kernel
theorem dX10_of_7 : decode cX10_of 7 = .ok (.iload_n 1, 1) := by decide +kernel
theorem dX10_of_8 : decode cX10_of 8 = .ok (.invokevirtual 122, 3) := by decide +kernel
theorem dX10_of_11 : decode cX10_of 11 = .ok (.ifCond .ne 5, 3) := by decide +kernel
theorem dX10_of_14 : decode cX10_of 14 = .ok (.iconst (-1), 1) := by decide +kernel
theorem dX10_of_15 : decode cX10_of 15 = .ok (.ireturn, 1) := by decide +kernel
theorem dX10_of_16 : decode cX10_of 16 = .ok (.iload_n 2, 1) := by decide +kernel
theorem dX10_of_17 : decode cX10_of 17 = .ok (.iconst (-1), 1) := by decide +kernel
theorem dX10_of_18 : decode cX10_of 18 = .ok (.if_icmp .ne 15, 3) := by decide +kernel
theorem dX10_of_21 : decode cX10_of 21 = .ok (.aload_n 0, 1) := by decide +kernel
theorem dX10_of_22 : decode cX10_of 22 = .ok (.getfield 10, 3) := by decide +kernel
theorem dX10_of_25 : decode cX10_of 25 = .ok (.getfield 99, 3) := by decide +kernel
theorem dX10_of_28 : decode cX10_of 28 = .ok (.iload_n 1, 1) := by decide +kernel
theorem dX10_of_29 : decode cX10_of 29 = .ok (.invokevirtual 130, 3) := by decide +kernel
theorem dX10_of_32 : decode cX10_of 32 = .ok (.ireturn, 1) := by decide +kernel
theorem dX10_of_33 : decode cX10_of 33 = .ok (.iload_n 2, 1) := by decide +kernel
theorem dX10_of_34 : decode cX10_of 34 = .ok (.ifCond .lt 18, 3) := by decide +kernel
theorem dX10_of_37 : decode cX10_of 37 = .ok (.iload_n 2, 1) := by decide +kernel
theorem dX10_of_38 : decode cX10_of 38 = .ok (.aload_n 0, 1) := by decide +kernel
theorem dX10_of_39 : decode cX10_of 39 = .ok (.getfield 10, 3) := by decide +kernel
theorem dX10_of_42 : decode cX10_of 42 = .ok (.getfield 99, 3) := by decide +kernel
theorem dX10_of_45 : decode cX10_of 45 = .ok (.iload_n 1, 1) := by decide +kernel
theorem dX10_of_46 : decode cX10_of 46 = .ok (.invokevirtual 130, 3) := by decide +kernel
theorem dX10_of_49 : decode cX10_of 49 = .ok (.if_icmp .lt 5, 3) := by decide +kernel
theorem dX10_of_52 : decode cX10_of 52 = .ok (.iconst (-1), 1) := by decide +kernel
theorem dX10_of_53 : decode cX10_of 53 = .ok (.ireturn, 1) := by decide +kernel
theorem dX10_of_54 : decode cX10_of 54 = .ok (.aload_n 0, 1) := by decide +kernel
theorem dX10_of_55 : decode cX10_of 55 = .ok (.getfield 10, 3) := by decide +kernel
theorem dX10_of_58 : decode cX10_of 58 = .ok (.getfield 99, 3) := by decide +kernel
theorem dX10_of_61 : decode cX10_of 61 = .ok (.iload_n 1, 1) := by decide +kernel
theorem dX10_of_62 : decode cX10_of 62 = .ok (.iload_n 2, 1) := by decide +kernel
theorem dX10_of_63 : decode cX10_of 63 = .ok (.invokevirtual 136, 3) := by decide +kernel
theorem dX10_of_66 : decode cX10_of 66 = .ok (.ireturn, 1) := by decide +kernel
theorem zw_575 : (Jvm.Cond.code ({ cls := "HillSchool", name := "of", desc := "(II)I" } : Jvm.MethodName) prog_1_method_5_code (3 : Nat) (Option.some Jvm.ClassFile.FieldType.int)) ∈ zall := zmemG (zmj_2 232 rfl) rfl
theorem zw_576 : (Jvm.Cond.methodLink "HillSchool" (136 : Nat) ({ cls := "HillSchool$Columns", name := "heft", desc := "(II)I" } : Jvm.MethodName)) ∈ zall := zmemG (zmj_2 233 rfl) rfl
theorem zw_577 : (Jvm.Cond.instanceMethod ({ cls := "HillSchool$Columns", name := "heft", desc := "(II)I" } : Jvm.MethodName)) ∈ zall := zmemG (zmj_2 234 rfl) rfl
theorem zw_578 : (Jvm.Cond.selects "HillSchool$Columns" ({ cls := "HillSchool$Columns", name := "heft", desc := "(II)I" } : Jvm.MethodName) ({ cls := "HillSchool$Columns", name := "heft", desc := "(II)I" } : Jvm.MethodName)) ∈ zall := zmemG (zmj_2 235 rfl) rfl
abbrev w_HS_of : List Cond := .code yX10_of cX10_of 3 (some .int) :: zall
abbrev rm_HS_of : Room := { frames := 3, cells := 0, slots := 0, locals := 64 }
theorem hd_HS_of : yX10_of.cls = "HillSchool" ∧ yX10_of.cls ≠ "java/lang/invoke/MethodHandle" ∧ yX10_of.cls ≠ "java/lang/invoke/VarHandle" ∧ (parseMethodDescriptor yX10_of.desc).map (fun d => d.parameters.length) = some 2 := by decide +kernel
def wd_HS_of (cA : Nat → ClassId) (q0 q1 q2 q3 q4 q5 q6 q7 q8 q9 q10 q11 q12 q13 q14 q15 q16 q17 q18 q19 q20 q21 q22 q23 : Nat) (u0 u1 u2 u3 u4 u5 u6 u7 u8 : Int) (i_hill_columns_many : Int) (i_hill_columns_heights : Nat → Int) (i_hill_columns_weights : Nat → Int)  : va_W := [(q0, .inr (10, [.ref q1, .ref q2, .ref q3, .ref q4, .int (Int32.ofInt u0), .int (Int32.ofInt u1), .int (Int32.ofInt u2), .ref q5, .int (Int32.ofInt u3), .ref q6, .ref q7, .ref q8, .ref q9, .ref q10, .ref q11, .ref q12])), (q1, .inr (2, [.ref q13, .int (Int32.ofInt u4), .ref q14, .ref q15, .ref q16, .int (Int32.ofInt u5), .ref q17, .ref q18, .ref q19, .int (Int32.ofInt u6), .ref q20, .ref q21, .int (Int32.ofInt u7), .int (Int32.ofInt u8)])), (q13, .inr (1, [.int (Int32.ofInt i_hill_columns_many), .ref q22, .ref q23])), (q22, .inl (cA 0, 12, .inl (za i_hill_columns_heights))), (q23, .inl (cA 0, 120, .inl (za i_hill_columns_weights)))]
def wf_HS_of (cA : Nat → ClassId) (q0 q1 q2 q3 q4 q5 q6 q7 q8 q9 q10 q11 q12 q13 q14 q15 q16 q17 q18 q19 q20 q21 q22 q23 : Nat) (u0 u1 u2 u3 u4 u5 u6 u7 u8 : Int) (i_hill_columns_many : Int) (i_hill_columns_heights : Nat → Int) (i_hill_columns_weights : Nat → Int) (o : Int) : va_W := wd_HS_of cA q0 q1 q2 q3 q4 q5 q6 q7 q8 q9 q10 q11 q12 q13 q14 q15 q16 q17 q18 q19 q20 q21 q22 q23 u0 u1 u2 u3 u4 u5 u6 u7 u8 i_hill_columns_many i_hill_columns_heights i_hill_columns_weights
def f_HS_of (x1 : Int) (x2 : Int) (i_hill_columns_many : Int) (i_hill_columns_heights : Nat → Int) (i_hill_columns_weights : Nat → Int) : Option (Int) :=
  zd1 (f_Columns_has x1 i_hill_columns_many) fun v1 =>
  if zi_w v1 ≠ 0 then
    if zi_w x2 ≠ zi_w (-1) then
      if zi_w x2 < 0 then
        some (-1)
      else
        zd1 (f_Columns_high x1 i_hill_columns_many i_hill_columns_heights) fun v2 =>
        if zi_w x2 < zi_w v2 then
          zd1 (f_Columns_heft x1 x2 i_hill_columns_many i_hill_columns_heights i_hill_columns_weights) fun v3 =>
          some v3
        else
          some (-1)
    else
      zd1 (f_Columns_high x1 i_hill_columns_many i_hill_columns_heights) fun v4 =>
      some v4
  else
    some (-1)
set_option maxHeartbeats 4000000 in
set_option maxRecDepth 100000 in
theorem c_HS_of (l : Launch) (ev : zEv) (dC : Nat → ClassId) (dI : Nat → Nat → Nat) (cA : Nat → ClassId) (q0 q1 q2 q3 q4 q5 q6 q7 q8 q9 q10 q11 q12 q13 q14 q15 q16 q17 q18 q19 q20 q21 q22 q23 : Nat) (u0 u1 u2 u3 u4 u5 u6 u7 u8 : Int) {x1 x2 : Int} {i_hill_columns_many : Int} {i_hill_columns_heights : Nat → Int} {i_hill_columns_weights : Nat → Int} {out : Int} (hf : f_HS_of x1 x2 i_hill_columns_many i_hill_columns_heights i_hill_columns_weights = some out) : xc_I l ev (dC, dI) vwCl (tyl cA) yX10_of w_HS_of rm_HS_of [.ref q0, .int (Int32.ofInt x1), .int (Int32.ofInt x2)] (wd_HS_of cA q0 q1 q2 q3 q4 q5 q6 q7 q8 q9 q10 q11 q12 q13 q14 q15 q16 q17 q18 q19 q20 q21 q22 q23 u0 u1 u2 u3 u4 u5 u6 u7 u8 i_hill_columns_many i_hill_columns_heights i_hill_columns_weights) (wf_HS_of cA q0 q1 q2 q3 q4 q5 q6 q7 q8 q9 q10 q11 q12 q13 q14 q15 q16 q17 q18 q19 q20 q21 q22 q23 u0 u1 u2 u3 u4 u5 u6 u7 u8 i_hill_columns_many i_hill_columns_heights i_hill_columns_weights out) out := by
  refine xv_startI (cc := cX10_of) (maxL := 3) (rt := .int) (by decide +kernel) rfl (Nat.le_of_ble_eq_true rfl) ?_
  intro p e s m args below meth c A Q H ls hx hb hml hts hown hK hA hP hD hS hl hE hret
  have hown : s.vm.findClass "HillSchool" = some m.cls := hown
  have hz : ∀ w ∈ zall, w.before args s = true := fun w h => hts w (List.mem_cons_of_mem _ h)
  have hl : lv_has ls 3 [(0, .ref q0), (1, .int (Int32.ofInt x1)), (2, .int (Int32.ofInt x2))] := hl
  unfold f_HS_of at hf
  refine lv_aload_n hx hb dX10_of_0 rfl (lv_at hl 0 rfl) ?_
  refine va_get (D := (dC, dI)) (ci := 10) (v := .ref q1) (C := RX10) (T := TX10) (N := 16) hx hb hz zi_X10 hown hK hP 0 rfl rfl 0 (by decide) (hz _ zw_477) (fun _ h9 => h9) rfl dX10_of_1 ?_
  refine va_getN (D := (dC, dI)) (ci := 2) (v := .ref q13) (C := RX2) (T := TX2) (N := 14) hx hb hz zi_X2 hown hK hP 1 rfl rfl 0 (by decide) (va_Nw.use rfl (hE.1.1 _ zw_169)) (fun _ h9 => h9) rfl dX10_of_4 ?_
  refine lv_iload_n hx hb dX10_of_7 rfl (lv_at hl 1 rfl) ?_
  refine xe_d1 hf (fun v1 hg hf => ?_)
  have hC : ([2] : List Nat).map (fun i => (wd_HS_of cA q0 q1 q2 q3 q4 q5 q6 q7 q8 q9 q10 q11 q12 q13 q14 q15 q16 q17 q18 q19 q20 q21 q22 q23 u0 u1 u2 u3 u4 u5 u6 u7 u8 i_hill_columns_many i_hill_columns_heights i_hill_columns_weights)[i]?) = (wd_Columns_has cA q13 q22 q23 i_hill_columns_many).map some := rfl
  refine xv_afterI (ws' := (wd_HS_of cA q0 q1 q2 q3 q4 q5 q6 q7 q8 q9 q10 q11 q12 q13 q14 q15 q16 q17 q18 q19 q20 q21 q22 q23 u0 u1 u2 u3 u4 u5 u6 u7 u8 i_hill_columns_many i_hill_columns_heights i_hill_columns_weights)) (isC := [2]) (ps := [none, none, some 0, none, none]) (va_runV (As := [.int (Int32.ofInt x1)]) (rest := []) ⟨hx, hb, hml, hown, hts⟩ (c_Columns_has l ev dC dI cA q13 q22 q23 hg H.size) (cwV 1 hts (zgV zw_546 zw_547 zw_548 zw_106 zw_549) rfl rfl rfl hd_Columns_has ⟨Nat.le_of_ble_eq_true rfl, Nat.le_of_ble_eq_true rfl⟩) (xv_preV (T := TX1) (N := 3) hE hA hS hK hP hD (isC := [2]) (by decide +kernel) hC (q0 := 2) (ci := 1) rfl rfl) rfl rfl hl.1 rfl (lv_room (Nat.le_of_ble_eq_true rfl)) dX10_of_8 ⟨Nat.le_refl _, Nat.le_refl _⟩) hP hD hS hA (by decide +kernel) rfl hC rfl rfl (fun H locs hP hD hS => ?_)
  refine xi_if_ne (tgt := 16) hx hb dX10_of_11 (by decide) hf (fun hf => ?_) (fun hf => ?_)
  · refine lv_iload_n hx hb dX10_of_16 rfl (lv_at hl 2 rfl) ?_
    refine lv_iconst (v := Int32.ofInt (-1)) hx hb dX10_of_17 rfl ?_
    refine xi_icmp_ne (tgt := 33) hx hb dX10_of_18 (by decide) hf (fun hf => ?_) (fun hf => ?_)
    · refine lv_iload_n hx hb dX10_of_33 rfl (lv_at hl 2 rfl) ?_
      refine xi_if_lt (tgt := 52) hx hb dX10_of_34 (by decide) hf (fun hf => ?_) (fun hf => ?_)
      · refine lv_iconst (v := Int32.ofInt (-1)) hx hb dX10_of_52 rfl ?_
        obtain rfl := Option.some.inj hf
        exact hret _ _ _ _ rfl dX10_of_53 hP hD hS
      · refine lv_iload_n hx hb dX10_of_37 rfl (lv_at hl 2 rfl) ?_
        refine lv_aload_n hx hb dX10_of_38 rfl (lv_at hl 0 rfl) ?_
        refine va_get (D := (dC, dI)) (ci := 10) (v := .ref q1) (C := RX10) (T := TX10) (N := 16) hx hb hz zi_X10 hown hK hP 0 rfl rfl 0 (by decide) (hz _ zw_477) (fun _ h9 => h9) rfl dX10_of_39 ?_
        refine va_getN (D := (dC, dI)) (ci := 2) (v := .ref q13) (C := RX2) (T := TX2) (N := 14) hx hb hz zi_X2 hown hK hP 1 rfl rfl 0 (by decide) (va_Nw.use rfl (hE.1.1 _ zw_169)) (fun _ h9 => h9) rfl dX10_of_42 ?_
        refine lv_iload_n hx hb dX10_of_45 rfl (lv_at hl 1 rfl) ?_
        refine xe_d1 hf (fun v2 hg hf => ?_)
        have hC : ([2, 3] : List Nat).map (fun i => (wd_HS_of cA q0 q1 q2 q3 q4 q5 q6 q7 q8 q9 q10 q11 q12 q13 q14 q15 q16 q17 q18 q19 q20 q21 q22 q23 u0 u1 u2 u3 u4 u5 u6 u7 u8 i_hill_columns_many i_hill_columns_heights i_hill_columns_weights)[i]?) = (wd_Columns_high cA q13 q22 q23 i_hill_columns_many i_hill_columns_heights).map some := rfl
        refine xv_afterI (ws' := (wd_HS_of cA q0 q1 q2 q3 q4 q5 q6 q7 q8 q9 q10 q11 q12 q13 q14 q15 q16 q17 q18 q19 q20 q21 q22 q23 u0 u1 u2 u3 u4 u5 u6 u7 u8 i_hill_columns_many i_hill_columns_heights i_hill_columns_weights)) (isC := [2, 3]) (ps := [none, none, some 0, some 1, none]) (va_runV (As := [.int (Int32.ofInt x1)]) (rest := [.int (Int32.ofInt x2)]) ⟨hx, hb, hml, hown, hts⟩ (c_Columns_high l ev dC dI cA q13 q22 q23 hg H.size) (cwV 1 hts (zgV zw_555 zw_556 zw_557 zw_106 zw_558) rfl rfl rfl hd_Columns_high ⟨Nat.le_of_ble_eq_true rfl, Nat.le_of_ble_eq_true rfl⟩) (xv_preV (T := TX1) (N := 3) hE hA hS hK hP hD (isC := [2, 3]) (by decide +kernel) hC (q0 := 2) (ci := 1) rfl rfl) rfl rfl hl.1 rfl (lv_room (Nat.le_of_ble_eq_true rfl)) dX10_of_46 ⟨Nat.le_refl _, Nat.le_refl _⟩) hP hD hS hA (by decide +kernel) rfl hC rfl rfl (fun H locs hP hD hS => ?_)
        refine xi_icmp_lt (tgt := 54) hx hb dX10_of_49 (by decide) hf (fun hf => ?_) (fun hf => ?_)
        · refine lv_aload_n hx hb dX10_of_54 rfl (lv_at hl 0 rfl) ?_
          refine va_get (D := (dC, dI)) (ci := 10) (v := .ref q1) (C := RX10) (T := TX10) (N := 16) hx hb hz zi_X10 hown hK hP 0 rfl rfl 0 (by decide) (hz _ zw_477) (fun _ h9 => h9) rfl dX10_of_55 ?_
          refine va_getN (D := (dC, dI)) (ci := 2) (v := .ref q13) (C := RX2) (T := TX2) (N := 14) hx hb hz zi_X2 hown hK hP 1 rfl rfl 0 (by decide) (va_Nw.use rfl (hE.1.1 _ zw_169)) (fun _ h9 => h9) rfl dX10_of_58 ?_
          refine lv_iload_n hx hb dX10_of_61 rfl (lv_at hl 1 rfl) ?_
          refine lv_iload_n hx hb dX10_of_62 rfl (lv_at hl 2 rfl) ?_
          refine xe_d1 hf (fun v3 hg hf => ?_)
          have hC : ([2, 3, 4] : List Nat).map (fun i => (wd_HS_of cA q0 q1 q2 q3 q4 q5 q6 q7 q8 q9 q10 q11 q12 q13 q14 q15 q16 q17 q18 q19 q20 q21 q22 q23 u0 u1 u2 u3 u4 u5 u6 u7 u8 i_hill_columns_many i_hill_columns_heights i_hill_columns_weights)[i]?) = (wd_Columns_heft cA q13 q22 q23 i_hill_columns_many i_hill_columns_heights i_hill_columns_weights).map some := rfl
          refine xv_afterI (ws' := (wd_HS_of cA q0 q1 q2 q3 q4 q5 q6 q7 q8 q9 q10 q11 q12 q13 q14 q15 q16 q17 q18 q19 q20 q21 q22 q23 u0 u1 u2 u3 u4 u5 u6 u7 u8 i_hill_columns_many i_hill_columns_heights i_hill_columns_weights)) (isC := [2, 3, 4]) (ps := [none, none, some 0, some 1, some 2]) (va_runV (As := [.int (Int32.ofInt x1), .int (Int32.ofInt x2)]) (rest := []) ⟨hx, hb, hml, hown, hts⟩ (c_Columns_heft l ev dC dI cA q13 q22 q23 hg H.size) (cwV 2 hts (zgV zw_576 zw_577 zw_578 zw_106 zw_579) rfl rfl rfl hd_Columns_heft ⟨Nat.le_of_ble_eq_true rfl, Nat.le_of_ble_eq_true rfl⟩) (xv_preV (T := TX1) (N := 3) hE hA hS hK hP hD (isC := [2, 3, 4]) (by decide +kernel) hC (q0 := 2) (ci := 1) rfl rfl) rfl rfl hl.1 rfl (lv_room (Nat.le_of_ble_eq_true rfl)) dX10_of_63 ⟨Nat.le_refl _, Nat.le_refl _⟩) hP hD hS hA (by decide +kernel) rfl hC rfl rfl (fun H locs hP hD hS => ?_)
          obtain rfl := Option.some.inj hf
          exact hret _ _ _ _ rfl dX10_of_66 hP hD hS
        · refine lv_iconst (v := Int32.ofInt (-1)) hx hb dX10_of_52 rfl ?_
          obtain rfl := Option.some.inj hf
          exact hret _ _ _ _ rfl dX10_of_53 hP hD hS
    · refine lv_aload_n hx hb dX10_of_21 rfl (lv_at hl 0 rfl) ?_
      refine va_get (D := (dC, dI)) (ci := 10) (v := .ref q1) (C := RX10) (T := TX10) (N := 16) hx hb hz zi_X10 hown hK hP 0 rfl rfl 0 (by decide) (hz _ zw_477) (fun _ h9 => h9) rfl dX10_of_22 ?_
      refine va_getN (D := (dC, dI)) (ci := 2) (v := .ref q13) (C := RX2) (T := TX2) (N := 14) hx hb hz zi_X2 hown hK hP 1 rfl rfl 0 (by decide) (va_Nw.use rfl (hE.1.1 _ zw_169)) (fun _ h9 => h9) rfl dX10_of_25 ?_
      refine lv_iload_n hx hb dX10_of_28 rfl (lv_at hl 1 rfl) ?_
      refine xe_d1 hf (fun v4 hg hf => ?_)
      have hC : ([2, 3] : List Nat).map (fun i => (wd_HS_of cA q0 q1 q2 q3 q4 q5 q6 q7 q8 q9 q10 q11 q12 q13 q14 q15 q16 q17 q18 q19 q20 q21 q22 q23 u0 u1 u2 u3 u4 u5 u6 u7 u8 i_hill_columns_many i_hill_columns_heights i_hill_columns_weights)[i]?) = (wd_Columns_high cA q13 q22 q23 i_hill_columns_many i_hill_columns_heights).map some := rfl
      refine xv_afterI (ws' := (wd_HS_of cA q0 q1 q2 q3 q4 q5 q6 q7 q8 q9 q10 q11 q12 q13 q14 q15 q16 q17 q18 q19 q20 q21 q22 q23 u0 u1 u2 u3 u4 u5 u6 u7 u8 i_hill_columns_many i_hill_columns_heights i_hill_columns_weights)) (isC := [2, 3]) (ps := [none, none, some 0, some 1, none]) (va_runV (As := [.int (Int32.ofInt x1)]) (rest := []) ⟨hx, hb, hml, hown, hts⟩ (c_Columns_high l ev dC dI cA q13 q22 q23 hg H.size) (cwV 1 hts (zgV zw_555 zw_556 zw_557 zw_106 zw_558) rfl rfl rfl hd_Columns_high ⟨Nat.le_of_ble_eq_true rfl, Nat.le_of_ble_eq_true rfl⟩) (xv_preV (T := TX1) (N := 3) hE hA hS hK hP hD (isC := [2, 3]) (by decide +kernel) hC (q0 := 2) (ci := 1) rfl rfl) rfl rfl hl.1 rfl (lv_room (Nat.le_of_ble_eq_true rfl)) dX10_of_29 ⟨Nat.le_refl _, Nat.le_refl _⟩) hP hD hS hA (by decide +kernel) rfl hC rfl rfl (fun H locs hP hD hS => ?_)
      obtain rfl := Option.some.inj hf
      exact hret _ _ _ _ rfl dX10_of_32 hP hD hS
  · refine lv_iconst (v := Int32.ofInt (-1)) hx hb dX10_of_14 rfl ?_
    obtain rfl := Option.some.inj hf
    exact hret _ _ _ _ rfl dX10_of_15 hP hD hS
theorem dX1_load_0 : decode cX1_load 0 = .ok (.iconst 0, 1) := by decide +kernel
theorem dX1_load_1 : decode cX1_load 1 = .ok (.istore_n 2, 1) := by decide +kernel
theorem dX1_load_2 : decode cX1_load 2 = .ok (.iconst 0, 1) := by decide +kernel
theorem dX1_load_3 : decode cX1_load 3 = .ok (.istore_n 3, 1) := by decide +kernel
theorem dX1_load_4 : decode cX1_load 4 = .ok (.iload_n 3, 1) := by decide +kernel
theorem dX1_load_5 : decode cX1_load 5 = .ok (.aload_n 0, 1) := by decide +kernel
theorem dX1_load_6 : decode cX1_load 6 = .ok (.iload_n 1, 1) := by decide +kernel
theorem dX1_load_7 : decode cX1_load 7 = .ok (.invokevirtual 26, 3) := by decide +kernel
theorem dX1_load_10 : decode cX1_load 10 = .ok (.if_icmp .ge 18, 3) := by decide +kernel
theorem dX1_load_13 : decode cX1_load 13 = .ok (.iload_n 2, 1) := by decide +kernel
theorem dX1_load_14 : decode cX1_load 14 = .ok (.aload_n 0, 1) := by decide +kernel
theorem dX1_load_15 : decode cX1_load 15 = .ok (.iload_n 1, 1) := by decide +kernel
theorem dX1_load_16 : decode cX1_load 16 = .ok (.iload_n 3, 1) := by decide +kernel
theorem dX1_load_17 : decode cX1_load 17 = .ok (.invokevirtual 30, 3) := by decide +kernel
theorem dX1_load_20 : decode cX1_load 20 = .ok (.iadd, 1) := by decide +kernel
theorem dX1_load_21 : decode cX1_load 21 = .ok (.istore_n 2, 1) := by decide +kernel
theorem dX1_load_22 : decode cX1_load 22 = .ok (.iinc 3 1, 3) := by decide +kernel
theorem dX1_load_25 : decode cX1_load 25 = .ok (.goto (-21), 3) := by decide +kernel
theorem dX1_load_28 : decode cX1_load 28 = .ok (.iload_n 2, 1) := by decide +kernel
theorem dX1_load_29 : decode cX1_load 29 = .ok (.ireturn, 1) := by decide +kernel
theorem zw_587 : (Jvm.Cond.code ({ cls := "HillSchool$Columns", name := "load", desc := "(I)I" } : Jvm.MethodName) prog_3_method_7_code (4 : Nat) (Option.some Jvm.ClassFile.FieldType.int)) ∈ zall := zmemG (zmj_3 4 rfl) rfl
theorem zw_588 : (Jvm.Cond.methodLink "HillSchool$Columns" (30 : Nat) ({ cls := "HillSchool$Columns", name := "heft", desc := "(II)I" } : Jvm.MethodName)) ∈ zall := zmemG (zmj_3 5 rfl) rfl
abbrev w_Columns_load : List Cond := .code yX1_load cX1_load 4 (some .int) :: zall
abbrev rm_Columns_load : Room := { frames := 3, cells := 0, slots := 0, locals := 64 }
theorem hd_Columns_load : yX1_load.cls = "HillSchool$Columns" ∧ yX1_load.cls ≠ "java/lang/invoke/MethodHandle" ∧ yX1_load.cls ≠ "java/lang/invoke/VarHandle" ∧ (parseMethodDescriptor yX1_load.desc).map (fun d => d.parameters.length) = some 1 := by decide +kernel
def wd_Columns_load (cA : Nat → ClassId) (q0 q1 q2 : Nat) (i_many : Int) (i_heights : Nat → Int) (i_weights : Nat → Int)  : va_W := [(q0, .inr (1, [.int (Int32.ofInt i_many), .ref q1, .ref q2])), (q1, .inl (cA 0, 12, .inl (za i_heights))), (q2, .inl (cA 0, 120, .inl (za i_weights)))]
def wf_Columns_load (cA : Nat → ClassId) (q0 q1 q2 : Nat) (i_many : Int) (i_heights : Nat → Int) (i_weights : Nat → Int) (o : Int) : va_W := wd_Columns_load cA q0 q1 q2 i_many i_heights i_weights
def f_Columns_load_4_b (i_many : Int) (i_heights : Nat → Int) (i_weights : Nat → Int) (k4 : Int → Int → Int → Option (Int)) (x1 : Int) (x2 : Int) (x3 : Int) : Option (Int) :=
  zd1 (f_Columns_high x1 i_many i_heights) fun v1 =>
  if zi_w v1 ≤ zi_w x3 then
    some x2
  else
    zd1 (f_Columns_heft x1 x3 i_many i_heights i_weights) fun v2 =>
    zn (x2 + v2) fun v3 =>
    zn (x3 + 1) fun v4 =>
    k4 x1 v3 v4
def f_Columns_load_4 (i_many : Int) (i_heights : Nat → Int) (i_weights : Nat → Int) : Nat → Int → Int → Int → Option (Int)
  | 0 => fun _ _ _ => none
  | n + 1 => fun y0 y1 y2 => f_Columns_load_4_b i_many i_heights i_weights (f_Columns_load_4 i_many i_heights i_weights n) y0 y1 y2
def f_Columns_load (x1 : Int) (i_many : Int) (i_heights : Nat → Int) (i_weights : Nat → Int) : Option (Int) :=
  f_Columns_load_4 i_many i_heights i_weights zfu x1 0 0
set_option maxHeartbeats 4000000 in
set_option maxRecDepth 100000 in
theorem c_Columns_load (l : Launch) (ev : zEv) (dC : Nat → ClassId) (dI : Nat → Nat → Nat) (cA : Nat → ClassId) (q0 q1 q2 : Nat) {x1 : Int} {i_many : Int} {i_heights : Nat → Int} {i_weights : Nat → Int} {out : Int} (hf : f_Columns_load x1 i_many i_heights i_weights = some out) : xc_I l ev (dC, dI) vwCl (tyl cA) yX1_load w_Columns_load rm_Columns_load [.ref q0, .int (Int32.ofInt x1)] (wd_Columns_load cA q0 q1 q2 i_many i_heights i_weights) (wf_Columns_load cA q0 q1 q2 i_many i_heights i_weights out) out := by
  refine xv_startI (cc := cX1_load) (maxL := 4) (rt := .int) (by decide +kernel) rfl (Nat.le_of_ble_eq_true rfl) ?_
  intro p e s m args below meth c A Q H ls hx hb hml hts hown hK hA hP hD hS hl hE hret
  have hown : s.vm.findClass "HillSchool$Columns" = some m.cls := hown
  have hz : ∀ w ∈ zall, w.before args s = true := fun w h => hts w (List.mem_cons_of_mem _ h)
  have hl : lv_has ls 4 [(0, .ref q0), (1, .int (Int32.ofInt x1))] := hl
  have b_4 : ∀ (k4 : Int → Int → Int → Option (Int)) (_ : ∀ (x1 : Int) (x2 : Int) (x3 : Int) (H : Heap) (locs : List Loc) (ls : Array Slot), k4 x1 x2 x3 = some out → va_P (dC, dI) vwCl (wd_Columns_load cA q0 q1 q2 i_many i_heights i_weights) H → va_D A (wd_Columns_load cA q0 q1 q2 i_many i_heights i_weights) → va_S A s.heap H locs → lv_has ls 4 [(0, .ref q0), (1, .int (Int32.ofInt x1)), (2, .int (Int32.ofInt x2)), (3, .int (Int32.ofInt x3))] → W p l e rm_Columns_load s m args below meth c H locs 0 0 Q (F0 m 4 ls [])), ∀ (x1 : Int) (x2 : Int) (x3 : Int) (H : Heap) (locs : List Loc) (ls : Array Slot), f_Columns_load_4_b i_many i_heights i_weights k4 x1 x2 x3 = some out → va_P (dC, dI) vwCl (wd_Columns_load cA q0 q1 q2 i_many i_heights i_weights) H → va_D A (wd_Columns_load cA q0 q1 q2 i_many i_heights i_weights) → va_S A s.heap H locs → lv_has ls 4 [(0, .ref q0), (1, .int (Int32.ofInt x1)), (2, .int (Int32.ofInt x2)), (3, .int (Int32.ofInt x3))] → W p l e rm_Columns_load s m args below meth c H locs 0 0 Q (F0 m 4 ls []) := by
    intro k4 ih4 x1 x2 x3 H locs ls hf hP hD hS hl
    unfold f_Columns_load_4_b at hf
    refine lv_iload_n hx hb dX1_load_4 rfl (lv_at hl 3 rfl) ?_
    refine lv_aload_n hx hb dX1_load_5 rfl (lv_at hl 0 rfl) ?_
    refine lv_iload_n hx hb dX1_load_6 rfl (lv_at hl 1 rfl) ?_
    refine xe_d1 hf (fun v1 hg hf => ?_)
    have hC : ([0, 1] : List Nat).map (fun i => (wd_Columns_load cA q0 q1 q2 i_many i_heights i_weights)[i]?) = (wd_Columns_high cA q0 q1 q2 i_many i_heights).map some := rfl
    refine xv_afterI (ws' := (wd_Columns_load cA q0 q1 q2 i_many i_heights i_weights)) (isC := [0, 1]) (ps := [some 0, some 1, none]) (va_runV (As := [.int (Int32.ofInt x1)]) (rest := [.int (Int32.ofInt x3)]) ⟨hx, hb, hml, hown, hts⟩ (c_Columns_high l ev dC dI cA q0 q1 q2 hg H.size) (cwV 1 hts (zgV zw_571 zw_556 zw_557 zw_106 zw_558) rfl rfl rfl hd_Columns_high ⟨Nat.le_of_ble_eq_true rfl, Nat.le_of_ble_eq_true rfl⟩) (xv_preV (T := TX1) (N := 3) hE hA hS hK hP hD (isC := [0, 1]) (by decide +kernel) hC (q0 := 0) (ci := 1) rfl rfl) rfl rfl hl.1 rfl (lv_room (Nat.le_of_ble_eq_true rfl)) dX1_load_7 ⟨Nat.le_refl _, Nat.le_refl _⟩) hP hD hS hA (by decide +kernel) rfl hC rfl rfl (fun H locs hP hD hS => ?_)
    refine xi_icmp_ge (tgt := 28) hx hb dX1_load_10 (by decide) hf (fun hf => ?_) (fun hf => ?_)
    · refine lv_iload_n hx hb dX1_load_28 rfl (lv_at hl 2 rfl) ?_
      obtain rfl := Option.some.inj hf
      exact hret _ _ _ _ rfl dX1_load_29 hP hD hS
    · refine lv_iload_n hx hb dX1_load_13 rfl (lv_at hl 2 rfl) ?_
      refine lv_aload_n hx hb dX1_load_14 rfl (lv_at hl 0 rfl) ?_
      refine lv_iload_n hx hb dX1_load_15 rfl (lv_at hl 1 rfl) ?_
      refine lv_iload_n hx hb dX1_load_16 rfl (lv_at hl 3 rfl) ?_
      refine xe_d1 hf (fun v2 hg hf => ?_)
      have hC : ([0, 1, 2] : List Nat).map (fun i => (wd_Columns_load cA q0 q1 q2 i_many i_heights i_weights)[i]?) = (wd_Columns_heft cA q0 q1 q2 i_many i_heights i_weights).map some := rfl
      refine xv_afterI (ws' := (wd_Columns_load cA q0 q1 q2 i_many i_heights i_weights)) (isC := [0, 1, 2]) (ps := [some 0, some 1, some 2]) (va_runV (As := [.int (Int32.ofInt x1), .int (Int32.ofInt x3)]) (rest := [.int (Int32.ofInt x2)]) ⟨hx, hb, hml, hown, hts⟩ (c_Columns_heft l ev dC dI cA q0 q1 q2 hg H.size) (cwV 2 hts (zgV zw_588 zw_577 zw_578 zw_106 zw_579) rfl rfl rfl hd_Columns_heft ⟨Nat.le_of_ble_eq_true rfl, Nat.le_of_ble_eq_true rfl⟩) (xv_preV (T := TX1) (N := 3) hE hA hS hK hP hD (isC := [0, 1, 2]) (by decide +kernel) hC (q0 := 0) (ci := 1) rfl rfl) rfl rfl hl.1 rfl (lv_room (Nat.le_of_ble_eq_true rfl)) dX1_load_17 ⟨Nat.le_refl _, Nat.le_refl _⟩) hP hD hS hA (by decide +kernel) rfl hC rfl rfl (fun H locs hP hD hS => ?_)
      refine xi_iadd hx hb dX1_load_20 hf (fun v3 hf => ?_)
      refine lv_istore_n (lv' := [(2, .int (Int32.ofInt v3)), (0, .ref q0), (1, .int (Int32.ofInt x1)), (3, .int (Int32.ofInt x3))]) hx hb dX1_load_21 rfl hl (by decide) rfl (fun ls hl => ?_)
      refine xi_iinc hx hb dX1_load_22 hl (k := 3) rfl (by decide) hf (fun v4 ls hl hf => ?_)
      have hl : lv_has ls 4 [(3, .int (Int32.ofInt v4)), (2, .int (Int32.ofInt v3)), (0, .ref q0), (1, .int (Int32.ofInt x1))] := hl
      refine lv_goto (tgt := 4) hx hb dX1_load_25 (by decide) ?_
      exact ih4 _ _ _ _ _ _ hf hP hD hS (lv_sub hl [2, 3, 1, 0] rfl)
  have l_4 : ∀ (n : Nat), ∀ (x1 : Int) (x2 : Int) (x3 : Int) (H : Heap) (locs : List Loc) (ls : Array Slot), f_Columns_load_4 i_many i_heights i_weights n x1 x2 x3 = some out → va_P (dC, dI) vwCl (wd_Columns_load cA q0 q1 q2 i_many i_heights i_weights) H → va_D A (wd_Columns_load cA q0 q1 q2 i_many i_heights i_weights) → va_S A s.heap H locs → lv_has ls 4 [(0, .ref q0), (1, .int (Int32.ofInt x1)), (2, .int (Int32.ofInt x2)), (3, .int (Int32.ofInt x3))] → W p l e rm_Columns_load s m args below meth c H locs 0 0 Q (F0 m 4 ls []) := by
    intro n
    induction n with
    | zero => intro x1 x2 x3 H locs ls hf hP hD hS hl; exact nomatch hf
    | succ n ih => intro x1 x2 x3 H locs ls hf hP hD hS hl; exact b_4 (f_Columns_load_4 i_many i_heights i_weights n) ih x1 x2 x3 H locs ls hf hP hD hS hl
  unfold f_Columns_load at hf
  refine lv_iconst (v := Int32.ofInt 0) hx hb dX1_load_0 rfl ?_
  refine lv_istore_n (lv' := [(2, .int (Int32.ofInt 0)), (0, .ref q0), (1, .int (Int32.ofInt x1))]) hx hb dX1_load_1 rfl hl (by decide) rfl (fun ls hl => ?_)
  refine lv_iconst (v := Int32.ofInt 0) hx hb dX1_load_2 rfl ?_
  refine lv_istore_n (lv' := [(3, .int (Int32.ofInt 0)), (2, .int (Int32.ofInt 0)), (0, .ref q0), (1, .int (Int32.ofInt x1))]) hx hb dX1_load_3 rfl hl (by decide) rfl (fun ls hl => ?_)
  exact l_4  _ _ _ _ _ _ _ hf hP hD hS (lv_sub hl [2, 3, 1, 0] rfl)
theorem dX10_weight_0 : decode cX10_weight 0 = .ok (.aload_n 0, 1) := by decide +kernel
theorem dX10_weight_1 : decode cX10_weight 1 = .ok (.getfield 10, 3) := by decide +kernel
theorem dX10_weight_4 : decode cX10_weight 4 = .ok (.getfield 99, 3) := by decide +kernel
theorem dX10_weight_7 : decode cX10_weight 7 = .ok (.iload_n 1, 1) := by decide +kernel
theorem dX10_weight_8 : decode cX10_weight 8 = .ok (.invokevirtual 122, 3) := by decide +kernel
theorem dX10_weight_11 : decode cX10_weight 11 = .ok (.ifCond .eq 17, 3) := by decide +kernel
theorem dX10_weight_14 : decode cX10_weight 14 = .ok (.aload_n 0, 1) := by decide +kernel
theorem dX10_weight_15 : decode cX10_weight 15 = .ok (.getfield 10, 3) := by decide +kernel
theorem dX10_weight_18 : decode cX10_weight 18 = .ok (.getfield 99, 3) := by decide +kernel
theorem dX10_weight_21 : decode cX10_weight 21 = .ok (.iload_n 1, 1) := by decide +kernel
theorem dX10_weight_22 : decode cX10_weight 22 = .ok (.invokevirtual 140, 3) := by decide +kernel
theorem dX10_weight_25 : decode cX10_weight 25 = .ok (.goto 4, 3) := by decide +kernel
theorem dX10_weight_28 : decode cX10_weight 28 = .ok (.iconst (-1), 1) := by decide +kernel
theorem dX10_weight_29 : decode cX10_weight 29 = .ok (.ireturn, 1) := by decide +kernel
theorem zw_583 : (Jvm.Cond.code ({ cls := "HillSchool", name := "weight", desc := "(I)I" } : Jvm.MethodName) prog_1_method_6_code (2 : Nat) (Option.some Jvm.ClassFile.FieldType.int)) ∈ zall := zmemG (zmj_3 0 rfl) rfl
theorem zw_584 : (Jvm.Cond.methodLink "HillSchool" (140 : Nat) ({ cls := "HillSchool$Columns", name := "load", desc := "(I)I" } : Jvm.MethodName)) ∈ zall := zmemG (zmj_3 1 rfl) rfl
theorem zw_585 : (Jvm.Cond.instanceMethod ({ cls := "HillSchool$Columns", name := "load", desc := "(I)I" } : Jvm.MethodName)) ∈ zall := zmemG (zmj_3 2 rfl) rfl
theorem zw_586 : (Jvm.Cond.selects "HillSchool$Columns" ({ cls := "HillSchool$Columns", name := "load", desc := "(I)I" } : Jvm.MethodName) ({ cls := "HillSchool$Columns", name := "load", desc := "(I)I" } : Jvm.MethodName)) ∈ zall := zmemG (zmj_3 3 rfl) rfl
abbrev w_HS_weight : List Cond := .code yX10_weight cX10_weight 2 (some .int) :: zall
abbrev rm_HS_weight : Room := { frames := 4, cells := 0, slots := 0, locals := 87 }
theorem hd_HS_weight : yX10_weight.cls = "HillSchool" ∧ yX10_weight.cls ≠ "java/lang/invoke/MethodHandle" ∧ yX10_weight.cls ≠ "java/lang/invoke/VarHandle" ∧ (parseMethodDescriptor yX10_weight.desc).map (fun d => d.parameters.length) = some 1 := by decide +kernel
def wd_HS_weight (cA : Nat → ClassId) (q0 q1 q2 q3 q4 q5 q6 q7 q8 q9 q10 q11 q12 q13 q14 q15 q16 q17 q18 q19 q20 q21 q22 q23 : Nat) (u0 u1 u2 u3 u4 u5 u6 u7 u8 : Int) (i_hill_columns_many : Int) (i_hill_columns_heights : Nat → Int) (i_hill_columns_weights : Nat → Int)  : va_W := [(q0, .inr (10, [.ref q1, .ref q2, .ref q3, .ref q4, .int (Int32.ofInt u0), .int (Int32.ofInt u1), .int (Int32.ofInt u2), .ref q5, .int (Int32.ofInt u3), .ref q6, .ref q7, .ref q8, .ref q9, .ref q10, .ref q11, .ref q12])), (q1, .inr (2, [.ref q13, .int (Int32.ofInt u4), .ref q14, .ref q15, .ref q16, .int (Int32.ofInt u5), .ref q17, .ref q18, .ref q19, .int (Int32.ofInt u6), .ref q20, .ref q21, .int (Int32.ofInt u7), .int (Int32.ofInt u8)])), (q13, .inr (1, [.int (Int32.ofInt i_hill_columns_many), .ref q22, .ref q23])), (q22, .inl (cA 0, 12, .inl (za i_hill_columns_heights))), (q23, .inl (cA 0, 120, .inl (za i_hill_columns_weights)))]
def wf_HS_weight (cA : Nat → ClassId) (q0 q1 q2 q3 q4 q5 q6 q7 q8 q9 q10 q11 q12 q13 q14 q15 q16 q17 q18 q19 q20 q21 q22 q23 : Nat) (u0 u1 u2 u3 u4 u5 u6 u7 u8 : Int) (i_hill_columns_many : Int) (i_hill_columns_heights : Nat → Int) (i_hill_columns_weights : Nat → Int) (o : Int) : va_W := wd_HS_weight cA q0 q1 q2 q3 q4 q5 q6 q7 q8 q9 q10 q11 q12 q13 q14 q15 q16 q17 q18 q19 q20 q21 q22 q23 u0 u1 u2 u3 u4 u5 u6 u7 u8 i_hill_columns_many i_hill_columns_heights i_hill_columns_weights
def f_HS_weight (x1 : Int) (i_hill_columns_many : Int) (i_hill_columns_heights : Nat → Int) (i_hill_columns_weights : Nat → Int) : Option (Int) :=
  zd1 (f_Columns_has x1 i_hill_columns_many) fun v1 =>
  if zi_w v1 = 0 then
    some (-1)
  else
    zd1 (f_Columns_load x1 i_hill_columns_many i_hill_columns_heights i_hill_columns_weights) fun v2 =>
    some v2
set_option maxHeartbeats 4000000 in
set_option maxRecDepth 100000 in
theorem c_HS_weight (l : Launch) (ev : zEv) (dC : Nat → ClassId) (dI : Nat → Nat → Nat) (cA : Nat → ClassId) (q0 q1 q2 q3 q4 q5 q6 q7 q8 q9 q10 q11 q12 q13 q14 q15 q16 q17 q18 q19 q20 q21 q22 q23 : Nat) (u0 u1 u2 u3 u4 u5 u6 u7 u8 : Int) {x1 : Int} {i_hill_columns_many : Int} {i_hill_columns_heights : Nat → Int} {i_hill_columns_weights : Nat → Int} {out : Int} (hf : f_HS_weight x1 i_hill_columns_many i_hill_columns_heights i_hill_columns_weights = some out) : xc_I l ev (dC, dI) vwCl (tyl cA) yX10_weight w_HS_weight rm_HS_weight [.ref q0, .int (Int32.ofInt x1)] (wd_HS_weight cA q0 q1 q2 q3 q4 q5 q6 q7 q8 q9 q10 q11 q12 q13 q14 q15 q16 q17 q18 q19 q20 q21 q22 q23 u0 u1 u2 u3 u4 u5 u6 u7 u8 i_hill_columns_many i_hill_columns_heights i_hill_columns_weights) (wf_HS_weight cA q0 q1 q2 q3 q4 q5 q6 q7 q8 q9 q10 q11 q12 q13 q14 q15 q16 q17 q18 q19 q20 q21 q22 q23 u0 u1 u2 u3 u4 u5 u6 u7 u8 i_hill_columns_many i_hill_columns_heights i_hill_columns_weights out) out := by
  refine xv_startI (cc := cX10_weight) (maxL := 2) (rt := .int) (by decide +kernel) rfl (Nat.le_of_ble_eq_true rfl) ?_
  intro p e s m args below meth c A Q H ls hx hb hml hts hown hK hA hP hD hS hl hE hret
  have hown : s.vm.findClass "HillSchool" = some m.cls := hown
  have hz : ∀ w ∈ zall, w.before args s = true := fun w h => hts w (List.mem_cons_of_mem _ h)
  have hl : lv_has ls 2 [(0, .ref q0), (1, .int (Int32.ofInt x1))] := hl
  unfold f_HS_weight at hf
  refine lv_aload_n hx hb dX10_weight_0 rfl (lv_at hl 0 rfl) ?_
  refine va_get (D := (dC, dI)) (ci := 10) (v := .ref q1) (C := RX10) (T := TX10) (N := 16) hx hb hz zi_X10 hown hK hP 0 rfl rfl 0 (by decide) (hz _ zw_477) (fun _ h9 => h9) rfl dX10_weight_1 ?_
  refine va_getN (D := (dC, dI)) (ci := 2) (v := .ref q13) (C := RX2) (T := TX2) (N := 14) hx hb hz zi_X2 hown hK hP 1 rfl rfl 0 (by decide) (va_Nw.use rfl (hE.1.1 _ zw_169)) (fun _ h9 => h9) rfl dX10_weight_4 ?_
  refine lv_iload_n hx hb dX10_weight_7 rfl (lv_at hl 1 rfl) ?_
  refine xe_d1 hf (fun v1 hg hf => ?_)
  have hC : ([2] : List Nat).map (fun i => (wd_HS_weight cA q0 q1 q2 q3 q4 q5 q6 q7 q8 q9 q10 q11 q12 q13 q14 q15 q16 q17 q18 q19 q20 q21 q22 q23 u0 u1 u2 u3 u4 u5 u6 u7 u8 i_hill_columns_many i_hill_columns_heights i_hill_columns_weights)[i]?) = (wd_Columns_has cA q13 q22 q23 i_hill_columns_many).map some := rfl
  refine xv_afterI (ws' := (wd_HS_weight cA q0 q1 q2 q3 q4 q5 q6 q7 q8 q9 q10 q11 q12 q13 q14 q15 q16 q17 q18 q19 q20 q21 q22 q23 u0 u1 u2 u3 u4 u5 u6 u7 u8 i_hill_columns_many i_hill_columns_heights i_hill_columns_weights)) (isC := [2]) (ps := [none, none, some 0, none, none]) (va_runV (As := [.int (Int32.ofInt x1)]) (rest := []) ⟨hx, hb, hml, hown, hts⟩ (c_Columns_has l ev dC dI cA q13 q22 q23 hg H.size) (cwV 1 hts (zgV zw_546 zw_547 zw_548 zw_106 zw_549) rfl rfl rfl hd_Columns_has ⟨Nat.le_of_ble_eq_true rfl, Nat.le_of_ble_eq_true rfl⟩) (xv_preV (T := TX1) (N := 3) hE hA hS hK hP hD (isC := [2]) (by decide +kernel) hC (q0 := 2) (ci := 1) rfl rfl) rfl rfl hl.1 rfl (lv_room (Nat.le_of_ble_eq_true rfl)) dX10_weight_8 ⟨Nat.le_refl _, Nat.le_refl _⟩) hP hD hS hA (by decide +kernel) rfl hC rfl rfl (fun H locs hP hD hS => ?_)
  refine xi_if_eq (tgt := 28) hx hb dX10_weight_11 (by decide) hf (fun hf => ?_) (fun hf => ?_)
  · refine lv_iconst (v := Int32.ofInt (-1)) hx hb dX10_weight_28 rfl ?_
    obtain rfl := Option.some.inj hf
    exact hret _ _ _ _ rfl dX10_weight_29 hP hD hS
  · refine lv_aload_n hx hb dX10_weight_14 rfl (lv_at hl 0 rfl) ?_
    refine va_get (D := (dC, dI)) (ci := 10) (v := .ref q1) (C := RX10) (T := TX10) (N := 16) hx hb hz zi_X10 hown hK hP 0 rfl rfl 0 (by decide) (hz _ zw_477) (fun _ h9 => h9) rfl dX10_weight_15 ?_
    refine va_getN (D := (dC, dI)) (ci := 2) (v := .ref q13) (C := RX2) (T := TX2) (N := 14) hx hb hz zi_X2 hown hK hP 1 rfl rfl 0 (by decide) (va_Nw.use rfl (hE.1.1 _ zw_169)) (fun _ h9 => h9) rfl dX10_weight_18 ?_
    refine lv_iload_n hx hb dX10_weight_21 rfl (lv_at hl 1 rfl) ?_
    refine xe_d1 hf (fun v2 hg hf => ?_)
    have hC : ([2, 3, 4] : List Nat).map (fun i => (wd_HS_weight cA q0 q1 q2 q3 q4 q5 q6 q7 q8 q9 q10 q11 q12 q13 q14 q15 q16 q17 q18 q19 q20 q21 q22 q23 u0 u1 u2 u3 u4 u5 u6 u7 u8 i_hill_columns_many i_hill_columns_heights i_hill_columns_weights)[i]?) = (wd_Columns_load cA q13 q22 q23 i_hill_columns_many i_hill_columns_heights i_hill_columns_weights).map some := rfl
    refine xv_afterI (ws' := (wd_HS_weight cA q0 q1 q2 q3 q4 q5 q6 q7 q8 q9 q10 q11 q12 q13 q14 q15 q16 q17 q18 q19 q20 q21 q22 q23 u0 u1 u2 u3 u4 u5 u6 u7 u8 i_hill_columns_many i_hill_columns_heights i_hill_columns_weights)) (isC := [2, 3, 4]) (ps := [none, none, some 0, some 1, some 2]) (va_runV (As := [.int (Int32.ofInt x1)]) (rest := []) ⟨hx, hb, hml, hown, hts⟩ (c_Columns_load l ev dC dI cA q13 q22 q23 hg H.size) (cwV 1 hts (zgV zw_584 zw_585 zw_586 zw_106 zw_587) rfl rfl rfl hd_Columns_load ⟨Nat.le_of_ble_eq_true rfl, Nat.le_of_ble_eq_true rfl⟩) (xv_preV (T := TX1) (N := 3) hE hA hS hK hP hD (isC := [2, 3, 4]) (by decide +kernel) hC (q0 := 2) (ci := 1) rfl rfl) rfl rfl hl.1 rfl (lv_room (Nat.le_of_ble_eq_true rfl)) dX10_weight_22 ⟨Nat.le_refl _, Nat.le_refl _⟩) hP hD hS hA (by decide +kernel) rfl hC rfl rfl (fun H locs hP hD hS => ?_)
    refine lv_goto (tgt := 29) hx hb dX10_weight_25 (by decide) ?_
    obtain rfl := Option.some.inj hf
    exact hret _ _ _ _ rfl dX10_weight_29 hP hD hS
theorem dX2_enroll_0 : decode cX2_enroll 0 = .ok (.aload_n 0, 1) := by decide +kernel
theorem dX2_enroll_1 : decode cX2_enroll 1 = .ok (.getfield 18, 3) := by decide +kernel
theorem dX2_enroll_4 : decode cX2_enroll 4 = .ok (.istore_n 2, 1) := by decide +kernel
theorem dX2_enroll_5 : decode cX2_enroll 5 = .ok (.iload_n 2, 1) := by decide +kernel
theorem dX2_enroll_6 : decode cX2_enroll 6 = .ok (.bipush 6, 2) := by decide +kernel
theorem dX2_enroll_8 : decode cX2_enroll 8 = .ok (.if_icmp .lt 5, 3) := by decide +kernel
theorem dX2_enroll_11 : decode cX2_enroll 11 = .ok (.iconst (-1), 1) := by decide +kernel
theorem dX2_enroll_12 : decode cX2_enroll 12 = .ok (.ireturn, 1) := by decide +kernel
theorem dX2_enroll_13 : decode cX2_enroll 13 = .ok (.aload_n 0, 1) := by decide +kernel
theorem dX2_enroll_14 : decode cX2_enroll 14 = .ok (.getfield 22, 3) := by decide +kernel
theorem dX2_enroll_17 : decode cX2_enroll 17 = .ok (.iload_n 2, 1) := by decide +kernel
theorem dX2_enroll_18 : decode cX2_enroll 18 = .ok (.iload_n 1, 1) := by decide +kernel
theorem dX2_enroll_19 : decode cX2_enroll 19 = .ok (.iastore, 1) := by decide +kernel
theorem dX2_enroll_20 : decode cX2_enroll 20 = .ok (.aload_n 0, 1) := by decide +kernel
theorem dX2_enroll_21 : decode cX2_enroll 21 = .ok (.getfield 26, 3) := by decide +kernel
theorem dX2_enroll_24 : decode cX2_enroll 24 = .ok (.iload_n 2, 1) := by decide +kernel
theorem dX2_enroll_25 : decode cX2_enroll 25 = .ok (.iconst 0, 1) := by decide +kernel
theorem dX2_enroll_26 : decode cX2_enroll 26 = .ok (.iastore, 1) := by decide +kernel
theorem dX2_enroll_27 : decode cX2_enroll 27 = .ok (.aload_n 0, 1) := by decide +kernel
theorem dX2_enroll_28 : decode cX2_enroll 28 = .ok (.getfield 29, 3) := by decide +kernel
theorem dX2_enroll_31 : decode cX2_enroll 31 = .ok (.iload_n 2, 1) := by decide +kernel
theorem dX2_enroll_32 : decode cX2_enroll 32 = .ok (.iconst 0, 1) := by decide +kernel
theorem dX2_enroll_33 : decode cX2_enroll 33 = .ok (.iastore, 1) := by decide +kernel
theorem dX2_enroll_34 : decode cX2_enroll 34 = .ok (.aload_n 0, 1) := by decide +kernel
theorem dX2_enroll_35 : decode cX2_enroll 35 = .ok (.dup, 1) := by decide +kernel
theorem dX2_enroll_36 : decode cX2_enroll 36 = .ok (.getfield 18, 3) := by decide +kernel
theorem dX2_enroll_39 : decode cX2_enroll 39 = .ok (.iconst 1, 1) := by decide +kernel
theorem dX2_enroll_40 : decode cX2_enroll 40 = .ok (.iadd, 1) := by decide +kernel
theorem dX2_enroll_41 : decode cX2_enroll 41 = .ok (.putfield 18, 3) := by decide +kernel
theorem dX2_enroll_44 : decode cX2_enroll 44 = .ok (.iload_n 2, 1) := by decide +kernel
theorem dX2_enroll_45 : decode cX2_enroll 45 = .ok (.ireturn, 1) := by decide +kernel
theorem zw_173 : (Jvm.Cond.fieldLink "HillSchool$Hill" (18 : Nat) "HillSchool$Hill" "children" "I") ∈ zall := zmemG (zmj_1 70 rfl) rfl
theorem zw_177 : (Jvm.Cond.fieldLink "HillSchool$Hill" (22 : Nat) "HillSchool$Hill" "strengths" "[I") ∈ zall := zmemG (zmj_1 74 rfl) rfl
theorem zw_180 : (Jvm.Cond.fieldLink "HillSchool$Hill" (26 : Nat) "HillSchool$Hill" "expelled" "[I") ∈ zall := zmemG (zmj_1 77 rfl) rfl
theorem zw_182 : (Jvm.Cond.fieldLink "HillSchool$Hill" (29 : Nat) "HillSchool$Hill" "trips" "[I") ∈ zall := zmemG (zmj_1 79 rfl) rfl
theorem zw_596 : (Jvm.Cond.code ({ cls := "HillSchool$Hill", name := "enroll", desc := "(I)I" } : Jvm.MethodName) prog_4_method_4_code (3 : Nat) (Option.some Jvm.ClassFile.FieldType.int)) ∈ zall := zmemG (zmj_3 13 rfl) rfl
abbrev w_Hill_enroll : List Cond := .code yX2_enroll cX2_enroll 3 (some .int) :: zall
abbrev rm_Hill_enroll : Room := { frames := 0, cells := 0, slots := 0, locals := 0 }
theorem hd_Hill_enroll : yX2_enroll.cls = "HillSchool$Hill" ∧ yX2_enroll.cls ≠ "java/lang/invoke/MethodHandle" ∧ yX2_enroll.cls ≠ "java/lang/invoke/VarHandle" ∧ (parseMethodDescriptor yX2_enroll.desc).map (fun d => d.parameters.length) = some 1 := by decide +kernel
def wd_Hill_enroll (cA : Nat → ClassId) (q0 q1 q2 q3 q4 q5 q6 q7 q8 q9 : Nat) (u0 u1 u2 u3 : Int)  (i_children : Int) (i_strengths : Nat → Int) (i_expelled : Nat → Int) (i_trips : Nat → Int) : va_W := [(q0, .inr (2, [.ref q1, .int (Int32.ofInt i_children), .ref q2, .ref q3, .ref q4, .int (Int32.ofInt u0), .ref q5, .ref q6, .ref q7, .int (Int32.ofInt u1), .ref q8, .ref q9, .int (Int32.ofInt u2), .int (Int32.ofInt u3)])), (q2, .inl (cA 0, 6, .inl (za i_strengths))), (q3, .inl (cA 0, 6, .inl (za i_expelled))), (q4, .inl (cA 0, 6, .inl (za i_trips)))]
def wf_Hill_enroll (cA : Nat → ClassId) (q0 q1 q2 q3 q4 q5 q6 q7 q8 q9 : Nat) (u0 u1 u2 u3 : Int)  (o : Int × Int × (Nat → Int) × (Nat → Int) × (Nat → Int)) : va_W := wd_Hill_enroll cA q0 q1 q2 q3 q4 q5 q6 q7 q8 q9 u0 u1 u2 u3 o.2.1 o.2.2.1 o.2.2.2.1 o.2.2.2.2
def f_Hill_enroll (x1 : Int) (i_children : Int) (i_strengths : Nat → Int) (i_expelled : Nat → Int) (i_trips : Nat → Int) : Option (Int × Int × (Nat → Int) × (Nat → Int) × (Nat → Int)) :=
  if zi_w i_children < zi_w 6 then
    zs 6 i_strengths i_children x1 fun a1 =>
    zs 6 i_expelled i_children 0 fun a2 =>
    zs 6 i_trips i_children 0 fun a3 =>
    zn (i_children + 1) fun v4 =>
    some (i_children, v4, a1, a2, a3)
  else
    some ((-1), i_children, i_strengths, i_expelled, i_trips)
set_option maxHeartbeats 4000000 in
set_option maxRecDepth 100000 in
theorem c_Hill_enroll (l : Launch) (ev : zEv) (dC : Nat → ClassId) (dI : Nat → Nat → Nat) (cA : Nat → ClassId) (q0 q1 q2 q3 q4 q5 q6 q7 q8 q9 : Nat) (u0 u1 u2 u3 : Int) {x1 : Int} {i_children : Int} {i_strengths : Nat → Int} {i_expelled : Nat → Int} {i_trips : Nat → Int} {out : Int × Int × (Nat → Int) × (Nat → Int) × (Nat → Int)} (hf : f_Hill_enroll x1 i_children i_strengths i_expelled i_trips = some out) : xc_I l ev (dC, dI) vwCl (tyl cA) yX2_enroll w_Hill_enroll rm_Hill_enroll [.ref q0, .int (Int32.ofInt x1)] (wd_Hill_enroll cA q0 q1 q2 q3 q4 q5 q6 q7 q8 q9 u0 u1 u2 u3 i_children i_strengths i_expelled i_trips) (wf_Hill_enroll cA q0 q1 q2 q3 q4 q5 q6 q7 q8 q9 u0 u1 u2 u3 out) out.1 := by
  refine xv_startI (cc := cX2_enroll) (maxL := 3) (rt := .int) (by decide +kernel) rfl (Nat.le_of_ble_eq_true rfl) ?_
  intro p e s m args below meth c A Q H ls hx hb hml hts hown hK hA hP hD hS hl hE hret
  have hown : s.vm.findClass "HillSchool$Hill" = some m.cls := hown
  have hz : ∀ w ∈ zall, w.before args s = true := fun w h => hts w (List.mem_cons_of_mem _ h)
  have hl : lv_has ls 3 [(0, .ref q0), (1, .int (Int32.ofInt x1))] := hl
  unfold f_Hill_enroll at hf
  refine lv_aload_n hx hb dX2_enroll_0 rfl (lv_at hl 0 rfl) ?_
  refine va_get (D := (dC, dI)) (ci := 2) (v := .int (Int32.ofInt i_children)) (C := RX2) (T := TX2) (N := 14) hx hb hz zi_X2 hown hK hP 0 rfl rfl 1 (by decide) (hz _ zw_173) (fun _ h9 => h9) rfl dX2_enroll_1 ?_
  refine lv_istore_n (lv' := [(2, .int (Int32.ofInt i_children)), (0, .ref q0), (1, .int (Int32.ofInt x1))]) hx hb dX2_enroll_4 rfl hl (by decide) rfl (fun ls hl => ?_)
  refine lv_iload_n hx hb dX2_enroll_5 rfl (lv_at hl 0 rfl) ?_
  refine lv_bipush (v := Int32.ofInt 6) hx hb dX2_enroll_6 (by decide) ?_
  refine xi_icmp_lt (tgt := 13) hx hb dX2_enroll_8 (by decide) hf (fun hf => ?_) (fun hf => ?_)
  · refine lv_aload_n hx hb dX2_enroll_13 rfl (lv_at hl 1 rfl) ?_
    refine va_get (D := (dC, dI)) (ci := 2) (v := .ref q2) (C := RX2) (T := TX2) (N := 14) hx hb hz zi_X2 hown hK hP 0 rfl rfl 2 (by decide) (hz _ zw_177) (fun _ h9 => h9) rfl dX2_enroll_14 ?_
    refine lv_iload_n hx hb dX2_enroll_17 rfl (lv_at hl 0 rfl) ?_
    refine lv_iload_n hx hb dX2_enroll_18 rfl (lv_at hl 2 rfl) ?_
    refine xi_iast hx hb hK hP hD hS 1 0 rfl rfl dX2_enroll_19 hf (fun a1 H locs hP hD hS hf => ?_)
    have hP : va_P (dC, dI) vwCl (wd_Hill_enroll cA q0 q1 q2 q3 q4 q5 q6 q7 q8 q9 u0 u1 u2 u3 i_children a1 i_expelled i_trips) H := hP
    have hD : va_D A (wd_Hill_enroll cA q0 q1 q2 q3 q4 q5 q6 q7 q8 q9 u0 u1 u2 u3 i_children a1 i_expelled i_trips) := hD
    refine lv_aload_n hx hb dX2_enroll_20 rfl (lv_at hl 1 rfl) ?_
    refine va_get (D := (dC, dI)) (ci := 2) (v := .ref q3) (C := RX2) (T := TX2) (N := 14) hx hb hz zi_X2 hown hK hP 0 rfl rfl 3 (by decide) (hz _ zw_180) (fun _ h9 => h9) rfl dX2_enroll_21 ?_
    refine lv_iload_n hx hb dX2_enroll_24 rfl (lv_at hl 0 rfl) ?_
    refine lv_iconst (v := Int32.ofInt 0) hx hb dX2_enroll_25 rfl ?_
    refine xi_iast hx hb hK hP hD hS 2 0 rfl rfl dX2_enroll_26 hf (fun a2 H locs hP hD hS hf => ?_)
    have hP : va_P (dC, dI) vwCl (wd_Hill_enroll cA q0 q1 q2 q3 q4 q5 q6 q7 q8 q9 u0 u1 u2 u3 i_children a1 a2 i_trips) H := hP
    have hD : va_D A (wd_Hill_enroll cA q0 q1 q2 q3 q4 q5 q6 q7 q8 q9 u0 u1 u2 u3 i_children a1 a2 i_trips) := hD
    refine lv_aload_n hx hb dX2_enroll_27 rfl (lv_at hl 1 rfl) ?_
    refine va_get (D := (dC, dI)) (ci := 2) (v := .ref q4) (C := RX2) (T := TX2) (N := 14) hx hb hz zi_X2 hown hK hP 0 rfl rfl 4 (by decide) (hz _ zw_182) (fun _ h9 => h9) rfl dX2_enroll_28 ?_
    refine lv_iload_n hx hb dX2_enroll_31 rfl (lv_at hl 0 rfl) ?_
    refine lv_iconst (v := Int32.ofInt 0) hx hb dX2_enroll_32 rfl ?_
    refine xi_iast hx hb hK hP hD hS 3 0 rfl rfl dX2_enroll_33 hf (fun a3 H locs hP hD hS hf => ?_)
    have hP : va_P (dC, dI) vwCl (wd_Hill_enroll cA q0 q1 q2 q3 q4 q5 q6 q7 q8 q9 u0 u1 u2 u3 i_children a1 a2 a3) H := hP
    have hD : va_D A (wd_Hill_enroll cA q0 q1 q2 q3 q4 q5 q6 q7 q8 q9 u0 u1 u2 u3 i_children a1 a2 a3) := hD
    refine lv_aload_n hx hb dX2_enroll_34 rfl (lv_at hl 1 rfl) ?_
    refine lv_dup hx hb dX2_enroll_35 rfl ?_
    refine va_get (D := (dC, dI)) (ci := 2) (v := .int (Int32.ofInt i_children)) (C := RX2) (T := TX2) (N := 14) hx hb hz zi_X2 hown hK hP 0 rfl rfl 1 (by decide) (hz _ zw_173) (fun _ h9 => h9) rfl dX2_enroll_36 ?_
    refine lv_iconst (v := Int32.ofInt 1) hx hb dX2_enroll_39 rfl ?_
    refine xi_iadd hx hb dX2_enroll_40 hf (fun v4 hf => ?_)
    refine va_put (D := (dC, dI)) (ci := 2) (v := .int (Int32.ofInt v4)) (ty := .int) (C := RX2) (T := TX2) (N := 14) hx hb hz zi_X2 tyX2 tyX2_ok nmX2 hown hK hP hD hS 0 rfl rfl 1 (by decide) (hz _ zw_173) (fun _ h9 => h9) rfl (by decide +kernel) rfl rfl (Nat.le_of_ble_eq_true rfl) dX2_enroll_41 (fun H locs hP hD hS => ?_)
    have hP : va_P (dC, dI) vwCl (wd_Hill_enroll cA q0 q1 q2 q3 q4 q5 q6 q7 q8 q9 u0 u1 u2 u3 v4 a1 a2 a3) H := hP
    have hD : va_D A (wd_Hill_enroll cA q0 q1 q2 q3 q4 q5 q6 q7 q8 q9 u0 u1 u2 u3 v4 a1 a2 a3) := hD
    refine lv_iload_n hx hb dX2_enroll_44 rfl (lv_at hl 0 rfl) ?_
    obtain rfl := Option.some.inj hf
    exact hret _ _ _ _ rfl dX2_enroll_45 hP hD hS
  · refine lv_iconst (v := Int32.ofInt (-1)) hx hb dX2_enroll_11 rfl ?_
    obtain rfl := Option.some.inj hf
    exact hret _ _ _ _ rfl dX2_enroll_12 hP hD hS
theorem dX10_child_0 : decode cX10_child 0 = .ok (.iload_n 1, 1) := by decide +kernel
theorem dX10_child_1 : decode cX10_child 1 = .ok (.iconst 1, 1) := by decide +kernel
theorem dX10_child_2 : decode cX10_child 2 = .ok (.if_icmp .lt 9, 3) := by decide +kernel
theorem dX10_child_5 : decode cX10_child 5 = .ok (.iload_n 1, 1) := by decide +kernel
theorem dX10_child_6 : decode cX10_child 6 = .ok (.bipush 60, 2) := by decide +kernel
theorem dX10_child_8 : decode cX10_child 8 = .ok (.if_icmp .le 9, 3) := by decide +kernel
theorem dX10_child_11 : decode cX10_child 11 = .ok (.aload_n 0, 1) := by decide +kernel
theorem dX10_child_12 : decode cX10_child 12 = .ok (.iconst (-1), 1) := by decide +kernel
theorem dX10_child_13 : decode cX10_child 13 = .ok (.invokevirtual 109, 3) := by decide +kernel
theorem dX10_child_16 : decode cX10_child 16 = .ok (.ireturn, 1) := by decide +kernel
theorem dX10_child_17 : decode cX10_child 17 = .ok (.aload_n 0, 1) := by decide +kernel
theorem dX10_child_18 : decode cX10_child 18 = .ok (.getfield 10, 3) := by decide +kernel
theorem dX10_child_21 : decode cX10_child 21 = .ok (.getfield 143, 3) := by decide +kernel
theorem dX10_child_24 : decode cX10_child 24 = .ok (.bipush 6, 2) := by decide +kernel
theorem dX10_child_26 : decode cX10_child 26 = .ok (.if_icmp .lt 10, 3) := by decide +kernel
theorem dX10_child_29 : decode cX10_child 29 = .ok (.aload_n 0, 1) := by decide +kernel
theorem dX10_child_30 : decode cX10_child 30 = .ok (.bipush (-5), 2) := by decide +kernel
theorem dX10_child_32 : decode cX10_child 32 = .ok (.invokevirtual 109, 3) := by decide +kernel
theorem dX10_child_35 : decode cX10_child 35 = .ok (.ireturn, 1) := by decide +kernel
theorem dX10_child_36 : decode cX10_child 36 = .ok (.aload_n 0, 1) := by decide +kernel
theorem dX10_child_37 : decode cX10_child 37 = .ok (.aload_n 0, 1) := by decide +kernel
theorem dX10_child_38 : decode cX10_child 38 = .ok (.getfield 10, 3) := by decide +kernel
theorem dX10_child_41 : decode cX10_child 41 = .ok (.iload_n 1, 1) := by decide +kernel
theorem dX10_child_42 : decode cX10_child 42 = .ok (.invokevirtual 146, 3) := by decide +kernel
theorem dX10_child_45 : decode cX10_child 45 = .ok (.invokevirtual 119, 3) := by decide +kernel
theorem dX10_child_48 : decode cX10_child 48 = .ok (.ireturn, 1) := by decide +kernel
theorem zw_105 : (Jvm.Cond.initialized "HillSchool$Hill") ∈ zall := zmemG (zmj_1 2 rfl) rfl
theorem zw_176 : (Jvm.Cond.fieldLinkNest "HillSchool" (143 : Nat) "HillSchool$Hill" "children" "I" "HillSchool") ∈ znest := zmemH (zmj_1 73 rfl) rfl
theorem zw_592 : (Jvm.Cond.code ({ cls := "HillSchool", name := "child", desc := "(I)I" } : Jvm.MethodName) prog_1_method_7_code (2 : Nat) (Option.some Jvm.ClassFile.FieldType.int)) ∈ zall := zmemG (zmj_3 9 rfl) rfl
theorem zw_593 : (Jvm.Cond.methodLink "HillSchool" (146 : Nat) ({ cls := "HillSchool$Hill", name := "enroll", desc := "(I)I" } : Jvm.MethodName)) ∈ zall := zmemG (zmj_3 10 rfl) rfl
theorem zw_594 : (Jvm.Cond.instanceMethod ({ cls := "HillSchool$Hill", name := "enroll", desc := "(I)I" } : Jvm.MethodName)) ∈ zall := zmemG (zmj_3 11 rfl) rfl
theorem zw_595 : (Jvm.Cond.selects "HillSchool$Hill" ({ cls := "HillSchool$Hill", name := "enroll", desc := "(I)I" } : Jvm.MethodName) ({ cls := "HillSchool$Hill", name := "enroll", desc := "(I)I" } : Jvm.MethodName)) ∈ zall := zmemG (zmj_3 12 rfl) rfl
abbrev w_HS_child : List Cond := .code yX10_child cX10_child 2 (some .int) :: zall
abbrev rm_HS_child : Room := { frames := 1, cells := 0, slots := 0, locals := 22 }
theorem hd_HS_child : yX10_child.cls = "HillSchool" ∧ yX10_child.cls ≠ "java/lang/invoke/MethodHandle" ∧ yX10_child.cls ≠ "java/lang/invoke/VarHandle" ∧ (parseMethodDescriptor yX10_child.desc).map (fun d => d.parameters.length) = some 1 := by decide +kernel
def wd_HS_child (cA : Nat → ClassId) (q0 q1 q2 q3 q4 q5 q6 q7 q8 q9 q10 q11 q12 q13 q14 q15 q16 q17 q18 q19 q20 q21 : Nat) (u0 u1 u2 u3 u4 u5 : Int)  (i_latestStatus : Int) (i_hill_children : Int) (i_hill_changes : Int) (i_refusals : Nat → Int) (i_hill_strengths : Nat → Int) (i_hill_expelled : Nat → Int) (i_hill_trips : Nat → Int) : va_W := [(q0, .inr (10, [.ref q1, .ref q2, .ref q3, .ref q4, .int (Int32.ofInt u0), .int (Int32.ofInt u1), .int (Int32.ofInt u2), .ref q5, .int (Int32.ofInt i_latestStatus), .ref q6, .ref q7, .ref q8, .ref q9, .ref q10, .ref q11, .ref q12])), (q1, .inr (2, [.ref q13, .int (Int32.ofInt i_hill_children), .ref q14, .ref q15, .ref q16, .int (Int32.ofInt u3), .ref q17, .ref q18, .ref q19, .int (Int32.ofInt u4), .ref q20, .ref q21, .int (Int32.ofInt u5), .int (Int32.ofInt i_hill_changes)])), (q5, .inl (cA 0, 7, .inl (za i_refusals))), (q14, .inl (cA 0, 6, .inl (za i_hill_strengths))), (q15, .inl (cA 0, 6, .inl (za i_hill_expelled))), (q16, .inl (cA 0, 6, .inl (za i_hill_trips)))]
def wf_HS_child (cA : Nat → ClassId) (q0 q1 q2 q3 q4 q5 q6 q7 q8 q9 q10 q11 q12 q13 q14 q15 q16 q17 q18 q19 q20 q21 : Nat) (u0 u1 u2 u3 u4 u5 : Int)  (o : Int × Int × Int × Int × (Nat → Int) × (Nat → Int) × (Nat → Int) × (Nat → Int)) : va_W := wd_HS_child cA q0 q1 q2 q3 q4 q5 q6 q7 q8 q9 q10 q11 q12 q13 q14 q15 q16 q17 q18 q19 q20 q21 u0 u1 u2 u3 u4 u5 o.2.1 o.2.2.1 o.2.2.2.1 o.2.2.2.2.1 o.2.2.2.2.2.1 o.2.2.2.2.2.2.1 o.2.2.2.2.2.2.2
def f_HS_child_11  (i_latestStatus : Int) (i_hill_children : Int) (i_hill_changes : Int) (i_refusals : Nat → Int) (i_hill_strengths : Nat → Int) (i_hill_expelled : Nat → Int) (i_hill_trips : Nat → Int) : Option (Int × Int × Int × Int × (Nat → Int) × (Nat → Int) × (Nat → Int) × (Nat → Int)) :=
  zd3 (f_HS_refuse (-1) i_latestStatus i_refusals) fun v1 v2 a3 =>
  some (v1, v2, i_hill_children, i_hill_changes, a3, i_hill_strengths, i_hill_expelled, i_hill_trips)
def f_HS_child (x1 : Int) (i_latestStatus : Int) (i_hill_children : Int) (i_hill_changes : Int) (i_refusals : Nat → Int) (i_hill_strengths : Nat → Int) (i_hill_expelled : Nat → Int) (i_hill_trips : Nat → Int) : Option (Int × Int × Int × Int × (Nat → Int) × (Nat → Int) × (Nat → Int) × (Nat → Int)) :=
  if zi_w x1 < zi_w 1 then
    f_HS_child_11 i_latestStatus i_hill_children i_hill_changes i_refusals i_hill_strengths i_hill_expelled i_hill_trips
  else
    if zi_w x1 ≤ zi_w 60 then
      if zi_w i_hill_children < zi_w 6 then
        zd5 (f_Hill_enroll x1 i_hill_children i_hill_strengths i_hill_expelled i_hill_trips) fun v1 v2 a3 a4 a5 =>
        zd3 (f_HS_accept v1 i_latestStatus i_hill_changes) fun v6 v7 v8 =>
        some (v6, v7, v2, v8, i_refusals, a3, a4, a5)
      else
        zd3 (f_HS_refuse (-5) i_latestStatus i_refusals) fun v9 v10 a11 =>
        some (v9, v10, i_hill_children, i_hill_changes, a11, i_hill_strengths, i_hill_expelled, i_hill_trips)
    else
      f_HS_child_11 i_latestStatus i_hill_children i_hill_changes i_refusals i_hill_strengths i_hill_expelled i_hill_trips
set_option maxHeartbeats 4000000 in
set_option maxRecDepth 100000 in
theorem c_HS_child (l : Launch) (ev : zEv) (dC : Nat → ClassId) (dI : Nat → Nat → Nat) (cA : Nat → ClassId) (q0 q1 q2 q3 q4 q5 q6 q7 q8 q9 q10 q11 q12 q13 q14 q15 q16 q17 q18 q19 q20 q21 : Nat) (u0 u1 u2 u3 u4 u5 : Int) {x1 : Int} {i_latestStatus : Int} {i_hill_children : Int} {i_hill_changes : Int} {i_refusals : Nat → Int} {i_hill_strengths : Nat → Int} {i_hill_expelled : Nat → Int} {i_hill_trips : Nat → Int} {out : Int × Int × Int × Int × (Nat → Int) × (Nat → Int) × (Nat → Int) × (Nat → Int)} (hf : f_HS_child x1 i_latestStatus i_hill_children i_hill_changes i_refusals i_hill_strengths i_hill_expelled i_hill_trips = some out) : xc_I l ev (dC, dI) vwCl (tyl cA) yX10_child w_HS_child rm_HS_child [.ref q0, .int (Int32.ofInt x1)] (wd_HS_child cA q0 q1 q2 q3 q4 q5 q6 q7 q8 q9 q10 q11 q12 q13 q14 q15 q16 q17 q18 q19 q20 q21 u0 u1 u2 u3 u4 u5 i_latestStatus i_hill_children i_hill_changes i_refusals i_hill_strengths i_hill_expelled i_hill_trips) (wf_HS_child cA q0 q1 q2 q3 q4 q5 q6 q7 q8 q9 q10 q11 q12 q13 q14 q15 q16 q17 q18 q19 q20 q21 u0 u1 u2 u3 u4 u5 out) out.1 := by
  refine xv_startI (cc := cX10_child) (maxL := 2) (rt := .int) (by decide +kernel) rfl (Nat.le_of_ble_eq_true rfl) ?_
  intro p e s m args below meth c A Q H ls hx hb hml hts hown hK hA hP hD hS hl hE hret
  have hown : s.vm.findClass "HillSchool" = some m.cls := hown
  have hz : ∀ w ∈ zall, w.before args s = true := fun w h => hts w (List.mem_cons_of_mem _ h)
  have hl : lv_has ls 2 [(0, .ref q0), (1, .int (Int32.ofInt x1))] := hl
  have b_11 : ∀ (i_latestStatus : Int) (i_hill_children : Int) (i_hill_changes : Int) (i_refusals : Nat → Int) (i_hill_strengths : Nat → Int) (i_hill_expelled : Nat → Int) (i_hill_trips : Nat → Int) (H : Heap) (locs : List Loc) (ls : Array Slot), f_HS_child_11 i_latestStatus i_hill_children i_hill_changes i_refusals i_hill_strengths i_hill_expelled i_hill_trips = some out → va_P (dC, dI) vwCl (wd_HS_child cA q0 q1 q2 q3 q4 q5 q6 q7 q8 q9 q10 q11 q12 q13 q14 q15 q16 q17 q18 q19 q20 q21 u0 u1 u2 u3 u4 u5 i_latestStatus i_hill_children i_hill_changes i_refusals i_hill_strengths i_hill_expelled i_hill_trips) H → va_D A (wd_HS_child cA q0 q1 q2 q3 q4 q5 q6 q7 q8 q9 q10 q11 q12 q13 q14 q15 q16 q17 q18 q19 q20 q21 u0 u1 u2 u3 u4 u5 i_latestStatus i_hill_children i_hill_changes i_refusals i_hill_strengths i_hill_expelled i_hill_trips) → va_S A s.heap H locs → lv_has ls 2 [(0, .ref q0)] → W p l e rm_HS_child s m args below meth c H locs 0 0 Q (F0 m 11 ls []) := by
    intro i_latestStatus i_hill_children i_hill_changes i_refusals i_hill_strengths i_hill_expelled i_hill_trips H locs ls hf hP hD hS hl
    unfold f_HS_child_11 at hf
    refine lv_aload_n hx hb dX10_child_11 rfl (lv_at hl 0 rfl) ?_
    refine lv_iconst (v := Int32.ofInt (-1)) hx hb dX10_child_12 rfl ?_
    refine xe_d3 hf (fun v1 v2 a3 hg hf => ?_)
    have hC : ([0, 2] : List Nat).map (fun i => (wd_HS_child cA q0 q1 q2 q3 q4 q5 q6 q7 q8 q9 q10 q11 q12 q13 q14 q15 q16 q17 q18 q19 q20 q21 u0 u1 u2 u3 u4 u5 i_latestStatus i_hill_children i_hill_changes i_refusals i_hill_strengths i_hill_expelled i_hill_trips)[i]?) = (wd_HS_refuse cA q0 q1 q2 q3 q4 q5 q6 q7 q8 q9 q10 q11 q12 u0 u1 u2 i_latestStatus i_refusals).map some := rfl
    refine xv_afterI (ws' := (wd_HS_child cA q0 q1 q2 q3 q4 q5 q6 q7 q8 q9 q10 q11 q12 q13 q14 q15 q16 q17 q18 q19 q20 q21 u0 u1 u2 u3 u4 u5 v2 i_hill_children i_hill_changes a3 i_hill_strengths i_hill_expelled i_hill_trips)) (isC := [0, 2]) (ps := [some 0, none, some 1, none, none, none]) (va_runV (As := [.int (Int32.ofInt (-1))]) (rest := []) ⟨hx, hb, hml, hown, hts⟩ (c_HS_refuse l ev dC dI cA q0 q1 q2 q3 q4 q5 q6 q7 q8 q9 q10 q11 q12 u0 u1 u2 hg H.size) (cwV 1 hts (zgV zw_534 zw_536 zw_0 zw_104 zw_537) rfl rfl rfl hd_HS_refuse ⟨Nat.le_of_ble_eq_true rfl, Nat.le_of_ble_eq_true rfl⟩) (xv_preV (T := TX10) (N := 16) hE hA hS hK hP hD (isC := [0, 2]) (by decide +kernel) hC (q0 := 0) (ci := 10) rfl rfl) rfl rfl hl.1 rfl (lv_room (Nat.le_of_ble_eq_true rfl)) dX10_child_13 ⟨Nat.le_refl _, Nat.le_refl _⟩) hP hD hS hA (by decide +kernel) rfl hC rfl rfl (fun H locs hP hD hS => ?_)
    obtain rfl := Option.some.inj hf
    exact hret _ _ _ _ rfl dX10_child_16 hP hD hS
  unfold f_HS_child at hf
  refine lv_iload_n hx hb dX10_child_0 rfl (lv_at hl 1 rfl) ?_
  refine lv_iconst (v := Int32.ofInt 1) hx hb dX10_child_1 rfl ?_
  refine xi_icmp_lt (tgt := 11) hx hb dX10_child_2 (by decide) hf (fun hf => ?_) (fun hf => ?_)
  · exact b_11  _ _ _ _ _ _ _ _ _ _ hf hP hD hS (lv_sub hl [0] rfl)
  · refine lv_iload_n hx hb dX10_child_5 rfl (lv_at hl 1 rfl) ?_
    refine lv_bipush (v := Int32.ofInt 60) hx hb dX10_child_6 (by decide) ?_
    refine xi_icmp_le (tgt := 17) hx hb dX10_child_8 (by decide) hf (fun hf => ?_) (fun hf => ?_)
    · refine lv_aload_n hx hb dX10_child_17 rfl (lv_at hl 0 rfl) ?_
      refine va_get (D := (dC, dI)) (ci := 10) (v := .ref q1) (C := RX10) (T := TX10) (N := 16) hx hb hz zi_X10 hown hK hP 0 rfl rfl 0 (by decide) (hz _ zw_477) (fun _ h9 => h9) rfl dX10_child_18 ?_
      refine va_getN (D := (dC, dI)) (ci := 2) (v := .int (Int32.ofInt i_hill_children)) (C := RX2) (T := TX2) (N := 14) hx hb hz zi_X2 hown hK hP 1 rfl rfl 1 (by decide) (va_Nw.use rfl (hE.1.1 _ zw_176)) (fun _ h9 => h9) rfl dX10_child_21 ?_
      refine lv_bipush (v := Int32.ofInt 6) hx hb dX10_child_24 (by decide) ?_
      refine xi_icmp_lt (tgt := 36) hx hb dX10_child_26 (by decide) hf (fun hf => ?_) (fun hf => ?_)
      · refine lv_aload_n hx hb dX10_child_36 rfl (lv_at hl 0 rfl) ?_
        refine lv_aload_n hx hb dX10_child_37 rfl (lv_at hl 0 rfl) ?_
        refine va_get (D := (dC, dI)) (ci := 10) (v := .ref q1) (C := RX10) (T := TX10) (N := 16) hx hb hz zi_X10 hown hK hP 0 rfl rfl 0 (by decide) (hz _ zw_477) (fun _ h9 => h9) rfl dX10_child_38 ?_
        refine lv_iload_n hx hb dX10_child_41 rfl (lv_at hl 1 rfl) ?_
        refine xe_d5 hf (fun v1 v2 a3 a4 a5 hg hf => ?_)
        have hC : ([1, 3, 4, 5] : List Nat).map (fun i => (wd_HS_child cA q0 q1 q2 q3 q4 q5 q6 q7 q8 q9 q10 q11 q12 q13 q14 q15 q16 q17 q18 q19 q20 q21 u0 u1 u2 u3 u4 u5 i_latestStatus i_hill_children i_hill_changes i_refusals i_hill_strengths i_hill_expelled i_hill_trips)[i]?) = (wd_Hill_enroll cA q1 q13 q14 q15 q16 q17 q18 q19 q20 q21 u3 u4 u5 i_hill_changes i_hill_children i_hill_strengths i_hill_expelled i_hill_trips).map some := rfl
        refine xv_afterI (ws' := (wd_HS_child cA q0 q1 q2 q3 q4 q5 q6 q7 q8 q9 q10 q11 q12 q13 q14 q15 q16 q17 q18 q19 q20 q21 u0 u1 u2 u3 u4 u5 i_latestStatus v2 i_hill_changes i_refusals a3 a4 a5)) (isC := [1, 3, 4, 5]) (ps := [none, some 0, none, some 1, some 2, some 3]) (va_runV (As := [.int (Int32.ofInt x1)]) (rest := [.ref q0]) ⟨hx, hb, hml, hown, hts⟩ (c_Hill_enroll l ev dC dI cA q1 q13 q14 q15 q16 q17 q18 q19 q20 q21 u3 u4 u5 i_hill_changes hg H.size) (cwV 1 hts (zgV zw_593 zw_594 zw_595 zw_105 zw_596) rfl rfl rfl hd_Hill_enroll ⟨Nat.le_of_ble_eq_true rfl, Nat.le_of_ble_eq_true rfl⟩) (xv_preV (T := TX2) (N := 14) hE hA hS hK hP hD (isC := [1, 3, 4, 5]) (by decide +kernel) hC (q0 := 1) (ci := 2) rfl rfl) rfl rfl hl.1 rfl (lv_room (Nat.le_of_ble_eq_true rfl)) dX10_child_42 ⟨Nat.le_refl _, Nat.le_refl _⟩) hP hD hS hA (by decide +kernel) rfl hC rfl rfl (fun H locs hP hD hS => ?_)
        refine xe_d3 hf (fun v6 v7 v8 hg hf => ?_)
        have hC : ([0, 1] : List Nat).map (fun i => (wd_HS_child cA q0 q1 q2 q3 q4 q5 q6 q7 q8 q9 q10 q11 q12 q13 q14 q15 q16 q17 q18 q19 q20 q21 u0 u1 u2 u3 u4 u5 i_latestStatus v2 i_hill_changes i_refusals a3 a4 a5)[i]?) = (wd_HS_accept cA q0 q1 q2 q3 q4 q5 q6 q7 q8 q9 q10 q11 q12 q13 q14 q15 q16 q17 q18 q19 q20 q21 u0 u1 u2 v2 u3 u4 u5 i_latestStatus i_hill_changes).map some := rfl
        refine xv_afterI (ws' := (wd_HS_child cA q0 q1 q2 q3 q4 q5 q6 q7 q8 q9 q10 q11 q12 q13 q14 q15 q16 q17 q18 q19 q20 q21 u0 u1 u2 u3 u4 u5 v7 v2 v8 i_refusals a3 a4 a5)) (isC := [0, 1]) (ps := [some 0, some 1, none, none, none, none]) (va_runV (As := [.int (Int32.ofInt v1)]) (rest := []) ⟨hx, hb, hml, hown, hts⟩ (c_HS_accept l ev dC dI cA q0 q1 q2 q3 q4 q5 q6 q7 q8 q9 q10 q11 q12 q13 q14 q15 q16 q17 q18 q19 q20 q21 u0 u1 u2 v2 u3 u4 u5 hg H.size) (cwV 1 hts (zgV zw_538 zw_540 zw_1 zw_104 zw_541) rfl rfl rfl hd_HS_accept ⟨Nat.le_of_ble_eq_true rfl, Nat.le_of_ble_eq_true rfl⟩) (xv_preV (T := TX10) (N := 16) hE hA hS hK hP hD (isC := [0, 1]) (by decide +kernel) hC (q0 := 0) (ci := 10) rfl rfl) rfl rfl hl.1 rfl (lv_room (Nat.le_of_ble_eq_true rfl)) dX10_child_45 ⟨Nat.le_refl _, Nat.le_refl _⟩) hP hD hS hA (by decide +kernel) rfl hC rfl rfl (fun H locs hP hD hS => ?_)
        obtain rfl := Option.some.inj hf
        exact hret _ _ _ _ rfl dX10_child_48 hP hD hS
      · refine lv_aload_n hx hb dX10_child_29 rfl (lv_at hl 0 rfl) ?_
        refine lv_bipush (v := Int32.ofInt (-5)) hx hb dX10_child_30 (by decide) ?_
        refine xe_d3 hf (fun v9 v10 a11 hg hf => ?_)
        have hC : ([0, 2] : List Nat).map (fun i => (wd_HS_child cA q0 q1 q2 q3 q4 q5 q6 q7 q8 q9 q10 q11 q12 q13 q14 q15 q16 q17 q18 q19 q20 q21 u0 u1 u2 u3 u4 u5 i_latestStatus i_hill_children i_hill_changes i_refusals i_hill_strengths i_hill_expelled i_hill_trips)[i]?) = (wd_HS_refuse cA q0 q1 q2 q3 q4 q5 q6 q7 q8 q9 q10 q11 q12 u0 u1 u2 i_latestStatus i_refusals).map some := rfl
        refine xv_afterI (ws' := (wd_HS_child cA q0 q1 q2 q3 q4 q5 q6 q7 q8 q9 q10 q11 q12 q13 q14 q15 q16 q17 q18 q19 q20 q21 u0 u1 u2 u3 u4 u5 v10 i_hill_children i_hill_changes a11 i_hill_strengths i_hill_expelled i_hill_trips)) (isC := [0, 2]) (ps := [some 0, none, some 1, none, none, none]) (va_runV (As := [.int (Int32.ofInt (-5))]) (rest := []) ⟨hx, hb, hml, hown, hts⟩ (c_HS_refuse l ev dC dI cA q0 q1 q2 q3 q4 q5 q6 q7 q8 q9 q10 q11 q12 u0 u1 u2 hg H.size) (cwV 1 hts (zgV zw_534 zw_536 zw_0 zw_104 zw_537) rfl rfl rfl hd_HS_refuse ⟨Nat.le_of_ble_eq_true rfl, Nat.le_of_ble_eq_true rfl⟩) (xv_preV (T := TX10) (N := 16) hE hA hS hK hP hD (isC := [0, 2]) (by decide +kernel) hC (q0 := 0) (ci := 10) rfl rfl) rfl rfl hl.1 rfl (lv_room (Nat.le_of_ble_eq_true rfl)) dX10_child_32 ⟨Nat.le_refl _, Nat.le_refl _⟩) hP hD hS hA (by decide +kernel) rfl hC rfl rfl (fun H locs hP hD hS => ?_)
        obtain rfl := Option.some.inj hf
        exact hret _ _ _ _ rfl dX10_child_35 hP hD hS
    · exact b_11  _ _ _ _ _ _ _ _ _ _ hf hP hD hS (lv_sub hl [0] rfl)
theorem dX2_hasChild_0 : decode cX2_hasChild 0 = .ok (.iload_n 1, 1) := by decide +kernel
theorem dX2_hasChild_1 : decode cX2_hasChild 1 = .ok (.ifCond .lt 15, 3) := by decide +kernel
theorem dX2_hasChild_4 : decode cX2_hasChild 4 = .ok (.iload_n 1, 1) := by decide +kernel
theorem dX2_hasChild_5 : decode cX2_hasChild 5 = .ok (.aload_n 0, 1) := by decide +kernel
theorem dX2_hasChild_6 : decode cX2_hasChild 6 = .ok (.getfield 18, 3) := by decide +kernel
theorem dX2_hasChild_9 : decode cX2_hasChild 9 = .ok (.if_icmp .ge 7, 3) := by decide +kernel
theorem dX2_hasChild_12 : decode cX2_hasChild 12 = .ok (.iconst 1, 1) := by decide +kernel
theorem dX2_hasChild_13 : decode cX2_hasChild 13 = .ok (.goto 4, 3) := by decide +kernel
theorem dX2_hasChild_16 : decode cX2_hasChild 16 = .ok (.iconst 0, 1) := by decide +kernel
theorem dX2_hasChild_17 : decode cX2_hasChild 17 = .ok (.ireturn, 1) := by decide +kernel
theorem zw_604 : (Jvm.Cond.code ({ cls := "HillSchool$Hill", name := "hasChild", desc := "(I)Z" } : Jvm.MethodName) prog_4_method_2_code (2 : Nat) (Option.some Jvm.ClassFile.FieldType.boolean)) ∈ zall := zmemG (zmj_3 21 rfl) rfl
abbrev w_Hill_hasChild : List Cond := .code yX2_hasChild cX2_hasChild 2 (some .boolean) :: zall
abbrev rm_Hill_hasChild : Room := { frames := 0, cells := 0, slots := 0, locals := 0 }
theorem hd_Hill_hasChild : yX2_hasChild.cls = "HillSchool$Hill" ∧ yX2_hasChild.cls ≠ "java/lang/invoke/MethodHandle" ∧ yX2_hasChild.cls ≠ "java/lang/invoke/VarHandle" ∧ (parseMethodDescriptor yX2_hasChild.desc).map (fun d => d.parameters.length) = some 1 := by decide +kernel
def wd_Hill_hasChild (cA : Nat → ClassId) (q0 q1 q2 q3 q4 q5 q6 q7 q8 q9 : Nat) (u0 u1 u2 u3 : Int) (i_children : Int)  : va_W := [(q0, .inr (2, [.ref q1, .int (Int32.ofInt i_children), .ref q2, .ref q3, .ref q4, .int (Int32.ofInt u0), .ref q5, .ref q6, .ref q7, .int (Int32.ofInt u1), .ref q8, .ref q9, .int (Int32.ofInt u2), .int (Int32.ofInt u3)]))]
def wf_Hill_hasChild (cA : Nat → ClassId) (q0 q1 q2 q3 q4 q5 q6 q7 q8 q9 : Nat) (u0 u1 u2 u3 : Int) (i_children : Int) (o : Int) : va_W := wd_Hill_hasChild cA q0 q1 q2 q3 q4 q5 q6 q7 q8 q9 u0 u1 u2 u3 i_children
def f_Hill_hasChild (x1 : Int) (i_children : Int) : Option (Int) :=
  if zi_w x1 < 0 then
    some 0
  else
    if zi_w i_children ≤ zi_w x1 then
      some 0
    else
      some 1
set_option maxHeartbeats 4000000 in
set_option maxRecDepth 100000 in
theorem c_Hill_hasChild (l : Launch) (ev : zEv) (dC : Nat → ClassId) (dI : Nat → Nat → Nat) (cA : Nat → ClassId) (q0 q1 q2 q3 q4 q5 q6 q7 q8 q9 : Nat) (u0 u1 u2 u3 : Int) {x1 : Int} {i_children : Int} {out : Int} (hf : f_Hill_hasChild x1 i_children = some out) : xc_I l ev (dC, dI) vwCl (tyl cA) yX2_hasChild w_Hill_hasChild rm_Hill_hasChild [.ref q0, .int (Int32.ofInt x1)] (wd_Hill_hasChild cA q0 q1 q2 q3 q4 q5 q6 q7 q8 q9 u0 u1 u2 u3 i_children) (wf_Hill_hasChild cA q0 q1 q2 q3 q4 q5 q6 q7 q8 q9 u0 u1 u2 u3 i_children out) out := by
  refine xv_startI (cc := cX2_hasChild) (maxL := 2) (rt := .boolean) (by decide +kernel) rfl (Nat.le_of_ble_eq_true rfl) ?_
  intro p e s m args below meth c A Q H ls hx hb hml hts hown hK hA hP hD hS hl hE hret
  have hown : s.vm.findClass "HillSchool$Hill" = some m.cls := hown
  have hz : ∀ w ∈ zall, w.before args s = true := fun w h => hts w (List.mem_cons_of_mem _ h)
  have hl : lv_has ls 2 [(0, .ref q0), (1, .int (Int32.ofInt x1))] := hl
  unfold f_Hill_hasChild at hf
  refine lv_iload_n hx hb dX2_hasChild_0 rfl (lv_at hl 1 rfl) ?_
  refine xi_if_lt (tgt := 16) hx hb dX2_hasChild_1 (by decide) hf (fun hf => ?_) (fun hf => ?_)
  · refine lv_iconst (v := Int32.ofInt 0) hx hb dX2_hasChild_16 rfl ?_
    obtain rfl := Option.some.inj hf
    exact hret _ _ _ _ zz_b0 dX2_hasChild_17 hP hD hS
  · refine lv_iload_n hx hb dX2_hasChild_4 rfl (lv_at hl 1 rfl) ?_
    refine lv_aload_n hx hb dX2_hasChild_5 rfl (lv_at hl 0 rfl) ?_
    refine va_get (D := (dC, dI)) (ci := 2) (v := .int (Int32.ofInt i_children)) (C := RX2) (T := TX2) (N := 14) hx hb hz zi_X2 hown hK hP 0 rfl rfl 1 (by decide) (hz _ zw_173) (fun _ h9 => h9) rfl dX2_hasChild_6 ?_
    refine xi_icmp_ge (tgt := 16) hx hb dX2_hasChild_9 (by decide) hf (fun hf => ?_) (fun hf => ?_)
    · refine lv_iconst (v := Int32.ofInt 0) hx hb dX2_hasChild_16 rfl ?_
      obtain rfl := Option.some.inj hf
      exact hret _ _ _ _ zz_b0 dX2_hasChild_17 hP hD hS
    · refine lv_iconst (v := Int32.ofInt 1) hx hb dX2_hasChild_12 rfl ?_
      refine lv_goto (tgt := 17) hx hb dX2_hasChild_13 (by decide) ?_
      obtain rfl := Option.some.inj hf
      exact hret _ _ _ _ zz_b1 dX2_hasChild_17 hP hD hS
theorem dX10_expel_0 : decode cX10_expel 0 = .ok (.iload_n 2, 1) := by decide +kernel
theorem dX10_expel_1 : decode cX10_expel 1 = .ok (.ifCond .lt 8, 3) := by decide +kernel
theorem dX10_expel_4 : decode cX10_expel 4 = .ok (.iload_n 2, 1) := by decide +kernel
theorem dX10_expel_5 : decode cX10_expel 5 = .ok (.iconst 1, 1) := by decide +kernel
theorem dX10_expel_6 : decode cX10_expel 6 = .ok (.if_icmp .le 9, 3) := by decide +kernel
theorem dX10_expel_9 : decode cX10_expel 9 = .ok (.aload_n 0, 1) := by decide +kernel
theorem dX10_expel_10 : decode cX10_expel 10 = .ok (.iconst (-1), 1) := by decide +kernel
theorem dX10_expel_11 : decode cX10_expel 11 = .ok (.invokevirtual 109, 3) := by decide +kernel
theorem dX10_expel_14 : decode cX10_expel 14 = .ok (.ireturn, 1) := by decide +kernel
theorem dX10_expel_15 : decode cX10_expel 15 = .ok (.aload_n 0, 1) := by decide +kernel
theorem dX10_expel_16 : decode cX10_expel 16 = .ok (.getfield 10, 3) := by decide +kernel
theorem dX10_expel_19 : decode cX10_expel 19 = .ok (.iload_n 1, 1) := by decide +kernel
theorem dX10_expel_20 : decode cX10_expel 20 = .ok (.invokevirtual 149, 3) := by decide +kernel
theorem dX10_expel_23 : decode cX10_expel 23 = .ok (.ifCond .ne 10, 3) := by decide +kernel
theorem dX10_expel_26 : decode cX10_expel 26 = .ok (.aload_n 0, 1) := by decide +kernel
theorem dX10_expel_27 : decode cX10_expel 27 = .ok (.bipush (-2), 2) := by decide +kernel
theorem dX10_expel_29 : decode cX10_expel 29 = .ok (.invokevirtual 109, 3) := by decide +kernel
theorem dX10_expel_32 : decode cX10_expel 32 = .ok (.ireturn, 1) := by decide +kernel
theorem dX10_expel_33 : decode cX10_expel 33 = .ok (.aload_n 0, 1) := by decide +kernel
theorem dX10_expel_34 : decode cX10_expel 34 = .ok (.getfield 10, 3) := by decide +kernel
theorem dX10_expel_37 : decode cX10_expel 37 = .ok (.getfield 152, 3) := by decide +kernel
theorem dX10_expel_40 : decode cX10_expel 40 = .ok (.iload_n 1, 1) := by decide +kernel
theorem dX10_expel_41 : decode cX10_expel 41 = .ok (.iaload, 1) := by decide +kernel
theorem dX10_expel_42 : decode cX10_expel 42 = .ok (.istore_n 3, 1) := by decide +kernel
theorem dX10_expel_43 : decode cX10_expel 43 = .ok (.aload_n 0, 1) := by decide +kernel
theorem dX10_expel_44 : decode cX10_expel 44 = .ok (.getfield 10, 3) := by decide +kernel
theorem dX10_expel_47 : decode cX10_expel 47 = .ok (.getfield 152, 3) := by decide +kernel
theorem dX10_expel_50 : decode cX10_expel 50 = .ok (.iload_n 1, 1) := by decide +kernel
theorem dX10_expel_51 : decode cX10_expel 51 = .ok (.iload_n 2, 1) := by decide +kernel
theorem dX10_expel_52 : decode cX10_expel 52 = .ok (.iastore, 1) := by decide +kernel
theorem dX10_expel_53 : decode cX10_expel 53 = .ok (.aload_n 0, 1) := by decide +kernel
theorem dX10_expel_54 : decode cX10_expel 54 = .ok (.iload_n 3, 1) := by decide +kernel
theorem dX10_expel_55 : decode cX10_expel 55 = .ok (.invokevirtual 119, 3) := by decide +kernel
theorem dX10_expel_58 : decode cX10_expel 58 = .ok (.ireturn, 1) := by decide +kernel
theorem zw_181 : (Jvm.Cond.fieldLinkNest "HillSchool" (152 : Nat) "HillSchool$Hill" "expelled" "[I" "HillSchool") ∈ znest := zmemH (zmj_1 78 rfl) rfl
theorem zw_600 : (Jvm.Cond.code ({ cls := "HillSchool", name := "expel", desc := "(II)I" } : Jvm.MethodName) prog_1_method_8_code (4 : Nat) (Option.some Jvm.ClassFile.FieldType.int)) ∈ zall := zmemG (zmj_3 17 rfl) rfl
theorem zw_601 : (Jvm.Cond.methodLink "HillSchool" (149 : Nat) ({ cls := "HillSchool$Hill", name := "hasChild", desc := "(I)Z" } : Jvm.MethodName)) ∈ zall := zmemG (zmj_3 18 rfl) rfl
theorem zw_602 : (Jvm.Cond.instanceMethod ({ cls := "HillSchool$Hill", name := "hasChild", desc := "(I)Z" } : Jvm.MethodName)) ∈ zall := zmemG (zmj_3 19 rfl) rfl
theorem zw_603 : (Jvm.Cond.selects "HillSchool$Hill" ({ cls := "HillSchool$Hill", name := "hasChild", desc := "(I)Z" } : Jvm.MethodName) ({ cls := "HillSchool$Hill", name := "hasChild", desc := "(I)Z" } : Jvm.MethodName)) ∈ zall := zmemG (zmj_3 20 rfl) rfl
abbrev w_HS_expel : List Cond := .code yX10_expel cX10_expel 4 (some .int) :: zall
abbrev rm_HS_expel : Room := { frames := 1, cells := 0, slots := 0, locals := 21 }
theorem hd_HS_expel : yX10_expel.cls = "HillSchool" ∧ yX10_expel.cls ≠ "java/lang/invoke/MethodHandle" ∧ yX10_expel.cls ≠ "java/lang/invoke/VarHandle" ∧ (parseMethodDescriptor yX10_expel.desc).map (fun d => d.parameters.length) = some 2 := by decide +kernel
def wd_HS_expel (cA : Nat → ClassId) (q0 q1 q2 q3 q4 q5 q6 q7 q8 q9 q10 q11 q12 q13 q14 q15 q16 q17 q18 q19 q20 q21 : Nat) (u0 u1 u2 u3 u4 u5 : Int) (i_hill_children : Int) (i_latestStatus : Int) (i_hill_changes : Int) (i_refusals : Nat → Int) (i_hill_expelled : Nat → Int) : va_W := [(q0, .inr (10, [.ref q1, .ref q2, .ref q3, .ref q4, .int (Int32.ofInt u0), .int (Int32.ofInt u1), .int (Int32.ofInt u2), .ref q5, .int (Int32.ofInt i_latestStatus), .ref q6, .ref q7, .ref q8, .ref q9, .ref q10, .ref q11, .ref q12])), (q1, .inr (2, [.ref q13, .int (Int32.ofInt i_hill_children), .ref q14, .ref q15, .ref q16, .int (Int32.ofInt u3), .ref q17, .ref q18, .ref q19, .int (Int32.ofInt u4), .ref q20, .ref q21, .int (Int32.ofInt u5), .int (Int32.ofInt i_hill_changes)])), (q5, .inl (cA 0, 7, .inl (za i_refusals))), (q15, .inl (cA 0, 6, .inl (za i_hill_expelled)))]
def wf_HS_expel (cA : Nat → ClassId) (q0 q1 q2 q3 q4 q5 q6 q7 q8 q9 q10 q11 q12 q13 q14 q15 q16 q17 q18 q19 q20 q21 : Nat) (u0 u1 u2 u3 u4 u5 : Int) (i_hill_children : Int) (o : Int × Int × Int × (Nat → Int) × (Nat → Int)) : va_W := wd_HS_expel cA q0 q1 q2 q3 q4 q5 q6 q7 q8 q9 q10 q11 q12 q13 q14 q15 q16 q17 q18 q19 q20 q21 u0 u1 u2 u3 u4 u5 i_hill_children o.2.1 o.2.2.1 o.2.2.2.1 o.2.2.2.2
def f_HS_expel_9 (i_hill_children : Int) (i_latestStatus : Int) (i_hill_changes : Int) (i_refusals : Nat → Int) (i_hill_expelled : Nat → Int) : Option (Int × Int × Int × (Nat → Int) × (Nat → Int)) :=
  zd3 (f_HS_refuse (-1) i_latestStatus i_refusals) fun v1 v2 a3 =>
  some (v1, v2, i_hill_changes, a3, i_hill_expelled)
def f_HS_expel (x1 : Int) (x2 : Int) (i_hill_children : Int) (i_latestStatus : Int) (i_hill_changes : Int) (i_refusals : Nat → Int) (i_hill_expelled : Nat → Int) : Option (Int × Int × Int × (Nat → Int) × (Nat → Int)) :=
  if zi_w x2 < 0 then
    f_HS_expel_9 i_hill_children i_latestStatus i_hill_changes i_refusals i_hill_expelled
  else
    if zi_w x2 ≤ zi_w 1 then
      zd1 (f_Hill_hasChild x1 i_hill_children) fun v1 =>
      if zi_w v1 ≠ 0 then
        zg 6 i_hill_expelled x1 fun v2 =>
        zs 6 i_hill_expelled x1 x2 fun a3 =>
        zd3 (f_HS_accept v2 i_latestStatus i_hill_changes) fun v4 v5 v6 =>
        some (v4, v5, v6, i_refusals, a3)
      else
        zd3 (f_HS_refuse (-2) i_latestStatus i_refusals) fun v7 v8 a9 =>
        some (v7, v8, i_hill_changes, a9, i_hill_expelled)
    else
      f_HS_expel_9 i_hill_children i_latestStatus i_hill_changes i_refusals i_hill_expelled
set_option maxHeartbeats 4000000 in
set_option maxRecDepth 100000 in
theorem c_HS_expel (l : Launch) (ev : zEv) (dC : Nat → ClassId) (dI : Nat → Nat → Nat) (cA : Nat → ClassId) (q0 q1 q2 q3 q4 q5 q6 q7 q8 q9 q10 q11 q12 q13 q14 q15 q16 q17 q18 q19 q20 q21 : Nat) (u0 u1 u2 u3 u4 u5 : Int) {x1 x2 : Int} {i_hill_children : Int} {i_latestStatus : Int} {i_hill_changes : Int} {i_refusals : Nat → Int} {i_hill_expelled : Nat → Int} {out : Int × Int × Int × (Nat → Int) × (Nat → Int)} (hf : f_HS_expel x1 x2 i_hill_children i_latestStatus i_hill_changes i_refusals i_hill_expelled = some out) : xc_I l ev (dC, dI) vwCl (tyl cA) yX10_expel w_HS_expel rm_HS_expel [.ref q0, .int (Int32.ofInt x1), .int (Int32.ofInt x2)] (wd_HS_expel cA q0 q1 q2 q3 q4 q5 q6 q7 q8 q9 q10 q11 q12 q13 q14 q15 q16 q17 q18 q19 q20 q21 u0 u1 u2 u3 u4 u5 i_hill_children i_latestStatus i_hill_changes i_refusals i_hill_expelled) (wf_HS_expel cA q0 q1 q2 q3 q4 q5 q6 q7 q8 q9 q10 q11 q12 q13 q14 q15 q16 q17 q18 q19 q20 q21 u0 u1 u2 u3 u4 u5 i_hill_children out) out.1 := by
  refine xv_startI (cc := cX10_expel) (maxL := 4) (rt := .int) (by decide +kernel) rfl (Nat.le_of_ble_eq_true rfl) ?_
  intro p e s m args below meth c A Q H ls hx hb hml hts hown hK hA hP hD hS hl hE hret
  have hown : s.vm.findClass "HillSchool" = some m.cls := hown
  have hz : ∀ w ∈ zall, w.before args s = true := fun w h => hts w (List.mem_cons_of_mem _ h)
  have hl : lv_has ls 4 [(0, .ref q0), (1, .int (Int32.ofInt x1)), (2, .int (Int32.ofInt x2))] := hl
  have b_9 : ∀ (i_latestStatus : Int) (i_hill_changes : Int) (i_refusals : Nat → Int) (i_hill_expelled : Nat → Int) (H : Heap) (locs : List Loc) (ls : Array Slot), f_HS_expel_9 i_hill_children i_latestStatus i_hill_changes i_refusals i_hill_expelled = some out → va_P (dC, dI) vwCl (wd_HS_expel cA q0 q1 q2 q3 q4 q5 q6 q7 q8 q9 q10 q11 q12 q13 q14 q15 q16 q17 q18 q19 q20 q21 u0 u1 u2 u3 u4 u5 i_hill_children i_latestStatus i_hill_changes i_refusals i_hill_expelled) H → va_D A (wd_HS_expel cA q0 q1 q2 q3 q4 q5 q6 q7 q8 q9 q10 q11 q12 q13 q14 q15 q16 q17 q18 q19 q20 q21 u0 u1 u2 u3 u4 u5 i_hill_children i_latestStatus i_hill_changes i_refusals i_hill_expelled) → va_S A s.heap H locs → lv_has ls 4 [(0, .ref q0)] → W p l e rm_HS_expel s m args below meth c H locs 0 0 Q (F0 m 9 ls []) := by
    intro i_latestStatus i_hill_changes i_refusals i_hill_expelled H locs ls hf hP hD hS hl
    unfold f_HS_expel_9 at hf
    refine lv_aload_n hx hb dX10_expel_9 rfl (lv_at hl 0 rfl) ?_
    refine lv_iconst (v := Int32.ofInt (-1)) hx hb dX10_expel_10 rfl ?_
    refine xe_d3 hf (fun v1 v2 a3 hg hf => ?_)
    have hC : ([0, 2] : List Nat).map (fun i => (wd_HS_expel cA q0 q1 q2 q3 q4 q5 q6 q7 q8 q9 q10 q11 q12 q13 q14 q15 q16 q17 q18 q19 q20 q21 u0 u1 u2 u3 u4 u5 i_hill_children i_latestStatus i_hill_changes i_refusals i_hill_expelled)[i]?) = (wd_HS_refuse cA q0 q1 q2 q3 q4 q5 q6 q7 q8 q9 q10 q11 q12 u0 u1 u2 i_latestStatus i_refusals).map some := rfl
    refine xv_afterI (ws' := (wd_HS_expel cA q0 q1 q2 q3 q4 q5 q6 q7 q8 q9 q10 q11 q12 q13 q14 q15 q16 q17 q18 q19 q20 q21 u0 u1 u2 u3 u4 u5 i_hill_children v2 i_hill_changes a3 i_hill_expelled)) (isC := [0, 2]) (ps := [some 0, none, some 1, none]) (va_runV (As := [.int (Int32.ofInt (-1))]) (rest := []) ⟨hx, hb, hml, hown, hts⟩ (c_HS_refuse l ev dC dI cA q0 q1 q2 q3 q4 q5 q6 q7 q8 q9 q10 q11 q12 u0 u1 u2 hg H.size) (cwV 1 hts (zgV zw_534 zw_536 zw_0 zw_104 zw_537) rfl rfl rfl hd_HS_refuse ⟨Nat.le_of_ble_eq_true rfl, Nat.le_of_ble_eq_true rfl⟩) (xv_preV (T := TX10) (N := 16) hE hA hS hK hP hD (isC := [0, 2]) (by decide +kernel) hC (q0 := 0) (ci := 10) rfl rfl) rfl rfl hl.1 rfl (lv_room (Nat.le_of_ble_eq_true rfl)) dX10_expel_11 ⟨Nat.le_refl _, Nat.le_refl _⟩) hP hD hS hA (by decide +kernel) rfl hC rfl rfl (fun H locs hP hD hS => ?_)
    obtain rfl := Option.some.inj hf
    exact hret _ _ _ _ rfl dX10_expel_14 hP hD hS
  unfold f_HS_expel at hf
  refine lv_iload_n hx hb dX10_expel_0 rfl (lv_at hl 2 rfl) ?_
  refine xi_if_lt (tgt := 9) hx hb dX10_expel_1 (by decide) hf (fun hf => ?_) (fun hf => ?_)
  · exact b_9  _ _ _ _ _ _ _ hf hP hD hS (lv_sub hl [0] rfl)
  · refine lv_iload_n hx hb dX10_expel_4 rfl (lv_at hl 2 rfl) ?_
    refine lv_iconst (v := Int32.ofInt 1) hx hb dX10_expel_5 rfl ?_
    refine xi_icmp_le (tgt := 15) hx hb dX10_expel_6 (by decide) hf (fun hf => ?_) (fun hf => ?_)
    · refine lv_aload_n hx hb dX10_expel_15 rfl (lv_at hl 0 rfl) ?_
      refine va_get (D := (dC, dI)) (ci := 10) (v := .ref q1) (C := RX10) (T := TX10) (N := 16) hx hb hz zi_X10 hown hK hP 0 rfl rfl 0 (by decide) (hz _ zw_477) (fun _ h9 => h9) rfl dX10_expel_16 ?_
      refine lv_iload_n hx hb dX10_expel_19 rfl (lv_at hl 1 rfl) ?_
      refine xe_d1 hf (fun v1 hg hf => ?_)
      have hC : ([1] : List Nat).map (fun i => (wd_HS_expel cA q0 q1 q2 q3 q4 q5 q6 q7 q8 q9 q10 q11 q12 q13 q14 q15 q16 q17 q18 q19 q20 q21 u0 u1 u2 u3 u4 u5 i_hill_children i_latestStatus i_hill_changes i_refusals i_hill_expelled)[i]?) = (wd_Hill_hasChild cA q1 q13 q14 q15 q16 q17 q18 q19 q20 q21 u3 u4 u5 i_hill_changes i_hill_children).map some := rfl
      refine xv_afterI (ws' := (wd_HS_expel cA q0 q1 q2 q3 q4 q5 q6 q7 q8 q9 q10 q11 q12 q13 q14 q15 q16 q17 q18 q19 q20 q21 u0 u1 u2 u3 u4 u5 i_hill_children i_latestStatus i_hill_changes i_refusals i_hill_expelled)) (isC := [1]) (ps := [none, some 0, none, none]) (va_runV (As := [.int (Int32.ofInt x1)]) (rest := []) ⟨hx, hb, hml, hown, hts⟩ (c_Hill_hasChild l ev dC dI cA q1 q13 q14 q15 q16 q17 q18 q19 q20 q21 u3 u4 u5 i_hill_changes hg H.size) (cwV 1 hts (zgV zw_601 zw_602 zw_603 zw_105 zw_604) rfl rfl rfl hd_Hill_hasChild ⟨Nat.le_of_ble_eq_true rfl, Nat.le_of_ble_eq_true rfl⟩) (xv_preV (T := TX2) (N := 14) hE hA hS hK hP hD (isC := [1]) (by decide +kernel) hC (q0 := 1) (ci := 2) rfl rfl) rfl rfl hl.1 rfl (lv_room (Nat.le_of_ble_eq_true rfl)) dX10_expel_20 ⟨Nat.le_refl _, Nat.le_refl _⟩) hP hD hS hA (by decide +kernel) rfl hC rfl rfl (fun H locs hP hD hS => ?_)
      refine xi_if_ne (tgt := 33) hx hb dX10_expel_23 (by decide) hf (fun hf => ?_) (fun hf => ?_)
      · refine lv_aload_n hx hb dX10_expel_33 rfl (lv_at hl 0 rfl) ?_
        refine va_get (D := (dC, dI)) (ci := 10) (v := .ref q1) (C := RX10) (T := TX10) (N := 16) hx hb hz zi_X10 hown hK hP 0 rfl rfl 0 (by decide) (hz _ zw_477) (fun _ h9 => h9) rfl dX10_expel_34 ?_
        refine va_getN (D := (dC, dI)) (ci := 2) (v := .ref q15) (C := RX2) (T := TX2) (N := 14) hx hb hz zi_X2 hown hK hP 1 rfl rfl 3 (by decide) (va_Nw.use rfl (hE.1.1 _ zw_181)) (fun _ h9 => h9) rfl dX10_expel_37 ?_
        refine lv_iload_n hx hb dX10_expel_40 rfl (lv_at hl 1 rfl) ?_
        refine xi_iald hx hb hK hP 3 0 rfl rfl dX10_expel_41 hf (fun v2 hf => ?_)
        refine lv_istore_n (lv' := [(3, .int (Int32.ofInt v2)), (0, .ref q0), (1, .int (Int32.ofInt x1)), (2, .int (Int32.ofInt x2))]) hx hb dX10_expel_42 rfl hl (by decide) rfl (fun ls hl => ?_)
        refine lv_aload_n hx hb dX10_expel_43 rfl (lv_at hl 1 rfl) ?_
        refine va_get (D := (dC, dI)) (ci := 10) (v := .ref q1) (C := RX10) (T := TX10) (N := 16) hx hb hz zi_X10 hown hK hP 0 rfl rfl 0 (by decide) (hz _ zw_477) (fun _ h9 => h9) rfl dX10_expel_44 ?_
        refine va_getN (D := (dC, dI)) (ci := 2) (v := .ref q15) (C := RX2) (T := TX2) (N := 14) hx hb hz zi_X2 hown hK hP 1 rfl rfl 3 (by decide) (va_Nw.use rfl (hE.1.1 _ zw_181)) (fun _ h9 => h9) rfl dX10_expel_47 ?_
        refine lv_iload_n hx hb dX10_expel_50 rfl (lv_at hl 2 rfl) ?_
        refine lv_iload_n hx hb dX10_expel_51 rfl (lv_at hl 3 rfl) ?_
        refine xi_iast hx hb hK hP hD hS 3 0 rfl rfl dX10_expel_52 hf (fun a3 H locs hP hD hS hf => ?_)
        have hP : va_P (dC, dI) vwCl (wd_HS_expel cA q0 q1 q2 q3 q4 q5 q6 q7 q8 q9 q10 q11 q12 q13 q14 q15 q16 q17 q18 q19 q20 q21 u0 u1 u2 u3 u4 u5 i_hill_children i_latestStatus i_hill_changes i_refusals a3) H := hP
        have hD : va_D A (wd_HS_expel cA q0 q1 q2 q3 q4 q5 q6 q7 q8 q9 q10 q11 q12 q13 q14 q15 q16 q17 q18 q19 q20 q21 u0 u1 u2 u3 u4 u5 i_hill_children i_latestStatus i_hill_changes i_refusals a3) := hD
        refine lv_aload_n hx hb dX10_expel_53 rfl (lv_at hl 1 rfl) ?_
        refine lv_iload_n hx hb dX10_expel_54 rfl (lv_at hl 0 rfl) ?_
        refine xe_d3 hf (fun v4 v5 v6 hg hf => ?_)
        have hC : ([0, 1] : List Nat).map (fun i => (wd_HS_expel cA q0 q1 q2 q3 q4 q5 q6 q7 q8 q9 q10 q11 q12 q13 q14 q15 q16 q17 q18 q19 q20 q21 u0 u1 u2 u3 u4 u5 i_hill_children i_latestStatus i_hill_changes i_refusals a3)[i]?) = (wd_HS_accept cA q0 q1 q2 q3 q4 q5 q6 q7 q8 q9 q10 q11 q12 q13 q14 q15 q16 q17 q18 q19 q20 q21 u0 u1 u2 i_hill_children u3 u4 u5 i_latestStatus i_hill_changes).map some := rfl
        refine xv_afterI (ws' := (wd_HS_expel cA q0 q1 q2 q3 q4 q5 q6 q7 q8 q9 q10 q11 q12 q13 q14 q15 q16 q17 q18 q19 q20 q21 u0 u1 u2 u3 u4 u5 i_hill_children v5 v6 i_refusals a3)) (isC := [0, 1]) (ps := [some 0, some 1, none, none]) (va_runV (As := [.int (Int32.ofInt v2)]) (rest := []) ⟨hx, hb, hml, hown, hts⟩ (c_HS_accept l ev dC dI cA q0 q1 q2 q3 q4 q5 q6 q7 q8 q9 q10 q11 q12 q13 q14 q15 q16 q17 q18 q19 q20 q21 u0 u1 u2 i_hill_children u3 u4 u5 hg H.size) (cwV 1 hts (zgV zw_538 zw_540 zw_1 zw_104 zw_541) rfl rfl rfl hd_HS_accept ⟨Nat.le_of_ble_eq_true rfl, Nat.le_of_ble_eq_true rfl⟩) (xv_preV (T := TX10) (N := 16) hE hA hS hK hP hD (isC := [0, 1]) (by decide +kernel) hC (q0 := 0) (ci := 10) rfl rfl) rfl rfl hl.1 rfl (lv_room (Nat.le_of_ble_eq_true rfl)) dX10_expel_55 ⟨Nat.le_refl _, Nat.le_refl _⟩) hP hD hS hA (by decide +kernel) rfl hC rfl rfl (fun H locs hP hD hS => ?_)
        obtain rfl := Option.some.inj hf
        exact hret _ _ _ _ rfl dX10_expel_58 hP hD hS
      · refine lv_aload_n hx hb dX10_expel_26 rfl (lv_at hl 0 rfl) ?_
        refine lv_bipush (v := Int32.ofInt (-2)) hx hb dX10_expel_27 (by decide) ?_
        refine xe_d3 hf (fun v7 v8 a9 hg hf => ?_)
        have hC : ([0, 2] : List Nat).map (fun i => (wd_HS_expel cA q0 q1 q2 q3 q4 q5 q6 q7 q8 q9 q10 q11 q12 q13 q14 q15 q16 q17 q18 q19 q20 q21 u0 u1 u2 u3 u4 u5 i_hill_children i_latestStatus i_hill_changes i_refusals i_hill_expelled)[i]?) = (wd_HS_refuse cA q0 q1 q2 q3 q4 q5 q6 q7 q8 q9 q10 q11 q12 u0 u1 u2 i_latestStatus i_refusals).map some := rfl
        refine xv_afterI (ws' := (wd_HS_expel cA q0 q1 q2 q3 q4 q5 q6 q7 q8 q9 q10 q11 q12 q13 q14 q15 q16 q17 q18 q19 q20 q21 u0 u1 u2 u3 u4 u5 i_hill_children v8 i_hill_changes a9 i_hill_expelled)) (isC := [0, 2]) (ps := [some 0, none, some 1, none]) (va_runV (As := [.int (Int32.ofInt (-2))]) (rest := []) ⟨hx, hb, hml, hown, hts⟩ (c_HS_refuse l ev dC dI cA q0 q1 q2 q3 q4 q5 q6 q7 q8 q9 q10 q11 q12 u0 u1 u2 hg H.size) (cwV 1 hts (zgV zw_534 zw_536 zw_0 zw_104 zw_537) rfl rfl rfl hd_HS_refuse ⟨Nat.le_of_ble_eq_true rfl, Nat.le_of_ble_eq_true rfl⟩) (xv_preV (T := TX10) (N := 16) hE hA hS hK hP hD (isC := [0, 2]) (by decide +kernel) hC (q0 := 0) (ci := 10) rfl rfl) rfl rfl hl.1 rfl (lv_room (Nat.le_of_ble_eq_true rfl)) dX10_expel_29 ⟨Nat.le_refl _, Nat.le_refl _⟩) hP hD hS hA (by decide +kernel) rfl hC rfl rfl (fun H locs hP hD hS => ?_)
        obtain rfl := Option.some.inj hf
        exact hret _ _ _ _ rfl dX10_expel_32 hP hD hS
    · exact b_9  _ _ _ _ _ _ _ hf hP hD hS (lv_sub hl [0] rfl)
