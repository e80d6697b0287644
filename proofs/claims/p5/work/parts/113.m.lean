theorem dX11_must_0 : decode cX11_must 0 = .ok (.aload_n 0, 1) := by decide +kernel
theorem dX11_must_1 : decode cX11_must 1 = .ok (.getfield 185, 3) := by decide +kernel
theorem dX11_must_4 : decode cX11_must 4 = .ok (.ifCond .ne 20, 3) := by decide +kernel
theorem dX11_must_7 : decode cX11_must 7 = .ok (.iload_n 1, 1) := by decide +kernel
theorem dX11_must_8 : decode cX11_must 8 = .ok (.ifCond .ne 16, 3) := by decide +kernel
theorem dX11_must_11 : decode cX11_must 11 = .ok (.aload_n 0, 1) := by decide +kernel
theorem dX11_must_12 : decode cX11_must 12 = .ok (.iconst 1, 1) := by decide +kernel
theorem dX11_must_13 : decode cX11_must 13 = .ok (.putfield 185, 3) := by decide +kernel
theorem dX11_must_16 : decode cX11_must 16 = .ok (.aload_n 0, 1) := by decide +kernel
theorem dX11_must_17 : decode cX11_must 17 = .ok (.aload_n 0, 1) := by decide +kernel
theorem dX11_must_18 : decode cX11_must 18 = .ok (.getfield 192, 3) := by decide +kernel
theorem dX11_must_21 : decode cX11_must 21 = .ok (.putfield 26, 3) := by decide +kernel
theorem dX11_must_24 : decode cX11_must 24 = .ok (.aload_n 0, 1) := by decide +kernel
theorem dX11_must_25 : decode cX11_must 25 = .ok (.getfield 185, 3) := by decide +kernel
theorem dX11_must_28 : decode cX11_must 28 = .ok (.ifCond .ne 7, 3) := by decide +kernel
theorem dX11_must_31 : decode cX11_must 31 = .ok (.aload_n 0, 1) := by decide +kernel
theorem dX11_must_32 : decode cX11_must 32 = .ok (.invokevirtual 189, 3) := by decide +kernel
theorem dX11_must_35 : decode cX11_must 35 = .ok (.return_, 1) := by decide +kernel
theorem zw_47 : (Jvm.Cond.selects "HillSchoolModel" ({ cls := "HillSchoolModel", name := "next", desc := "()V" } : Jvm.MethodName) ({ cls := "HillSchoolModel", name := "next", desc := "()V" } : Jvm.MethodName)) ∈ zall := zmemG (zmj_0 47 rfl) rfl
theorem zw_1179 : (Jvm.Cond.fieldLink "HillSchoolModel" (185 : Nat) "HillSchoolModel" "bad" "Z") ∈ zall := zmemG (zmj_5 116 rfl) rfl
theorem zw_1439 : (Jvm.Cond.methodLink "HillSchoolModel" (189 : Nat) ({ cls := "HillSchoolModel", name := "next", desc := "()V" } : Jvm.MethodName)) ∈ zall := zmemG (zmj_6 136 rfl) rfl
theorem zw_1441 : (Jvm.Cond.instanceMethod ({ cls := "HillSchoolModel", name := "next", desc := "()V" } : Jvm.MethodName)) ∈ zall := zmemG (zmj_6 138 rfl) rfl
theorem zw_1468 : (Jvm.Cond.code ({ cls := "HillSchoolModel", name := "must", desc := "(Z)V" } : Jvm.MethodName) prog_13_method_36_code (2 : Nat) (Option.none : Option Jvm.ClassFile.FieldType)) ∈ zall := zmemG (zmj_6 165 rfl) rfl
abbrev w_HM_must : List Cond := .code yX11_must cX11_must 2 none :: zall
abbrev rm_HM_must : Room := { frames := 2, cells := 0, slots := 0, locals := 40 }
theorem hd_HM_must : yX11_must.cls = "HillSchoolModel" ∧ yX11_must.cls ≠ "java/lang/invoke/MethodHandle" ∧ yX11_must.cls ≠ "java/lang/invoke/VarHandle" ∧ (parseMethodDescriptor yX11_must.desc).map (fun d => d.parameters.length) = some 1 := by decide +kernel
def wd_HM_must (cA : Nat → ClassId) (q0 q1 q2 q3 q4 q5 q6 q7 q8 q9 q10 q11 q12 q13 q14 q15 q16 q17 q18 q19 q20 q21 q22 q23 q24 q25 q26 q27 q28 q29 q30 q31 : Nat) (u0 u1 u2 u3 u4 u5 u6 u7 u8 u9 u10 u11 u12 u13 u14 : Int) (i_taped : Int) (i_tape : Nat → Int) (i_from : Int) (i_to : Int) (i_sort : Int) (i_worth : Int) (i_fault : Int) (i_bad : Int) : va_W := [(q0, .inr (11, [.int (Int32.ofInt u0), .int (Int32.ofInt u1), .ref q1, .ref q2, .ref q3, .ref q4, .int (Int32.ofInt u2), .ref q5, .int (Int32.ofInt i_taped), .int (Int32.ofInt i_from), .int (Int32.ofInt i_to), .int (Int32.ofInt i_sort), .long (Int64.ofInt i_worth), .int (Int32.ofInt i_fault), .int (Int32.ofInt i_bad), .int (Int32.ofInt u3), .ref q6, .int (Int32.ofInt u4), .ref q7, .ref q8, .int (Int32.ofInt u5), .ref q9, .ref q10, .int (Int32.ofInt u6), .int (Int32.ofInt u7), .ref q11, .int (Int32.ofInt u8), .ref q12, .ref q13, .int (Int32.ofInt u9), .long (Int64.ofInt u10), .long (Int64.ofInt u11), .ref q14, .ref q15, .ref q16, .ref q17, .ref q18, .int (Int32.ofInt u12), .ref q19, .ref q20, .ref q21, .ref q22, .ref q23, .ref q24, .ref q25, .ref q26, .ref q27, .ref q28, .ref q29, .ref q30, .long (Int64.ofInt u13), .ref q31, .int (Int32.ofInt u14)])), (q5, .inl (cA 0, 400, .inl (za i_tape)))]
def wf_HM_must (cA : Nat → ClassId) (q0 q1 q2 q3 q4 q5 q6 q7 q8 q9 q10 q11 q12 q13 q14 q15 q16 q17 q18 q19 q20 q21 q22 q23 q24 q25 q26 q27 q28 q29 q30 q31 : Nat) (u0 u1 u2 u3 u4 u5 u6 u7 u8 u9 u10 u11 u12 u13 u14 : Int) (i_taped : Int) (i_tape : Nat → Int) (o : Int × Int × Int × Int × Int × Int) : va_W := wd_HM_must cA q0 q1 q2 q3 q4 q5 q6 q7 q8 q9 q10 q11 q12 q13 q14 q15 q16 q17 q18 q19 q20 q21 q22 q23 q24 q25 q26 q27 q28 q29 q30 q31 u0 u1 u2 u3 u4 u5 u6 u7 u8 u9 u10 u11 u12 u13 u14 i_taped i_tape o.1 o.2.1 o.2.2.1 o.2.2.2.1 o.2.2.2.2.1 o.2.2.2.2.2
def f_HM_must_24 (i_taped : Int) (i_tape : Nat → Int) (i_from : Int) (i_to : Int) (i_sort : Int) (i_worth : Int) (i_fault : Int) (i_bad : Int) : Option (Int × Int × Int × Int × Int × Int) :=
  if zi_w i_bad ≠ 0 then
    some (i_from, i_to, i_sort, i_worth, i_fault, i_bad)
  else
    zd4 (f_HM_next i_taped i_tape i_from i_to i_sort i_worth) fun v1 v2 v3 v4 =>
    some (v1, v2, v3, v4, i_fault, i_bad)
def f_HM_must (x1 : Int) (i_taped : Int) (i_tape : Nat → Int) (i_from : Int) (i_to : Int) (i_sort : Int) (i_worth : Int) (i_fault : Int) (i_bad : Int) : Option (Int × Int × Int × Int × Int × Int) :=
  if zi_w i_bad ≠ 0 then
    f_HM_must_24 i_taped i_tape i_from i_to i_sort i_worth i_fault i_bad
  else
    if zi_w x1 ≠ 0 then
      f_HM_must_24 i_taped i_tape i_from i_to i_sort i_worth i_fault i_bad
    else
      f_HM_must_24 i_taped i_tape i_from i_to i_sort i_worth i_from 1
set_option maxHeartbeats 4000000 in
set_option maxRecDepth 100000 in
theorem c_HM_must (l : Launch) (ev : zEv) (dC : Nat → ClassId) (dI : Nat → Nat → Nat) (cA : Nat → ClassId) (q0 q1 q2 q3 q4 q5 q6 q7 q8 q9 q10 q11 q12 q13 q14 q15 q16 q17 q18 q19 q20 q21 q22 q23 q24 q25 q26 q27 q28 q29 q30 q31 : Nat) (u0 u1 u2 u3 u4 u5 u6 u7 u8 u9 u10 u11 u12 u13 u14 : Int) {x1 : Int} {i_taped : Int} {i_tape : Nat → Int} {i_from : Int} {i_to : Int} {i_sort : Int} {i_worth : Int} {i_fault : Int} {i_bad : Int} {out : Int × Int × Int × Int × Int × Int} (hf : f_HM_must x1 i_taped i_tape i_from i_to i_sort i_worth i_fault i_bad = some out) : xc_V l ev (dC, dI) vwCl (tyl cA) yX11_must w_HM_must rm_HM_must [.ref q0, .int (Int32.ofInt x1)] (wd_HM_must cA q0 q1 q2 q3 q4 q5 q6 q7 q8 q9 q10 q11 q12 q13 q14 q15 q16 q17 q18 q19 q20 q21 q22 q23 q24 q25 q26 q27 q28 q29 q30 q31 u0 u1 u2 u3 u4 u5 u6 u7 u8 u9 u10 u11 u12 u13 u14 i_taped i_tape i_from i_to i_sort i_worth i_fault i_bad) (wf_HM_must cA q0 q1 q2 q3 q4 q5 q6 q7 q8 q9 q10 q11 q12 q13 q14 q15 q16 q17 q18 q19 q20 q21 q22 q23 q24 q25 q26 q27 q28 q29 q30 q31 u0 u1 u2 u3 u4 u5 u6 u7 u8 u9 u10 u11 u12 u13 u14 i_taped i_tape out) := by
  refine xv_startV (cc := cX11_must) (maxL := 2) (by decide +kernel) rfl (Nat.le_of_ble_eq_true rfl) ?_
  intro p e s m args below meth c A Q H ls hx hb hml hts hown hK hA hP hD hS hl hE hret
  have hown : s.vm.findClass "HillSchoolModel" = some m.cls := hown
  have hz : ∀ w ∈ zall, w.before args s = true := fun w h => hts w (List.mem_cons_of_mem _ h)
  have hl : lv_has ls 2 [(0, .ref q0), (1, .int (Int32.ofInt x1))] := hl
  have b_24 : ∀ (i_from : Int) (i_to : Int) (i_sort : Int) (i_worth : Int) (i_fault : Int) (i_bad : Int) (H : Heap) (locs : List Loc) (ls : Array Slot), f_HM_must_24 i_taped i_tape i_from i_to i_sort i_worth i_fault i_bad = some out → va_P (dC, dI) vwCl (wd_HM_must cA q0 q1 q2 q3 q4 q5 q6 q7 q8 q9 q10 q11 q12 q13 q14 q15 q16 q17 q18 q19 q20 q21 q22 q23 q24 q25 q26 q27 q28 q29 q30 q31 u0 u1 u2 u3 u4 u5 u6 u7 u8 u9 u10 u11 u12 u13 u14 i_taped i_tape i_from i_to i_sort i_worth i_fault i_bad) H → va_D A (wd_HM_must cA q0 q1 q2 q3 q4 q5 q6 q7 q8 q9 q10 q11 q12 q13 q14 q15 q16 q17 q18 q19 q20 q21 q22 q23 q24 q25 q26 q27 q28 q29 q30 q31 u0 u1 u2 u3 u4 u5 u6 u7 u8 u9 u10 u11 u12 u13 u14 i_taped i_tape i_from i_to i_sort i_worth i_fault i_bad) → va_S A s.heap H locs → lv_has ls 2 [(0, .ref q0)] → W p l e rm_HM_must s m args below meth c H locs 0 0 Q (F0 m 24 ls []) := by
    intro i_from i_to i_sort i_worth i_fault i_bad H locs ls hf hP hD hS hl
    unfold f_HM_must_24 at hf
    refine lv_aload_n hx hb dX11_must_24 rfl (lv_at hl 0 rfl) ?_
    refine va_get (D := (dC, dI)) (ci := 11) (v := .int (Int32.ofInt i_bad)) (C := RX11) (T := TX11) (N := 53) hx hb hz zi_X11 hown hK hP 0 rfl rfl 14 (by decide) (hz _ zw_1179) (fun _ h9 => h9) rfl dX11_must_25 ?_
    refine xi_if_ne (tgt := 35) hx hb dX11_must_28 (by decide) hf (fun hf => ?_) (fun hf => ?_)
    · obtain rfl := Option.some.inj hf
      exact hret _ _ _ _ dX11_must_35 hP hD hS
    · refine lv_aload_n hx hb dX11_must_31 rfl (lv_at hl 0 rfl) ?_
      refine xe_d4 hf (fun v1 v2 v3 v4 hg hf => ?_)
      have hC : ([0, 1] : List Nat).map (fun i => (wd_HM_must cA q0 q1 q2 q3 q4 q5 q6 q7 q8 q9 q10 q11 q12 q13 q14 q15 q16 q17 q18 q19 q20 q21 q22 q23 q24 q25 q26 q27 q28 q29 q30 q31 u0 u1 u2 u3 u4 u5 u6 u7 u8 u9 u10 u11 u12 u13 u14 i_taped i_tape i_from i_to i_sort i_worth i_fault i_bad)[i]?) = (wd_HM_next cA q0 q1 q2 q3 q4 q5 q6 q7 q8 q9 q10 q11 q12 q13 q14 q15 q16 q17 q18 q19 q20 q21 q22 q23 q24 q25 q26 q27 q28 q29 q30 q31 u0 u1 u2 i_fault i_bad u3 u4 u5 u6 u7 u8 u9 u10 u11 u12 u13 u14 i_taped i_tape i_from i_to i_sort i_worth).map some := rfl
      refine xv_afterV (ws' := (wd_HM_must cA q0 q1 q2 q3 q4 q5 q6 q7 q8 q9 q10 q11 q12 q13 q14 q15 q16 q17 q18 q19 q20 q21 q22 q23 q24 q25 q26 q27 q28 q29 q30 q31 u0 u1 u2 u3 u4 u5 u6 u7 u8 u9 u10 u11 u12 u13 u14 i_taped i_tape v1 v2 v3 v4 i_fault i_bad)) (isC := [0, 1]) (ps := [some 0, some 1]) (va_runV (As := []) (rest := []) ⟨hx, hb, hml, hown, hts⟩ (c_HM_next l ev dC dI cA q0 q1 q2 q3 q4 q5 q6 q7 q8 q9 q10 q11 q12 q13 q14 q15 q16 q17 q18 q19 q20 q21 q22 q23 q24 q25 q26 q27 q28 q29 q30 q31 u0 u1 u2 i_fault i_bad u3 u4 u5 u6 u7 u8 u9 u10 u11 u12 u13 u14 hg H.size) (cwV 0 hts (zgV zw_1439 zw_1441 zw_47 zw_115 zw_1442) rfl rfl rfl hd_HM_next ⟨Nat.le_of_ble_eq_true rfl, Nat.le_of_ble_eq_true rfl⟩) (xv_preV (T := TX11) (N := 53) hE hA hS hK hP hD (isC := [0, 1]) (by decide +kernel) hC (q0 := 0) (ci := 11) rfl rfl) rfl rfl hl.1 rfl (lv_room (Nat.le_of_ble_eq_true rfl)) dX11_must_32 ⟨Nat.le_refl _, Nat.le_refl _⟩) hP hD hS hA (by decide +kernel) rfl hC rfl rfl (fun H locs hP hD hS => ?_)
      obtain rfl := Option.some.inj hf
      exact hret _ _ _ _ dX11_must_35 hP hD hS
  unfold f_HM_must at hf
  refine lv_aload_n hx hb dX11_must_0 rfl (lv_at hl 0 rfl) ?_
  refine va_get (D := (dC, dI)) (ci := 11) (v := .int (Int32.ofInt i_bad)) (C := RX11) (T := TX11) (N := 53) hx hb hz zi_X11 hown hK hP 0 rfl rfl 14 (by decide) (hz _ zw_1179) (fun _ h9 => h9) rfl dX11_must_1 ?_
  refine xi_if_ne (tgt := 24) hx hb dX11_must_4 (by decide) hf (fun hf => ?_) (fun hf => ?_)
  · exact b_24  _ _ _ _ _ _ _ _ _ hf hP hD hS (lv_sub hl [0] rfl)
  · refine lv_iload_n hx hb dX11_must_7 rfl (lv_at hl 1 rfl) ?_
    refine xi_if_ne (tgt := 24) hx hb dX11_must_8 (by decide) hf (fun hf => ?_) (fun hf => ?_)
    · exact b_24  _ _ _ _ _ _ _ _ _ hf hP hD hS (lv_sub hl [0] rfl)
    · refine lv_aload_n hx hb dX11_must_11 rfl (lv_at hl 0 rfl) ?_
      refine lv_iconst (v := Int32.ofInt 1) hx hb dX11_must_12 rfl ?_
      refine va_put (D := (dC, dI)) (ci := 11) (v := .int (Int32.ofInt 1)) (ty := .boolean) (C := RX11) (T := TX11) (N := 53) hx hb hz zi_X11 tyX11 tyX11_ok nmX11 hown hK hP hD hS 0 rfl rfl 14 (by decide) (hz _ zw_1179) (fun _ h9 => h9) rfl (by decide +kernel) (by decide +kernel) (by decide +kernel) (Nat.le_of_ble_eq_true rfl) dX11_must_13 (fun H locs hP hD hS => ?_)
      have hP : va_P (dC, dI) vwCl (wd_HM_must cA q0 q1 q2 q3 q4 q5 q6 q7 q8 q9 q10 q11 q12 q13 q14 q15 q16 q17 q18 q19 q20 q21 q22 q23 q24 q25 q26 q27 q28 q29 q30 q31 u0 u1 u2 u3 u4 u5 u6 u7 u8 u9 u10 u11 u12 u13 u14 i_taped i_tape i_from i_to i_sort i_worth i_fault 1) H := hP
      have hD : va_D A (wd_HM_must cA q0 q1 q2 q3 q4 q5 q6 q7 q8 q9 q10 q11 q12 q13 q14 q15 q16 q17 q18 q19 q20 q21 q22 q23 q24 q25 q26 q27 q28 q29 q30 q31 u0 u1 u2 u3 u4 u5 u6 u7 u8 u9 u10 u11 u12 u13 u14 i_taped i_tape i_from i_to i_sort i_worth i_fault 1) := hD
      refine lv_aload_n hx hb dX11_must_16 rfl (lv_at hl 0 rfl) ?_
      refine lv_aload_n hx hb dX11_must_17 rfl (lv_at hl 0 rfl) ?_
      refine va_get (D := (dC, dI)) (ci := 11) (v := .int (Int32.ofInt i_from)) (C := RX11) (T := TX11) (N := 53) hx hb hz zi_X11 hown hK hP 0 rfl rfl 9 (by decide) (hz _ zw_1174) (fun _ h9 => h9) rfl dX11_must_18 ?_
      refine va_put (D := (dC, dI)) (ci := 11) (v := .int (Int32.ofInt i_from)) (ty := .int) (C := RX11) (T := TX11) (N := 53) hx hb hz zi_X11 tyX11 tyX11_ok nmX11 hown hK hP hD hS 0 rfl rfl 13 (by decide) (hz _ zw_1178) (fun _ h9 => h9) rfl (by decide +kernel) rfl rfl (Nat.le_of_ble_eq_true rfl) dX11_must_21 (fun H locs hP hD hS => ?_)
      have hP : va_P (dC, dI) vwCl (wd_HM_must cA q0 q1 q2 q3 q4 q5 q6 q7 q8 q9 q10 q11 q12 q13 q14 q15 q16 q17 q18 q19 q20 q21 q22 q23 q24 q25 q26 q27 q28 q29 q30 q31 u0 u1 u2 u3 u4 u5 u6 u7 u8 u9 u10 u11 u12 u13 u14 i_taped i_tape i_from i_to i_sort i_worth i_from 1) H := hP
      have hD : va_D A (wd_HM_must cA q0 q1 q2 q3 q4 q5 q6 q7 q8 q9 q10 q11 q12 q13 q14 q15 q16 q17 q18 q19 q20 q21 q22 q23 q24 q25 q26 q27 q28 q29 q30 q31 u0 u1 u2 u3 u4 u5 u6 u7 u8 u9 u10 u11 u12 u13 u14 i_taped i_tape i_from i_to i_sort i_worth i_from 1) := hD
      exact b_24  _ _ _ _ _ _ _ _ _ hf hP hD hS (lv_sub hl [0] rfl)
theorem dX11_isWord_0 : decode cX11_isWord 0 = .ok (.aload_n 0, 1) := by decide +kernel
theorem dX11_isWord_1 : decode cX11_isWord 1 = .ok (.getfield 205, 3) := by decide +kernel
theorem dX11_isWord_4 : decode cX11_isWord 4 = .ok (.iconst 1, 1) := by decide +kernel
theorem dX11_isWord_5 : decode cX11_isWord 5 = .ok (.if_icmp .ne 16, 3) := by decide +kernel
theorem dX11_isWord_8 : decode cX11_isWord 8 = .ok (.aload_n 0, 1) := by decide +kernel
theorem dX11_isWord_9 : decode cX11_isWord 9 = .ok (.getfield 195, 3) := by decide +kernel
theorem dX11_isWord_12 : decode cX11_isWord 12 = .ok (.lload_n 1, 1) := by decide +kernel
theorem dX11_isWord_13 : decode cX11_isWord 13 = .ok (.lcmp, 1) := by decide +kernel
theorem dX11_isWord_14 : decode cX11_isWord 14 = .ok (.ifCond .ne 7, 3) := by decide +kernel
theorem dX11_isWord_17 : decode cX11_isWord 17 = .ok (.iconst 1, 1) := by decide +kernel
theorem dX11_isWord_18 : decode cX11_isWord 18 = .ok (.goto 4, 3) := by decide +kernel
theorem dX11_isWord_21 : decode cX11_isWord 21 = .ok (.iconst 0, 1) := by decide +kernel
theorem dX11_isWord_22 : decode cX11_isWord 22 = .ok (.ireturn, 1) := by decide +kernel
theorem zw_1463 : (Jvm.Cond.code ({ cls := "HillSchoolModel", name := "isWord", desc := "(J)Z" } : Jvm.MethodName) prog_13_method_34_code (3 : Nat) (Option.some Jvm.ClassFile.FieldType.boolean)) ∈ zall := zmemG (zmj_6 160 rfl) rfl
abbrev w_HM_isWord : List Cond := .code yX11_isWord cX11_isWord 3 (some .boolean) :: zall
abbrev rm_HM_isWord : Room := { frames := 0, cells := 0, slots := 0, locals := 0 }
theorem hd_HM_isWord : yX11_isWord.cls = "HillSchoolModel" ∧ yX11_isWord.cls ≠ "java/lang/invoke/MethodHandle" ∧ yX11_isWord.cls ≠ "java/lang/invoke/VarHandle" ∧ (parseMethodDescriptor yX11_isWord.desc).map (fun d => d.parameters.length) = some 1 := by decide +kernel
def wd_HM_isWord (cA : Nat → ClassId) (q0 q1 q2 q3 q4 q5 q6 q7 q8 q9 q10 q11 q12 q13 q14 q15 q16 q17 q18 q19 q20 q21 q22 q23 q24 q25 q26 q27 q28 q29 q30 q31 : Nat) (u0 u1 u2 u3 u4 u5 u6 u7 u8 u9 u10 u11 u12 u13 u14 u15 u16 u17 u18 u19 : Int) (i_sort : Int) (i_worth : Int)  : va_W := [(q0, .inr (11, [.int (Int32.ofInt u0), .int (Int32.ofInt u1), .ref q1, .ref q2, .ref q3, .ref q4, .int (Int32.ofInt u2), .ref q5, .int (Int32.ofInt u3), .int (Int32.ofInt u4), .int (Int32.ofInt u5), .int (Int32.ofInt i_sort), .long (Int64.ofInt i_worth), .int (Int32.ofInt u6), .int (Int32.ofInt u7), .int (Int32.ofInt u8), .ref q6, .int (Int32.ofInt u9), .ref q7, .ref q8, .int (Int32.ofInt u10), .ref q9, .ref q10, .int (Int32.ofInt u11), .int (Int32.ofInt u12), .ref q11, .int (Int32.ofInt u13), .ref q12, .ref q13, .int (Int32.ofInt u14), .long (Int64.ofInt u15), .long (Int64.ofInt u16), .ref q14, .ref q15, .ref q16, .ref q17, .ref q18, .int (Int32.ofInt u17), .ref q19, .ref q20, .ref q21, .ref q22, .ref q23, .ref q24, .ref q25, .ref q26, .ref q27, .ref q28, .ref q29, .ref q30, .long (Int64.ofInt u18), .ref q31, .int (Int32.ofInt u19)]))]
def wf_HM_isWord (cA : Nat → ClassId) (q0 q1 q2 q3 q4 q5 q6 q7 q8 q9 q10 q11 q12 q13 q14 q15 q16 q17 q18 q19 q20 q21 q22 q23 q24 q25 q26 q27 q28 q29 q30 q31 : Nat) (u0 u1 u2 u3 u4 u5 u6 u7 u8 u9 u10 u11 u12 u13 u14 u15 u16 u17 u18 u19 : Int) (i_sort : Int) (i_worth : Int) (o : Int) : va_W := wd_HM_isWord cA q0 q1 q2 q3 q4 q5 q6 q7 q8 q9 q10 q11 q12 q13 q14 q15 q16 q17 q18 q19 q20 q21 q22 q23 q24 q25 q26 q27 q28 q29 q30 q31 u0 u1 u2 u3 u4 u5 u6 u7 u8 u9 u10 u11 u12 u13 u14 u15 u16 u17 u18 u19 i_sort i_worth
def f_HM_isWord (x1 : Int) (i_sort : Int) (i_worth : Int) : Option (Int) :=
  if zi_w i_sort ≠ zi_w 1 then
    some 0
  else
    if zl_w i_worth ≠ zl_w x1 then
      some 0
    else
      some 1
set_option maxHeartbeats 4000000 in
set_option maxRecDepth 100000 in
theorem c_HM_isWord (l : Launch) (ev : zEv) (dC : Nat → ClassId) (dI : Nat → Nat → Nat) (cA : Nat → ClassId) (q0 q1 q2 q3 q4 q5 q6 q7 q8 q9 q10 q11 q12 q13 q14 q15 q16 q17 q18 q19 q20 q21 q22 q23 q24 q25 q26 q27 q28 q29 q30 q31 : Nat) (u0 u1 u2 u3 u4 u5 u6 u7 u8 u9 u10 u11 u12 u13 u14 u15 u16 u17 u18 u19 : Int) {x1 : Int} {i_sort : Int} {i_worth : Int} {out : Int} (hf : f_HM_isWord x1 i_sort i_worth = some out) : xc_I l ev (dC, dI) vwCl (tyl cA) yX11_isWord w_HM_isWord rm_HM_isWord [.ref q0, .long (Int64.ofInt x1)] (wd_HM_isWord cA q0 q1 q2 q3 q4 q5 q6 q7 q8 q9 q10 q11 q12 q13 q14 q15 q16 q17 q18 q19 q20 q21 q22 q23 q24 q25 q26 q27 q28 q29 q30 q31 u0 u1 u2 u3 u4 u5 u6 u7 u8 u9 u10 u11 u12 u13 u14 u15 u16 u17 u18 u19 i_sort i_worth) (wf_HM_isWord cA q0 q1 q2 q3 q4 q5 q6 q7 q8 q9 q10 q11 q12 q13 q14 q15 q16 q17 q18 q19 q20 q21 q22 q23 q24 q25 q26 q27 q28 q29 q30 q31 u0 u1 u2 u3 u4 u5 u6 u7 u8 u9 u10 u11 u12 u13 u14 u15 u16 u17 u18 u19 i_sort i_worth out) out := by
  refine xv_startI (cc := cX11_isWord) (maxL := 3) (rt := .boolean) (by decide +kernel) rfl (Nat.le_of_ble_eq_true rfl) ?_
  intro p e s m args below meth c A Q H ls hx hb hml hts hown hK hA hP hD hS hl hE hret
  have hown : s.vm.findClass "HillSchoolModel" = some m.cls := hown
  have hz : ∀ w ∈ zall, w.before args s = true := fun w h => hts w (List.mem_cons_of_mem _ h)
  have hl : lv_has ls 3 [(0, .ref q0), (1, .long (Int64.ofInt x1))] := hl
  unfold f_HM_isWord at hf
  refine lv_aload_n hx hb dX11_isWord_0 rfl (lv_at hl 0 rfl) ?_
  refine va_get (D := (dC, dI)) (ci := 11) (v := .int (Int32.ofInt i_sort)) (C := RX11) (T := TX11) (N := 53) hx hb hz zi_X11 hown hK hP 0 rfl rfl 11 (by decide) (hz _ zw_1176) (fun _ h9 => h9) rfl dX11_isWord_1 ?_
  refine lv_iconst (v := Int32.ofInt 1) hx hb dX11_isWord_4 rfl ?_
  refine xi_icmp_ne (tgt := 21) hx hb dX11_isWord_5 (by decide) hf (fun hf => ?_) (fun hf => ?_)
  · refine lv_iconst (v := Int32.ofInt 0) hx hb dX11_isWord_21 rfl ?_
    obtain rfl := Option.some.inj hf
    exact hret _ _ _ _ zz_b0 dX11_isWord_22 hP hD hS
  · refine lv_aload_n hx hb dX11_isWord_8 rfl (lv_at hl 0 rfl) ?_
    refine va_get (D := (dC, dI)) (ci := 11) (v := .long (Int64.ofInt i_worth)) (C := RX11) (T := TX11) (N := 53) hx hb hz zi_X11 hown hK hP 0 rfl rfl 12 (by decide) (hz _ zw_1177) (fun _ h9 => h9) rfl dX11_isWord_9 ?_
    refine lv_lload_n hx hb dX11_isWord_12 rfl (lv_at hl 1 rfl) ?_
    refine xl_cmp_ne (tgt := 21) hx hb dX11_isWord_13 dX11_isWord_14 (by decide) hf (fun hf => ?_) (fun hf => ?_)
    · refine lv_iconst (v := Int32.ofInt 0) hx hb dX11_isWord_21 rfl ?_
      obtain rfl := Option.some.inj hf
      exact hret _ _ _ _ zz_b0 dX11_isWord_22 hP hD hS
    · refine lv_iconst (v := Int32.ofInt 1) hx hb dX11_isWord_17 rfl ?_
      refine lv_goto (tgt := 22) hx hb dX11_isWord_18 (by decide) ?_
      obtain rfl := Option.some.inj hf
      exact hret _ _ _ _ zz_b1 dX11_isWord_22 hP hD hS
theorem dX11_binds_0 : decode cX11_binds 0 = .ok (.iload_n 0, 1) := by decide +kernel
theorem dX11_binds_1 : decode cX11_binds 1 = .ok (.bipush 30, 2) := by decide +kernel
theorem dX11_binds_3 : decode cX11_binds 3 = .ok (.if_icmp .lt 7, 3) := by decide +kernel
theorem dX11_binds_6 : decode cX11_binds 6 = .ok (.iconst 0, 1) := by decide +kernel
theorem dX11_binds_7 : decode cX11_binds 7 = .ok (.goto 55, 3) := by decide +kernel
theorem dX11_binds_10 : decode cX11_binds 10 = .ok (.iload_n 0, 1) := by decide +kernel
theorem dX11_binds_11 : decode cX11_binds 11 = .ok (.bipush 29, 2) := by decide +kernel
theorem dX11_binds_13 : decode cX11_binds 13 = .ok (.if_icmp .ne 7, 3) := by decide +kernel
theorem dX11_binds_16 : decode cX11_binds 16 = .ok (.iconst 1, 1) := by decide +kernel
theorem dX11_binds_17 : decode cX11_binds 17 = .ok (.goto 45, 3) := by decide +kernel
theorem dX11_binds_20 : decode cX11_binds 20 = .ok (.iload_n 0, 1) := by decide +kernel
theorem dX11_binds_21 : decode cX11_binds 21 = .ok (.bipush 28, 2) := by decide +kernel
theorem dX11_binds_23 : decode cX11_binds 23 = .ok (.if_icmp .ne 7, 3) := by decide +kernel
theorem dX11_binds_26 : decode cX11_binds 26 = .ok (.iconst 2, 1) := by decide +kernel
theorem dX11_binds_27 : decode cX11_binds 27 = .ok (.goto 35, 3) := by decide +kernel
theorem dX11_binds_30 : decode cX11_binds 30 = .ok (.iload_n 0, 1) := by decide +kernel
theorem dX11_binds_31 : decode cX11_binds 31 = .ok (.bipush 27, 2) := by decide +kernel
theorem dX11_binds_33 : decode cX11_binds 33 = .ok (.if_icmp .ne 7, 3) := by decide +kernel
theorem dX11_binds_36 : decode cX11_binds 36 = .ok (.iconst 3, 1) := by decide +kernel
theorem dX11_binds_37 : decode cX11_binds 37 = .ok (.goto 25, 3) := by decide +kernel
theorem dX11_binds_40 : decode cX11_binds 40 = .ok (.iload_n 0, 1) := by decide +kernel
theorem dX11_binds_41 : decode cX11_binds 41 = .ok (.bipush 24, 2) := by decide +kernel
theorem dX11_binds_43 : decode cX11_binds 43 = .ok (.if_icmp .lt 7, 3) := by decide +kernel
theorem dX11_binds_46 : decode cX11_binds 46 = .ok (.iconst 4, 1) := by decide +kernel
theorem dX11_binds_47 : decode cX11_binds 47 = .ok (.goto 15, 3) := by decide +kernel
theorem dX11_binds_50 : decode cX11_binds 50 = .ok (.iload_n 0, 1) := by decide +kernel
theorem dX11_binds_51 : decode cX11_binds 51 = .ok (.bipush 22, 2) := by decide +kernel
theorem dX11_binds_53 : decode cX11_binds 53 = .ok (.if_icmp .lt 8, 3) := by decide +kernel
theorem dX11_binds_56 : decode cX11_binds 56 = .ok (.bipush 6, 2) := by decide +kernel
theorem dX11_binds_58 : decode cX11_binds 58 = .ok (.goto 4, 3) := by decide +kernel
theorem dX11_binds_61 : decode cX11_binds 61 = .ok (.iconst 5, 1) := by decide +kernel
theorem dX11_binds_62 : decode cX11_binds 62 = .ok (.ireturn, 1) := by decide +kernel
theorem zw_1513 : (Jvm.Cond.code ({ cls := "HillSchoolModel", name := "binds", desc := "(I)I" } : Jvm.MethodName) prog_13_method_41_code (1 : Nat) (Option.some Jvm.ClassFile.FieldType.int)) ∈ zall := zmemG (zmj_6 210 rfl) rfl
abbrev w_HM_binds : List Cond := .code yX11_binds cX11_binds 1 (some .int) :: zall
abbrev rm_HM_binds : Room := { frames := 0, cells := 0, slots := 0, locals := 0 }
theorem hd_HM_binds : yX11_binds.cls = yX11_binds.cls ∧ yX11_binds.cls ≠ "java/lang/invoke/MethodHandle" ∧ yX11_binds.cls ≠ "java/lang/invoke/VarHandle" ∧ (parseMethodDescriptor yX11_binds.desc).map (fun d => d.parameters.length) = some 1 := by decide +kernel
def wd_HM_binds (cA : Nat → ClassId)   : va_W := []
def wf_HM_binds (cA : Nat → ClassId)  (o : Int) : va_W := wd_HM_binds cA
def f_HM_binds (x0 : Int) : Option (Int) :=
  if zi_w x0 < zi_w 30 then
    if zi_w x0 ≠ zi_w 29 then
      if zi_w x0 ≠ zi_w 28 then
        if zi_w x0 ≠ zi_w 27 then
          if zi_w x0 < zi_w 24 then
            if zi_w x0 < zi_w 22 then
              some 5
            else
              some 6
          else
            some 4
        else
          some 3
      else
        some 2
    else
      some 1
  else
    some 0
set_option maxHeartbeats 4000000 in
set_option maxRecDepth 100000 in
theorem c_HM_binds (l : Launch) (ev : zEv) (dC : Nat → ClassId) (dI : Nat → Nat → Nat) (cA : Nat → ClassId) {x0 : Int} {out : Int} (hf : f_HM_binds x0 = some out) : xc_I l ev (dC, dI) vwCl (tyl cA) yX11_binds w_HM_binds rm_HM_binds [.int (Int32.ofInt x0)] (wd_HM_binds cA) (wf_HM_binds cA out) out := by
  refine xv_startI (cc := cX11_binds) (maxL := 1) (rt := .int) (by decide +kernel) rfl (Nat.le_of_ble_eq_true rfl) ?_
  intro p e s m args below meth c A Q H ls hx hb hml hts hown hK hA hP hD hS hl hE hret
  have hown : s.vm.findClass "HillSchoolModel" = some m.cls := hown
  have hz : ∀ w ∈ zall, w.before args s = true := fun w h => hts w (List.mem_cons_of_mem _ h)
  have hl : lv_has ls 1 [(0, .int (Int32.ofInt x0))] := hl
  unfold f_HM_binds at hf
  refine lv_iload_n hx hb dX11_binds_0 rfl (lv_at hl 0 rfl) ?_
  refine lv_bipush (v := Int32.ofInt 30) hx hb dX11_binds_1 (by decide) ?_
  refine xi_icmp_lt (tgt := 10) hx hb dX11_binds_3 (by decide) hf (fun hf => ?_) (fun hf => ?_)
  · refine lv_iload_n hx hb dX11_binds_10 rfl (lv_at hl 0 rfl) ?_
    refine lv_bipush (v := Int32.ofInt 29) hx hb dX11_binds_11 (by decide) ?_
    refine xi_icmp_ne (tgt := 20) hx hb dX11_binds_13 (by decide) hf (fun hf => ?_) (fun hf => ?_)
    · refine lv_iload_n hx hb dX11_binds_20 rfl (lv_at hl 0 rfl) ?_
      refine lv_bipush (v := Int32.ofInt 28) hx hb dX11_binds_21 (by decide) ?_
      refine xi_icmp_ne (tgt := 30) hx hb dX11_binds_23 (by decide) hf (fun hf => ?_) (fun hf => ?_)
      · refine lv_iload_n hx hb dX11_binds_30 rfl (lv_at hl 0 rfl) ?_
        refine lv_bipush (v := Int32.ofInt 27) hx hb dX11_binds_31 (by decide) ?_
        refine xi_icmp_ne (tgt := 40) hx hb dX11_binds_33 (by decide) hf (fun hf => ?_) (fun hf => ?_)
        · refine lv_iload_n hx hb dX11_binds_40 rfl (lv_at hl 0 rfl) ?_
          refine lv_bipush (v := Int32.ofInt 24) hx hb dX11_binds_41 (by decide) ?_
          refine xi_icmp_lt (tgt := 50) hx hb dX11_binds_43 (by decide) hf (fun hf => ?_) (fun hf => ?_)
          · refine lv_iload_n hx hb dX11_binds_50 rfl (lv_at hl 0 rfl) ?_
            refine lv_bipush (v := Int32.ofInt 22) hx hb dX11_binds_51 (by decide) ?_
            refine xi_icmp_lt (tgt := 61) hx hb dX11_binds_53 (by decide) hf (fun hf => ?_) (fun hf => ?_)
            · refine lv_iconst (v := Int32.ofInt 5) hx hb dX11_binds_61 rfl ?_
              obtain rfl := Option.some.inj hf
              exact hret _ _ _ _ rfl dX11_binds_62 hP hD hS
            · refine lv_bipush (v := Int32.ofInt 6) hx hb dX11_binds_56 (by decide) ?_
              refine lv_goto (tgt := 62) hx hb dX11_binds_58 (by decide) ?_
              obtain rfl := Option.some.inj hf
              exact hret _ _ _ _ rfl dX11_binds_62 hP hD hS
          · refine lv_iconst (v := Int32.ofInt 4) hx hb dX11_binds_46 rfl ?_
            refine lv_goto (tgt := 62) hx hb dX11_binds_47 (by decide) ?_
            obtain rfl := Option.some.inj hf
            exact hret _ _ _ _ rfl dX11_binds_62 hP hD hS
        · refine lv_iconst (v := Int32.ofInt 3) hx hb dX11_binds_36 rfl ?_
          refine lv_goto (tgt := 62) hx hb dX11_binds_37 (by decide) ?_
          obtain rfl := Option.some.inj hf
          exact hret _ _ _ _ rfl dX11_binds_62 hP hD hS
      · refine lv_iconst (v := Int32.ofInt 2) hx hb dX11_binds_26 rfl ?_
        refine lv_goto (tgt := 62) hx hb dX11_binds_27 (by decide) ?_
        obtain rfl := Option.some.inj hf
        exact hret _ _ _ _ rfl dX11_binds_62 hP hD hS
    · refine lv_iconst (v := Int32.ofInt 1) hx hb dX11_binds_16 rfl ?_
      refine lv_goto (tgt := 62) hx hb dX11_binds_17 (by decide) ?_
      obtain rfl := Option.some.inj hf
      exact hret _ _ _ _ rfl dX11_binds_62 hP hD hS
  · refine lv_iconst (v := Int32.ofInt 0) hx hb dX11_binds_6 rfl ?_
    refine lv_goto (tgt := 62) hx hb dX11_binds_7 (by decide) ?_
    obtain rfl := Option.some.inj hf
    exact hret _ _ _ _ rfl dX11_binds_62 hP hD hS
theorem dX11_emit_0 : decode cX11_emit 0 = .ok (.aload_n 0, 1) := by decide +kernel
theorem dX11_emit_1 : decode cX11_emit 1 = .ok (.getfield 33, 3) := by decide +kernel
theorem dX11_emit_4 : decode cX11_emit 4 = .ok (.aload_n 0, 1) := by decide +kernel
theorem dX11_emit_5 : decode cX11_emit 5 = .ok (.getfield 224, 3) := by decide +kernel
theorem dX11_emit_8 : decode cX11_emit 8 = .ok (.iload_n 1, 1) := by decide +kernel
theorem dX11_emit_9 : decode cX11_emit 9 = .ok (.iastore, 1) := by decide +kernel
theorem dX11_emit_10 : decode cX11_emit 10 = .ok (.aload_n 0, 1) := by decide +kernel
theorem dX11_emit_11 : decode cX11_emit 11 = .ok (.getfield 36, 3) := by decide +kernel
theorem dX11_emit_14 : decode cX11_emit 14 = .ok (.aload_n 0, 1) := by decide +kernel
theorem dX11_emit_15 : decode cX11_emit 15 = .ok (.getfield 224, 3) := by decide +kernel
theorem dX11_emit_18 : decode cX11_emit 18 = .ok (.iload_n 2, 1) := by decide +kernel
theorem dX11_emit_19 : decode cX11_emit 19 = .ok (.iastore, 1) := by decide +kernel
theorem dX11_emit_20 : decode cX11_emit 20 = .ok (.aload_n 0, 1) := by decide +kernel
theorem dX11_emit_21 : decode cX11_emit 21 = .ok (.dup, 1) := by decide +kernel
theorem dX11_emit_22 : decode cX11_emit 22 = .ok (.getfield 224, 3) := by decide +kernel
theorem dX11_emit_25 : decode cX11_emit 25 = .ok (.iconst 1, 1) := by decide +kernel
theorem dX11_emit_26 : decode cX11_emit 26 = .ok (.iadd, 1) := by decide +kernel
theorem dX11_emit_27 : decode cX11_emit 27 = .ok (.putfield 224, 3) := by decide +kernel
theorem dX11_emit_30 : decode cX11_emit 30 = .ok (.return_, 1) := by decide +kernel
theorem zw_1182 : (Jvm.Cond.fieldLink "HillSchoolModel" (224 : Nat) "HillSchoolModel" "nCode" "I") ∈ zall := zmemG (zmj_5 119 rfl) rfl
theorem zw_1183 : (Jvm.Cond.fieldLink "HillSchoolModel" (33 : Nat) "HillSchoolModel" "nOp" "[I") ∈ zall := zmemG (zmj_5 120 rfl) rfl
theorem zw_1184 : (Jvm.Cond.fieldLink "HillSchoolModel" (36 : Nat) "HillSchoolModel" "nArg" "[I") ∈ zall := zmemG (zmj_5 121 rfl) rfl
theorem zw_1506 : (Jvm.Cond.code ({ cls := "HillSchoolModel", name := "emit", desc := "(II)V" } : Jvm.MethodName) prog_13_method_39_code (3 : Nat) (Option.none : Option Jvm.ClassFile.FieldType)) ∈ zall := zmemG (zmj_6 203 rfl) rfl
abbrev w_HM_emit : List Cond := .code yX11_emit cX11_emit 3 none :: zall
abbrev rm_HM_emit : Room := { frames := 0, cells := 0, slots := 0, locals := 0 }
theorem hd_HM_emit : yX11_emit.cls = "HillSchoolModel" ∧ yX11_emit.cls ≠ "java/lang/invoke/MethodHandle" ∧ yX11_emit.cls ≠ "java/lang/invoke/VarHandle" ∧ (parseMethodDescriptor yX11_emit.desc).map (fun d => d.parameters.length) = some 2 := by decide +kernel
def wd_HM_emit (cA : Nat → ClassId) (q0 q1 q2 q3 q4 q5 q6 q7 q8 q9 q10 q11 q12 q13 q14 q15 q16 q17 q18 q19 q20 q21 q22 q23 q24 q25 q26 q27 q28 q29 q30 q31 : Nat) (u0 u1 u2 u3 u4 u5 u6 u7 u8 u9 u10 u11 u12 u13 u14 u15 u16 u17 u18 u19 u20 : Int)  (i_nCode : Int) (i_nOp : Nat → Int) (i_nArg : Nat → Int) : va_W := [(q0, .inr (11, [.int (Int32.ofInt u0), .int (Int32.ofInt u1), .ref q1, .ref q2, .ref q3, .ref q4, .int (Int32.ofInt u2), .ref q5, .int (Int32.ofInt u3), .int (Int32.ofInt u4), .int (Int32.ofInt u5), .int (Int32.ofInt u6), .long (Int64.ofInt u7), .int (Int32.ofInt u8), .int (Int32.ofInt u9), .int (Int32.ofInt u10), .ref q6, .int (Int32.ofInt i_nCode), .ref q7, .ref q8, .int (Int32.ofInt u11), .ref q9, .ref q10, .int (Int32.ofInt u12), .int (Int32.ofInt u13), .ref q11, .int (Int32.ofInt u14), .ref q12, .ref q13, .int (Int32.ofInt u15), .long (Int64.ofInt u16), .long (Int64.ofInt u17), .ref q14, .ref q15, .ref q16, .ref q17, .ref q18, .int (Int32.ofInt u18), .ref q19, .ref q20, .ref q21, .ref q22, .ref q23, .ref q24, .ref q25, .ref q26, .ref q27, .ref q28, .ref q29, .ref q30, .long (Int64.ofInt u19), .ref q31, .int (Int32.ofInt u20)])), (q7, .inl (cA 0, 400, .inl (za i_nOp))), (q8, .inl (cA 0, 400, .inl (za i_nArg)))]
def wf_HM_emit (cA : Nat → ClassId) (q0 q1 q2 q3 q4 q5 q6 q7 q8 q9 q10 q11 q12 q13 q14 q15 q16 q17 q18 q19 q20 q21 q22 q23 q24 q25 q26 q27 q28 q29 q30 q31 : Nat) (u0 u1 u2 u3 u4 u5 u6 u7 u8 u9 u10 u11 u12 u13 u14 u15 u16 u17 u18 u19 u20 : Int)  (o : Int × (Nat → Int) × (Nat → Int)) : va_W := wd_HM_emit cA q0 q1 q2 q3 q4 q5 q6 q7 q8 q9 q10 q11 q12 q13 q14 q15 q16 q17 q18 q19 q20 q21 q22 q23 q24 q25 q26 q27 q28 q29 q30 q31 u0 u1 u2 u3 u4 u5 u6 u7 u8 u9 u10 u11 u12 u13 u14 u15 u16 u17 u18 u19 u20 o.1 o.2.1 o.2.2
def f_HM_emit (x1 : Int) (x2 : Int) (i_nCode : Int) (i_nOp : Nat → Int) (i_nArg : Nat → Int) : Option (Int × (Nat → Int) × (Nat → Int)) :=
  zs 400 i_nOp i_nCode x1 fun a1 =>
  zs 400 i_nArg i_nCode x2 fun a2 =>
  zn (i_nCode + 1) fun v3 =>
  some (v3, a1, a2)
set_option maxHeartbeats 4000000 in
set_option maxRecDepth 100000 in
theorem c_HM_emit (l : Launch) (ev : zEv) (dC : Nat → ClassId) (dI : Nat → Nat → Nat) (cA : Nat → ClassId) (q0 q1 q2 q3 q4 q5 q6 q7 q8 q9 q10 q11 q12 q13 q14 q15 q16 q17 q18 q19 q20 q21 q22 q23 q24 q25 q26 q27 q28 q29 q30 q31 : Nat) (u0 u1 u2 u3 u4 u5 u6 u7 u8 u9 u10 u11 u12 u13 u14 u15 u16 u17 u18 u19 u20 : Int) {x1 x2 : Int} {i_nCode : Int} {i_nOp : Nat → Int} {i_nArg : Nat → Int} {out : Int × (Nat → Int) × (Nat → Int)} (hf : f_HM_emit x1 x2 i_nCode i_nOp i_nArg = some out) : xc_V l ev (dC, dI) vwCl (tyl cA) yX11_emit w_HM_emit rm_HM_emit [.ref q0, .int (Int32.ofInt x1), .int (Int32.ofInt x2)] (wd_HM_emit cA q0 q1 q2 q3 q4 q5 q6 q7 q8 q9 q10 q11 q12 q13 q14 q15 q16 q17 q18 q19 q20 q21 q22 q23 q24 q25 q26 q27 q28 q29 q30 q31 u0 u1 u2 u3 u4 u5 u6 u7 u8 u9 u10 u11 u12 u13 u14 u15 u16 u17 u18 u19 u20 i_nCode i_nOp i_nArg) (wf_HM_emit cA q0 q1 q2 q3 q4 q5 q6 q7 q8 q9 q10 q11 q12 q13 q14 q15 q16 q17 q18 q19 q20 q21 q22 q23 q24 q25 q26 q27 q28 q29 q30 q31 u0 u1 u2 u3 u4 u5 u6 u7 u8 u9 u10 u11 u12 u13 u14 u15 u16 u17 u18 u19 u20 out) := by
  refine xv_startV (cc := cX11_emit) (maxL := 3) (by decide +kernel) rfl (Nat.le_of_ble_eq_true rfl) ?_
  intro p e s m args below meth c A Q H ls hx hb hml hts hown hK hA hP hD hS hl hE hret
  have hown : s.vm.findClass "HillSchoolModel" = some m.cls := hown
  have hz : ∀ w ∈ zall, w.before args s = true := fun w h => hts w (List.mem_cons_of_mem _ h)
  have hl : lv_has ls 3 [(0, .ref q0), (1, .int (Int32.ofInt x1)), (2, .int (Int32.ofInt x2))] := hl
  unfold f_HM_emit at hf
  refine lv_aload_n hx hb dX11_emit_0 rfl (lv_at hl 0 rfl) ?_
  refine va_get (D := (dC, dI)) (ci := 11) (v := .ref q7) (C := RX11) (T := TX11) (N := 53) hx hb hz zi_X11 hown hK hP 0 rfl rfl 18 (by decide) (hz _ zw_1183) (fun _ h9 => h9) rfl dX11_emit_1 ?_
  refine lv_aload_n hx hb dX11_emit_4 rfl (lv_at hl 0 rfl) ?_
  refine va_get (D := (dC, dI)) (ci := 11) (v := .int (Int32.ofInt i_nCode)) (C := RX11) (T := TX11) (N := 53) hx hb hz zi_X11 hown hK hP 0 rfl rfl 17 (by decide) (hz _ zw_1182) (fun _ h9 => h9) rfl dX11_emit_5 ?_
  refine lv_iload_n hx hb dX11_emit_8 rfl (lv_at hl 1 rfl) ?_
  refine xi_iast hx hb hK hP hD hS 1 0 rfl rfl dX11_emit_9 hf (fun a1 H locs hP hD hS hf => ?_)
  have hP : va_P (dC, dI) vwCl (wd_HM_emit cA q0 q1 q2 q3 q4 q5 q6 q7 q8 q9 q10 q11 q12 q13 q14 q15 q16 q17 q18 q19 q20 q21 q22 q23 q24 q25 q26 q27 q28 q29 q30 q31 u0 u1 u2 u3 u4 u5 u6 u7 u8 u9 u10 u11 u12 u13 u14 u15 u16 u17 u18 u19 u20 i_nCode a1 i_nArg) H := hP
  have hD : va_D A (wd_HM_emit cA q0 q1 q2 q3 q4 q5 q6 q7 q8 q9 q10 q11 q12 q13 q14 q15 q16 q17 q18 q19 q20 q21 q22 q23 q24 q25 q26 q27 q28 q29 q30 q31 u0 u1 u2 u3 u4 u5 u6 u7 u8 u9 u10 u11 u12 u13 u14 u15 u16 u17 u18 u19 u20 i_nCode a1 i_nArg) := hD
  refine lv_aload_n hx hb dX11_emit_10 rfl (lv_at hl 0 rfl) ?_
  refine va_get (D := (dC, dI)) (ci := 11) (v := .ref q8) (C := RX11) (T := TX11) (N := 53) hx hb hz zi_X11 hown hK hP 0 rfl rfl 19 (by decide) (hz _ zw_1184) (fun _ h9 => h9) rfl dX11_emit_11 ?_
  refine lv_aload_n hx hb dX11_emit_14 rfl (lv_at hl 0 rfl) ?_
  refine va_get (D := (dC, dI)) (ci := 11) (v := .int (Int32.ofInt i_nCode)) (C := RX11) (T := TX11) (N := 53) hx hb hz zi_X11 hown hK hP 0 rfl rfl 17 (by decide) (hz _ zw_1182) (fun _ h9 => h9) rfl dX11_emit_15 ?_
  refine lv_iload_n hx hb dX11_emit_18 rfl (lv_at hl 2 rfl) ?_
  refine xi_iast hx hb hK hP hD hS 2 0 rfl rfl dX11_emit_19 hf (fun a2 H locs hP hD hS hf => ?_)
  have hP : va_P (dC, dI) vwCl (wd_HM_emit cA q0 q1 q2 q3 q4 q5 q6 q7 q8 q9 q10 q11 q12 q13 q14 q15 q16 q17 q18 q19 q20 q21 q22 q23 q24 q25 q26 q27 q28 q29 q30 q31 u0 u1 u2 u3 u4 u5 u6 u7 u8 u9 u10 u11 u12 u13 u14 u15 u16 u17 u18 u19 u20 i_nCode a1 a2) H := hP
  have hD : va_D A (wd_HM_emit cA q0 q1 q2 q3 q4 q5 q6 q7 q8 q9 q10 q11 q12 q13 q14 q15 q16 q17 q18 q19 q20 q21 q22 q23 q24 q25 q26 q27 q28 q29 q30 q31 u0 u1 u2 u3 u4 u5 u6 u7 u8 u9 u10 u11 u12 u13 u14 u15 u16 u17 u18 u19 u20 i_nCode a1 a2) := hD
  refine lv_aload_n hx hb dX11_emit_20 rfl (lv_at hl 0 rfl) ?_
  refine lv_dup hx hb dX11_emit_21 rfl ?_
  refine va_get (D := (dC, dI)) (ci := 11) (v := .int (Int32.ofInt i_nCode)) (C := RX11) (T := TX11) (N := 53) hx hb hz zi_X11 hown hK hP 0 rfl rfl 17 (by decide) (hz _ zw_1182) (fun _ h9 => h9) rfl dX11_emit_22 ?_
  refine lv_iconst (v := Int32.ofInt 1) hx hb dX11_emit_25 rfl ?_
  refine xi_iadd hx hb dX11_emit_26 hf (fun v3 hf => ?_)
  refine va_put (D := (dC, dI)) (ci := 11) (v := .int (Int32.ofInt v3)) (ty := .int) (C := RX11) (T := TX11) (N := 53) hx hb hz zi_X11 tyX11 tyX11_ok nmX11 hown hK hP hD hS 0 rfl rfl 17 (by decide) (hz _ zw_1182) (fun _ h9 => h9) rfl (by decide +kernel) rfl rfl (Nat.le_of_ble_eq_true rfl) dX11_emit_27 (fun H locs hP hD hS => ?_)
  have hP : va_P (dC, dI) vwCl (wd_HM_emit cA q0 q1 q2 q3 q4 q5 q6 q7 q8 q9 q10 q11 q12 q13 q14 q15 q16 q17 q18 q19 q20 q21 q22 q23 q24 q25 q26 q27 q28 q29 q30 q31 u0 u1 u2 u3 u4 u5 u6 u7 u8 u9 u10 u11 u12 u13 u14 u15 u16 u17 u18 u19 u20 v3 a1 a2) H := hP
  have hD : va_D A (wd_HM_emit cA q0 q1 q2 q3 q4 q5 q6 q7 q8 q9 q10 q11 q12 q13 q14 q15 q16 q17 q18 q19 q20 q21 q22 q23 q24 q25 q26 q27 q28 q29 q30 q31 u0 u1 u2 u3 u4 u5 u6 u7 u8 u9 u10 u11 u12 u13 u14 u15 u16 u17 u18 u19 u20 v3 a1 a2) := hD
  obtain rfl := Option.some.inj hf
  exact hret _ _ _ _ dX11_emit_30 hP hD hS
theorem dX11_settle_0 : decode cX11_settle 0 = .ok (.aload_n 0, 1) := by decide +kernel
theorem dX11_settle_1 : decode cX11_settle 1 = .ok (.getfield 227, 3) := by decide +kernel
theorem dX11_settle_4 : decode cX11_settle 4 = .ok (.ifCond .le 97, 3) := by decide +kernel
theorem dX11_settle_7 : decode cX11_settle 7 = .ok (.aload_n 0, 1) := by decide +kernel
theorem dX11_settle_8 : decode cX11_settle 8 = .ok (.getfield 39, 3) := by decide +kernel
theorem dX11_settle_11 : decode cX11_settle 11 = .ok (.aload_n 0, 1) := by decide +kernel
theorem dX11_settle_12 : decode cX11_settle 12 = .ok (.getfield 227, 3) := by decide +kernel
theorem dX11_settle_15 : decode cX11_settle 15 = .ok (.iconst 1, 1) := by decide +kernel
theorem dX11_settle_16 : decode cX11_settle 16 = .ok (.isub, 1) := by decide +kernel
theorem dX11_settle_17 : decode cX11_settle 17 = .ok (.iaload, 1) := by decide +kernel
theorem dX11_settle_18 : decode cX11_settle 18 = .ok (.invokestatic 230, 3) := by decide +kernel
theorem dX11_settle_21 : decode cX11_settle 21 = .ok (.iload_n 1, 1) := by decide +kernel
theorem dX11_settle_22 : decode cX11_settle 22 = .ok (.if_icmp .lt 79, 3) := by decide +kernel
theorem dX11_settle_25 : decode cX11_settle 25 = .ok (.aload_n 0, 1) := by decide +kernel
theorem dX11_settle_26 : decode cX11_settle 26 = .ok (.dup, 1) := by decide +kernel
theorem dX11_settle_27 : decode cX11_settle 27 = .ok (.getfield 227, 3) := by decide +kernel
theorem dX11_settle_30 : decode cX11_settle 30 = .ok (.iconst 1, 1) := by decide +kernel
theorem dX11_settle_31 : decode cX11_settle 31 = .ok (.isub, 1) := by decide +kernel
theorem dX11_settle_32 : decode cX11_settle 32 = .ok (.putfield 227, 3) := by decide +kernel
theorem dX11_settle_35 : decode cX11_settle 35 = .ok (.aload_n 0, 1) := by decide +kernel
theorem dX11_settle_36 : decode cX11_settle 36 = .ok (.getfield 39, 3) := by decide +kernel
theorem dX11_settle_39 : decode cX11_settle 39 = .ok (.aload_n 0, 1) := by decide +kernel
theorem dX11_settle_40 : decode cX11_settle 40 = .ok (.getfield 227, 3) := by decide +kernel
theorem dX11_settle_43 : decode cX11_settle 43 = .ok (.iaload, 1) := by decide +kernel
theorem dX11_settle_44 : decode cX11_settle 44 = .ok (.bipush 28, 2) := by decide +kernel
theorem dX11_settle_46 : decode cX11_settle 46 = .ok (.if_icmp .eq 17, 3) := by decide +kernel
theorem dX11_settle_49 : decode cX11_settle 49 = .ok (.aload_n 0, 1) := by decide +kernel
theorem dX11_settle_50 : decode cX11_settle 50 = .ok (.getfield 39, 3) := by decide +kernel
theorem dX11_settle_53 : decode cX11_settle 53 = .ok (.aload_n 0, 1) := by decide +kernel
theorem dX11_settle_54 : decode cX11_settle 54 = .ok (.getfield 227, 3) := by decide +kernel
theorem dX11_settle_57 : decode cX11_settle 57 = .ok (.iaload, 1) := by decide +kernel
theorem dX11_settle_58 : decode cX11_settle 58 = .ok (.bipush 29, 2) := by decide +kernel
theorem dX11_settle_60 : decode cX11_settle 60 = .ok (.if_icmp .ne 24, 3) := by decide +kernel
theorem dX11_settle_63 : decode cX11_settle 63 = .ok (.aload_n 0, 1) := by decide +kernel
theorem dX11_settle_64 : decode cX11_settle 64 = .ok (.getfield 36, 3) := by decide +kernel
theorem dX11_settle_67 : decode cX11_settle 67 = .ok (.aload_n 0, 1) := by decide +kernel
theorem dX11_settle_68 : decode cX11_settle 68 = .ok (.getfield 42, 3) := by decide +kernel
theorem dX11_settle_71 : decode cX11_settle 71 = .ok (.aload_n 0, 1) := by decide +kernel
theorem dX11_settle_72 : decode cX11_settle 72 = .ok (.getfield 227, 3) := by decide +kernel
theorem dX11_settle_75 : decode cX11_settle 75 = .ok (.iaload, 1) := by decide +kernel
theorem dX11_settle_76 : decode cX11_settle 76 = .ok (.aload_n 0, 1) := by decide +kernel
theorem dX11_settle_77 : decode cX11_settle 77 = .ok (.getfield 224, 3) := by decide +kernel
theorem dX11_settle_80 : decode cX11_settle 80 = .ok (.iastore, 1) := by decide +kernel
theorem dX11_settle_81 : decode cX11_settle 81 = .ok (.goto (-81), 3) := by decide +kernel
theorem dX11_settle_84 : decode cX11_settle 84 = .ok (.aload_n 0, 1) := by decide +kernel
theorem dX11_settle_85 : decode cX11_settle 85 = .ok (.aload_n 0, 1) := by decide +kernel
theorem dX11_settle_86 : decode cX11_settle 86 = .ok (.getfield 39, 3) := by decide +kernel
theorem dX11_settle_89 : decode cX11_settle 89 = .ok (.aload_n 0, 1) := by decide +kernel
theorem dX11_settle_90 : decode cX11_settle 90 = .ok (.getfield 227, 3) := by decide +kernel
theorem dX11_settle_93 : decode cX11_settle 93 = .ok (.iaload, 1) := by decide +kernel
theorem dX11_settle_94 : decode cX11_settle 94 = .ok (.iconst 0, 1) := by decide +kernel
theorem dX11_settle_95 : decode cX11_settle 95 = .ok (.invokevirtual 233, 3) := by decide +kernel
theorem dX11_settle_98 : decode cX11_settle 98 = .ok (.goto (-98), 3) := by decide +kernel
theorem dX11_settle_101 : decode cX11_settle 101 = .ok (.return_, 1) := by decide +kernel
theorem zw_59 : (Jvm.Cond.selects "HillSchoolModel" ({ cls := "HillSchoolModel", name := "emit", desc := "(II)V" } : Jvm.MethodName) ({ cls := "HillSchoolModel", name := "emit", desc := "(II)V" } : Jvm.MethodName)) ∈ zall := zmemG (zmj_0 59 rfl) rfl
theorem zw_1186 : (Jvm.Cond.fieldLink "HillSchoolModel" (39 : Nat) "HillSchoolModel" "pile" "[I") ∈ zall := zmemG (zmj_5 123 rfl) rfl
theorem zw_1187 : (Jvm.Cond.fieldLink "HillSchoolModel" (42 : Nat) "HillSchoolModel" "pileAt" "[I") ∈ zall := zmemG (zmj_5 124 rfl) rfl
theorem zw_1188 : (Jvm.Cond.fieldLink "HillSchoolModel" (227 : Nat) "HillSchoolModel" "piled" "I") ∈ zall := zmemG (zmj_5 125 rfl) rfl
theorem zw_1503 : (Jvm.Cond.methodLink "HillSchoolModel" (233 : Nat) ({ cls := "HillSchoolModel", name := "emit", desc := "(II)V" } : Jvm.MethodName)) ∈ zall := zmemG (zmj_6 200 rfl) rfl
theorem zw_1505 : (Jvm.Cond.instanceMethod ({ cls := "HillSchoolModel", name := "emit", desc := "(II)V" } : Jvm.MethodName)) ∈ zall := zmemG (zmj_6 202 rfl) rfl
theorem zw_1511 : (Jvm.Cond.methodLink "HillSchoolModel" (230 : Nat) ({ cls := "HillSchoolModel", name := "binds", desc := "(I)I" } : Jvm.MethodName)) ∈ zall := zmemG (zmj_6 208 rfl) rfl
theorem zw_1512 : (Jvm.Cond.static ({ cls := "HillSchoolModel", name := "binds", desc := "(I)I" } : Jvm.MethodName)) ∈ zall := zmemG (zmj_6 209 rfl) rfl
theorem zw_1517 : (Jvm.Cond.code ({ cls := "HillSchoolModel", name := "settle", desc := "(I)V" } : Jvm.MethodName) prog_13_method_42_code (2 : Nat) (Option.none : Option Jvm.ClassFile.FieldType)) ∈ zall := zmemG (zmj_6 214 rfl) rfl
abbrev w_HM_settle : List Cond := .code yX11_settle cX11_settle 2 none :: zall
abbrev rm_HM_settle : Room := { frames := 1, cells := 0, slots := 0, locals := 22 }
theorem hd_HM_settle : yX11_settle.cls = "HillSchoolModel" ∧ yX11_settle.cls ≠ "java/lang/invoke/MethodHandle" ∧ yX11_settle.cls ≠ "java/lang/invoke/VarHandle" ∧ (parseMethodDescriptor yX11_settle.desc).map (fun d => d.parameters.length) = some 1 := by decide +kernel
def wd_HM_settle (cA : Nat → ClassId) (q0 q1 q2 q3 q4 q5 q6 q7 q8 q9 q10 q11 q12 q13 q14 q15 q16 q17 q18 q19 q20 q21 q22 q23 q24 q25 q26 q27 q28 q29 q30 q31 : Nat) (u0 u1 u2 u3 u4 u5 u6 u7 u8 u9 u10 u11 u12 u13 u14 u15 u16 u17 u18 u19 : Int) (i_pile : Nat → Int) (i_pileAt : Nat → Int) (i_nCode : Int) (i_piled : Int) (i_nOp : Nat → Int) (i_nArg : Nat → Int) : va_W := [(q0, .inr (11, [.int (Int32.ofInt u0), .int (Int32.ofInt u1), .ref q1, .ref q2, .ref q3, .ref q4, .int (Int32.ofInt u2), .ref q5, .int (Int32.ofInt u3), .int (Int32.ofInt u4), .int (Int32.ofInt u5), .int (Int32.ofInt u6), .long (Int64.ofInt u7), .int (Int32.ofInt u8), .int (Int32.ofInt u9), .int (Int32.ofInt u10), .ref q6, .int (Int32.ofInt i_nCode), .ref q7, .ref q8, .int (Int32.ofInt u11), .ref q9, .ref q10, .int (Int32.ofInt i_piled), .int (Int32.ofInt u12), .ref q11, .int (Int32.ofInt u13), .ref q12, .ref q13, .int (Int32.ofInt u14), .long (Int64.ofInt u15), .long (Int64.ofInt u16), .ref q14, .ref q15, .ref q16, .ref q17, .ref q18, .int (Int32.ofInt u17), .ref q19, .ref q20, .ref q21, .ref q22, .ref q23, .ref q24, .ref q25, .ref q26, .ref q27, .ref q28, .ref q29, .ref q30, .long (Int64.ofInt u18), .ref q31, .int (Int32.ofInt u19)])), (q7, .inl (cA 0, 400, .inl (za i_nOp))), (q8, .inl (cA 0, 400, .inl (za i_nArg))), (q9, .inl (cA 0, 400, .inl (za i_pile))), (q10, .inl (cA 0, 400, .inl (za i_pileAt)))]
def wf_HM_settle (cA : Nat → ClassId) (q0 q1 q2 q3 q4 q5 q6 q7 q8 q9 q10 q11 q12 q13 q14 q15 q16 q17 q18 q19 q20 q21 q22 q23 q24 q25 q26 q27 q28 q29 q30 q31 : Nat) (u0 u1 u2 u3 u4 u5 u6 u7 u8 u9 u10 u11 u12 u13 u14 u15 u16 u17 u18 u19 : Int) (i_pile : Nat → Int) (i_pileAt : Nat → Int) (o : Int × Int × (Nat → Int) × (Nat → Int)) : va_W := wd_HM_settle cA q0 q1 q2 q3 q4 q5 q6 q7 q8 q9 q10 q11 q12 q13 q14 q15 q16 q17 q18 q19 q20 q21 q22 q23 q24 q25 q26 q27 q28 q29 q30 q31 u0 u1 u2 u3 u4 u5 u6 u7 u8 u9 u10 u11 u12 u13 u14 u15 u16 u17 u18 u19 i_pile i_pileAt o.1 o.2.1 o.2.2.1 o.2.2.2
def f_HM_settle_63 (i_pile : Nat → Int) (i_pileAt : Nat → Int) (k0 : Int → Int → Int → (Nat → Int) → (Nat → Int) → Option (Int × Int × (Nat → Int) × (Nat → Int))) (x1 : Int) (i_nCode : Int) (i_piled : Int) (i_nOp : Nat → Int) (i_nArg : Nat → Int) : Option (Int × Int × (Nat → Int) × (Nat → Int)) :=
  zg 400 i_pileAt i_piled fun v1 =>
  zs 400 i_nArg v1 i_nCode fun a2 =>
  k0 x1 i_nCode i_piled i_nOp a2
def f_HM_settle_0_b (i_pile : Nat → Int) (i_pileAt : Nat → Int) (k0 : Int → Int → Int → (Nat → Int) → (Nat → Int) → Option (Int × Int × (Nat → Int) × (Nat → Int))) (x1 : Int) (i_nCode : Int) (i_piled : Int) (i_nOp : Nat → Int) (i_nArg : Nat → Int) : Option (Int × Int × (Nat → Int) × (Nat → Int)) :=
  if zi_w i_piled ≤ 0 then
    some (i_nCode, i_piled, i_nOp, i_nArg)
  else
    zn (i_piled - 1) fun v1 =>
    zg 400 i_pile v1 fun v2 =>
    zd1 (f_HM_binds v2) fun v3 =>
    if zi_w v3 < zi_w x1 then
      some (i_nCode, i_piled, i_nOp, i_nArg)
    else
      zn (i_piled - 1) fun v4 =>
      zg 400 i_pile v4 fun v5 =>
      if zi_w v5 = zi_w 28 then
        f_HM_settle_63 i_pile i_pileAt k0 x1 i_nCode v4 i_nOp i_nArg
      else
        zg 400 i_pile v4 fun v6 =>
        if zi_w v6 ≠ zi_w 29 then
          zg 400 i_pile v4 fun v7 =>
          zd3 (f_HM_emit v7 0 i_nCode i_nOp i_nArg) fun v8 a9 a10 =>
          k0 x1 v8 v4 a9 a10
        else
          f_HM_settle_63 i_pile i_pileAt k0 x1 i_nCode v4 i_nOp i_nArg
def f_HM_settle_0 (i_pile : Nat → Int) (i_pileAt : Nat → Int) : Nat → Int → Int → Int → (Nat → Int) → (Nat → Int) → Option (Int × Int × (Nat → Int) × (Nat → Int))
  | 0 => fun _ _ _ _ _ => none
  | n + 1 => fun y0 y1 y2 y3 y4 => f_HM_settle_0_b i_pile i_pileAt (f_HM_settle_0 i_pile i_pileAt n) y0 y1 y2 y3 y4
def f_HM_settle (x1 : Int) (i_pile : Nat → Int) (i_pileAt : Nat → Int) (i_nCode : Int) (i_piled : Int) (i_nOp : Nat → Int) (i_nArg : Nat → Int) : Option (Int × Int × (Nat → Int) × (Nat → Int)) :=
  f_HM_settle_0 i_pile i_pileAt zfu x1 i_nCode i_piled i_nOp i_nArg
set_option maxHeartbeats 4000000 in
set_option maxRecDepth 100000 in
theorem c_HM_settle (l : Launch) (ev : zEv) (dC : Nat → ClassId) (dI : Nat → Nat → Nat) (cA : Nat → ClassId) (q0 q1 q2 q3 q4 q5 q6 q7 q8 q9 q10 q11 q12 q13 q14 q15 q16 q17 q18 q19 q20 q21 q22 q23 q24 q25 q26 q27 q28 q29 q30 q31 : Nat) (u0 u1 u2 u3 u4 u5 u6 u7 u8 u9 u10 u11 u12 u13 u14 u15 u16 u17 u18 u19 : Int) {x1 : Int} {i_pile : Nat → Int} {i_pileAt : Nat → Int} {i_nCode : Int} {i_piled : Int} {i_nOp : Nat → Int} {i_nArg : Nat → Int} {out : Int × Int × (Nat → Int) × (Nat → Int)} (hf : f_HM_settle x1 i_pile i_pileAt i_nCode i_piled i_nOp i_nArg = some out) : xc_V l ev (dC, dI) vwCl (tyl cA) yX11_settle w_HM_settle rm_HM_settle [.ref q0, .int (Int32.ofInt x1)] (wd_HM_settle cA q0 q1 q2 q3 q4 q5 q6 q7 q8 q9 q10 q11 q12 q13 q14 q15 q16 q17 q18 q19 q20 q21 q22 q23 q24 q25 q26 q27 q28 q29 q30 q31 u0 u1 u2 u3 u4 u5 u6 u7 u8 u9 u10 u11 u12 u13 u14 u15 u16 u17 u18 u19 i_pile i_pileAt i_nCode i_piled i_nOp i_nArg) (wf_HM_settle cA q0 q1 q2 q3 q4 q5 q6 q7 q8 q9 q10 q11 q12 q13 q14 q15 q16 q17 q18 q19 q20 q21 q22 q23 q24 q25 q26 q27 q28 q29 q30 q31 u0 u1 u2 u3 u4 u5 u6 u7 u8 u9 u10 u11 u12 u13 u14 u15 u16 u17 u18 u19 i_pile i_pileAt out) := by
  refine xv_startV (cc := cX11_settle) (maxL := 2) (by decide +kernel) rfl (Nat.le_of_ble_eq_true rfl) ?_
  intro p e s m args below meth c A Q H ls hx hb hml hts hown hK hA hP hD hS hl hE hret
  have hown : s.vm.findClass "HillSchoolModel" = some m.cls := hown
  have hz : ∀ w ∈ zall, w.before args s = true := fun w h => hts w (List.mem_cons_of_mem _ h)
  have hl : lv_has ls 2 [(0, .ref q0), (1, .int (Int32.ofInt x1))] := hl
  have b_63 : ∀ (k0 : Int → Int → Int → (Nat → Int) → (Nat → Int) → Option (Int × Int × (Nat → Int) × (Nat → Int))) (_ : ∀ (x1 : Int) (i_nCode : Int) (i_piled : Int) (i_nOp : Nat → Int) (i_nArg : Nat → Int) (H : Heap) (locs : List Loc) (ls : Array Slot), k0 x1 i_nCode i_piled i_nOp i_nArg = some out → va_P (dC, dI) vwCl (wd_HM_settle cA q0 q1 q2 q3 q4 q5 q6 q7 q8 q9 q10 q11 q12 q13 q14 q15 q16 q17 q18 q19 q20 q21 q22 q23 q24 q25 q26 q27 q28 q29 q30 q31 u0 u1 u2 u3 u4 u5 u6 u7 u8 u9 u10 u11 u12 u13 u14 u15 u16 u17 u18 u19 i_pile i_pileAt i_nCode i_piled i_nOp i_nArg) H → va_D A (wd_HM_settle cA q0 q1 q2 q3 q4 q5 q6 q7 q8 q9 q10 q11 q12 q13 q14 q15 q16 q17 q18 q19 q20 q21 q22 q23 q24 q25 q26 q27 q28 q29 q30 q31 u0 u1 u2 u3 u4 u5 u6 u7 u8 u9 u10 u11 u12 u13 u14 u15 u16 u17 u18 u19 i_pile i_pileAt i_nCode i_piled i_nOp i_nArg) → va_S A s.heap H locs → lv_has ls 2 [(0, .ref q0), (1, .int (Int32.ofInt x1))] → W p l e rm_HM_settle s m args below meth c H locs 0 0 Q (F0 m 0 ls [])), ∀ (x1 : Int) (i_nCode : Int) (i_piled : Int) (i_nOp : Nat → Int) (i_nArg : Nat → Int) (H : Heap) (locs : List Loc) (ls : Array Slot), f_HM_settle_63 i_pile i_pileAt k0 x1 i_nCode i_piled i_nOp i_nArg = some out → va_P (dC, dI) vwCl (wd_HM_settle cA q0 q1 q2 q3 q4 q5 q6 q7 q8 q9 q10 q11 q12 q13 q14 q15 q16 q17 q18 q19 q20 q21 q22 q23 q24 q25 q26 q27 q28 q29 q30 q31 u0 u1 u2 u3 u4 u5 u6 u7 u8 u9 u10 u11 u12 u13 u14 u15 u16 u17 u18 u19 i_pile i_pileAt i_nCode i_piled i_nOp i_nArg) H → va_D A (wd_HM_settle cA q0 q1 q2 q3 q4 q5 q6 q7 q8 q9 q10 q11 q12 q13 q14 q15 q16 q17 q18 q19 q20 q21 q22 q23 q24 q25 q26 q27 q28 q29 q30 q31 u0 u1 u2 u3 u4 u5 u6 u7 u8 u9 u10 u11 u12 u13 u14 u15 u16 u17 u18 u19 i_pile i_pileAt i_nCode i_piled i_nOp i_nArg) → va_S A s.heap H locs → lv_has ls 2 [(0, .ref q0), (1, .int (Int32.ofInt x1))] → W p l e rm_HM_settle s m args below meth c H locs 0 0 Q (F0 m 63 ls []) := by
    intro k0 ih0 x1 i_nCode i_piled i_nOp i_nArg H locs ls hf hP hD hS hl
    unfold f_HM_settle_63 at hf
    refine lv_aload_n hx hb dX11_settle_63 rfl (lv_at hl 0 rfl) ?_
    refine va_get (D := (dC, dI)) (ci := 11) (v := .ref q8) (C := RX11) (T := TX11) (N := 53) hx hb hz zi_X11 hown hK hP 0 rfl rfl 19 (by decide) (hz _ zw_1184) (fun _ h9 => h9) rfl dX11_settle_64 ?_
    refine lv_aload_n hx hb dX11_settle_67 rfl (lv_at hl 0 rfl) ?_
    refine va_get (D := (dC, dI)) (ci := 11) (v := .ref q10) (C := RX11) (T := TX11) (N := 53) hx hb hz zi_X11 hown hK hP 0 rfl rfl 22 (by decide) (hz _ zw_1187) (fun _ h9 => h9) rfl dX11_settle_68 ?_
    refine lv_aload_n hx hb dX11_settle_71 rfl (lv_at hl 0 rfl) ?_
    refine va_get (D := (dC, dI)) (ci := 11) (v := .int (Int32.ofInt i_piled)) (C := RX11) (T := TX11) (N := 53) hx hb hz zi_X11 hown hK hP 0 rfl rfl 23 (by decide) (hz _ zw_1188) (fun _ h9 => h9) rfl dX11_settle_72 ?_
    refine xi_iald hx hb hK hP 4 0 rfl rfl dX11_settle_75 hf (fun v1 hf => ?_)
    refine lv_aload_n hx hb dX11_settle_76 rfl (lv_at hl 0 rfl) ?_
    refine va_get (D := (dC, dI)) (ci := 11) (v := .int (Int32.ofInt i_nCode)) (C := RX11) (T := TX11) (N := 53) hx hb hz zi_X11 hown hK hP 0 rfl rfl 17 (by decide) (hz _ zw_1182) (fun _ h9 => h9) rfl dX11_settle_77 ?_
    refine xi_iast hx hb hK hP hD hS 2 0 rfl rfl dX11_settle_80 hf (fun a2 H locs hP hD hS hf => ?_)
    have hP : va_P (dC, dI) vwCl (wd_HM_settle cA q0 q1 q2 q3 q4 q5 q6 q7 q8 q9 q10 q11 q12 q13 q14 q15 q16 q17 q18 q19 q20 q21 q22 q23 q24 q25 q26 q27 q28 q29 q30 q31 u0 u1 u2 u3 u4 u5 u6 u7 u8 u9 u10 u11 u12 u13 u14 u15 u16 u17 u18 u19 i_pile i_pileAt i_nCode i_piled i_nOp a2) H := hP
    have hD : va_D A (wd_HM_settle cA q0 q1 q2 q3 q4 q5 q6 q7 q8 q9 q10 q11 q12 q13 q14 q15 q16 q17 q18 q19 q20 q21 q22 q23 q24 q25 q26 q27 q28 q29 q30 q31 u0 u1 u2 u3 u4 u5 u6 u7 u8 u9 u10 u11 u12 u13 u14 u15 u16 u17 u18 u19 i_pile i_pileAt i_nCode i_piled i_nOp a2) := hD
    refine lv_goto (tgt := 0) hx hb dX11_settle_81 (by decide) ?_
    exact ih0 _ _ _ _ _ _ _ _ hf hP hD hS (lv_sub hl [0, 1] rfl)
  have b_0 : ∀ (k0 : Int → Int → Int → (Nat → Int) → (Nat → Int) → Option (Int × Int × (Nat → Int) × (Nat → Int))) (_ : ∀ (x1 : Int) (i_nCode : Int) (i_piled : Int) (i_nOp : Nat → Int) (i_nArg : Nat → Int) (H : Heap) (locs : List Loc) (ls : Array Slot), k0 x1 i_nCode i_piled i_nOp i_nArg = some out → va_P (dC, dI) vwCl (wd_HM_settle cA q0 q1 q2 q3 q4 q5 q6 q7 q8 q9 q10 q11 q12 q13 q14 q15 q16 q17 q18 q19 q20 q21 q22 q23 q24 q25 q26 q27 q28 q29 q30 q31 u0 u1 u2 u3 u4 u5 u6 u7 u8 u9 u10 u11 u12 u13 u14 u15 u16 u17 u18 u19 i_pile i_pileAt i_nCode i_piled i_nOp i_nArg) H → va_D A (wd_HM_settle cA q0 q1 q2 q3 q4 q5 q6 q7 q8 q9 q10 q11 q12 q13 q14 q15 q16 q17 q18 q19 q20 q21 q22 q23 q24 q25 q26 q27 q28 q29 q30 q31 u0 u1 u2 u3 u4 u5 u6 u7 u8 u9 u10 u11 u12 u13 u14 u15 u16 u17 u18 u19 i_pile i_pileAt i_nCode i_piled i_nOp i_nArg) → va_S A s.heap H locs → lv_has ls 2 [(0, .ref q0), (1, .int (Int32.ofInt x1))] → W p l e rm_HM_settle s m args below meth c H locs 0 0 Q (F0 m 0 ls [])), ∀ (x1 : Int) (i_nCode : Int) (i_piled : Int) (i_nOp : Nat → Int) (i_nArg : Nat → Int) (H : Heap) (locs : List Loc) (ls : Array Slot), f_HM_settle_0_b i_pile i_pileAt k0 x1 i_nCode i_piled i_nOp i_nArg = some out → va_P (dC, dI) vwCl (wd_HM_settle cA q0 q1 q2 q3 q4 q5 q6 q7 q8 q9 q10 q11 q12 q13 q14 q15 q16 q17 q18 q19 q20 q21 q22 q23 q24 q25 q26 q27 q28 q29 q30 q31 u0 u1 u2 u3 u4 u5 u6 u7 u8 u9 u10 u11 u12 u13 u14 u15 u16 u17 u18 u19 i_pile i_pileAt i_nCode i_piled i_nOp i_nArg) H → va_D A (wd_HM_settle cA q0 q1 q2 q3 q4 q5 q6 q7 q8 q9 q10 q11 q12 q13 q14 q15 q16 q17 q18 q19 q20 q21 q22 q23 q24 q25 q26 q27 q28 q29 q30 q31 u0 u1 u2 u3 u4 u5 u6 u7 u8 u9 u10 u11 u12 u13 u14 u15 u16 u17 u18 u19 i_pile i_pileAt i_nCode i_piled i_nOp i_nArg) → va_S A s.heap H locs → lv_has ls 2 [(0, .ref q0), (1, .int (Int32.ofInt x1))] → W p l e rm_HM_settle s m args below meth c H locs 0 0 Q (F0 m 0 ls []) := by
    intro k0 ih0 x1 i_nCode i_piled i_nOp i_nArg H locs ls hf hP hD hS hl
    unfold f_HM_settle_0_b at hf
    refine lv_aload_n hx hb dX11_settle_0 rfl (lv_at hl 0 rfl) ?_
    refine va_get (D := (dC, dI)) (ci := 11) (v := .int (Int32.ofInt i_piled)) (C := RX11) (T := TX11) (N := 53) hx hb hz zi_X11 hown hK hP 0 rfl rfl 23 (by decide) (hz _ zw_1188) (fun _ h9 => h9) rfl dX11_settle_1 ?_
    refine xi_if_le (tgt := 101) hx hb dX11_settle_4 (by decide) hf (fun hf => ?_) (fun hf => ?_)
    · obtain rfl := Option.some.inj hf
      exact hret _ _ _ _ dX11_settle_101 hP hD hS
    · refine lv_aload_n hx hb dX11_settle_7 rfl (lv_at hl 0 rfl) ?_
      refine va_get (D := (dC, dI)) (ci := 11) (v := .ref q9) (C := RX11) (T := TX11) (N := 53) hx hb hz zi_X11 hown hK hP 0 rfl rfl 21 (by decide) (hz _ zw_1186) (fun _ h9 => h9) rfl dX11_settle_8 ?_
      refine lv_aload_n hx hb dX11_settle_11 rfl (lv_at hl 0 rfl) ?_
      refine va_get (D := (dC, dI)) (ci := 11) (v := .int (Int32.ofInt i_piled)) (C := RX11) (T := TX11) (N := 53) hx hb hz zi_X11 hown hK hP 0 rfl rfl 23 (by decide) (hz _ zw_1188) (fun _ h9 => h9) rfl dX11_settle_12 ?_
      refine lv_iconst (v := Int32.ofInt 1) hx hb dX11_settle_15 rfl ?_
      refine xi_isub hx hb dX11_settle_16 hf (fun v1 hf => ?_)
      refine xi_iald hx hb hK hP 3 0 rfl rfl dX11_settle_17 hf (fun v2 hf => ?_)
      refine xe_d1 hf (fun v3 hg hf => ?_)
      have hC : ([] : List Nat).map (fun i => (wd_HM_settle cA q0 q1 q2 q3 q4 q5 q6 q7 q8 q9 q10 q11 q12 q13 q14 q15 q16 q17 q18 q19 q20 q21 q22 q23 q24 q25 q26 q27 q28 q29 q30 q31 u0 u1 u2 u3 u4 u5 u6 u7 u8 u9 u10 u11 u12 u13 u14 u15 u16 u17 u18 u19 i_pile i_pileAt i_nCode i_piled i_nOp i_nArg)[i]?) = (wd_HM_binds cA).map some := rfl
      refine xv_afterI (ws' := (wd_HM_settle cA q0 q1 q2 q3 q4 q5 q6 q7 q8 q9 q10 q11 q12 q13 q14 q15 q16 q17 q18 q19 q20 q21 q22 q23 q24 q25 q26 q27 q28 q29 q30 q31 u0 u1 u2 u3 u4 u5 u6 u7 u8 u9 u10 u11 u12 u13 u14 u15 u16 u17 u18 u19 i_pile i_pileAt i_nCode i_piled i_nOp i_nArg)) (isC := []) (ps := [none, none, none, none, none]) (va_runS (As := [.int (Int32.ofInt v2)]) (rest := []) ⟨hx, hb, hml, hown, hts⟩ (c_HM_binds l ev dC dI cA hg H.size) (va_cwS 1 hts (zgS zw_1511 zw_1512 zw_115 zw_1513) rfl rfl rfl hd_HM_binds.2 ⟨Nat.le_of_ble_eq_true rfl, Nat.le_of_ble_eq_true rfl⟩) (xv_preS hE hA hS hK hP hD (isC := []) (by decide +kernel) hC) rfl rfl hl.1 rfl (lv_room (Nat.le_of_ble_eq_true rfl)) dX11_settle_18 ⟨Nat.le_refl _, Nat.le_refl _⟩) hP hD hS hA (by decide +kernel) rfl hC rfl rfl (fun H locs hP hD hS => ?_)
      refine lv_iload_n hx hb dX11_settle_21 rfl (lv_at hl 1 rfl) ?_
      refine xi_icmp_lt (tgt := 101) hx hb dX11_settle_22 (by decide) hf (fun hf => ?_) (fun hf => ?_)
      · obtain rfl := Option.some.inj hf
        exact hret _ _ _ _ dX11_settle_101 hP hD hS
      · refine lv_aload_n hx hb dX11_settle_25 rfl (lv_at hl 0 rfl) ?_
        refine lv_dup hx hb dX11_settle_26 rfl ?_
        refine va_get (D := (dC, dI)) (ci := 11) (v := .int (Int32.ofInt i_piled)) (C := RX11) (T := TX11) (N := 53) hx hb hz zi_X11 hown hK hP 0 rfl rfl 23 (by decide) (hz _ zw_1188) (fun _ h9 => h9) rfl dX11_settle_27 ?_
        refine lv_iconst (v := Int32.ofInt 1) hx hb dX11_settle_30 rfl ?_
        refine xi_isub hx hb dX11_settle_31 hf (fun v4 hf => ?_)
        refine va_put (D := (dC, dI)) (ci := 11) (v := .int (Int32.ofInt v4)) (ty := .int) (C := RX11) (T := TX11) (N := 53) hx hb hz zi_X11 tyX11 tyX11_ok nmX11 hown hK hP hD hS 0 rfl rfl 23 (by decide) (hz _ zw_1188) (fun _ h9 => h9) rfl (by decide +kernel) rfl rfl (Nat.le_of_ble_eq_true rfl) dX11_settle_32 (fun H locs hP hD hS => ?_)
        have hP : va_P (dC, dI) vwCl (wd_HM_settle cA q0 q1 q2 q3 q4 q5 q6 q7 q8 q9 q10 q11 q12 q13 q14 q15 q16 q17 q18 q19 q20 q21 q22 q23 q24 q25 q26 q27 q28 q29 q30 q31 u0 u1 u2 u3 u4 u5 u6 u7 u8 u9 u10 u11 u12 u13 u14 u15 u16 u17 u18 u19 i_pile i_pileAt i_nCode v4 i_nOp i_nArg) H := hP
        have hD : va_D A (wd_HM_settle cA q0 q1 q2 q3 q4 q5 q6 q7 q8 q9 q10 q11 q12 q13 q14 q15 q16 q17 q18 q19 q20 q21 q22 q23 q24 q25 q26 q27 q28 q29 q30 q31 u0 u1 u2 u3 u4 u5 u6 u7 u8 u9 u10 u11 u12 u13 u14 u15 u16 u17 u18 u19 i_pile i_pileAt i_nCode v4 i_nOp i_nArg) := hD
        refine lv_aload_n hx hb dX11_settle_35 rfl (lv_at hl 0 rfl) ?_
        refine va_get (D := (dC, dI)) (ci := 11) (v := .ref q9) (C := RX11) (T := TX11) (N := 53) hx hb hz zi_X11 hown hK hP 0 rfl rfl 21 (by decide) (hz _ zw_1186) (fun _ h9 => h9) rfl dX11_settle_36 ?_
        refine lv_aload_n hx hb dX11_settle_39 rfl (lv_at hl 0 rfl) ?_
        refine va_get (D := (dC, dI)) (ci := 11) (v := .int (Int32.ofInt v4)) (C := RX11) (T := TX11) (N := 53) hx hb hz zi_X11 hown hK hP 0 rfl rfl 23 (by decide) (hz _ zw_1188) (fun _ h9 => h9) rfl dX11_settle_40 ?_
        refine xi_iald hx hb hK hP 3 0 rfl rfl dX11_settle_43 hf (fun v5 hf => ?_)
        refine lv_bipush (v := Int32.ofInt 28) hx hb dX11_settle_44 (by decide) ?_
        refine xi_icmp_eq (tgt := 63) hx hb dX11_settle_46 (by decide) hf (fun hf => ?_) (fun hf => ?_)
        · exact b_63 _ ih0 _ _ _ _ _ _ _ _ hf hP hD hS (lv_sub hl [0, 1] rfl)
        · refine lv_aload_n hx hb dX11_settle_49 rfl (lv_at hl 0 rfl) ?_
          refine va_get (D := (dC, dI)) (ci := 11) (v := .ref q9) (C := RX11) (T := TX11) (N := 53) hx hb hz zi_X11 hown hK hP 0 rfl rfl 21 (by decide) (hz _ zw_1186) (fun _ h9 => h9) rfl dX11_settle_50 ?_
          refine lv_aload_n hx hb dX11_settle_53 rfl (lv_at hl 0 rfl) ?_
          refine va_get (D := (dC, dI)) (ci := 11) (v := .int (Int32.ofInt v4)) (C := RX11) (T := TX11) (N := 53) hx hb hz zi_X11 hown hK hP 0 rfl rfl 23 (by decide) (hz _ zw_1188) (fun _ h9 => h9) rfl dX11_settle_54 ?_
          refine xi_iald hx hb hK hP 3 0 rfl rfl dX11_settle_57 hf (fun v6 hf => ?_)
          refine lv_bipush (v := Int32.ofInt 29) hx hb dX11_settle_58 (by decide) ?_
          refine xi_icmp_ne (tgt := 84) hx hb dX11_settle_60 (by decide) hf (fun hf => ?_) (fun hf => ?_)
          · refine lv_aload_n hx hb dX11_settle_84 rfl (lv_at hl 0 rfl) ?_
            refine lv_aload_n hx hb dX11_settle_85 rfl (lv_at hl 0 rfl) ?_
            refine va_get (D := (dC, dI)) (ci := 11) (v := .ref q9) (C := RX11) (T := TX11) (N := 53) hx hb hz zi_X11 hown hK hP 0 rfl rfl 21 (by decide) (hz _ zw_1186) (fun _ h9 => h9) rfl dX11_settle_86 ?_
            refine lv_aload_n hx hb dX11_settle_89 rfl (lv_at hl 0 rfl) ?_
            refine va_get (D := (dC, dI)) (ci := 11) (v := .int (Int32.ofInt v4)) (C := RX11) (T := TX11) (N := 53) hx hb hz zi_X11 hown hK hP 0 rfl rfl 23 (by decide) (hz _ zw_1188) (fun _ h9 => h9) rfl dX11_settle_90 ?_
            refine xi_iald hx hb hK hP 3 0 rfl rfl dX11_settle_93 hf (fun v7 hf => ?_)
            refine lv_iconst (v := Int32.ofInt 0) hx hb dX11_settle_94 rfl ?_
            refine xe_d3 hf (fun v8 a9 a10 hg hf => ?_)
            have hC : ([0, 1, 2] : List Nat).map (fun i => (wd_HM_settle cA q0 q1 q2 q3 q4 q5 q6 q7 q8 q9 q10 q11 q12 q13 q14 q15 q16 q17 q18 q19 q20 q21 q22 q23 q24 q25 q26 q27 q28 q29 q30 q31 u0 u1 u2 u3 u4 u5 u6 u7 u8 u9 u10 u11 u12 u13 u14 u15 u16 u17 u18 u19 i_pile i_pileAt i_nCode v4 i_nOp i_nArg)[i]?) = (wd_HM_emit cA q0 q1 q2 q3 q4 q5 q6 q7 q8 q9 q10 q11 q12 q13 q14 q15 q16 q17 q18 q19 q20 q21 q22 q23 q24 q25 q26 q27 q28 q29 q30 q31 u0 u1 u2 u3 u4 u5 u6 u7 u8 u9 u10 u11 v4 u12 u13 u14 u15 u16 u17 u18 u19 i_nCode i_nOp i_nArg).map some := rfl
            refine xv_afterV (ws' := (wd_HM_settle cA q0 q1 q2 q3 q4 q5 q6 q7 q8 q9 q10 q11 q12 q13 q14 q15 q16 q17 q18 q19 q20 q21 q22 q23 q24 q25 q26 q27 q28 q29 q30 q31 u0 u1 u2 u3 u4 u5 u6 u7 u8 u9 u10 u11 u12 u13 u14 u15 u16 u17 u18 u19 i_pile i_pileAt v8 v4 a9 a10)) (isC := [0, 1, 2]) (ps := [some 0, some 1, some 2, none, none]) (va_runV (As := [.int (Int32.ofInt v7), .int (Int32.ofInt 0)]) (rest := []) ⟨hx, hb, hml, hown, hts⟩ (c_HM_emit l ev dC dI cA q0 q1 q2 q3 q4 q5 q6 q7 q8 q9 q10 q11 q12 q13 q14 q15 q16 q17 q18 q19 q20 q21 q22 q23 q24 q25 q26 q27 q28 q29 q30 q31 u0 u1 u2 u3 u4 u5 u6 u7 u8 u9 u10 u11 v4 u12 u13 u14 u15 u16 u17 u18 u19 hg H.size) (cwV 2 hts (zgV zw_1503 zw_1505 zw_59 zw_115 zw_1506) rfl rfl rfl hd_HM_emit ⟨Nat.le_of_ble_eq_true rfl, Nat.le_of_ble_eq_true rfl⟩) (xv_preV (T := TX11) (N := 53) hE hA hS hK hP hD (isC := [0, 1, 2]) (by decide +kernel) hC (q0 := 0) (ci := 11) rfl rfl) rfl rfl hl.1 rfl (lv_room (Nat.le_of_ble_eq_true rfl)) dX11_settle_95 ⟨Nat.le_refl _, Nat.le_refl _⟩) hP hD hS hA (by decide +kernel) rfl hC rfl rfl (fun H locs hP hD hS => ?_)
            refine lv_goto (tgt := 0) hx hb dX11_settle_98 (by decide) ?_
            exact ih0 _ _ _ _ _ _ _ _ hf hP hD hS (lv_sub hl [0, 1] rfl)
          · exact b_63 _ ih0 _ _ _ _ _ _ _ _ hf hP hD hS (lv_sub hl [0, 1] rfl)
  have l_0 : ∀ (n : Nat), ∀ (x1 : Int) (i_nCode : Int) (i_piled : Int) (i_nOp : Nat → Int) (i_nArg : Nat → Int) (H : Heap) (locs : List Loc) (ls : Array Slot), f_HM_settle_0 i_pile i_pileAt n x1 i_nCode i_piled i_nOp i_nArg = some out → va_P (dC, dI) vwCl (wd_HM_settle cA q0 q1 q2 q3 q4 q5 q6 q7 q8 q9 q10 q11 q12 q13 q14 q15 q16 q17 q18 q19 q20 q21 q22 q23 q24 q25 q26 q27 q28 q29 q30 q31 u0 u1 u2 u3 u4 u5 u6 u7 u8 u9 u10 u11 u12 u13 u14 u15 u16 u17 u18 u19 i_pile i_pileAt i_nCode i_piled i_nOp i_nArg) H → va_D A (wd_HM_settle cA q0 q1 q2 q3 q4 q5 q6 q7 q8 q9 q10 q11 q12 q13 q14 q15 q16 q17 q18 q19 q20 q21 q22 q23 q24 q25 q26 q27 q28 q29 q30 q31 u0 u1 u2 u3 u4 u5 u6 u7 u8 u9 u10 u11 u12 u13 u14 u15 u16 u17 u18 u19 i_pile i_pileAt i_nCode i_piled i_nOp i_nArg) → va_S A s.heap H locs → lv_has ls 2 [(0, .ref q0), (1, .int (Int32.ofInt x1))] → W p l e rm_HM_settle s m args below meth c H locs 0 0 Q (F0 m 0 ls []) := by
    intro n
    induction n with
    | zero => intro x1 i_nCode i_piled i_nOp i_nArg H locs ls hf hP hD hS hl; exact nomatch hf
    | succ n ih => intro x1 i_nCode i_piled i_nOp i_nArg H locs ls hf hP hD hS hl; exact b_0 (f_HM_settle_0 i_pile i_pileAt n) ih x1 i_nCode i_piled i_nOp i_nArg H locs ls hf hP hD hS hl
  unfold f_HM_settle at hf
  exact l_0  _ _ _ _ _ _ _ _ _ hf hP hD hS (lv_sub hl [0, 1] rfl)
theorem dX11_push_0 : decode cX11_push 0 = .ok (.aload_n 0, 1) := by decide +kernel
theorem dX11_push_1 : decode cX11_push 1 = .ok (.getfield 39, 3) := by decide +kernel
theorem dX11_push_4 : decode cX11_push 4 = .ok (.aload_n 0, 1) := by decide +kernel
theorem dX11_push_5 : decode cX11_push 5 = .ok (.getfield 227, 3) := by decide +kernel
theorem dX11_push_8 : decode cX11_push 8 = .ok (.iload_n 1, 1) := by decide +kernel
theorem dX11_push_9 : decode cX11_push 9 = .ok (.iastore, 1) := by decide +kernel
theorem dX11_push_10 : decode cX11_push 10 = .ok (.aload_n 0, 1) := by decide +kernel
theorem dX11_push_11 : decode cX11_push 11 = .ok (.getfield 42, 3) := by decide +kernel
theorem dX11_push_14 : decode cX11_push 14 = .ok (.aload_n 0, 1) := by decide +kernel
theorem dX11_push_15 : decode cX11_push 15 = .ok (.getfield 227, 3) := by decide +kernel
theorem dX11_push_18 : decode cX11_push 18 = .ok (.iload_n 2, 1) := by decide +kernel
theorem dX11_push_19 : decode cX11_push 19 = .ok (.iastore, 1) := by decide +kernel
theorem dX11_push_20 : decode cX11_push 20 = .ok (.aload_n 0, 1) := by decide +kernel
theorem dX11_push_21 : decode cX11_push 21 = .ok (.dup, 1) := by decide +kernel
theorem dX11_push_22 : decode cX11_push 22 = .ok (.getfield 227, 3) := by decide +kernel
theorem dX11_push_25 : decode cX11_push 25 = .ok (.iconst 1, 1) := by decide +kernel
theorem dX11_push_26 : decode cX11_push 26 = .ok (.iadd, 1) := by decide +kernel
theorem dX11_push_27 : decode cX11_push 27 = .ok (.putfield 227, 3) := by decide +kernel
theorem dX11_push_30 : decode cX11_push 30 = .ok (.return_, 1) := by decide +kernel
theorem zw_1481 : (Jvm.Cond.code ({ cls := "HillSchoolModel", name := "push", desc := "(II)V" } : Jvm.MethodName) prog_13_method_40_code (3 : Nat) (Option.none : Option Jvm.ClassFile.FieldType)) ∈ zall := zmemG (zmj_6 178 rfl) rfl
abbrev w_HM_push : List Cond := .code yX11_push cX11_push 3 none :: zall
abbrev rm_HM_push : Room := { frames := 0, cells := 0, slots := 0, locals := 0 }
theorem hd_HM_push : yX11_push.cls = "HillSchoolModel" ∧ yX11_push.cls ≠ "java/lang/invoke/MethodHandle" ∧ yX11_push.cls ≠ "java/lang/invoke/VarHandle" ∧ (parseMethodDescriptor yX11_push.desc).map (fun d => d.parameters.length) = some 2 := by decide +kernel
def wd_HM_push (cA : Nat → ClassId) (q0 q1 q2 q3 q4 q5 q6 q7 q8 q9 q10 q11 q12 q13 q14 q15 q16 q17 q18 q19 q20 q21 q22 q23 q24 q25 q26 q27 q28 q29 q30 q31 : Nat) (u0 u1 u2 u3 u4 u5 u6 u7 u8 u9 u10 u11 u12 u13 u14 u15 u16 u17 u18 u19 u20 : Int)  (i_piled : Int) (i_pile : Nat → Int) (i_pileAt : Nat → Int) : va_W := [(q0, .inr (11, [.int (Int32.ofInt u0), .int (Int32.ofInt u1), .ref q1, .ref q2, .ref q3, .ref q4, .int (Int32.ofInt u2), .ref q5, .int (Int32.ofInt u3), .int (Int32.ofInt u4), .int (Int32.ofInt u5), .int (Int32.ofInt u6), .long (Int64.ofInt u7), .int (Int32.ofInt u8), .int (Int32.ofInt u9), .int (Int32.ofInt u10), .ref q6, .int (Int32.ofInt u11), .ref q7, .ref q8, .int (Int32.ofInt u12), .ref q9, .ref q10, .int (Int32.ofInt i_piled), .int (Int32.ofInt u13), .ref q11, .int (Int32.ofInt u14), .ref q12, .ref q13, .int (Int32.ofInt u15), .long (Int64.ofInt u16), .long (Int64.ofInt u17), .ref q14, .ref q15, .ref q16, .ref q17, .ref q18, .int (Int32.ofInt u18), .ref q19, .ref q20, .ref q21, .ref q22, .ref q23, .ref q24, .ref q25, .ref q26, .ref q27, .ref q28, .ref q29, .ref q30, .long (Int64.ofInt u19), .ref q31, .int (Int32.ofInt u20)])), (q9, .inl (cA 0, 400, .inl (za i_pile))), (q10, .inl (cA 0, 400, .inl (za i_pileAt)))]
def wf_HM_push (cA : Nat → ClassId) (q0 q1 q2 q3 q4 q5 q6 q7 q8 q9 q10 q11 q12 q13 q14 q15 q16 q17 q18 q19 q20 q21 q22 q23 q24 q25 q26 q27 q28 q29 q30 q31 : Nat) (u0 u1 u2 u3 u4 u5 u6 u7 u8 u9 u10 u11 u12 u13 u14 u15 u16 u17 u18 u19 u20 : Int)  (o : Int × (Nat → Int) × (Nat → Int)) : va_W := wd_HM_push cA q0 q1 q2 q3 q4 q5 q6 q7 q8 q9 q10 q11 q12 q13 q14 q15 q16 q17 q18 q19 q20 q21 q22 q23 q24 q25 q26 q27 q28 q29 q30 q31 u0 u1 u2 u3 u4 u5 u6 u7 u8 u9 u10 u11 u12 u13 u14 u15 u16 u17 u18 u19 u20 o.1 o.2.1 o.2.2
def f_HM_push (x1 : Int) (x2 : Int) (i_piled : Int) (i_pile : Nat → Int) (i_pileAt : Nat → Int) : Option (Int × (Nat → Int) × (Nat → Int)) :=
  zs 400 i_pile i_piled x1 fun a1 =>
  zs 400 i_pileAt i_piled x2 fun a2 =>
  zn (i_piled + 1) fun v3 =>
  some (v3, a1, a2)
set_option maxHeartbeats 4000000 in
set_option maxRecDepth 100000 in
theorem c_HM_push (l : Launch) (ev : zEv) (dC : Nat → ClassId) (dI : Nat → Nat → Nat) (cA : Nat → ClassId) (q0 q1 q2 q3 q4 q5 q6 q7 q8 q9 q10 q11 q12 q13 q14 q15 q16 q17 q18 q19 q20 q21 q22 q23 q24 q25 q26 q27 q28 q29 q30 q31 : Nat) (u0 u1 u2 u3 u4 u5 u6 u7 u8 u9 u10 u11 u12 u13 u14 u15 u16 u17 u18 u19 u20 : Int) {x1 x2 : Int} {i_piled : Int} {i_pile : Nat → Int} {i_pileAt : Nat → Int} {out : Int × (Nat → Int) × (Nat → Int)} (hf : f_HM_push x1 x2 i_piled i_pile i_pileAt = some out) : xc_V l ev (dC, dI) vwCl (tyl cA) yX11_push w_HM_push rm_HM_push [.ref q0, .int (Int32.ofInt x1), .int (Int32.ofInt x2)] (wd_HM_push cA q0 q1 q2 q3 q4 q5 q6 q7 q8 q9 q10 q11 q12 q13 q14 q15 q16 q17 q18 q19 q20 q21 q22 q23 q24 q25 q26 q27 q28 q29 q30 q31 u0 u1 u2 u3 u4 u5 u6 u7 u8 u9 u10 u11 u12 u13 u14 u15 u16 u17 u18 u19 u20 i_piled i_pile i_pileAt) (wf_HM_push cA q0 q1 q2 q3 q4 q5 q6 q7 q8 q9 q10 q11 q12 q13 q14 q15 q16 q17 q18 q19 q20 q21 q22 q23 q24 q25 q26 q27 q28 q29 q30 q31 u0 u1 u2 u3 u4 u5 u6 u7 u8 u9 u10 u11 u12 u13 u14 u15 u16 u17 u18 u19 u20 out) := by
  refine xv_startV (cc := cX11_push) (maxL := 3) (by decide +kernel) rfl (Nat.le_of_ble_eq_true rfl) ?_
  intro p e s m args below meth c A Q H ls hx hb hml hts hown hK hA hP hD hS hl hE hret
  have hown : s.vm.findClass "HillSchoolModel" = some m.cls := hown
  have hz : ∀ w ∈ zall, w.before args s = true := fun w h => hts w (List.mem_cons_of_mem _ h)
  have hl : lv_has ls 3 [(0, .ref q0), (1, .int (Int32.ofInt x1)), (2, .int (Int32.ofInt x2))] := hl
  unfold f_HM_push at hf
  refine lv_aload_n hx hb dX11_push_0 rfl (lv_at hl 0 rfl) ?_
  refine va_get (D := (dC, dI)) (ci := 11) (v := .ref q9) (C := RX11) (T := TX11) (N := 53) hx hb hz zi_X11 hown hK hP 0 rfl rfl 21 (by decide) (hz _ zw_1186) (fun _ h9 => h9) rfl dX11_push_1 ?_
  refine lv_aload_n hx hb dX11_push_4 rfl (lv_at hl 0 rfl) ?_
  refine va_get (D := (dC, dI)) (ci := 11) (v := .int (Int32.ofInt i_piled)) (C := RX11) (T := TX11) (N := 53) hx hb hz zi_X11 hown hK hP 0 rfl rfl 23 (by decide) (hz _ zw_1188) (fun _ h9 => h9) rfl dX11_push_5 ?_
  refine lv_iload_n hx hb dX11_push_8 rfl (lv_at hl 1 rfl) ?_
  refine xi_iast hx hb hK hP hD hS 1 0 rfl rfl dX11_push_9 hf (fun a1 H locs hP hD hS hf => ?_)
  have hP : va_P (dC, dI) vwCl (wd_HM_push cA q0 q1 q2 q3 q4 q5 q6 q7 q8 q9 q10 q11 q12 q13 q14 q15 q16 q17 q18 q19 q20 q21 q22 q23 q24 q25 q26 q27 q28 q29 q30 q31 u0 u1 u2 u3 u4 u5 u6 u7 u8 u9 u10 u11 u12 u13 u14 u15 u16 u17 u18 u19 u20 i_piled a1 i_pileAt) H := hP
  have hD : va_D A (wd_HM_push cA q0 q1 q2 q3 q4 q5 q6 q7 q8 q9 q10 q11 q12 q13 q14 q15 q16 q17 q18 q19 q20 q21 q22 q23 q24 q25 q26 q27 q28 q29 q30 q31 u0 u1 u2 u3 u4 u5 u6 u7 u8 u9 u10 u11 u12 u13 u14 u15 u16 u17 u18 u19 u20 i_piled a1 i_pileAt) := hD
  refine lv_aload_n hx hb dX11_push_10 rfl (lv_at hl 0 rfl) ?_
  refine va_get (D := (dC, dI)) (ci := 11) (v := .ref q10) (C := RX11) (T := TX11) (N := 53) hx hb hz zi_X11 hown hK hP 0 rfl rfl 22 (by decide) (hz _ zw_1187) (fun _ h9 => h9) rfl dX11_push_11 ?_
  refine lv_aload_n hx hb dX11_push_14 rfl (lv_at hl 0 rfl) ?_
  refine va_get (D := (dC, dI)) (ci := 11) (v := .int (Int32.ofInt i_piled)) (C := RX11) (T := TX11) (N := 53) hx hb hz zi_X11 hown hK hP 0 rfl rfl 23 (by decide) (hz _ zw_1188) (fun _ h9 => h9) rfl dX11_push_15 ?_
  refine lv_iload_n hx hb dX11_push_18 rfl (lv_at hl 2 rfl) ?_
  refine xi_iast hx hb hK hP hD hS 2 0 rfl rfl dX11_push_19 hf (fun a2 H locs hP hD hS hf => ?_)
  have hP : va_P (dC, dI) vwCl (wd_HM_push cA q0 q1 q2 q3 q4 q5 q6 q7 q8 q9 q10 q11 q12 q13 q14 q15 q16 q17 q18 q19 q20 q21 q22 q23 q24 q25 q26 q27 q28 q29 q30 q31 u0 u1 u2 u3 u4 u5 u6 u7 u8 u9 u10 u11 u12 u13 u14 u15 u16 u17 u18 u19 u20 i_piled a1 a2) H := hP
  have hD : va_D A (wd_HM_push cA q0 q1 q2 q3 q4 q5 q6 q7 q8 q9 q10 q11 q12 q13 q14 q15 q16 q17 q18 q19 q20 q21 q22 q23 q24 q25 q26 q27 q28 q29 q30 q31 u0 u1 u2 u3 u4 u5 u6 u7 u8 u9 u10 u11 u12 u13 u14 u15 u16 u17 u18 u19 u20 i_piled a1 a2) := hD
  refine lv_aload_n hx hb dX11_push_20 rfl (lv_at hl 0 rfl) ?_
  refine lv_dup hx hb dX11_push_21 rfl ?_
  refine va_get (D := (dC, dI)) (ci := 11) (v := .int (Int32.ofInt i_piled)) (C := RX11) (T := TX11) (N := 53) hx hb hz zi_X11 hown hK hP 0 rfl rfl 23 (by decide) (hz _ zw_1188) (fun _ h9 => h9) rfl dX11_push_22 ?_
  refine lv_iconst (v := Int32.ofInt 1) hx hb dX11_push_25 rfl ?_
  refine xi_iadd hx hb dX11_push_26 hf (fun v3 hf => ?_)
  refine va_put (D := (dC, dI)) (ci := 11) (v := .int (Int32.ofInt v3)) (ty := .int) (C := RX11) (T := TX11) (N := 53) hx hb hz zi_X11 tyX11 tyX11_ok nmX11 hown hK hP hD hS 0 rfl rfl 23 (by decide) (hz _ zw_1188) (fun _ h9 => h9) rfl (by decide +kernel) rfl rfl (Nat.le_of_ble_eq_true rfl) dX11_push_27 (fun H locs hP hD hS => ?_)
  have hP : va_P (dC, dI) vwCl (wd_HM_push cA q0 q1 q2 q3 q4 q5 q6 q7 q8 q9 q10 q11 q12 q13 q14 q15 q16 q17 q18 q19 q20 q21 q22 q23 q24 q25 q26 q27 q28 q29 q30 q31 u0 u1 u2 u3 u4 u5 u6 u7 u8 u9 u10 u11 u12 u13 u14 u15 u16 u17 u18 u19 u20 v3 a1 a2) H := hP
  have hD : va_D A (wd_HM_push cA q0 q1 q2 q3 q4 q5 q6 q7 q8 q9 q10 q11 q12 q13 q14 q15 q16 q17 q18 q19 q20 q21 q22 q23 q24 q25 q26 q27 q28 q29 q30 q31 u0 u1 u2 u3 u4 u5 u6 u7 u8 u9 u10 u11 u12 u13 u14 u15 u16 u17 u18 u19 u20 v3 a1 a2) := hD
  obtain rfl := Option.some.inj hf
  exact hret _ _ _ _ dX11_push_30 hP hD hS
theorem dX11_openBracket_0 : decode cX11_openBracket 0 = .ok (.aload_n 0, 1) := by decide +kernel
theorem dX11_openBracket_1 : decode cX11_openBracket 1 = .ok (.aload_n 0, 1) := by decide +kernel
theorem dX11_openBracket_2 : decode cX11_openBracket 2 = .ok (.getfield 249, 3) := by decide +kernel
theorem dX11_openBracket_5 : decode cX11_openBracket 5 = .ok (.bipush 8, 2) := by decide +kernel
theorem dX11_openBracket_7 : decode cX11_openBracket 7 = .ok (.if_icmp .ge 7, 3) := by decide +kernel
theorem dX11_openBracket_10 : decode cX11_openBracket 10 = .ok (.iconst 1, 1) := by decide +kernel
theorem dX11_openBracket_11 : decode cX11_openBracket 11 = .ok (.goto 4, 3) := by decide +kernel
theorem dX11_openBracket_14 : decode cX11_openBracket 14 = .ok (.iconst 0, 1) := by decide +kernel
theorem dX11_openBracket_15 : decode cX11_openBracket 15 = .ok (.invokevirtual 220, 3) := by decide +kernel
theorem dX11_openBracket_18 : decode cX11_openBracket 18 = .ok (.aload_n 0, 1) := by decide +kernel
theorem dX11_openBracket_19 : decode cX11_openBracket 19 = .ok (.getfield 185, 3) := by decide +kernel
theorem dX11_openBracket_22 : decode cX11_openBracket 22 = .ok (.ifCond .ne 19, 3) := by decide +kernel
theorem dX11_openBracket_25 : decode cX11_openBracket 25 = .ok (.aload_n 0, 1) := by decide +kernel
theorem dX11_openBracket_26 : decode cX11_openBracket 26 = .ok (.dup, 1) := by decide +kernel
theorem dX11_openBracket_27 : decode cX11_openBracket 27 = .ok (.getfield 249, 3) := by decide +kernel
theorem dX11_openBracket_30 : decode cX11_openBracket 30 = .ok (.iconst 1, 1) := by decide +kernel
theorem dX11_openBracket_31 : decode cX11_openBracket 31 = .ok (.iadd, 1) := by decide +kernel
theorem dX11_openBracket_32 : decode cX11_openBracket 32 = .ok (.putfield 249, 3) := by decide +kernel
theorem dX11_openBracket_35 : decode cX11_openBracket 35 = .ok (.aload_n 0, 1) := by decide +kernel
theorem dX11_openBracket_36 : decode cX11_openBracket 36 = .ok (.iload_n 1, 1) := by decide +kernel
theorem dX11_openBracket_37 : decode cX11_openBracket 37 = .ok (.iconst 0, 1) := by decide +kernel
theorem dX11_openBracket_38 : decode cX11_openBracket 38 = .ok (.invokevirtual 252, 3) := by decide +kernel
theorem dX11_openBracket_41 : decode cX11_openBracket 41 = .ok (.return_, 1) := by decide +kernel
theorem zw_50 : (Jvm.Cond.selects "HillSchoolModel" ({ cls := "HillSchoolModel", name := "must", desc := "(Z)V" } : Jvm.MethodName) ({ cls := "HillSchoolModel", name := "must", desc := "(Z)V" } : Jvm.MethodName)) ∈ zall := zmemG (zmj_0 50 rfl) rfl
theorem zw_53 : (Jvm.Cond.selects "HillSchoolModel" ({ cls := "HillSchoolModel", name := "push", desc := "(II)V" } : Jvm.MethodName) ({ cls := "HillSchoolModel", name := "push", desc := "(II)V" } : Jvm.MethodName)) ∈ zall := zmemG (zmj_0 53 rfl) rfl
theorem zw_1189 : (Jvm.Cond.fieldLink "HillSchoolModel" (249 : Nat) "HillSchoolModel" "opened" "I") ∈ zall := zmemG (zmj_5 126 rfl) rfl
theorem zw_1465 : (Jvm.Cond.methodLink "HillSchoolModel" (220 : Nat) ({ cls := "HillSchoolModel", name := "must", desc := "(Z)V" } : Jvm.MethodName)) ∈ zall := zmemG (zmj_6 162 rfl) rfl
theorem zw_1467 : (Jvm.Cond.instanceMethod ({ cls := "HillSchoolModel", name := "must", desc := "(Z)V" } : Jvm.MethodName)) ∈ zall := zmemG (zmj_6 164 rfl) rfl
theorem zw_1478 : (Jvm.Cond.methodLink "HillSchoolModel" (252 : Nat) ({ cls := "HillSchoolModel", name := "push", desc := "(II)V" } : Jvm.MethodName)) ∈ zall := zmemG (zmj_6 175 rfl) rfl
theorem zw_1480 : (Jvm.Cond.instanceMethod ({ cls := "HillSchoolModel", name := "push", desc := "(II)V" } : Jvm.MethodName)) ∈ zall := zmemG (zmj_6 177 rfl) rfl
theorem zw_1489 : (Jvm.Cond.code ({ cls := "HillSchoolModel", name := "openBracket", desc := "(I)V" } : Jvm.MethodName) prog_13_method_46_code (2 : Nat) (Option.none : Option Jvm.ClassFile.FieldType)) ∈ zall := zmemG (zmj_6 186 rfl) rfl
abbrev w_HM_openBracket : List Cond := .code yX11_openBracket cX11_openBracket 2 none :: zall
abbrev rm_HM_openBracket : Room := { frames := 3, cells := 0, slots := 0, locals := 61 }
theorem hd_HM_openBracket : yX11_openBracket.cls = "HillSchoolModel" ∧ yX11_openBracket.cls ≠ "java/lang/invoke/MethodHandle" ∧ yX11_openBracket.cls ≠ "java/lang/invoke/VarHandle" ∧ (parseMethodDescriptor yX11_openBracket.desc).map (fun d => d.parameters.length) = some 1 := by decide +kernel
def wd_HM_openBracket (cA : Nat → ClassId) (q0 q1 q2 q3 q4 q5 q6 q7 q8 q9 q10 q11 q12 q13 q14 q15 q16 q17 q18 q19 q20 q21 q22 q23 q24 q25 q26 q27 q28 q29 q30 q31 : Nat) (u0 u1 u2 u3 u4 u5 u6 u7 u8 u9 u10 u11 u12 : Int) (i_taped : Int) (i_tape : Nat → Int) (i_from : Int) (i_to : Int) (i_sort : Int) (i_worth : Int) (i_fault : Int) (i_bad : Int) (i_piled : Int) (i_opened : Int) (i_pile : Nat → Int) (i_pileAt : Nat → Int) : va_W := [(q0, .inr (11, [.int (Int32.ofInt u0), .int (Int32.ofInt u1), .ref q1, .ref q2, .ref q3, .ref q4, .int (Int32.ofInt u2), .ref q5, .int (Int32.ofInt i_taped), .int (Int32.ofInt i_from), .int (Int32.ofInt i_to), .int (Int32.ofInt i_sort), .long (Int64.ofInt i_worth), .int (Int32.ofInt i_fault), .int (Int32.ofInt i_bad), .int (Int32.ofInt u3), .ref q6, .int (Int32.ofInt u4), .ref q7, .ref q8, .int (Int32.ofInt u5), .ref q9, .ref q10, .int (Int32.ofInt i_piled), .int (Int32.ofInt i_opened), .ref q11, .int (Int32.ofInt u6), .ref q12, .ref q13, .int (Int32.ofInt u7), .long (Int64.ofInt u8), .long (Int64.ofInt u9), .ref q14, .ref q15, .ref q16, .ref q17, .ref q18, .int (Int32.ofInt u10), .ref q19, .ref q20, .ref q21, .ref q22, .ref q23, .ref q24, .ref q25, .ref q26, .ref q27, .ref q28, .ref q29, .ref q30, .long (Int64.ofInt u11), .ref q31, .int (Int32.ofInt u12)])), (q5, .inl (cA 0, 400, .inl (za i_tape))), (q9, .inl (cA 0, 400, .inl (za i_pile))), (q10, .inl (cA 0, 400, .inl (za i_pileAt)))]
def wf_HM_openBracket (cA : Nat → ClassId) (q0 q1 q2 q3 q4 q5 q6 q7 q8 q9 q10 q11 q12 q13 q14 q15 q16 q17 q18 q19 q20 q21 q22 q23 q24 q25 q26 q27 q28 q29 q30 q31 : Nat) (u0 u1 u2 u3 u4 u5 u6 u7 u8 u9 u10 u11 u12 : Int) (i_taped : Int) (i_tape : Nat → Int) (o : Int × Int × Int × Int × Int × Int × Int × Int × (Nat → Int) × (Nat → Int)) : va_W := wd_HM_openBracket cA q0 q1 q2 q3 q4 q5 q6 q7 q8 q9 q10 q11 q12 q13 q14 q15 q16 q17 q18 q19 q20 q21 q22 q23 q24 q25 q26 q27 q28 q29 q30 q31 u0 u1 u2 u3 u4 u5 u6 u7 u8 u9 u10 u11 u12 i_taped i_tape o.1 o.2.1 o.2.2.1 o.2.2.2.1 o.2.2.2.2.1 o.2.2.2.2.2.1 o.2.2.2.2.2.2.1 o.2.2.2.2.2.2.2.1 o.2.2.2.2.2.2.2.2.1 o.2.2.2.2.2.2.2.2.2
def f_HM_openBracket_15 (i_taped : Int) (i_tape : Nat → Int) (x1 : Int) (s1 : Int) (i_from : Int) (i_to : Int) (i_sort : Int) (i_worth : Int) (i_fault : Int) (i_bad : Int) (i_piled : Int) (i_opened : Int) (i_pile : Nat → Int) (i_pileAt : Nat → Int) : Option (Int × Int × Int × Int × Int × Int × Int × Int × (Nat → Int) × (Nat → Int)) :=
  zd6 (f_HM_must s1 i_taped i_tape i_from i_to i_sort i_worth i_fault i_bad) fun v1 v2 v3 v4 v5 v6 =>
  if zi_w v6 ≠ 0 then
    some (v1, v2, v3, v4, v5, v6, i_piled, i_opened, i_pile, i_pileAt)
  else
    zn (i_opened + 1) fun v7 =>
    zd3 (f_HM_push x1 0 i_piled i_pile i_pileAt) fun v8 a9 a10 =>
    some (v1, v2, v3, v4, v5, v6, v8, v7, a9, a10)
def f_HM_openBracket (x1 : Int) (i_taped : Int) (i_tape : Nat → Int) (i_from : Int) (i_to : Int) (i_sort : Int) (i_worth : Int) (i_fault : Int) (i_bad : Int) (i_piled : Int) (i_opened : Int) (i_pile : Nat → Int) (i_pileAt : Nat → Int) : Option (Int × Int × Int × Int × Int × Int × Int × Int × (Nat → Int) × (Nat → Int)) :=
  if zi_w 8 ≤ zi_w i_opened then
    f_HM_openBracket_15 i_taped i_tape x1 0 i_from i_to i_sort i_worth i_fault i_bad i_piled i_opened i_pile i_pileAt
  else
    f_HM_openBracket_15 i_taped i_tape x1 1 i_from i_to i_sort i_worth i_fault i_bad i_piled i_opened i_pile i_pileAt
set_option maxHeartbeats 4000000 in
set_option maxRecDepth 100000 in
theorem c_HM_openBracket (l : Launch) (ev : zEv) (dC : Nat → ClassId) (dI : Nat → Nat → Nat) (cA : Nat → ClassId) (q0 q1 q2 q3 q4 q5 q6 q7 q8 q9 q10 q11 q12 q13 q14 q15 q16 q17 q18 q19 q20 q21 q22 q23 q24 q25 q26 q27 q28 q29 q30 q31 : Nat) (u0 u1 u2 u3 u4 u5 u6 u7 u8 u9 u10 u11 u12 : Int) {x1 : Int} {i_taped : Int} {i_tape : Nat → Int} {i_from : Int} {i_to : Int} {i_sort : Int} {i_worth : Int} {i_fault : Int} {i_bad : Int} {i_piled : Int} {i_opened : Int} {i_pile : Nat → Int} {i_pileAt : Nat → Int} {out : Int × Int × Int × Int × Int × Int × Int × Int × (Nat → Int) × (Nat → Int)} (hf : f_HM_openBracket x1 i_taped i_tape i_from i_to i_sort i_worth i_fault i_bad i_piled i_opened i_pile i_pileAt = some out) : xc_V l ev (dC, dI) vwCl (tyl cA) yX11_openBracket w_HM_openBracket rm_HM_openBracket [.ref q0, .int (Int32.ofInt x1)] (wd_HM_openBracket cA q0 q1 q2 q3 q4 q5 q6 q7 q8 q9 q10 q11 q12 q13 q14 q15 q16 q17 q18 q19 q20 q21 q22 q23 q24 q25 q26 q27 q28 q29 q30 q31 u0 u1 u2 u3 u4 u5 u6 u7 u8 u9 u10 u11 u12 i_taped i_tape i_from i_to i_sort i_worth i_fault i_bad i_piled i_opened i_pile i_pileAt) (wf_HM_openBracket cA q0 q1 q2 q3 q4 q5 q6 q7 q8 q9 q10 q11 q12 q13 q14 q15 q16 q17 q18 q19 q20 q21 q22 q23 q24 q25 q26 q27 q28 q29 q30 q31 u0 u1 u2 u3 u4 u5 u6 u7 u8 u9 u10 u11 u12 i_taped i_tape out) := by
  refine xv_startV (cc := cX11_openBracket) (maxL := 2) (by decide +kernel) rfl (Nat.le_of_ble_eq_true rfl) ?_
  intro p e s m args below meth c A Q H ls hx hb hml hts hown hK hA hP hD hS hl hE hret
  have hown : s.vm.findClass "HillSchoolModel" = some m.cls := hown
  have hz : ∀ w ∈ zall, w.before args s = true := fun w h => hts w (List.mem_cons_of_mem _ h)
  have hl : lv_has ls 2 [(0, .ref q0), (1, .int (Int32.ofInt x1))] := hl
  have b_15 : ∀ (x1 : Int) (s1 : Int) (i_from : Int) (i_to : Int) (i_sort : Int) (i_worth : Int) (i_fault : Int) (i_bad : Int) (i_piled : Int) (i_opened : Int) (i_pile : Nat → Int) (i_pileAt : Nat → Int) (H : Heap) (locs : List Loc) (ls : Array Slot), f_HM_openBracket_15 i_taped i_tape x1 s1 i_from i_to i_sort i_worth i_fault i_bad i_piled i_opened i_pile i_pileAt = some out → va_P (dC, dI) vwCl (wd_HM_openBracket cA q0 q1 q2 q3 q4 q5 q6 q7 q8 q9 q10 q11 q12 q13 q14 q15 q16 q17 q18 q19 q20 q21 q22 q23 q24 q25 q26 q27 q28 q29 q30 q31 u0 u1 u2 u3 u4 u5 u6 u7 u8 u9 u10 u11 u12 i_taped i_tape i_from i_to i_sort i_worth i_fault i_bad i_piled i_opened i_pile i_pileAt) H → va_D A (wd_HM_openBracket cA q0 q1 q2 q3 q4 q5 q6 q7 q8 q9 q10 q11 q12 q13 q14 q15 q16 q17 q18 q19 q20 q21 q22 q23 q24 q25 q26 q27 q28 q29 q30 q31 u0 u1 u2 u3 u4 u5 u6 u7 u8 u9 u10 u11 u12 i_taped i_tape i_from i_to i_sort i_worth i_fault i_bad i_piled i_opened i_pile i_pileAt) → va_S A s.heap H locs → lv_has ls 2 [(0, .ref q0), (1, .int (Int32.ofInt x1))] → W p l e rm_HM_openBracket s m args below meth c H locs 0 0 Q (F0 m 15 ls [.int (Int32.ofInt s1), .ref q0]) := by
    intro x1 s1 i_from i_to i_sort i_worth i_fault i_bad i_piled i_opened i_pile i_pileAt H locs ls hf hP hD hS hl
    unfold f_HM_openBracket_15 at hf
    refine xe_d6 hf (fun v1 v2 v3 v4 v5 v6 hg hf => ?_)
    have hC : ([0, 1] : List Nat).map (fun i => (wd_HM_openBracket cA q0 q1 q2 q3 q4 q5 q6 q7 q8 q9 q10 q11 q12 q13 q14 q15 q16 q17 q18 q19 q20 q21 q22 q23 q24 q25 q26 q27 q28 q29 q30 q31 u0 u1 u2 u3 u4 u5 u6 u7 u8 u9 u10 u11 u12 i_taped i_tape i_from i_to i_sort i_worth i_fault i_bad i_piled i_opened i_pile i_pileAt)[i]?) = (wd_HM_must cA q0 q1 q2 q3 q4 q5 q6 q7 q8 q9 q10 q11 q12 q13 q14 q15 q16 q17 q18 q19 q20 q21 q22 q23 q24 q25 q26 q27 q28 q29 q30 q31 u0 u1 u2 u3 u4 u5 i_piled i_opened u6 u7 u8 u9 u10 u11 u12 i_taped i_tape i_from i_to i_sort i_worth i_fault i_bad).map some := rfl
    refine xv_afterV (ws' := (wd_HM_openBracket cA q0 q1 q2 q3 q4 q5 q6 q7 q8 q9 q10 q11 q12 q13 q14 q15 q16 q17 q18 q19 q20 q21 q22 q23 q24 q25 q26 q27 q28 q29 q30 q31 u0 u1 u2 u3 u4 u5 u6 u7 u8 u9 u10 u11 u12 i_taped i_tape v1 v2 v3 v4 v5 v6 i_piled i_opened i_pile i_pileAt)) (isC := [0, 1]) (ps := [some 0, some 1, none, none]) (va_runV (As := [.int (Int32.ofInt s1)]) (rest := []) ⟨hx, hb, hml, hown, hts⟩ (c_HM_must l ev dC dI cA q0 q1 q2 q3 q4 q5 q6 q7 q8 q9 q10 q11 q12 q13 q14 q15 q16 q17 q18 q19 q20 q21 q22 q23 q24 q25 q26 q27 q28 q29 q30 q31 u0 u1 u2 u3 u4 u5 i_piled i_opened u6 u7 u8 u9 u10 u11 u12 hg H.size) (cwV 1 hts (zgV zw_1465 zw_1467 zw_50 zw_115 zw_1468) rfl rfl rfl hd_HM_must ⟨Nat.le_of_ble_eq_true rfl, Nat.le_of_ble_eq_true rfl⟩) (xv_preV (T := TX11) (N := 53) hE hA hS hK hP hD (isC := [0, 1]) (by decide +kernel) hC (q0 := 0) (ci := 11) rfl rfl) rfl rfl hl.1 rfl (lv_room (Nat.le_of_ble_eq_true rfl)) dX11_openBracket_15 ⟨Nat.le_refl _, Nat.le_refl _⟩) hP hD hS hA (by decide +kernel) rfl hC rfl rfl (fun H locs hP hD hS => ?_)
    refine lv_aload_n hx hb dX11_openBracket_18 rfl (lv_at hl 0 rfl) ?_
    refine va_get (D := (dC, dI)) (ci := 11) (v := .int (Int32.ofInt v6)) (C := RX11) (T := TX11) (N := 53) hx hb hz zi_X11 hown hK hP 0 rfl rfl 14 (by decide) (hz _ zw_1179) (fun _ h9 => h9) rfl dX11_openBracket_19 ?_
    refine xi_if_ne (tgt := 41) hx hb dX11_openBracket_22 (by decide) hf (fun hf => ?_) (fun hf => ?_)
    · obtain rfl := Option.some.inj hf
      exact hret _ _ _ _ dX11_openBracket_41 hP hD hS
    · refine lv_aload_n hx hb dX11_openBracket_25 rfl (lv_at hl 0 rfl) ?_
      refine lv_dup hx hb dX11_openBracket_26 rfl ?_
      refine va_get (D := (dC, dI)) (ci := 11) (v := .int (Int32.ofInt i_opened)) (C := RX11) (T := TX11) (N := 53) hx hb hz zi_X11 hown hK hP 0 rfl rfl 24 (by decide) (hz _ zw_1189) (fun _ h9 => h9) rfl dX11_openBracket_27 ?_
      refine lv_iconst (v := Int32.ofInt 1) hx hb dX11_openBracket_30 rfl ?_
      refine xi_iadd hx hb dX11_openBracket_31 hf (fun v7 hf => ?_)
      refine va_put (D := (dC, dI)) (ci := 11) (v := .int (Int32.ofInt v7)) (ty := .int) (C := RX11) (T := TX11) (N := 53) hx hb hz zi_X11 tyX11 tyX11_ok nmX11 hown hK hP hD hS 0 rfl rfl 24 (by decide) (hz _ zw_1189) (fun _ h9 => h9) rfl (by decide +kernel) rfl rfl (Nat.le_of_ble_eq_true rfl) dX11_openBracket_32 (fun H locs hP hD hS => ?_)
      have hP : va_P (dC, dI) vwCl (wd_HM_openBracket cA q0 q1 q2 q3 q4 q5 q6 q7 q8 q9 q10 q11 q12 q13 q14 q15 q16 q17 q18 q19 q20 q21 q22 q23 q24 q25 q26 q27 q28 q29 q30 q31 u0 u1 u2 u3 u4 u5 u6 u7 u8 u9 u10 u11 u12 i_taped i_tape v1 v2 v3 v4 v5 v6 i_piled v7 i_pile i_pileAt) H := hP
      have hD : va_D A (wd_HM_openBracket cA q0 q1 q2 q3 q4 q5 q6 q7 q8 q9 q10 q11 q12 q13 q14 q15 q16 q17 q18 q19 q20 q21 q22 q23 q24 q25 q26 q27 q28 q29 q30 q31 u0 u1 u2 u3 u4 u5 u6 u7 u8 u9 u10 u11 u12 i_taped i_tape v1 v2 v3 v4 v5 v6 i_piled v7 i_pile i_pileAt) := hD
      refine lv_aload_n hx hb dX11_openBracket_35 rfl (lv_at hl 0 rfl) ?_
      refine lv_iload_n hx hb dX11_openBracket_36 rfl (lv_at hl 1 rfl) ?_
      refine lv_iconst (v := Int32.ofInt 0) hx hb dX11_openBracket_37 rfl ?_
      refine xe_d3 hf (fun v8 a9 a10 hg hf => ?_)
      have hC : ([0, 2, 3] : List Nat).map (fun i => (wd_HM_openBracket cA q0 q1 q2 q3 q4 q5 q6 q7 q8 q9 q10 q11 q12 q13 q14 q15 q16 q17 q18 q19 q20 q21 q22 q23 q24 q25 q26 q27 q28 q29 q30 q31 u0 u1 u2 u3 u4 u5 u6 u7 u8 u9 u10 u11 u12 i_taped i_tape v1 v2 v3 v4 v5 v6 i_piled v7 i_pile i_pileAt)[i]?) = (wd_HM_push cA q0 q1 q2 q3 q4 q5 q6 q7 q8 q9 q10 q11 q12 q13 q14 q15 q16 q17 q18 q19 q20 q21 q22 q23 q24 q25 q26 q27 q28 q29 q30 q31 u0 u1 u2 i_taped v1 v2 v3 v4 v5 v6 u3 u4 u5 v7 u6 u7 u8 u9 u10 u11 u12 i_piled i_pile i_pileAt).map some := rfl
      refine xv_afterV (ws' := (wd_HM_openBracket cA q0 q1 q2 q3 q4 q5 q6 q7 q8 q9 q10 q11 q12 q13 q14 q15 q16 q17 q18 q19 q20 q21 q22 q23 q24 q25 q26 q27 q28 q29 q30 q31 u0 u1 u2 u3 u4 u5 u6 u7 u8 u9 u10 u11 u12 i_taped i_tape v1 v2 v3 v4 v5 v6 v8 v7 a9 a10)) (isC := [0, 2, 3]) (ps := [some 0, none, some 1, some 2]) (va_runV (As := [.int (Int32.ofInt x1), .int (Int32.ofInt 0)]) (rest := []) ⟨hx, hb, hml, hown, hts⟩ (c_HM_push l ev dC dI cA q0 q1 q2 q3 q4 q5 q6 q7 q8 q9 q10 q11 q12 q13 q14 q15 q16 q17 q18 q19 q20 q21 q22 q23 q24 q25 q26 q27 q28 q29 q30 q31 u0 u1 u2 i_taped v1 v2 v3 v4 v5 v6 u3 u4 u5 v7 u6 u7 u8 u9 u10 u11 u12 hg H.size) (cwV 2 hts (zgV zw_1478 zw_1480 zw_53 zw_115 zw_1481) rfl rfl rfl hd_HM_push ⟨Nat.le_of_ble_eq_true rfl, Nat.le_of_ble_eq_true rfl⟩) (xv_preV (T := TX11) (N := 53) hE hA hS hK hP hD (isC := [0, 2, 3]) (by decide +kernel) hC (q0 := 0) (ci := 11) rfl rfl) rfl rfl hl.1 rfl (lv_room (Nat.le_of_ble_eq_true rfl)) dX11_openBracket_38 ⟨Nat.le_refl _, Nat.le_refl _⟩) hP hD hS hA (by decide +kernel) rfl hC rfl rfl (fun H locs hP hD hS => ?_)
      obtain rfl := Option.some.inj hf
      exact hret _ _ _ _ dX11_openBracket_41 hP hD hS
  unfold f_HM_openBracket at hf
  refine lv_aload_n hx hb dX11_openBracket_0 rfl (lv_at hl 0 rfl) ?_
  refine lv_aload_n hx hb dX11_openBracket_1 rfl (lv_at hl 0 rfl) ?_
  refine va_get (D := (dC, dI)) (ci := 11) (v := .int (Int32.ofInt i_opened)) (C := RX11) (T := TX11) (N := 53) hx hb hz zi_X11 hown hK hP 0 rfl rfl 24 (by decide) (hz _ zw_1189) (fun _ h9 => h9) rfl dX11_openBracket_2 ?_
  refine lv_bipush (v := Int32.ofInt 8) hx hb dX11_openBracket_5 (by decide) ?_
  refine xi_icmp_ge (tgt := 14) hx hb dX11_openBracket_7 (by decide) hf (fun hf => ?_) (fun hf => ?_)
  · refine lv_iconst (v := Int32.ofInt 0) hx hb dX11_openBracket_14 rfl ?_
    exact b_15  _ _ _ _ _ _ _ _ _ _ _ _ _ _ _ hf hP hD hS (lv_sub hl [0, 1] rfl)
  · refine lv_iconst (v := Int32.ofInt 1) hx hb dX11_openBracket_10 rfl ?_
    refine lv_goto (tgt := 15) hx hb dX11_openBracket_11 (by decide) ?_
    exact b_15  _ _ _ _ _ _ _ _ _ _ _ _ _ _ _ hf hP hD hS (lv_sub hl [0, 1] rfl)
theorem dX11_isSign_0 : decode cX11_isSign 0 = .ok (.aload_n 0, 1) := by decide +kernel
theorem dX11_isSign_1 : decode cX11_isSign 1 = .ok (.getfield 205, 3) := by decide +kernel
theorem dX11_isSign_4 : decode cX11_isSign 4 = .ok (.iconst 3, 1) := by decide +kernel
theorem dX11_isSign_5 : decode cX11_isSign 5 = .ok (.if_icmp .ne 17, 3) := by decide +kernel
theorem dX11_isSign_8 : decode cX11_isSign 8 = .ok (.aload_n 0, 1) := by decide +kernel
theorem dX11_isSign_9 : decode cX11_isSign 9 = .ok (.getfield 195, 3) := by decide +kernel
theorem dX11_isSign_12 : decode cX11_isSign 12 = .ok (.iload_n 1, 1) := by decide +kernel
theorem dX11_isSign_13 : decode cX11_isSign 13 = .ok (.i2l, 1) := by decide +kernel
theorem dX11_isSign_14 : decode cX11_isSign 14 = .ok (.lcmp, 1) := by decide +kernel
theorem dX11_isSign_15 : decode cX11_isSign 15 = .ok (.ifCond .ne 7, 3) := by decide +kernel
theorem dX11_isSign_18 : decode cX11_isSign 18 = .ok (.iconst 1, 1) := by decide +kernel
theorem dX11_isSign_19 : decode cX11_isSign 19 = .ok (.goto 4, 3) := by decide +kernel
theorem dX11_isSign_22 : decode cX11_isSign 22 = .ok (.iconst 0, 1) := by decide +kernel
theorem dX11_isSign_23 : decode cX11_isSign 23 = .ok (.ireturn, 1) := by decide +kernel
theorem zw_1485 : (Jvm.Cond.code ({ cls := "HillSchoolModel", name := "isSign", desc := "(I)Z" } : Jvm.MethodName) prog_13_method_35_code (2 : Nat) (Option.some Jvm.ClassFile.FieldType.boolean)) ∈ zall := zmemG (zmj_6 182 rfl) rfl
abbrev w_HM_isSign : List Cond := .code yX11_isSign cX11_isSign 2 (some .boolean) :: zall
abbrev rm_HM_isSign : Room := { frames := 0, cells := 0, slots := 0, locals := 0 }
theorem hd_HM_isSign : yX11_isSign.cls = "HillSchoolModel" ∧ yX11_isSign.cls ≠ "java/lang/invoke/MethodHandle" ∧ yX11_isSign.cls ≠ "java/lang/invoke/VarHandle" ∧ (parseMethodDescriptor yX11_isSign.desc).map (fun d => d.parameters.length) = some 1 := by decide +kernel
def wd_HM_isSign (cA : Nat → ClassId) (q0 q1 q2 q3 q4 q5 q6 q7 q8 q9 q10 q11 q12 q13 q14 q15 q16 q17 q18 q19 q20 q21 q22 q23 q24 q25 q26 q27 q28 q29 q30 q31 : Nat) (u0 u1 u2 u3 u4 u5 u6 u7 u8 u9 u10 u11 u12 u13 u14 u15 u16 u17 u18 u19 : Int) (i_sort : Int) (i_worth : Int)  : va_W := [(q0, .inr (11, [.int (Int32.ofInt u0), .int (Int32.ofInt u1), .ref q1, .ref q2, .ref q3, .ref q4, .int (Int32.ofInt u2), .ref q5, .int (Int32.ofInt u3), .int (Int32.ofInt u4), .int (Int32.ofInt u5), .int (Int32.ofInt i_sort), .long (Int64.ofInt i_worth), .int (Int32.ofInt u6), .int (Int32.ofInt u7), .int (Int32.ofInt u8), .ref q6, .int (Int32.ofInt u9), .ref q7, .ref q8, .int (Int32.ofInt u10), .ref q9, .ref q10, .int (Int32.ofInt u11), .int (Int32.ofInt u12), .ref q11, .int (Int32.ofInt u13), .ref q12, .ref q13, .int (Int32.ofInt u14), .long (Int64.ofInt u15), .long (Int64.ofInt u16), .ref q14, .ref q15, .ref q16, .ref q17, .ref q18, .int (Int32.ofInt u17), .ref q19, .ref q20, .ref q21, .ref q22, .ref q23, .ref q24, .ref q25, .ref q26, .ref q27, .ref q28, .ref q29, .ref q30, .long (Int64.ofInt u18), .ref q31, .int (Int32.ofInt u19)]))]
def wf_HM_isSign (cA : Nat → ClassId) (q0 q1 q2 q3 q4 q5 q6 q7 q8 q9 q10 q11 q12 q13 q14 q15 q16 q17 q18 q19 q20 q21 q22 q23 q24 q25 q26 q27 q28 q29 q30 q31 : Nat) (u0 u1 u2 u3 u4 u5 u6 u7 u8 u9 u10 u11 u12 u13 u14 u15 u16 u17 u18 u19 : Int) (i_sort : Int) (i_worth : Int) (o : Int) : va_W := wd_HM_isSign cA q0 q1 q2 q3 q4 q5 q6 q7 q8 q9 q10 q11 q12 q13 q14 q15 q16 q17 q18 q19 q20 q21 q22 q23 q24 q25 q26 q27 q28 q29 q30 q31 u0 u1 u2 u3 u4 u5 u6 u7 u8 u9 u10 u11 u12 u13 u14 u15 u16 u17 u18 u19 i_sort i_worth
def f_HM_isSign (x1 : Int) (i_sort : Int) (i_worth : Int) : Option (Int) :=
  if zi_w i_sort ≠ zi_w 3 then
    some 0
  else
    zn (zi_w x1) fun v1 =>
    if zl_w i_worth ≠ zl_w v1 then
      some 0
    else
      some 1
set_option maxHeartbeats 4000000 in
set_option maxRecDepth 100000 in
theorem c_HM_isSign (l : Launch) (ev : zEv) (dC : Nat → ClassId) (dI : Nat → Nat → Nat) (cA : Nat → ClassId) (q0 q1 q2 q3 q4 q5 q6 q7 q8 q9 q10 q11 q12 q13 q14 q15 q16 q17 q18 q19 q20 q21 q22 q23 q24 q25 q26 q27 q28 q29 q30 q31 : Nat) (u0 u1 u2 u3 u4 u5 u6 u7 u8 u9 u10 u11 u12 u13 u14 u15 u16 u17 u18 u19 : Int) {x1 : Int} {i_sort : Int} {i_worth : Int} {out : Int} (hf : f_HM_isSign x1 i_sort i_worth = some out) : xc_I l ev (dC, dI) vwCl (tyl cA) yX11_isSign w_HM_isSign rm_HM_isSign [.ref q0, .int (Int32.ofInt x1)] (wd_HM_isSign cA q0 q1 q2 q3 q4 q5 q6 q7 q8 q9 q10 q11 q12 q13 q14 q15 q16 q17 q18 q19 q20 q21 q22 q23 q24 q25 q26 q27 q28 q29 q30 q31 u0 u1 u2 u3 u4 u5 u6 u7 u8 u9 u10 u11 u12 u13 u14 u15 u16 u17 u18 u19 i_sort i_worth) (wf_HM_isSign cA q0 q1 q2 q3 q4 q5 q6 q7 q8 q9 q10 q11 q12 q13 q14 q15 q16 q17 q18 q19 q20 q21 q22 q23 q24 q25 q26 q27 q28 q29 q30 q31 u0 u1 u2 u3 u4 u5 u6 u7 u8 u9 u10 u11 u12 u13 u14 u15 u16 u17 u18 u19 i_sort i_worth out) out := by
  refine xv_startI (cc := cX11_isSign) (maxL := 2) (rt := .boolean) (by decide +kernel) rfl (Nat.le_of_ble_eq_true rfl) ?_
  intro p e s m args below meth c A Q H ls hx hb hml hts hown hK hA hP hD hS hl hE hret
  have hown : s.vm.findClass "HillSchoolModel" = some m.cls := hown
  have hz : ∀ w ∈ zall, w.before args s = true := fun w h => hts w (List.mem_cons_of_mem _ h)
  have hl : lv_has ls 2 [(0, .ref q0), (1, .int (Int32.ofInt x1))] := hl
  unfold f_HM_isSign at hf
  refine lv_aload_n hx hb dX11_isSign_0 rfl (lv_at hl 0 rfl) ?_
  refine va_get (D := (dC, dI)) (ci := 11) (v := .int (Int32.ofInt i_sort)) (C := RX11) (T := TX11) (N := 53) hx hb hz zi_X11 hown hK hP 0 rfl rfl 11 (by decide) (hz _ zw_1176) (fun _ h9 => h9) rfl dX11_isSign_1 ?_
  refine lv_iconst (v := Int32.ofInt 3) hx hb dX11_isSign_4 rfl ?_
  refine xi_icmp_ne (tgt := 22) hx hb dX11_isSign_5 (by decide) hf (fun hf => ?_) (fun hf => ?_)
  · refine lv_iconst (v := Int32.ofInt 0) hx hb dX11_isSign_22 rfl ?_
    obtain rfl := Option.some.inj hf
    exact hret _ _ _ _ zz_b0 dX11_isSign_23 hP hD hS
  · refine lv_aload_n hx hb dX11_isSign_8 rfl (lv_at hl 0 rfl) ?_
    refine va_get (D := (dC, dI)) (ci := 11) (v := .long (Int64.ofInt i_worth)) (C := RX11) (T := TX11) (N := 53) hx hb hz zi_X11 hown hK hP 0 rfl rfl 12 (by decide) (hz _ zw_1177) (fun _ h9 => h9) rfl dX11_isSign_9 ?_
    refine lv_iload_n hx hb dX11_isSign_12 rfl (lv_at hl 1 rfl) ?_
    refine xi_i2l hx hb dX11_isSign_13 hf (fun v1 hf => ?_)
    refine xl_cmp_ne (tgt := 22) hx hb dX11_isSign_14 dX11_isSign_15 (by decide) hf (fun hf => ?_) (fun hf => ?_)
    · refine lv_iconst (v := Int32.ofInt 0) hx hb dX11_isSign_22 rfl ?_
      obtain rfl := Option.some.inj hf
      exact hret _ _ _ _ zz_b0 dX11_isSign_23 hP hD hS
    · refine lv_iconst (v := Int32.ofInt 1) hx hb dX11_isSign_18 rfl ?_
      refine lv_goto (tgt := 23) hx hb dX11_isSign_19 (by decide) ?_
      obtain rfl := Option.some.inj hf
      exact hret _ _ _ _ zz_b1 dX11_isSign_23 hP hD hS
theorem dX11_leaf_0 : decode cX11_leaf 0 = .ok (.aload_n 0, 1) := by decide +kernel
theorem dX11_leaf_1 : decode cX11_leaf 1 = .ok (.iload_n 1, 1) := by decide +kernel
theorem dX11_leaf_2 : decode cX11_leaf 2 = .ok (.ifCond .eq 16, 3) := by decide +kernel
theorem dX11_leaf_5 : decode cX11_leaf 5 = .ok (.aload_n 0, 1) := by decide +kernel
theorem dX11_leaf_6 : decode cX11_leaf 6 = .ok (.getfield 255, 3) := by decide +kernel
theorem dX11_leaf_9 : decode cX11_leaf 9 = .ok (.bipush 50, 2) := by decide +kernel
theorem dX11_leaf_11 : decode cX11_leaf 11 = .ok (.if_icmp .ge 7, 3) := by decide +kernel
theorem dX11_leaf_14 : decode cX11_leaf 14 = .ok (.iconst 1, 1) := by decide +kernel
theorem dX11_leaf_15 : decode cX11_leaf 15 = .ok (.goto 4, 3) := by decide +kernel
theorem dX11_leaf_18 : decode cX11_leaf 18 = .ok (.iconst 0, 1) := by decide +kernel
theorem dX11_leaf_19 : decode cX11_leaf 19 = .ok (.invokevirtual 220, 3) := by decide +kernel
theorem dX11_leaf_22 : decode cX11_leaf 22 = .ok (.aload_n 0, 1) := by decide +kernel
theorem dX11_leaf_23 : decode cX11_leaf 23 = .ok (.getfield 185, 3) := by decide +kernel
theorem dX11_leaf_26 : decode cX11_leaf 26 = .ok (.ifCond .ne 19, 3) := by decide +kernel
theorem dX11_leaf_29 : decode cX11_leaf 29 = .ok (.aload_n 0, 1) := by decide +kernel
theorem dX11_leaf_30 : decode cX11_leaf 30 = .ok (.iload_n 2, 1) := by decide +kernel
theorem dX11_leaf_31 : decode cX11_leaf 31 = .ok (.iload_n 3, 1) := by decide +kernel
theorem dX11_leaf_32 : decode cX11_leaf 32 = .ok (.invokevirtual 233, 3) := by decide +kernel
theorem dX11_leaf_35 : decode cX11_leaf 35 = .ok (.aload_n 0, 1) := by decide +kernel
theorem dX11_leaf_36 : decode cX11_leaf 36 = .ok (.dup, 1) := by decide +kernel
theorem dX11_leaf_37 : decode cX11_leaf 37 = .ok (.getfield 255, 3) := by decide +kernel
theorem dX11_leaf_40 : decode cX11_leaf 40 = .ok (.iconst 1, 1) := by decide +kernel
theorem dX11_leaf_41 : decode cX11_leaf 41 = .ok (.iadd, 1) := by decide +kernel
theorem dX11_leaf_42 : decode cX11_leaf 42 = .ok (.putfield 255, 3) := by decide +kernel
theorem dX11_leaf_45 : decode cX11_leaf 45 = .ok (.return_, 1) := by decide +kernel
theorem zw_1185 : (Jvm.Cond.fieldLink "HillSchoolModel" (255 : Nat) "HillSchoolModel" "nLeaves" "I") ∈ zall := zmemG (zmj_5 122 rfl) rfl
theorem zw_1502 : (Jvm.Cond.code ({ cls := "HillSchoolModel", name := "leaf", desc := "(ZII)V" } : Jvm.MethodName) prog_13_method_47_code (4 : Nat) (Option.none : Option Jvm.ClassFile.FieldType)) ∈ zall := zmemG (zmj_6 199 rfl) rfl
abbrev w_HM_leaf : List Cond := .code yX11_leaf cX11_leaf 4 none :: zall
abbrev rm_HM_leaf : Room := { frames := 3, cells := 0, slots := 0, locals := 61 }
theorem hd_HM_leaf : yX11_leaf.cls = "HillSchoolModel" ∧ yX11_leaf.cls ≠ "java/lang/invoke/MethodHandle" ∧ yX11_leaf.cls ≠ "java/lang/invoke/VarHandle" ∧ (parseMethodDescriptor yX11_leaf.desc).map (fun d => d.parameters.length) = some 3 := by decide +kernel
def wd_HM_leaf (cA : Nat → ClassId) (q0 q1 q2 q3 q4 q5 q6 q7 q8 q9 q10 q11 q12 q13 q14 q15 q16 q17 q18 q19 q20 q21 q22 q23 q24 q25 q26 q27 q28 q29 q30 q31 : Nat) (u0 u1 u2 u3 u4 u5 u6 u7 u8 u9 u10 u11 u12 : Int) (i_taped : Int) (i_tape : Nat → Int) (i_from : Int) (i_to : Int) (i_sort : Int) (i_worth : Int) (i_fault : Int) (i_bad : Int) (i_nCode : Int) (i_nLeaves : Int) (i_nOp : Nat → Int) (i_nArg : Nat → Int) : va_W := [(q0, .inr (11, [.int (Int32.ofInt u0), .int (Int32.ofInt u1), .ref q1, .ref q2, .ref q3, .ref q4, .int (Int32.ofInt u2), .ref q5, .int (Int32.ofInt i_taped), .int (Int32.ofInt i_from), .int (Int32.ofInt i_to), .int (Int32.ofInt i_sort), .long (Int64.ofInt i_worth), .int (Int32.ofInt i_fault), .int (Int32.ofInt i_bad), .int (Int32.ofInt u3), .ref q6, .int (Int32.ofInt i_nCode), .ref q7, .ref q8, .int (Int32.ofInt i_nLeaves), .ref q9, .ref q10, .int (Int32.ofInt u4), .int (Int32.ofInt u5), .ref q11, .int (Int32.ofInt u6), .ref q12, .ref q13, .int (Int32.ofInt u7), .long (Int64.ofInt u8), .long (Int64.ofInt u9), .ref q14, .ref q15, .ref q16, .ref q17, .ref q18, .int (Int32.ofInt u10), .ref q19, .ref q20, .ref q21, .ref q22, .ref q23, .ref q24, .ref q25, .ref q26, .ref q27, .ref q28, .ref q29, .ref q30, .long (Int64.ofInt u11), .ref q31, .int (Int32.ofInt u12)])), (q5, .inl (cA 0, 400, .inl (za i_tape))), (q7, .inl (cA 0, 400, .inl (za i_nOp))), (q8, .inl (cA 0, 400, .inl (za i_nArg)))]
def wf_HM_leaf (cA : Nat → ClassId) (q0 q1 q2 q3 q4 q5 q6 q7 q8 q9 q10 q11 q12 q13 q14 q15 q16 q17 q18 q19 q20 q21 q22 q23 q24 q25 q26 q27 q28 q29 q30 q31 : Nat) (u0 u1 u2 u3 u4 u5 u6 u7 u8 u9 u10 u11 u12 : Int) (i_taped : Int) (i_tape : Nat → Int) (o : Int × Int × Int × Int × Int × Int × Int × Int × (Nat → Int) × (Nat → Int)) : va_W := wd_HM_leaf cA q0 q1 q2 q3 q4 q5 q6 q7 q8 q9 q10 q11 q12 q13 q14 q15 q16 q17 q18 q19 q20 q21 q22 q23 q24 q25 q26 q27 q28 q29 q30 q31 u0 u1 u2 u3 u4 u5 u6 u7 u8 u9 u10 u11 u12 i_taped i_tape o.1 o.2.1 o.2.2.1 o.2.2.2.1 o.2.2.2.2.1 o.2.2.2.2.2.1 o.2.2.2.2.2.2.1 o.2.2.2.2.2.2.2.1 o.2.2.2.2.2.2.2.2.1 o.2.2.2.2.2.2.2.2.2
def f_HM_leaf_19 (i_taped : Int) (i_tape : Nat → Int) (x2 : Int) (x3 : Int) (s1 : Int) (i_from : Int) (i_to : Int) (i_sort : Int) (i_worth : Int) (i_fault : Int) (i_bad : Int) (i_nCode : Int) (i_nLeaves : Int) (i_nOp : Nat → Int) (i_nArg : Nat → Int) : Option (Int × Int × Int × Int × Int × Int × Int × Int × (Nat → Int) × (Nat → Int)) :=
  zd6 (f_HM_must s1 i_taped i_tape i_from i_to i_sort i_worth i_fault i_bad) fun v1 v2 v3 v4 v5 v6 =>
  if zi_w v6 ≠ 0 then
    some (v1, v2, v3, v4, v5, v6, i_nCode, i_nLeaves, i_nOp, i_nArg)
  else
    zd3 (f_HM_emit x2 x3 i_nCode i_nOp i_nArg) fun v7 a8 a9 =>
    zn (i_nLeaves + 1) fun v10 =>
    some (v1, v2, v3, v4, v5, v6, v7, v10, a8, a9)
def f_HM_leaf_18 (i_taped : Int) (i_tape : Nat → Int) (x2 : Int) (x3 : Int) (i_from : Int) (i_to : Int) (i_sort : Int) (i_worth : Int) (i_fault : Int) (i_bad : Int) (i_nCode : Int) (i_nLeaves : Int) (i_nOp : Nat → Int) (i_nArg : Nat → Int) : Option (Int × Int × Int × Int × Int × Int × Int × Int × (Nat → Int) × (Nat → Int)) :=
  f_HM_leaf_19 i_taped i_tape x2 x3 0 i_from i_to i_sort i_worth i_fault i_bad i_nCode i_nLeaves i_nOp i_nArg
def f_HM_leaf (x1 : Int) (x2 : Int) (x3 : Int) (i_taped : Int) (i_tape : Nat → Int) (i_from : Int) (i_to : Int) (i_sort : Int) (i_worth : Int) (i_fault : Int) (i_bad : Int) (i_nCode : Int) (i_nLeaves : Int) (i_nOp : Nat → Int) (i_nArg : Nat → Int) : Option (Int × Int × Int × Int × Int × Int × Int × Int × (Nat → Int) × (Nat → Int)) :=
  if zi_w x1 = 0 then
    f_HM_leaf_18 i_taped i_tape x2 x3 i_from i_to i_sort i_worth i_fault i_bad i_nCode i_nLeaves i_nOp i_nArg
  else
    if zi_w 50 ≤ zi_w i_nLeaves then
      f_HM_leaf_18 i_taped i_tape x2 x3 i_from i_to i_sort i_worth i_fault i_bad i_nCode i_nLeaves i_nOp i_nArg
    else
      f_HM_leaf_19 i_taped i_tape x2 x3 1 i_from i_to i_sort i_worth i_fault i_bad i_nCode i_nLeaves i_nOp i_nArg
set_option maxHeartbeats 4000000 in
set_option maxRecDepth 100000 in
theorem c_HM_leaf (l : Launch) (ev : zEv) (dC : Nat → ClassId) (dI : Nat → Nat → Nat) (cA : Nat → ClassId) (q0 q1 q2 q3 q4 q5 q6 q7 q8 q9 q10 q11 q12 q13 q14 q15 q16 q17 q18 q19 q20 q21 q22 q23 q24 q25 q26 q27 q28 q29 q30 q31 : Nat) (u0 u1 u2 u3 u4 u5 u6 u7 u8 u9 u10 u11 u12 : Int) {x1 x2 x3 : Int} {i_taped : Int} {i_tape : Nat → Int} {i_from : Int} {i_to : Int} {i_sort : Int} {i_worth : Int} {i_fault : Int} {i_bad : Int} {i_nCode : Int} {i_nLeaves : Int} {i_nOp : Nat → Int} {i_nArg : Nat → Int} {out : Int × Int × Int × Int × Int × Int × Int × Int × (Nat → Int) × (Nat → Int)} (hf : f_HM_leaf x1 x2 x3 i_taped i_tape i_from i_to i_sort i_worth i_fault i_bad i_nCode i_nLeaves i_nOp i_nArg = some out) : xc_V l ev (dC, dI) vwCl (tyl cA) yX11_leaf w_HM_leaf rm_HM_leaf [.ref q0, .int (Int32.ofInt x1), .int (Int32.ofInt x2), .int (Int32.ofInt x3)] (wd_HM_leaf cA q0 q1 q2 q3 q4 q5 q6 q7 q8 q9 q10 q11 q12 q13 q14 q15 q16 q17 q18 q19 q20 q21 q22 q23 q24 q25 q26 q27 q28 q29 q30 q31 u0 u1 u2 u3 u4 u5 u6 u7 u8 u9 u10 u11 u12 i_taped i_tape i_from i_to i_sort i_worth i_fault i_bad i_nCode i_nLeaves i_nOp i_nArg) (wf_HM_leaf cA q0 q1 q2 q3 q4 q5 q6 q7 q8 q9 q10 q11 q12 q13 q14 q15 q16 q17 q18 q19 q20 q21 q22 q23 q24 q25 q26 q27 q28 q29 q30 q31 u0 u1 u2 u3 u4 u5 u6 u7 u8 u9 u10 u11 u12 i_taped i_tape out) := by
  refine xv_startV (cc := cX11_leaf) (maxL := 4) (by decide +kernel) rfl (Nat.le_of_ble_eq_true rfl) ?_
  intro p e s m args below meth c A Q H ls hx hb hml hts hown hK hA hP hD hS hl hE hret
  have hown : s.vm.findClass "HillSchoolModel" = some m.cls := hown
  have hz : ∀ w ∈ zall, w.before args s = true := fun w h => hts w (List.mem_cons_of_mem _ h)
  have hl : lv_has ls 4 [(0, .ref q0), (1, .int (Int32.ofInt x1)), (2, .int (Int32.ofInt x2)), (3, .int (Int32.ofInt x3))] := hl
  have b_19 : ∀ (x2 : Int) (x3 : Int) (s1 : Int) (i_from : Int) (i_to : Int) (i_sort : Int) (i_worth : Int) (i_fault : Int) (i_bad : Int) (i_nCode : Int) (i_nLeaves : Int) (i_nOp : Nat → Int) (i_nArg : Nat → Int) (H : Heap) (locs : List Loc) (ls : Array Slot), f_HM_leaf_19 i_taped i_tape x2 x3 s1 i_from i_to i_sort i_worth i_fault i_bad i_nCode i_nLeaves i_nOp i_nArg = some out → va_P (dC, dI) vwCl (wd_HM_leaf cA q0 q1 q2 q3 q4 q5 q6 q7 q8 q9 q10 q11 q12 q13 q14 q15 q16 q17 q18 q19 q20 q21 q22 q23 q24 q25 q26 q27 q28 q29 q30 q31 u0 u1 u2 u3 u4 u5 u6 u7 u8 u9 u10 u11 u12 i_taped i_tape i_from i_to i_sort i_worth i_fault i_bad i_nCode i_nLeaves i_nOp i_nArg) H → va_D A (wd_HM_leaf cA q0 q1 q2 q3 q4 q5 q6 q7 q8 q9 q10 q11 q12 q13 q14 q15 q16 q17 q18 q19 q20 q21 q22 q23 q24 q25 q26 q27 q28 q29 q30 q31 u0 u1 u2 u3 u4 u5 u6 u7 u8 u9 u10 u11 u12 i_taped i_tape i_from i_to i_sort i_worth i_fault i_bad i_nCode i_nLeaves i_nOp i_nArg) → va_S A s.heap H locs → lv_has ls 4 [(0, .ref q0), (2, .int (Int32.ofInt x2)), (3, .int (Int32.ofInt x3))] → W p l e rm_HM_leaf s m args below meth c H locs 0 0 Q (F0 m 19 ls [.int (Int32.ofInt s1), .ref q0]) := by
    intro x2 x3 s1 i_from i_to i_sort i_worth i_fault i_bad i_nCode i_nLeaves i_nOp i_nArg H locs ls hf hP hD hS hl
    unfold f_HM_leaf_19 at hf
    refine xe_d6 hf (fun v1 v2 v3 v4 v5 v6 hg hf => ?_)
    have hC : ([0, 1] : List Nat).map (fun i => (wd_HM_leaf cA q0 q1 q2 q3 q4 q5 q6 q7 q8 q9 q10 q11 q12 q13 q14 q15 q16 q17 q18 q19 q20 q21 q22 q23 q24 q25 q26 q27 q28 q29 q30 q31 u0 u1 u2 u3 u4 u5 u6 u7 u8 u9 u10 u11 u12 i_taped i_tape i_from i_to i_sort i_worth i_fault i_bad i_nCode i_nLeaves i_nOp i_nArg)[i]?) = (wd_HM_must cA q0 q1 q2 q3 q4 q5 q6 q7 q8 q9 q10 q11 q12 q13 q14 q15 q16 q17 q18 q19 q20 q21 q22 q23 q24 q25 q26 q27 q28 q29 q30 q31 u0 u1 u2 u3 i_nCode i_nLeaves u4 u5 u6 u7 u8 u9 u10 u11 u12 i_taped i_tape i_from i_to i_sort i_worth i_fault i_bad).map some := rfl
    refine xv_afterV (ws' := (wd_HM_leaf cA q0 q1 q2 q3 q4 q5 q6 q7 q8 q9 q10 q11 q12 q13 q14 q15 q16 q17 q18 q19 q20 q21 q22 q23 q24 q25 q26 q27 q28 q29 q30 q31 u0 u1 u2 u3 u4 u5 u6 u7 u8 u9 u10 u11 u12 i_taped i_tape v1 v2 v3 v4 v5 v6 i_nCode i_nLeaves i_nOp i_nArg)) (isC := [0, 1]) (ps := [some 0, some 1, none, none]) (va_runV (As := [.int (Int32.ofInt s1)]) (rest := []) ⟨hx, hb, hml, hown, hts⟩ (c_HM_must l ev dC dI cA q0 q1 q2 q3 q4 q5 q6 q7 q8 q9 q10 q11 q12 q13 q14 q15 q16 q17 q18 q19 q20 q21 q22 q23 q24 q25 q26 q27 q28 q29 q30 q31 u0 u1 u2 u3 i_nCode i_nLeaves u4 u5 u6 u7 u8 u9 u10 u11 u12 hg H.size) (cwV 1 hts (zgV zw_1465 zw_1467 zw_50 zw_115 zw_1468) rfl rfl rfl hd_HM_must ⟨Nat.le_of_ble_eq_true rfl, Nat.le_of_ble_eq_true rfl⟩) (xv_preV (T := TX11) (N := 53) hE hA hS hK hP hD (isC := [0, 1]) (by decide +kernel) hC (q0 := 0) (ci := 11) rfl rfl) rfl rfl hl.1 rfl (lv_room (Nat.le_of_ble_eq_true rfl)) dX11_leaf_19 ⟨Nat.le_refl _, Nat.le_refl _⟩) hP hD hS hA (by decide +kernel) rfl hC rfl rfl (fun H locs hP hD hS => ?_)
    refine lv_aload_n hx hb dX11_leaf_22 rfl (lv_at hl 0 rfl) ?_
    refine va_get (D := (dC, dI)) (ci := 11) (v := .int (Int32.ofInt v6)) (C := RX11) (T := TX11) (N := 53) hx hb hz zi_X11 hown hK hP 0 rfl rfl 14 (by decide) (hz _ zw_1179) (fun _ h9 => h9) rfl dX11_leaf_23 ?_
    refine xi_if_ne (tgt := 45) hx hb dX11_leaf_26 (by decide) hf (fun hf => ?_) (fun hf => ?_)
    · obtain rfl := Option.some.inj hf
      exact hret _ _ _ _ dX11_leaf_45 hP hD hS
    · refine lv_aload_n hx hb dX11_leaf_29 rfl (lv_at hl 0 rfl) ?_
      refine lv_iload_n hx hb dX11_leaf_30 rfl (lv_at hl 1 rfl) ?_
      refine lv_iload_n hx hb dX11_leaf_31 rfl (lv_at hl 2 rfl) ?_
      refine xe_d3 hf (fun v7 a8 a9 hg hf => ?_)
      have hC : ([0, 2, 3] : List Nat).map (fun i => (wd_HM_leaf cA q0 q1 q2 q3 q4 q5 q6 q7 q8 q9 q10 q11 q12 q13 q14 q15 q16 q17 q18 q19 q20 q21 q22 q23 q24 q25 q26 q27 q28 q29 q30 q31 u0 u1 u2 u3 u4 u5 u6 u7 u8 u9 u10 u11 u12 i_taped i_tape v1 v2 v3 v4 v5 v6 i_nCode i_nLeaves i_nOp i_nArg)[i]?) = (wd_HM_emit cA q0 q1 q2 q3 q4 q5 q6 q7 q8 q9 q10 q11 q12 q13 q14 q15 q16 q17 q18 q19 q20 q21 q22 q23 q24 q25 q26 q27 q28 q29 q30 q31 u0 u1 u2 i_taped v1 v2 v3 v4 v5 v6 u3 i_nLeaves u4 u5 u6 u7 u8 u9 u10 u11 u12 i_nCode i_nOp i_nArg).map some := rfl
      refine xv_afterV (ws' := (wd_HM_leaf cA q0 q1 q2 q3 q4 q5 q6 q7 q8 q9 q10 q11 q12 q13 q14 q15 q16 q17 q18 q19 q20 q21 q22 q23 q24 q25 q26 q27 q28 q29 q30 q31 u0 u1 u2 u3 u4 u5 u6 u7 u8 u9 u10 u11 u12 i_taped i_tape v1 v2 v3 v4 v5 v6 v7 i_nLeaves a8 a9)) (isC := [0, 2, 3]) (ps := [some 0, none, some 1, some 2]) (va_runV (As := [.int (Int32.ofInt x2), .int (Int32.ofInt x3)]) (rest := []) ⟨hx, hb, hml, hown, hts⟩ (c_HM_emit l ev dC dI cA q0 q1 q2 q3 q4 q5 q6 q7 q8 q9 q10 q11 q12 q13 q14 q15 q16 q17 q18 q19 q20 q21 q22 q23 q24 q25 q26 q27 q28 q29 q30 q31 u0 u1 u2 i_taped v1 v2 v3 v4 v5 v6 u3 i_nLeaves u4 u5 u6 u7 u8 u9 u10 u11 u12 hg H.size) (cwV 2 hts (zgV zw_1503 zw_1505 zw_59 zw_115 zw_1506) rfl rfl rfl hd_HM_emit ⟨Nat.le_of_ble_eq_true rfl, Nat.le_of_ble_eq_true rfl⟩) (xv_preV (T := TX11) (N := 53) hE hA hS hK hP hD (isC := [0, 2, 3]) (by decide +kernel) hC (q0 := 0) (ci := 11) rfl rfl) rfl rfl hl.1 rfl (lv_room (Nat.le_of_ble_eq_true rfl)) dX11_leaf_32 ⟨Nat.le_refl _, Nat.le_refl _⟩) hP hD hS hA (by decide +kernel) rfl hC rfl rfl (fun H locs hP hD hS => ?_)
      refine lv_aload_n hx hb dX11_leaf_35 rfl (lv_at hl 0 rfl) ?_
      refine lv_dup hx hb dX11_leaf_36 rfl ?_
      refine va_get (D := (dC, dI)) (ci := 11) (v := .int (Int32.ofInt i_nLeaves)) (C := RX11) (T := TX11) (N := 53) hx hb hz zi_X11 hown hK hP 0 rfl rfl 20 (by decide) (hz _ zw_1185) (fun _ h9 => h9) rfl dX11_leaf_37 ?_
      refine lv_iconst (v := Int32.ofInt 1) hx hb dX11_leaf_40 rfl ?_
      refine xi_iadd hx hb dX11_leaf_41 hf (fun v10 hf => ?_)
      refine va_put (D := (dC, dI)) (ci := 11) (v := .int (Int32.ofInt v10)) (ty := .int) (C := RX11) (T := TX11) (N := 53) hx hb hz zi_X11 tyX11 tyX11_ok nmX11 hown hK hP hD hS 0 rfl rfl 20 (by decide) (hz _ zw_1185) (fun _ h9 => h9) rfl (by decide +kernel) rfl rfl (Nat.le_of_ble_eq_true rfl) dX11_leaf_42 (fun H locs hP hD hS => ?_)
      have hP : va_P (dC, dI) vwCl (wd_HM_leaf cA q0 q1 q2 q3 q4 q5 q6 q7 q8 q9 q10 q11 q12 q13 q14 q15 q16 q17 q18 q19 q20 q21 q22 q23 q24 q25 q26 q27 q28 q29 q30 q31 u0 u1 u2 u3 u4 u5 u6 u7 u8 u9 u10 u11 u12 i_taped i_tape v1 v2 v3 v4 v5 v6 v7 v10 a8 a9) H := hP
      have hD : va_D A (wd_HM_leaf cA q0 q1 q2 q3 q4 q5 q6 q7 q8 q9 q10 q11 q12 q13 q14 q15 q16 q17 q18 q19 q20 q21 q22 q23 q24 q25 q26 q27 q28 q29 q30 q31 u0 u1 u2 u3 u4 u5 u6 u7 u8 u9 u10 u11 u12 i_taped i_tape v1 v2 v3 v4 v5 v6 v7 v10 a8 a9) := hD
      obtain rfl := Option.some.inj hf
      exact hret _ _ _ _ dX11_leaf_45 hP hD hS
  have b_18 : ∀ (x2 : Int) (x3 : Int) (i_from : Int) (i_to : Int) (i_sort : Int) (i_worth : Int) (i_fault : Int) (i_bad : Int) (i_nCode : Int) (i_nLeaves : Int) (i_nOp : Nat → Int) (i_nArg : Nat → Int) (H : Heap) (locs : List Loc) (ls : Array Slot), f_HM_leaf_18 i_taped i_tape x2 x3 i_from i_to i_sort i_worth i_fault i_bad i_nCode i_nLeaves i_nOp i_nArg = some out → va_P (dC, dI) vwCl (wd_HM_leaf cA q0 q1 q2 q3 q4 q5 q6 q7 q8 q9 q10 q11 q12 q13 q14 q15 q16 q17 q18 q19 q20 q21 q22 q23 q24 q25 q26 q27 q28 q29 q30 q31 u0 u1 u2 u3 u4 u5 u6 u7 u8 u9 u10 u11 u12 i_taped i_tape i_from i_to i_sort i_worth i_fault i_bad i_nCode i_nLeaves i_nOp i_nArg) H → va_D A (wd_HM_leaf cA q0 q1 q2 q3 q4 q5 q6 q7 q8 q9 q10 q11 q12 q13 q14 q15 q16 q17 q18 q19 q20 q21 q22 q23 q24 q25 q26 q27 q28 q29 q30 q31 u0 u1 u2 u3 u4 u5 u6 u7 u8 u9 u10 u11 u12 i_taped i_tape i_from i_to i_sort i_worth i_fault i_bad i_nCode i_nLeaves i_nOp i_nArg) → va_S A s.heap H locs → lv_has ls 4 [(0, .ref q0), (2, .int (Int32.ofInt x2)), (3, .int (Int32.ofInt x3))] → W p l e rm_HM_leaf s m args below meth c H locs 0 0 Q (F0 m 18 ls [.ref q0]) := by
    intro x2 x3 i_from i_to i_sort i_worth i_fault i_bad i_nCode i_nLeaves i_nOp i_nArg H locs ls hf hP hD hS hl
    unfold f_HM_leaf_18 at hf
    refine lv_iconst (v := Int32.ofInt 0) hx hb dX11_leaf_18 rfl ?_
    exact b_19  _ _ _ _ _ _ _ _ _ _ _ _ _ _ _ _ hf hP hD hS (lv_sub hl [0, 1, 2] rfl)
  unfold f_HM_leaf at hf
  refine lv_aload_n hx hb dX11_leaf_0 rfl (lv_at hl 0 rfl) ?_
  refine lv_iload_n hx hb dX11_leaf_1 rfl (lv_at hl 1 rfl) ?_
  refine xi_if_eq (tgt := 18) hx hb dX11_leaf_2 (by decide) hf (fun hf => ?_) (fun hf => ?_)
  · exact b_18  _ _ _ _ _ _ _ _ _ _ _ _ _ _ _ hf hP hD hS (lv_sub hl [0, 2, 3] rfl)
  · refine lv_aload_n hx hb dX11_leaf_5 rfl (lv_at hl 0 rfl) ?_
    refine va_get (D := (dC, dI)) (ci := 11) (v := .int (Int32.ofInt i_nLeaves)) (C := RX11) (T := TX11) (N := 53) hx hb hz zi_X11 hown hK hP 0 rfl rfl 20 (by decide) (hz _ zw_1185) (fun _ h9 => h9) rfl dX11_leaf_6 ?_
    refine lv_bipush (v := Int32.ofInt 50) hx hb dX11_leaf_9 (by decide) ?_
    refine xi_icmp_ge (tgt := 18) hx hb dX11_leaf_11 (by decide) hf (fun hf => ?_) (fun hf => ?_)
    · exact b_18  _ _ _ _ _ _ _ _ _ _ _ _ _ _ _ hf hP hD hS (lv_sub hl [0, 2, 3] rfl)
    · refine lv_iconst (v := Int32.ofInt 1) hx hb dX11_leaf_14 rfl ?_
      refine lv_goto (tgt := 19) hx hb dX11_leaf_15 (by decide) ?_
      exact b_19  _ _ _ _ _ _ _ _ _ _ _ _ _ _ _ _ hf hP hD hS (lv_sub hl [0, 2, 3] rfl)
theorem dX11_partAt_0 : decode cX11_partAt 0 = .ok (.iconst (-1), 1) := by decide +kernel
theorem dX11_partAt_1 : decode cX11_partAt 1 = .ok (.istore_n 1, 1) := by decide +kernel
theorem dX11_partAt_2 : decode cX11_partAt 2 = .ok (.iconst 0, 1) := by decide +kernel
theorem dX11_partAt_3 : decode cX11_partAt 3 = .ok (.istore_n 2, 1) := by decide +kernel
theorem dX11_partAt_4 : decode cX11_partAt 4 = .ok (.iload_n 2, 1) := by decide +kernel
theorem dX11_partAt_5 : decode cX11_partAt 5 = .ok (.bipush 8, 2) := by decide +kernel
theorem dX11_partAt_7 : decode cX11_partAt 7 = .ok (.if_icmp .ge 30, 3) := by decide +kernel
theorem dX11_partAt_10 : decode cX11_partAt 10 = .ok (.aload_n 0, 1) := by decide +kernel
theorem dX11_partAt_11 : decode cX11_partAt 11 = .ok (.aload_n 0, 1) := by decide +kernel
theorem dX11_partAt_12 : decode cX11_partAt 12 = .ok (.getfield 61, 3) := by decide +kernel
theorem dX11_partAt_15 : decode cX11_partAt 15 = .ok (.iload_n 2, 1) := by decide +kernel
theorem dX11_partAt_16 : decode cX11_partAt 16 = .ok (.laload, 1) := by decide +kernel
theorem dX11_partAt_17 : decode cX11_partAt 17 = .ok (.invokevirtual 245, 3) := by decide +kernel
theorem dX11_partAt_20 : decode cX11_partAt 20 = .ok (.ifCond .eq 9, 3) := by decide +kernel
theorem dX11_partAt_23 : decode cX11_partAt 23 = .ok (.iload_n 2, 1) := by decide +kernel
theorem dX11_partAt_24 : decode cX11_partAt 24 = .ok (.iconst 1, 1) := by decide +kernel
theorem dX11_partAt_25 : decode cX11_partAt 25 = .ok (.iadd, 1) := by decide +kernel
theorem dX11_partAt_26 : decode cX11_partAt 26 = .ok (.goto 4, 3) := by decide +kernel
theorem dX11_partAt_29 : decode cX11_partAt 29 = .ok (.iload_n 1, 1) := by decide +kernel
theorem dX11_partAt_30 : decode cX11_partAt 30 = .ok (.istore_n 1, 1) := by decide +kernel
theorem dX11_partAt_31 : decode cX11_partAt 31 = .ok (.iinc 2 1, 3) := by decide +kernel
theorem dX11_partAt_34 : decode cX11_partAt 34 = .ok (.goto (-30), 3) := by decide +kernel
theorem dX11_partAt_37 : decode cX11_partAt 37 = .ok (.iload_n 1, 1) := by decide +kernel
theorem dX11_partAt_38 : decode cX11_partAt 38 = .ok (.ireturn, 1) := by decide +kernel
theorem zw_49 : (Jvm.Cond.selects "HillSchoolModel" ({ cls := "HillSchoolModel", name := "isWord", desc := "(J)Z" } : Jvm.MethodName) ({ cls := "HillSchoolModel", name := "isWord", desc := "(J)Z" } : Jvm.MethodName)) ∈ zall := zmemG (zmj_0 49 rfl) rfl
theorem zw_1190 : (Jvm.Cond.fieldLink "HillSchoolModel" (61 : Nat) "HillSchoolModel" "words" "[J") ∈ zall := zmemG (zmj_5 127 rfl) rfl
theorem zw_1460 : (Jvm.Cond.methodLink "HillSchoolModel" (245 : Nat) ({ cls := "HillSchoolModel", name := "isWord", desc := "(J)Z" } : Jvm.MethodName)) ∈ zall := zmemG (zmj_6 157 rfl) rfl
theorem zw_1462 : (Jvm.Cond.instanceMethod ({ cls := "HillSchoolModel", name := "isWord", desc := "(J)Z" } : Jvm.MethodName)) ∈ zall := zmemG (zmj_6 159 rfl) rfl
theorem zw_1497 : (Jvm.Cond.code ({ cls := "HillSchoolModel", name := "partAt", desc := "()I" } : Jvm.MethodName) prog_13_method_45_code (3 : Nat) (Option.some Jvm.ClassFile.FieldType.int)) ∈ zall := zmemG (zmj_6 194 rfl) rfl
abbrev w_HM_partAt : List Cond := .code yX11_partAt cX11_partAt 3 (some .int) :: zall
abbrev rm_HM_partAt : Room := { frames := 1, cells := 0, slots := 0, locals := 22 }
theorem hd_HM_partAt : yX11_partAt.cls = "HillSchoolModel" ∧ yX11_partAt.cls ≠ "java/lang/invoke/MethodHandle" ∧ yX11_partAt.cls ≠ "java/lang/invoke/VarHandle" ∧ (parseMethodDescriptor yX11_partAt.desc).map (fun d => d.parameters.length) = some 0 := by decide +kernel
def wd_HM_partAt (cA : Nat → ClassId) (q0 q1 q2 q3 q4 q5 q6 q7 q8 q9 q10 q11 q12 q13 q14 q15 q16 q17 q18 q19 q20 q21 q22 q23 q24 q25 q26 q27 q28 q29 q30 q31 : Nat) (u0 u1 u2 u3 u4 u5 u6 u7 u8 u9 u10 u11 u12 u13 u14 u15 u16 u17 u18 u19 : Int) (i_sort : Int) (i_worth : Int) (i_words : Nat → Int)  : va_W := [(q0, .inr (11, [.int (Int32.ofInt u0), .int (Int32.ofInt u1), .ref q1, .ref q2, .ref q3, .ref q4, .int (Int32.ofInt u2), .ref q5, .int (Int32.ofInt u3), .int (Int32.ofInt u4), .int (Int32.ofInt u5), .int (Int32.ofInt i_sort), .long (Int64.ofInt i_worth), .int (Int32.ofInt u6), .int (Int32.ofInt u7), .int (Int32.ofInt u8), .ref q6, .int (Int32.ofInt u9), .ref q7, .ref q8, .int (Int32.ofInt u10), .ref q9, .ref q10, .int (Int32.ofInt u11), .int (Int32.ofInt u12), .ref q11, .int (Int32.ofInt u13), .ref q12, .ref q13, .int (Int32.ofInt u14), .long (Int64.ofInt u15), .long (Int64.ofInt u16), .ref q14, .ref q15, .ref q16, .ref q17, .ref q18, .int (Int32.ofInt u17), .ref q19, .ref q20, .ref q21, .ref q22, .ref q23, .ref q24, .ref q25, .ref q26, .ref q27, .ref q28, .ref q29, .ref q30, .long (Int64.ofInt u18), .ref q31, .int (Int32.ofInt u19)])), (q11, .inl (cA 2, 8, .inr (.inl (zl i_words))))]
def wf_HM_partAt (cA : Nat → ClassId) (q0 q1 q2 q3 q4 q5 q6 q7 q8 q9 q10 q11 q12 q13 q14 q15 q16 q17 q18 q19 q20 q21 q22 q23 q24 q25 q26 q27 q28 q29 q30 q31 : Nat) (u0 u1 u2 u3 u4 u5 u6 u7 u8 u9 u10 u11 u12 u13 u14 u15 u16 u17 u18 u19 : Int) (i_sort : Int) (i_worth : Int) (i_words : Nat → Int) (o : Int) : va_W := wd_HM_partAt cA q0 q1 q2 q3 q4 q5 q6 q7 q8 q9 q10 q11 q12 q13 q14 q15 q16 q17 q18 q19 q20 q21 q22 q23 q24 q25 q26 q27 q28 q29 q30 q31 u0 u1 u2 u3 u4 u5 u6 u7 u8 u9 u10 u11 u12 u13 u14 u15 u16 u17 u18 u19 i_sort i_worth i_words
def f_HM_partAt_30 (i_sort : Int) (i_worth : Int) (i_words : Nat → Int) (k4 : Int → Int → Option (Int)) (x2 : Int) (s0 : Int) : Option (Int) :=
  zn (x2 + 1) fun v1 =>
  k4 s0 v1
def f_HM_partAt_4_b (i_sort : Int) (i_worth : Int) (i_words : Nat → Int) (k4 : Int → Int → Option (Int)) (x1 : Int) (x2 : Int) : Option (Int) :=
  if zi_w 8 ≤ zi_w x2 then
    some x1
  else
    zg 8 i_words x2 fun v1 =>
    zd1 (f_HM_isWord v1 i_sort i_worth) fun v2 =>
    if zi_w v2 = 0 then
      f_HM_partAt_30 i_sort i_worth i_words k4 x2 x1
    else
      zn (x2 + 1) fun v3 =>
      f_HM_partAt_30 i_sort i_worth i_words k4 x2 v3
def f_HM_partAt_4 (i_sort : Int) (i_worth : Int) (i_words : Nat → Int) : Nat → Int → Int → Option (Int)
  | 0 => fun _ _ => none
  | n + 1 => fun y0 y1 => f_HM_partAt_4_b i_sort i_worth i_words (f_HM_partAt_4 i_sort i_worth i_words n) y0 y1
def f_HM_partAt (i_sort : Int) (i_worth : Int) (i_words : Nat → Int) : Option (Int) :=
  f_HM_partAt_4 i_sort i_worth i_words zfu (-1) 0
set_option maxHeartbeats 4000000 in
set_option maxRecDepth 100000 in
theorem c_HM_partAt (l : Launch) (ev : zEv) (dC : Nat → ClassId) (dI : Nat → Nat → Nat) (cA : Nat → ClassId) (q0 q1 q2 q3 q4 q5 q6 q7 q8 q9 q10 q11 q12 q13 q14 q15 q16 q17 q18 q19 q20 q21 q22 q23 q24 q25 q26 q27 q28 q29 q30 q31 : Nat) (u0 u1 u2 u3 u4 u5 u6 u7 u8 u9 u10 u11 u12 u13 u14 u15 u16 u17 u18 u19 : Int) {i_sort : Int} {i_worth : Int} {i_words : Nat → Int} {out : Int} (hf : f_HM_partAt i_sort i_worth i_words = some out) : xc_I l ev (dC, dI) vwCl (tyl cA) yX11_partAt w_HM_partAt rm_HM_partAt [.ref q0] (wd_HM_partAt cA q0 q1 q2 q3 q4 q5 q6 q7 q8 q9 q10 q11 q12 q13 q14 q15 q16 q17 q18 q19 q20 q21 q22 q23 q24 q25 q26 q27 q28 q29 q30 q31 u0 u1 u2 u3 u4 u5 u6 u7 u8 u9 u10 u11 u12 u13 u14 u15 u16 u17 u18 u19 i_sort i_worth i_words) (wf_HM_partAt cA q0 q1 q2 q3 q4 q5 q6 q7 q8 q9 q10 q11 q12 q13 q14 q15 q16 q17 q18 q19 q20 q21 q22 q23 q24 q25 q26 q27 q28 q29 q30 q31 u0 u1 u2 u3 u4 u5 u6 u7 u8 u9 u10 u11 u12 u13 u14 u15 u16 u17 u18 u19 i_sort i_worth i_words out) out := by
  refine xv_startI (cc := cX11_partAt) (maxL := 3) (rt := .int) (by decide +kernel) rfl (Nat.le_of_ble_eq_true rfl) ?_
  intro p e s m args below meth c A Q H ls hx hb hml hts hown hK hA hP hD hS hl hE hret
  have hown : s.vm.findClass "HillSchoolModel" = some m.cls := hown
  have hz : ∀ w ∈ zall, w.before args s = true := fun w h => hts w (List.mem_cons_of_mem _ h)
  have hl : lv_has ls 3 [(0, .ref q0)] := hl
  have b_30 : ∀ (k4 : Int → Int → Option (Int)) (_ : ∀ (x1 : Int) (x2 : Int) (H : Heap) (locs : List Loc) (ls : Array Slot), k4 x1 x2 = some out → va_P (dC, dI) vwCl (wd_HM_partAt cA q0 q1 q2 q3 q4 q5 q6 q7 q8 q9 q10 q11 q12 q13 q14 q15 q16 q17 q18 q19 q20 q21 q22 q23 q24 q25 q26 q27 q28 q29 q30 q31 u0 u1 u2 u3 u4 u5 u6 u7 u8 u9 u10 u11 u12 u13 u14 u15 u16 u17 u18 u19 i_sort i_worth i_words) H → va_D A (wd_HM_partAt cA q0 q1 q2 q3 q4 q5 q6 q7 q8 q9 q10 q11 q12 q13 q14 q15 q16 q17 q18 q19 q20 q21 q22 q23 q24 q25 q26 q27 q28 q29 q30 q31 u0 u1 u2 u3 u4 u5 u6 u7 u8 u9 u10 u11 u12 u13 u14 u15 u16 u17 u18 u19 i_sort i_worth i_words) → va_S A s.heap H locs → lv_has ls 3 [(0, .ref q0), (1, .int (Int32.ofInt x1)), (2, .int (Int32.ofInt x2))] → W p l e rm_HM_partAt s m args below meth c H locs 0 0 Q (F0 m 4 ls [])), ∀ (x2 : Int) (s0 : Int) (H : Heap) (locs : List Loc) (ls : Array Slot), f_HM_partAt_30 i_sort i_worth i_words k4 x2 s0 = some out → va_P (dC, dI) vwCl (wd_HM_partAt cA q0 q1 q2 q3 q4 q5 q6 q7 q8 q9 q10 q11 q12 q13 q14 q15 q16 q17 q18 q19 q20 q21 q22 q23 q24 q25 q26 q27 q28 q29 q30 q31 u0 u1 u2 u3 u4 u5 u6 u7 u8 u9 u10 u11 u12 u13 u14 u15 u16 u17 u18 u19 i_sort i_worth i_words) H → va_D A (wd_HM_partAt cA q0 q1 q2 q3 q4 q5 q6 q7 q8 q9 q10 q11 q12 q13 q14 q15 q16 q17 q18 q19 q20 q21 q22 q23 q24 q25 q26 q27 q28 q29 q30 q31 u0 u1 u2 u3 u4 u5 u6 u7 u8 u9 u10 u11 u12 u13 u14 u15 u16 u17 u18 u19 i_sort i_worth i_words) → va_S A s.heap H locs → lv_has ls 3 [(0, .ref q0), (2, .int (Int32.ofInt x2))] → W p l e rm_HM_partAt s m args below meth c H locs 0 0 Q (F0 m 30 ls [.int (Int32.ofInt s0)]) := by
    intro k4 ih4 x2 s0 H locs ls hf hP hD hS hl
    unfold f_HM_partAt_30 at hf
    refine lv_istore_n (lv' := [(1, .int (Int32.ofInt s0)), (0, .ref q0), (2, .int (Int32.ofInt x2))]) hx hb dX11_partAt_30 rfl hl (by decide) rfl (fun ls hl => ?_)
    refine xi_iinc hx hb dX11_partAt_31 hl (k := 2) rfl (by decide) hf (fun v1 ls hl hf => ?_)
    have hl : lv_has ls 3 [(2, .int (Int32.ofInt v1)), (1, .int (Int32.ofInt s0)), (0, .ref q0)] := hl
    refine lv_goto (tgt := 4) hx hb dX11_partAt_34 (by decide) ?_
    exact ih4 _ _ _ _ _ hf hP hD hS (lv_sub hl [2, 1, 0] rfl)
  have b_4 : ∀ (k4 : Int → Int → Option (Int)) (_ : ∀ (x1 : Int) (x2 : Int) (H : Heap) (locs : List Loc) (ls : Array Slot), k4 x1 x2 = some out → va_P (dC, dI) vwCl (wd_HM_partAt cA q0 q1 q2 q3 q4 q5 q6 q7 q8 q9 q10 q11 q12 q13 q14 q15 q16 q17 q18 q19 q20 q21 q22 q23 q24 q25 q26 q27 q28 q29 q30 q31 u0 u1 u2 u3 u4 u5 u6 u7 u8 u9 u10 u11 u12 u13 u14 u15 u16 u17 u18 u19 i_sort i_worth i_words) H → va_D A (wd_HM_partAt cA q0 q1 q2 q3 q4 q5 q6 q7 q8 q9 q10 q11 q12 q13 q14 q15 q16 q17 q18 q19 q20 q21 q22 q23 q24 q25 q26 q27 q28 q29 q30 q31 u0 u1 u2 u3 u4 u5 u6 u7 u8 u9 u10 u11 u12 u13 u14 u15 u16 u17 u18 u19 i_sort i_worth i_words) → va_S A s.heap H locs → lv_has ls 3 [(0, .ref q0), (1, .int (Int32.ofInt x1)), (2, .int (Int32.ofInt x2))] → W p l e rm_HM_partAt s m args below meth c H locs 0 0 Q (F0 m 4 ls [])), ∀ (x1 : Int) (x2 : Int) (H : Heap) (locs : List Loc) (ls : Array Slot), f_HM_partAt_4_b i_sort i_worth i_words k4 x1 x2 = some out → va_P (dC, dI) vwCl (wd_HM_partAt cA q0 q1 q2 q3 q4 q5 q6 q7 q8 q9 q10 q11 q12 q13 q14 q15 q16 q17 q18 q19 q20 q21 q22 q23 q24 q25 q26 q27 q28 q29 q30 q31 u0 u1 u2 u3 u4 u5 u6 u7 u8 u9 u10 u11 u12 u13 u14 u15 u16 u17 u18 u19 i_sort i_worth i_words) H → va_D A (wd_HM_partAt cA q0 q1 q2 q3 q4 q5 q6 q7 q8 q9 q10 q11 q12 q13 q14 q15 q16 q17 q18 q19 q20 q21 q22 q23 q24 q25 q26 q27 q28 q29 q30 q31 u0 u1 u2 u3 u4 u5 u6 u7 u8 u9 u10 u11 u12 u13 u14 u15 u16 u17 u18 u19 i_sort i_worth i_words) → va_S A s.heap H locs → lv_has ls 3 [(0, .ref q0), (1, .int (Int32.ofInt x1)), (2, .int (Int32.ofInt x2))] → W p l e rm_HM_partAt s m args below meth c H locs 0 0 Q (F0 m 4 ls []) := by
    intro k4 ih4 x1 x2 H locs ls hf hP hD hS hl
    unfold f_HM_partAt_4_b at hf
    refine lv_iload_n hx hb dX11_partAt_4 rfl (lv_at hl 2 rfl) ?_
    refine lv_bipush (v := Int32.ofInt 8) hx hb dX11_partAt_5 (by decide) ?_
    refine xi_icmp_ge (tgt := 37) hx hb dX11_partAt_7 (by decide) hf (fun hf => ?_) (fun hf => ?_)
    · refine lv_iload_n hx hb dX11_partAt_37 rfl (lv_at hl 1 rfl) ?_
      obtain rfl := Option.some.inj hf
      exact hret _ _ _ _ rfl dX11_partAt_38 hP hD hS
    · refine lv_aload_n hx hb dX11_partAt_10 rfl (lv_at hl 0 rfl) ?_
      refine lv_aload_n hx hb dX11_partAt_11 rfl (lv_at hl 0 rfl) ?_
      refine va_get (D := (dC, dI)) (ci := 11) (v := .ref q11) (C := RX11) (T := TX11) (N := 53) hx hb hz zi_X11 hown hK hP 0 rfl rfl 25 (by decide) (hz _ zw_1190) (fun _ h9 => h9) rfl dX11_partAt_12 ?_
      refine lv_iload_n hx hb dX11_partAt_15 rfl (lv_at hl 2 rfl) ?_
      refine xl_lald hx hb hK hP 1 2 rfl rfl dX11_partAt_16 hf (fun v1 hf => ?_)
      refine xe_d1 hf (fun v2 hg hf => ?_)
      have hC : ([0] : List Nat).map (fun i => (wd_HM_partAt cA q0 q1 q2 q3 q4 q5 q6 q7 q8 q9 q10 q11 q12 q13 q14 q15 q16 q17 q18 q19 q20 q21 q22 q23 q24 q25 q26 q27 q28 q29 q30 q31 u0 u1 u2 u3 u4 u5 u6 u7 u8 u9 u10 u11 u12 u13 u14 u15 u16 u17 u18 u19 i_sort i_worth i_words)[i]?) = (wd_HM_isWord cA q0 q1 q2 q3 q4 q5 q6 q7 q8 q9 q10 q11 q12 q13 q14 q15 q16 q17 q18 q19 q20 q21 q22 q23 q24 q25 q26 q27 q28 q29 q30 q31 u0 u1 u2 u3 u4 u5 u6 u7 u8 u9 u10 u11 u12 u13 u14 u15 u16 u17 u18 u19 i_sort i_worth).map some := rfl
      refine xv_afterI (ws' := (wd_HM_partAt cA q0 q1 q2 q3 q4 q5 q6 q7 q8 q9 q10 q11 q12 q13 q14 q15 q16 q17 q18 q19 q20 q21 q22 q23 q24 q25 q26 q27 q28 q29 q30 q31 u0 u1 u2 u3 u4 u5 u6 u7 u8 u9 u10 u11 u12 u13 u14 u15 u16 u17 u18 u19 i_sort i_worth i_words)) (isC := [0]) (ps := [some 0, none]) (va_runV (As := [.long (Int64.ofInt v1)]) (rest := []) ⟨hx, hb, hml, hown, hts⟩ (c_HM_isWord l ev dC dI cA q0 q1 q2 q3 q4 q5 q6 q7 q8 q9 q10 q11 q12 q13 q14 q15 q16 q17 q18 q19 q20 q21 q22 q23 q24 q25 q26 q27 q28 q29 q30 q31 u0 u1 u2 u3 u4 u5 u6 u7 u8 u9 u10 u11 u12 u13 u14 u15 u16 u17 u18 u19 hg H.size) (cwV 1 hts (zgV zw_1460 zw_1462 zw_49 zw_115 zw_1463) rfl rfl rfl hd_HM_isWord ⟨Nat.le_of_ble_eq_true rfl, Nat.le_of_ble_eq_true rfl⟩) (xv_preV (T := TX11) (N := 53) hE hA hS hK hP hD (isC := [0]) (by decide +kernel) hC (q0 := 0) (ci := 11) rfl rfl) rfl rfl hl.1 rfl (lv_room (Nat.le_of_ble_eq_true rfl)) dX11_partAt_17 ⟨Nat.le_refl _, Nat.le_refl _⟩) hP hD hS hA (by decide +kernel) rfl hC rfl rfl (fun H locs hP hD hS => ?_)
      refine xi_if_eq (tgt := 29) hx hb dX11_partAt_20 (by decide) hf (fun hf => ?_) (fun hf => ?_)
      · refine lv_iload_n hx hb dX11_partAt_29 rfl (lv_at hl 1 rfl) ?_
        exact b_30 _ ih4 _ _ _ _ _ hf hP hD hS (lv_sub hl [0, 2] rfl)
      · refine lv_iload_n hx hb dX11_partAt_23 rfl (lv_at hl 2 rfl) ?_
        refine lv_iconst (v := Int32.ofInt 1) hx hb dX11_partAt_24 rfl ?_
        refine xi_iadd hx hb dX11_partAt_25 hf (fun v3 hf => ?_)
        refine lv_goto (tgt := 30) hx hb dX11_partAt_26 (by decide) ?_
        exact b_30 _ ih4 _ _ _ _ _ hf hP hD hS (lv_sub hl [0, 2] rfl)
  have l_4 : ∀ (n : Nat), ∀ (x1 : Int) (x2 : Int) (H : Heap) (locs : List Loc) (ls : Array Slot), f_HM_partAt_4 i_sort i_worth i_words n x1 x2 = some out → va_P (dC, dI) vwCl (wd_HM_partAt cA q0 q1 q2 q3 q4 q5 q6 q7 q8 q9 q10 q11 q12 q13 q14 q15 q16 q17 q18 q19 q20 q21 q22 q23 q24 q25 q26 q27 q28 q29 q30 q31 u0 u1 u2 u3 u4 u5 u6 u7 u8 u9 u10 u11 u12 u13 u14 u15 u16 u17 u18 u19 i_sort i_worth i_words) H → va_D A (wd_HM_partAt cA q0 q1 q2 q3 q4 q5 q6 q7 q8 q9 q10 q11 q12 q13 q14 q15 q16 q17 q18 q19 q20 q21 q22 q23 q24 q25 q26 q27 q28 q29 q30 q31 u0 u1 u2 u3 u4 u5 u6 u7 u8 u9 u10 u11 u12 u13 u14 u15 u16 u17 u18 u19 i_sort i_worth i_words) → va_S A s.heap H locs → lv_has ls 3 [(0, .ref q0), (1, .int (Int32.ofInt x1)), (2, .int (Int32.ofInt x2))] → W p l e rm_HM_partAt s m args below meth c H locs 0 0 Q (F0 m 4 ls []) := by
    intro n
    induction n with
    | zero => intro x1 x2 H locs ls hf hP hD hS hl; exact nomatch hf
    | succ n ih => intro x1 x2 H locs ls hf hP hD hS hl; exact b_4 (f_HM_partAt_4 i_sort i_worth i_words n) ih x1 x2 H locs ls hf hP hD hS hl
  unfold f_HM_partAt at hf
  refine lv_iconst (v := Int32.ofInt (-1)) hx hb dX11_partAt_0 rfl ?_
  refine lv_istore_n (lv' := [(1, .int (Int32.ofInt (-1))), (0, .ref q0)]) hx hb dX11_partAt_1 rfl hl (by decide) rfl (fun ls hl => ?_)
  refine lv_iconst (v := Int32.ofInt 0) hx hb dX11_partAt_2 rfl ?_
  refine lv_istore_n (lv' := [(2, .int (Int32.ofInt 0)), (1, .int (Int32.ofInt (-1))), (0, .ref q0)]) hx hb dX11_partAt_3 rfl hl (by decide) rfl (fun ls hl => ?_)
  exact l_4  _ _ _ _ _ _ hf hP hD hS (lv_sub hl [2, 1, 0] rfl)
theorem dX11_readPart_0 : decode cX11_readPart 0 = .ok (.aload_n 0, 1) := by decide +kernel
theorem dX11_readPart_1 : decode cX11_readPart 1 = .ok (.bipush 91, 2) := by decide +kernel
theorem dX11_readPart_3 : decode cX11_readPart 3 = .ok (.invokevirtual 258, 3) := by decide +kernel
theorem dX11_readPart_6 : decode cX11_readPart 6 = .ok (.ifCond .eq 11, 3) := by decide +kernel
theorem dX11_readPart_9 : decode cX11_readPart 9 = .ok (.aload_n 0, 1) := by decide +kernel
theorem dX11_readPart_10 : decode cX11_readPart 10 = .ok (.bipush 31, 2) := by decide +kernel
theorem dX11_readPart_12 : decode cX11_readPart 12 = .ok (.invokevirtual 261, 3) := by decide +kernel
theorem dX11_readPart_15 : decode cX11_readPart 15 = .ok (.iconst 1, 1) := by decide +kernel
theorem dX11_readPart_16 : decode cX11_readPart 16 = .ok (.ireturn, 1) := by decide +kernel
theorem dX11_readPart_17 : decode cX11_readPart 17 = .ok (.aload_n 0, 1) := by decide +kernel
theorem dX11_readPart_18 : decode cX11_readPart 18 = .ok (.invokevirtual 264, 3) := by decide +kernel
theorem dX11_readPart_21 : decode cX11_readPart 21 = .ok (.istore_n 1, 1) := by decide +kernel
theorem dX11_readPart_22 : decode cX11_readPart 22 = .ok (.aload_n 0, 1) := by decide +kernel
theorem dX11_readPart_23 : decode cX11_readPart 23 = .ok (.getfield 205, 3) := by decide +kernel
theorem dX11_readPart_26 : decode cX11_readPart 26 = .ok (.iconst 2, 1) := by decide +kernel
theorem dX11_readPart_27 : decode cX11_readPart 27 = .ok (.if_icmp .ne 18, 3) := by decide +kernel
theorem dX11_readPart_30 : decode cX11_readPart 30 = .ok (.aload_n 0, 1) := by decide +kernel
theorem dX11_readPart_31 : decode cX11_readPart 31 = .ok (.getfield 195, 3) := by decide +kernel
theorem dX11_readPart_34 : decode cX11_readPart 34 = .ok (.ldc2_w 267, 3) := by decide +kernel
theorem dX11_readPart_37 : decode cX11_readPart 37 = .ok (.lcmp, 1) := by decide +kernel
theorem dX11_readPart_38 : decode cX11_readPart 38 = .ok (.ifCond .gt 7, 3) := by decide +kernel
theorem dX11_readPart_41 : decode cX11_readPart 41 = .ok (.iconst 1, 1) := by decide +kernel
theorem dX11_readPart_42 : decode cX11_readPart 42 = .ok (.goto 4, 3) := by decide +kernel
theorem dX11_readPart_45 : decode cX11_readPart 45 = .ok (.iconst 0, 1) := by decide +kernel
theorem dX11_readPart_46 : decode cX11_readPart 46 = .ok (.istore_n 2, 1) := by decide +kernel
theorem dX11_readPart_47 : decode cX11_readPart 47 = .ok (.aload_n 0, 1) := by decide +kernel
theorem dX11_readPart_48 : decode cX11_readPart 48 = .ok (.iload_n 1, 1) := by decide +kernel
theorem dX11_readPart_49 : decode cX11_readPart 49 = .ok (.iconst (-1), 1) := by decide +kernel
theorem dX11_readPart_50 : decode cX11_readPart 50 = .ok (.if_icmp .ne 7, 3) := by decide +kernel
theorem dX11_readPart_53 : decode cX11_readPart 53 = .ok (.iload_n 2, 1) := by decide +kernel
theorem dX11_readPart_54 : decode cX11_readPart 54 = .ok (.ifCond .eq 7, 3) := by decide +kernel
theorem dX11_readPart_57 : decode cX11_readPart 57 = .ok (.iconst 1, 1) := by decide +kernel
theorem dX11_readPart_58 : decode cX11_readPart 58 = .ok (.goto 4, 3) := by decide +kernel
theorem dX11_readPart_61 : decode cX11_readPart 61 = .ok (.iconst 0, 1) := by decide +kernel
theorem dX11_readPart_62 : decode cX11_readPart 62 = .ok (.iload_n 1, 1) := by decide +kernel
theorem dX11_readPart_63 : decode cX11_readPart 63 = .ok (.iconst (-1), 1) := by decide +kernel
theorem dX11_readPart_64 : decode cX11_readPart 64 = .ok (.if_icmp .ne 7, 3) := by decide +kernel
theorem dX11_readPart_67 : decode cX11_readPart 67 = .ok (.iconst 0, 1) := by decide +kernel
theorem dX11_readPart_68 : decode cX11_readPart 68 = .ok (.goto 4, 3) := by decide +kernel
theorem dX11_readPart_71 : decode cX11_readPart 71 = .ok (.iload_n 1, 1) := by decide +kernel
theorem dX11_readPart_72 : decode cX11_readPart 72 = .ok (.iload_n 2, 1) := by decide +kernel
theorem dX11_readPart_73 : decode cX11_readPart 73 = .ok (.ifCond .eq 11, 3) := by decide +kernel
theorem dX11_readPart_76 : decode cX11_readPart 76 = .ok (.aload_n 0, 1) := by decide +kernel
theorem dX11_readPart_77 : decode cX11_readPart 77 = .ok (.getfield 195, 3) := by decide +kernel
theorem dX11_readPart_80 : decode cX11_readPart 80 = .ok (.l2i, 1) := by decide +kernel
theorem dX11_readPart_81 : decode cX11_readPart 81 = .ok (.goto 4, 3) := by decide +kernel
theorem dX11_readPart_84 : decode cX11_readPart 84 = .ok (.iconst 0, 1) := by decide +kernel
theorem dX11_readPart_85 : decode cX11_readPart 85 = .ok (.invokevirtual 269, 3) := by decide +kernel
theorem dX11_readPart_88 : decode cX11_readPart 88 = .ok (.iconst 3, 1) := by decide +kernel
theorem dX11_readPart_89 : decode cX11_readPart 89 = .ok (.ireturn, 1) := by decide +kernel
theorem zw_54 : (Jvm.Cond.selects "HillSchoolModel" ({ cls := "HillSchoolModel", name := "isSign", desc := "(I)Z" } : Jvm.MethodName) ({ cls := "HillSchoolModel", name := "isSign", desc := "(I)Z" } : Jvm.MethodName)) ∈ zall := zmemG (zmj_0 54 rfl) rfl
theorem zw_55 : (Jvm.Cond.selects "HillSchoolModel" ({ cls := "HillSchoolModel", name := "openBracket", desc := "(I)V" } : Jvm.MethodName) ({ cls := "HillSchoolModel", name := "openBracket", desc := "(I)V" } : Jvm.MethodName)) ∈ zall := zmemG (zmj_0 55 rfl) rfl
theorem zw_57 : (Jvm.Cond.selects "HillSchoolModel" ({ cls := "HillSchoolModel", name := "partAt", desc := "()I" } : Jvm.MethodName) ({ cls := "HillSchoolModel", name := "partAt", desc := "()I" } : Jvm.MethodName)) ∈ zall := zmemG (zmj_0 57 rfl) rfl
theorem zw_58 : (Jvm.Cond.selects "HillSchoolModel" ({ cls := "HillSchoolModel", name := "leaf", desc := "(ZII)V" } : Jvm.MethodName) ({ cls := "HillSchoolModel", name := "leaf", desc := "(ZII)V" } : Jvm.MethodName)) ∈ zall := zmemG (zmj_0 58 rfl) rfl
theorem zw_1482 : (Jvm.Cond.methodLink "HillSchoolModel" (258 : Nat) ({ cls := "HillSchoolModel", name := "isSign", desc := "(I)Z" } : Jvm.MethodName)) ∈ zall := zmemG (zmj_6 179 rfl) rfl
theorem zw_1484 : (Jvm.Cond.instanceMethod ({ cls := "HillSchoolModel", name := "isSign", desc := "(I)Z" } : Jvm.MethodName)) ∈ zall := zmemG (zmj_6 181 rfl) rfl
theorem zw_1486 : (Jvm.Cond.methodLink "HillSchoolModel" (261 : Nat) ({ cls := "HillSchoolModel", name := "openBracket", desc := "(I)V" } : Jvm.MethodName)) ∈ zall := zmemG (zmj_6 183 rfl) rfl
theorem zw_1488 : (Jvm.Cond.instanceMethod ({ cls := "HillSchoolModel", name := "openBracket", desc := "(I)V" } : Jvm.MethodName)) ∈ zall := zmemG (zmj_6 185 rfl) rfl
theorem zw_1493 : (Jvm.Cond.code ({ cls := "HillSchoolModel", name := "readPart", desc := "()I" } : Jvm.MethodName) prog_13_method_48_code (3 : Nat) (Option.some Jvm.ClassFile.FieldType.int)) ∈ zall := zmemG (zmj_6 190 rfl) rfl
theorem zw_1494 : (Jvm.Cond.methodLink "HillSchoolModel" (264 : Nat) ({ cls := "HillSchoolModel", name := "partAt", desc := "()I" } : Jvm.MethodName)) ∈ zall := zmemG (zmj_6 191 rfl) rfl
theorem zw_1496 : (Jvm.Cond.instanceMethod ({ cls := "HillSchoolModel", name := "partAt", desc := "()I" } : Jvm.MethodName)) ∈ zall := zmemG (zmj_6 193 rfl) rfl
theorem zw_1498 : (Jvm.Cond.constantLong "HillSchoolModel" (267 : Nat) (1000 : Int64)) ∈ zall := zmemG (zmj_6 195 rfl) rfl
theorem zw_1499 : (Jvm.Cond.methodLink "HillSchoolModel" (269 : Nat) ({ cls := "HillSchoolModel", name := "leaf", desc := "(ZII)V" } : Jvm.MethodName)) ∈ zall := zmemG (zmj_6 196 rfl) rfl
theorem zw_1501 : (Jvm.Cond.instanceMethod ({ cls := "HillSchoolModel", name := "leaf", desc := "(ZII)V" } : Jvm.MethodName)) ∈ zall := zmemG (zmj_6 198 rfl) rfl
abbrev w_HM_readPart : List Cond := .code yX11_readPart cX11_readPart 3 (some .int) :: zall
abbrev rm_HM_readPart : Room := { frames := 4, cells := 0, slots := 0, locals := 84 }
theorem hd_HM_readPart : yX11_readPart.cls = "HillSchoolModel" ∧ yX11_readPart.cls ≠ "java/lang/invoke/MethodHandle" ∧ yX11_readPart.cls ≠ "java/lang/invoke/VarHandle" ∧ (parseMethodDescriptor yX11_readPart.desc).map (fun d => d.parameters.length) = some 0 := by decide +kernel
def wd_HM_readPart (cA : Nat → ClassId) (q0 q1 q2 q3 q4 q5 q6 q7 q8 q9 q10 q11 q12 q13 q14 q15 q16 q17 q18 q19 q20 q21 q22 q23 q24 q25 q26 q27 q28 q29 q30 q31 : Nat) (u0 u1 u2 u3 u4 u5 u6 u7 u8 u9 u10 : Int) (i_taped : Int) (i_tape : Nat → Int) (i_words : Nat → Int) (i_from : Int) (i_to : Int) (i_sort : Int) (i_worth : Int) (i_fault : Int) (i_bad : Int) (i_nCode : Int) (i_nLeaves : Int) (i_piled : Int) (i_opened : Int) (i_nOp : Nat → Int) (i_nArg : Nat → Int) (i_pile : Nat → Int) (i_pileAt : Nat → Int) : va_W := [(q0, .inr (11, [.int (Int32.ofInt u0), .int (Int32.ofInt u1), .ref q1, .ref q2, .ref q3, .ref q4, .int (Int32.ofInt u2), .ref q5, .int (Int32.ofInt i_taped), .int (Int32.ofInt i_from), .int (Int32.ofInt i_to), .int (Int32.ofInt i_sort), .long (Int64.ofInt i_worth), .int (Int32.ofInt i_fault), .int (Int32.ofInt i_bad), .int (Int32.ofInt u3), .ref q6, .int (Int32.ofInt i_nCode), .ref q7, .ref q8, .int (Int32.ofInt i_nLeaves), .ref q9, .ref q10, .int (Int32.ofInt i_piled), .int (Int32.ofInt i_opened), .ref q11, .int (Int32.ofInt u4), .ref q12, .ref q13, .int (Int32.ofInt u5), .long (Int64.ofInt u6), .long (Int64.ofInt u7), .ref q14, .ref q15, .ref q16, .ref q17, .ref q18, .int (Int32.ofInt u8), .ref q19, .ref q20, .ref q21, .ref q22, .ref q23, .ref q24, .ref q25, .ref q26, .ref q27, .ref q28, .ref q29, .ref q30, .long (Int64.ofInt u9), .ref q31, .int (Int32.ofInt u10)])), (q5, .inl (cA 0, 400, .inl (za i_tape))), (q7, .inl (cA 0, 400, .inl (za i_nOp))), (q8, .inl (cA 0, 400, .inl (za i_nArg))), (q9, .inl (cA 0, 400, .inl (za i_pile))), (q10, .inl (cA 0, 400, .inl (za i_pileAt))), (q11, .inl (cA 2, 8, .inr (.inl (zl i_words))))]
def wf_HM_readPart (cA : Nat → ClassId) (q0 q1 q2 q3 q4 q5 q6 q7 q8 q9 q10 q11 q12 q13 q14 q15 q16 q17 q18 q19 q20 q21 q22 q23 q24 q25 q26 q27 q28 q29 q30 q31 : Nat) (u0 u1 u2 u3 u4 u5 u6 u7 u8 u9 u10 : Int) (i_taped : Int) (i_tape : Nat → Int) (i_words : Nat → Int) (o : Int × Int × Int × Int × Int × Int × Int × Int × Int × Int × Int × (Nat → Int) × (Nat → Int) × (Nat → Int) × (Nat → Int)) : va_W := wd_HM_readPart cA q0 q1 q2 q3 q4 q5 q6 q7 q8 q9 q10 q11 q12 q13 q14 q15 q16 q17 q18 q19 q20 q21 q22 q23 q24 q25 q26 q27 q28 q29 q30 q31 u0 u1 u2 u3 u4 u5 u6 u7 u8 u9 u10 i_taped i_tape i_words o.2.1 o.2.2.1 o.2.2.2.1 o.2.2.2.2.1 o.2.2.2.2.2.1 o.2.2.2.2.2.2.1 o.2.2.2.2.2.2.2.1 o.2.2.2.2.2.2.2.2.1 o.2.2.2.2.2.2.2.2.2.1 o.2.2.2.2.2.2.2.2.2.2.1 o.2.2.2.2.2.2.2.2.2.2.2.1 o.2.2.2.2.2.2.2.2.2.2.2.2.1 o.2.2.2.2.2.2.2.2.2.2.2.2.2.1 o.2.2.2.2.2.2.2.2.2.2.2.2.2.2
def f_HM_readPart_85 (i_taped : Int) (i_tape : Nat → Int) (i_words : Nat → Int) (s1 : Int) (s2 : Int) (s3 : Int) (i_from : Int) (i_to : Int) (i_sort : Int) (i_worth : Int) (i_fault : Int) (i_bad : Int) (i_nCode : Int) (i_nLeaves : Int) (i_piled : Int) (i_opened : Int) (i_nOp : Nat → Int) (i_nArg : Nat → Int) (i_pile : Nat → Int) (i_pileAt : Nat → Int) : Option (Int × Int × Int × Int × Int × Int × Int × Int × Int × Int × Int × (Nat → Int) × (Nat → Int) × (Nat → Int) × (Nat → Int)) :=
  zd10 (f_HM_leaf s1 s2 s3 i_taped i_tape i_from i_to i_sort i_worth i_fault i_bad i_nCode i_nLeaves i_nOp i_nArg) fun v1 v2 v3 v4 v5 v6 v7 v8 a9 a10 =>
  some (3, v1, v2, v3, v4, v5, v6, v7, v8, i_piled, i_opened, a9, a10, i_pile, i_pileAt)
def f_HM_readPart_72 (i_taped : Int) (i_tape : Nat → Int) (i_words : Nat → Int) (x2 : Int) (s1 : Int) (s2 : Int) (i_from : Int) (i_to : Int) (i_sort : Int) (i_worth : Int) (i_fault : Int) (i_bad : Int) (i_nCode : Int) (i_nLeaves : Int) (i_piled : Int) (i_opened : Int) (i_nOp : Nat → Int) (i_nArg : Nat → Int) (i_pile : Nat → Int) (i_pileAt : Nat → Int) : Option (Int × Int × Int × Int × Int × Int × Int × Int × Int × Int × Int × (Nat → Int) × (Nat → Int) × (Nat → Int) × (Nat → Int)) :=
  if zi_w x2 = 0 then
    f_HM_readPart_85 i_taped i_tape i_words s1 s2 0 i_from i_to i_sort i_worth i_fault i_bad i_nCode i_nLeaves i_piled i_opened i_nOp i_nArg i_pile i_pileAt
  else
    f_HM_readPart_85 i_taped i_tape i_words s1 s2 i_worth i_from i_to i_sort i_worth i_fault i_bad i_nCode i_nLeaves i_piled i_opened i_nOp i_nArg i_pile i_pileAt
def f_HM_readPart_62 (i_taped : Int) (i_tape : Nat → Int) (i_words : Nat → Int) (x1 : Int) (x2 : Int) (s1 : Int) (i_from : Int) (i_to : Int) (i_sort : Int) (i_worth : Int) (i_fault : Int) (i_bad : Int) (i_nCode : Int) (i_nLeaves : Int) (i_piled : Int) (i_opened : Int) (i_nOp : Nat → Int) (i_nArg : Nat → Int) (i_pile : Nat → Int) (i_pileAt : Nat → Int) : Option (Int × Int × Int × Int × Int × Int × Int × Int × Int × Int × Int × (Nat → Int) × (Nat → Int) × (Nat → Int) × (Nat → Int)) :=
  if zi_w x1 ≠ zi_w (-1) then
    f_HM_readPart_72 i_taped i_tape i_words x2 s1 x1 i_from i_to i_sort i_worth i_fault i_bad i_nCode i_nLeaves i_piled i_opened i_nOp i_nArg i_pile i_pileAt
  else
    f_HM_readPart_72 i_taped i_tape i_words x2 s1 0 i_from i_to i_sort i_worth i_fault i_bad i_nCode i_nLeaves i_piled i_opened i_nOp i_nArg i_pile i_pileAt
def f_HM_readPart_57 (i_taped : Int) (i_tape : Nat → Int) (i_words : Nat → Int) (x1 : Int) (x2 : Int) (i_from : Int) (i_to : Int) (i_sort : Int) (i_worth : Int) (i_fault : Int) (i_bad : Int) (i_nCode : Int) (i_nLeaves : Int) (i_piled : Int) (i_opened : Int) (i_nOp : Nat → Int) (i_nArg : Nat → Int) (i_pile : Nat → Int) (i_pileAt : Nat → Int) : Option (Int × Int × Int × Int × Int × Int × Int × Int × Int × Int × Int × (Nat → Int) × (Nat → Int) × (Nat → Int) × (Nat → Int)) :=
  f_HM_readPart_62 i_taped i_tape i_words x1 x2 1 i_from i_to i_sort i_worth i_fault i_bad i_nCode i_nLeaves i_piled i_opened i_nOp i_nArg i_pile i_pileAt
def f_HM_readPart_46 (i_taped : Int) (i_tape : Nat → Int) (i_words : Nat → Int) (x1 : Int) (s0 : Int) (i_from : Int) (i_to : Int) (i_sort : Int) (i_worth : Int) (i_fault : Int) (i_bad : Int) (i_nCode : Int) (i_nLeaves : Int) (i_piled : Int) (i_opened : Int) (i_nOp : Nat → Int) (i_nArg : Nat → Int) (i_pile : Nat → Int) (i_pileAt : Nat → Int) : Option (Int × Int × Int × Int × Int × Int × Int × Int × Int × Int × Int × (Nat → Int) × (Nat → Int) × (Nat → Int) × (Nat → Int)) :=
  if zi_w x1 ≠ zi_w (-1) then
    f_HM_readPart_57 i_taped i_tape i_words x1 s0 i_from i_to i_sort i_worth i_fault i_bad i_nCode i_nLeaves i_piled i_opened i_nOp i_nArg i_pile i_pileAt
  else
    if zi_w s0 = 0 then
      f_HM_readPart_62 i_taped i_tape i_words x1 s0 0 i_from i_to i_sort i_worth i_fault i_bad i_nCode i_nLeaves i_piled i_opened i_nOp i_nArg i_pile i_pileAt
    else
      f_HM_readPart_57 i_taped i_tape i_words x1 s0 i_from i_to i_sort i_worth i_fault i_bad i_nCode i_nLeaves i_piled i_opened i_nOp i_nArg i_pile i_pileAt
def f_HM_readPart_45 (i_taped : Int) (i_tape : Nat → Int) (i_words : Nat → Int) (x1 : Int) (i_from : Int) (i_to : Int) (i_sort : Int) (i_worth : Int) (i_fault : Int) (i_bad : Int) (i_nCode : Int) (i_nLeaves : Int) (i_piled : Int) (i_opened : Int) (i_nOp : Nat → Int) (i_nArg : Nat → Int) (i_pile : Nat → Int) (i_pileAt : Nat → Int) : Option (Int × Int × Int × Int × Int × Int × Int × Int × Int × Int × Int × (Nat → Int) × (Nat → Int) × (Nat → Int) × (Nat → Int)) :=
  f_HM_readPart_46 i_taped i_tape i_words x1 0 i_from i_to i_sort i_worth i_fault i_bad i_nCode i_nLeaves i_piled i_opened i_nOp i_nArg i_pile i_pileAt
def f_HM_readPart (i_taped : Int) (i_tape : Nat → Int) (i_words : Nat → Int) (i_from : Int) (i_to : Int) (i_sort : Int) (i_worth : Int) (i_fault : Int) (i_bad : Int) (i_nCode : Int) (i_nLeaves : Int) (i_piled : Int) (i_opened : Int) (i_nOp : Nat → Int) (i_nArg : Nat → Int) (i_pile : Nat → Int) (i_pileAt : Nat → Int) : Option (Int × Int × Int × Int × Int × Int × Int × Int × Int × Int × Int × (Nat → Int) × (Nat → Int) × (Nat → Int) × (Nat → Int)) :=
  zd1 (f_HM_isSign 91 i_sort i_worth) fun v1 =>
  if zi_w v1 = 0 then
    zd1 (f_HM_partAt i_sort i_worth i_words) fun v2 =>
    if zi_w i_sort ≠ zi_w 2 then
      f_HM_readPart_45 i_taped i_tape i_words v2 i_from i_to i_sort i_worth i_fault i_bad i_nCode i_nLeaves i_piled i_opened i_nOp i_nArg i_pile i_pileAt
    else
      if zl_w 1000 < zl_w i_worth then
        f_HM_readPart_45 i_taped i_tape i_words v2 i_from i_to i_sort i_worth i_fault i_bad i_nCode i_nLeaves i_piled i_opened i_nOp i_nArg i_pile i_pileAt
      else
        f_HM_readPart_46 i_taped i_tape i_words v2 1 i_from i_to i_sort i_worth i_fault i_bad i_nCode i_nLeaves i_piled i_opened i_nOp i_nArg i_pile i_pileAt
  else
    zd10 (f_HM_openBracket 31 i_taped i_tape i_from i_to i_sort i_worth i_fault i_bad i_piled i_opened i_pile i_pileAt) fun v3 v4 v5 v6 v7 v8 v9 v10 a11 a12 =>
    some (1, v3, v4, v5, v6, v7, v8, i_nCode, i_nLeaves, v9, v10, i_nOp, i_nArg, a11, a12)
set_option maxHeartbeats 4000000 in
set_option maxRecDepth 100000 in
theorem c_HM_readPart (l : Launch) (ev : zEv) (dC : Nat → ClassId) (dI : Nat → Nat → Nat) (cA : Nat → ClassId) (q0 q1 q2 q3 q4 q5 q6 q7 q8 q9 q10 q11 q12 q13 q14 q15 q16 q17 q18 q19 q20 q21 q22 q23 q24 q25 q26 q27 q28 q29 q30 q31 : Nat) (u0 u1 u2 u3 u4 u5 u6 u7 u8 u9 u10 : Int) {i_taped : Int} {i_tape : Nat → Int} {i_words : Nat → Int} {i_from : Int} {i_to : Int} {i_sort : Int} {i_worth : Int} {i_fault : Int} {i_bad : Int} {i_nCode : Int} {i_nLeaves : Int} {i_piled : Int} {i_opened : Int} {i_nOp : Nat → Int} {i_nArg : Nat → Int} {i_pile : Nat → Int} {i_pileAt : Nat → Int} {out : Int × Int × Int × Int × Int × Int × Int × Int × Int × Int × Int × (Nat → Int) × (Nat → Int) × (Nat → Int) × (Nat → Int)} (hf : f_HM_readPart i_taped i_tape i_words i_from i_to i_sort i_worth i_fault i_bad i_nCode i_nLeaves i_piled i_opened i_nOp i_nArg i_pile i_pileAt = some out) : xc_I l ev (dC, dI) vwCl (tyl cA) yX11_readPart w_HM_readPart rm_HM_readPart [.ref q0] (wd_HM_readPart cA q0 q1 q2 q3 q4 q5 q6 q7 q8 q9 q10 q11 q12 q13 q14 q15 q16 q17 q18 q19 q20 q21 q22 q23 q24 q25 q26 q27 q28 q29 q30 q31 u0 u1 u2 u3 u4 u5 u6 u7 u8 u9 u10 i_taped i_tape i_words i_from i_to i_sort i_worth i_fault i_bad i_nCode i_nLeaves i_piled i_opened i_nOp i_nArg i_pile i_pileAt) (wf_HM_readPart cA q0 q1 q2 q3 q4 q5 q6 q7 q8 q9 q10 q11 q12 q13 q14 q15 q16 q17 q18 q19 q20 q21 q22 q23 q24 q25 q26 q27 q28 q29 q30 q31 u0 u1 u2 u3 u4 u5 u6 u7 u8 u9 u10 i_taped i_tape i_words out) out.1 := by
  refine xv_startI (cc := cX11_readPart) (maxL := 3) (rt := .int) (by decide +kernel) rfl (Nat.le_of_ble_eq_true rfl) ?_
  intro p e s m args below meth c A Q H ls hx hb hml hts hown hK hA hP hD hS hl hE hret
  have hown : s.vm.findClass "HillSchoolModel" = some m.cls := hown
  have hz : ∀ w ∈ zall, w.before args s = true := fun w h => hts w (List.mem_cons_of_mem _ h)
  have hl : lv_has ls 3 [(0, .ref q0)] := hl
  have b_85 : ∀ (s1 : Int) (s2 : Int) (s3 : Int) (i_from : Int) (i_to : Int) (i_sort : Int) (i_worth : Int) (i_fault : Int) (i_bad : Int) (i_nCode : Int) (i_nLeaves : Int) (i_piled : Int) (i_opened : Int) (i_nOp : Nat → Int) (i_nArg : Nat → Int) (i_pile : Nat → Int) (i_pileAt : Nat → Int) (H : Heap) (locs : List Loc) (ls : Array Slot), f_HM_readPart_85 i_taped i_tape i_words s1 s2 s3 i_from i_to i_sort i_worth i_fault i_bad i_nCode i_nLeaves i_piled i_opened i_nOp i_nArg i_pile i_pileAt = some out → va_P (dC, dI) vwCl (wd_HM_readPart cA q0 q1 q2 q3 q4 q5 q6 q7 q8 q9 q10 q11 q12 q13 q14 q15 q16 q17 q18 q19 q20 q21 q22 q23 q24 q25 q26 q27 q28 q29 q30 q31 u0 u1 u2 u3 u4 u5 u6 u7 u8 u9 u10 i_taped i_tape i_words i_from i_to i_sort i_worth i_fault i_bad i_nCode i_nLeaves i_piled i_opened i_nOp i_nArg i_pile i_pileAt) H → va_D A (wd_HM_readPart cA q0 q1 q2 q3 q4 q5 q6 q7 q8 q9 q10 q11 q12 q13 q14 q15 q16 q17 q18 q19 q20 q21 q22 q23 q24 q25 q26 q27 q28 q29 q30 q31 u0 u1 u2 u3 u4 u5 u6 u7 u8 u9 u10 i_taped i_tape i_words i_from i_to i_sort i_worth i_fault i_bad i_nCode i_nLeaves i_piled i_opened i_nOp i_nArg i_pile i_pileAt) → va_S A s.heap H locs → lv_has ls 3 [] → W p l e rm_HM_readPart s m args below meth c H locs 0 0 Q (F0 m 85 ls [.int (Int32.ofInt s3), .int (Int32.ofInt s2), .int (Int32.ofInt s1), .ref q0]) := by
    intro s1 s2 s3 i_from i_to i_sort i_worth i_fault i_bad i_nCode i_nLeaves i_piled i_opened i_nOp i_nArg i_pile i_pileAt H locs ls hf hP hD hS hl
    unfold f_HM_readPart_85 at hf
    refine xe_d10 hf (fun v1 v2 v3 v4 v5 v6 v7 v8 a9 a10 hg hf => ?_)
    have hC : ([0, 1, 2, 3] : List Nat).map (fun i => (wd_HM_readPart cA q0 q1 q2 q3 q4 q5 q6 q7 q8 q9 q10 q11 q12 q13 q14 q15 q16 q17 q18 q19 q20 q21 q22 q23 q24 q25 q26 q27 q28 q29 q30 q31 u0 u1 u2 u3 u4 u5 u6 u7 u8 u9 u10 i_taped i_tape i_words i_from i_to i_sort i_worth i_fault i_bad i_nCode i_nLeaves i_piled i_opened i_nOp i_nArg i_pile i_pileAt)[i]?) = (wd_HM_leaf cA q0 q1 q2 q3 q4 q5 q6 q7 q8 q9 q10 q11 q12 q13 q14 q15 q16 q17 q18 q19 q20 q21 q22 q23 q24 q25 q26 q27 q28 q29 q30 q31 u0 u1 u2 u3 i_piled i_opened u4 u5 u6 u7 u8 u9 u10 i_taped i_tape i_from i_to i_sort i_worth i_fault i_bad i_nCode i_nLeaves i_nOp i_nArg).map some := rfl
    refine xv_afterV (ws' := (wd_HM_readPart cA q0 q1 q2 q3 q4 q5 q6 q7 q8 q9 q10 q11 q12 q13 q14 q15 q16 q17 q18 q19 q20 q21 q22 q23 q24 q25 q26 q27 q28 q29 q30 q31 u0 u1 u2 u3 u4 u5 u6 u7 u8 u9 u10 i_taped i_tape i_words v1 v2 v3 v4 v5 v6 v7 v8 i_piled i_opened a9 a10 i_pile i_pileAt)) (isC := [0, 1, 2, 3]) (ps := [some 0, some 1, some 2, some 3, none, none, none]) (va_runV (As := [.int (Int32.ofInt s1), .int (Int32.ofInt s2), .int (Int32.ofInt s3)]) (rest := []) ⟨hx, hb, hml, hown, hts⟩ (c_HM_leaf l ev dC dI cA q0 q1 q2 q3 q4 q5 q6 q7 q8 q9 q10 q11 q12 q13 q14 q15 q16 q17 q18 q19 q20 q21 q22 q23 q24 q25 q26 q27 q28 q29 q30 q31 u0 u1 u2 u3 i_piled i_opened u4 u5 u6 u7 u8 u9 u10 hg H.size) (cwV 3 hts (zgV zw_1499 zw_1501 zw_58 zw_115 zw_1502) rfl rfl rfl hd_HM_leaf ⟨Nat.le_of_ble_eq_true rfl, Nat.le_of_ble_eq_true rfl⟩) (xv_preV (T := TX11) (N := 53) hE hA hS hK hP hD (isC := [0, 1, 2, 3]) (by decide +kernel) hC (q0 := 0) (ci := 11) rfl rfl) rfl rfl hl.1 rfl (lv_room (Nat.le_of_ble_eq_true rfl)) dX11_readPart_85 ⟨Nat.le_refl _, Nat.le_refl _⟩) hP hD hS hA (by decide +kernel) rfl hC rfl rfl (fun H locs hP hD hS => ?_)
    refine lv_iconst (v := Int32.ofInt 3) hx hb dX11_readPart_88 rfl ?_
    obtain rfl := Option.some.inj hf
    exact hret _ _ _ _ rfl dX11_readPart_89 hP hD hS
  have b_72 : ∀ (x2 : Int) (s1 : Int) (s2 : Int) (i_from : Int) (i_to : Int) (i_sort : Int) (i_worth : Int) (i_fault : Int) (i_bad : Int) (i_nCode : Int) (i_nLeaves : Int) (i_piled : Int) (i_opened : Int) (i_nOp : Nat → Int) (i_nArg : Nat → Int) (i_pile : Nat → Int) (i_pileAt : Nat → Int) (H : Heap) (locs : List Loc) (ls : Array Slot), f_HM_readPart_72 i_taped i_tape i_words x2 s1 s2 i_from i_to i_sort i_worth i_fault i_bad i_nCode i_nLeaves i_piled i_opened i_nOp i_nArg i_pile i_pileAt = some out → va_P (dC, dI) vwCl (wd_HM_readPart cA q0 q1 q2 q3 q4 q5 q6 q7 q8 q9 q10 q11 q12 q13 q14 q15 q16 q17 q18 q19 q20 q21 q22 q23 q24 q25 q26 q27 q28 q29 q30 q31 u0 u1 u2 u3 u4 u5 u6 u7 u8 u9 u10 i_taped i_tape i_words i_from i_to i_sort i_worth i_fault i_bad i_nCode i_nLeaves i_piled i_opened i_nOp i_nArg i_pile i_pileAt) H → va_D A (wd_HM_readPart cA q0 q1 q2 q3 q4 q5 q6 q7 q8 q9 q10 q11 q12 q13 q14 q15 q16 q17 q18 q19 q20 q21 q22 q23 q24 q25 q26 q27 q28 q29 q30 q31 u0 u1 u2 u3 u4 u5 u6 u7 u8 u9 u10 i_taped i_tape i_words i_from i_to i_sort i_worth i_fault i_bad i_nCode i_nLeaves i_piled i_opened i_nOp i_nArg i_pile i_pileAt) → va_S A s.heap H locs → lv_has ls 3 [(0, .ref q0), (2, .int (Int32.ofInt x2))] → W p l e rm_HM_readPart s m args below meth c H locs 0 0 Q (F0 m 72 ls [.int (Int32.ofInt s2), .int (Int32.ofInt s1), .ref q0]) := by
    intro x2 s1 s2 i_from i_to i_sort i_worth i_fault i_bad i_nCode i_nLeaves i_piled i_opened i_nOp i_nArg i_pile i_pileAt H locs ls hf hP hD hS hl
    unfold f_HM_readPart_72 at hf
    refine lv_iload_n hx hb dX11_readPart_72 rfl (lv_at hl 1 rfl) ?_
    refine xi_if_eq (tgt := 84) hx hb dX11_readPart_73 (by decide) hf (fun hf => ?_) (fun hf => ?_)
    · refine lv_iconst (v := Int32.ofInt 0) hx hb dX11_readPart_84 rfl ?_
      exact b_85  _ _ _ _ _ _ _ _ _ _ _ _ _ _ _ _ _ _ _ _ hf hP hD hS (lv_sub hl [] rfl)
    · refine lv_aload_n hx hb dX11_readPart_76 rfl (lv_at hl 0 rfl) ?_
      refine va_get (D := (dC, dI)) (ci := 11) (v := .long (Int64.ofInt i_worth)) (C := RX11) (T := TX11) (N := 53) hx hb hz zi_X11 hown hK hP 0 rfl rfl 12 (by decide) (hz _ zw_1177) (fun _ h9 => h9) rfl dX11_readPart_77 ?_
      refine xl_l2i hx hb dX11_readPart_80 ?_
      refine lv_goto (tgt := 85) hx hb dX11_readPart_81 (by decide) ?_
      exact b_85  _ _ _ _ _ _ _ _ _ _ _ _ _ _ _ _ _ _ _ _ hf hP hD hS (lv_sub hl [] rfl)
  have b_62 : ∀ (x1 : Int) (x2 : Int) (s1 : Int) (i_from : Int) (i_to : Int) (i_sort : Int) (i_worth : Int) (i_fault : Int) (i_bad : Int) (i_nCode : Int) (i_nLeaves : Int) (i_piled : Int) (i_opened : Int) (i_nOp : Nat → Int) (i_nArg : Nat → Int) (i_pile : Nat → Int) (i_pileAt : Nat → Int) (H : Heap) (locs : List Loc) (ls : Array Slot), f_HM_readPart_62 i_taped i_tape i_words x1 x2 s1 i_from i_to i_sort i_worth i_fault i_bad i_nCode i_nLeaves i_piled i_opened i_nOp i_nArg i_pile i_pileAt = some out → va_P (dC, dI) vwCl (wd_HM_readPart cA q0 q1 q2 q3 q4 q5 q6 q7 q8 q9 q10 q11 q12 q13 q14 q15 q16 q17 q18 q19 q20 q21 q22 q23 q24 q25 q26 q27 q28 q29 q30 q31 u0 u1 u2 u3 u4 u5 u6 u7 u8 u9 u10 i_taped i_tape i_words i_from i_to i_sort i_worth i_fault i_bad i_nCode i_nLeaves i_piled i_opened i_nOp i_nArg i_pile i_pileAt) H → va_D A (wd_HM_readPart cA q0 q1 q2 q3 q4 q5 q6 q7 q8 q9 q10 q11 q12 q13 q14 q15 q16 q17 q18 q19 q20 q21 q22 q23 q24 q25 q26 q27 q28 q29 q30 q31 u0 u1 u2 u3 u4 u5 u6 u7 u8 u9 u10 i_taped i_tape i_words i_from i_to i_sort i_worth i_fault i_bad i_nCode i_nLeaves i_piled i_opened i_nOp i_nArg i_pile i_pileAt) → va_S A s.heap H locs → lv_has ls 3 [(0, .ref q0), (1, .int (Int32.ofInt x1)), (2, .int (Int32.ofInt x2))] → W p l e rm_HM_readPart s m args below meth c H locs 0 0 Q (F0 m 62 ls [.int (Int32.ofInt s1), .ref q0]) := by
    intro x1 x2 s1 i_from i_to i_sort i_worth i_fault i_bad i_nCode i_nLeaves i_piled i_opened i_nOp i_nArg i_pile i_pileAt H locs ls hf hP hD hS hl
    unfold f_HM_readPart_62 at hf
    refine lv_iload_n hx hb dX11_readPart_62 rfl (lv_at hl 1 rfl) ?_
    refine lv_iconst (v := Int32.ofInt (-1)) hx hb dX11_readPart_63 rfl ?_
    refine xi_icmp_ne (tgt := 71) hx hb dX11_readPart_64 (by decide) hf (fun hf => ?_) (fun hf => ?_)
    · refine lv_iload_n hx hb dX11_readPart_71 rfl (lv_at hl 1 rfl) ?_
      exact b_72  _ _ _ _ _ _ _ _ _ _ _ _ _ _ _ _ _ _ _ _ hf hP hD hS (lv_sub hl [0, 2] rfl)
    · refine lv_iconst (v := Int32.ofInt 0) hx hb dX11_readPart_67 rfl ?_
      refine lv_goto (tgt := 72) hx hb dX11_readPart_68 (by decide) ?_
      exact b_72  _ _ _ _ _ _ _ _ _ _ _ _ _ _ _ _ _ _ _ _ hf hP hD hS (lv_sub hl [0, 2] rfl)
  have b_57 : ∀ (x1 : Int) (x2 : Int) (i_from : Int) (i_to : Int) (i_sort : Int) (i_worth : Int) (i_fault : Int) (i_bad : Int) (i_nCode : Int) (i_nLeaves : Int) (i_piled : Int) (i_opened : Int) (i_nOp : Nat → Int) (i_nArg : Nat → Int) (i_pile : Nat → Int) (i_pileAt : Nat → Int) (H : Heap) (locs : List Loc) (ls : Array Slot), f_HM_readPart_57 i_taped i_tape i_words x1 x2 i_from i_to i_sort i_worth i_fault i_bad i_nCode i_nLeaves i_piled i_opened i_nOp i_nArg i_pile i_pileAt = some out → va_P (dC, dI) vwCl (wd_HM_readPart cA q0 q1 q2 q3 q4 q5 q6 q7 q8 q9 q10 q11 q12 q13 q14 q15 q16 q17 q18 q19 q20 q21 q22 q23 q24 q25 q26 q27 q28 q29 q30 q31 u0 u1 u2 u3 u4 u5 u6 u7 u8 u9 u10 i_taped i_tape i_words i_from i_to i_sort i_worth i_fault i_bad i_nCode i_nLeaves i_piled i_opened i_nOp i_nArg i_pile i_pileAt) H → va_D A (wd_HM_readPart cA q0 q1 q2 q3 q4 q5 q6 q7 q8 q9 q10 q11 q12 q13 q14 q15 q16 q17 q18 q19 q20 q21 q22 q23 q24 q25 q26 q27 q28 q29 q30 q31 u0 u1 u2 u3 u4 u5 u6 u7 u8 u9 u10 i_taped i_tape i_words i_from i_to i_sort i_worth i_fault i_bad i_nCode i_nLeaves i_piled i_opened i_nOp i_nArg i_pile i_pileAt) → va_S A s.heap H locs → lv_has ls 3 [(0, .ref q0), (1, .int (Int32.ofInt x1)), (2, .int (Int32.ofInt x2))] → W p l e rm_HM_readPart s m args below meth c H locs 0 0 Q (F0 m 57 ls [.ref q0]) := by
    intro x1 x2 i_from i_to i_sort i_worth i_fault i_bad i_nCode i_nLeaves i_piled i_opened i_nOp i_nArg i_pile i_pileAt H locs ls hf hP hD hS hl
    unfold f_HM_readPart_57 at hf
    refine lv_iconst (v := Int32.ofInt 1) hx hb dX11_readPart_57 rfl ?_
    refine lv_goto (tgt := 62) hx hb dX11_readPart_58 (by decide) ?_
    exact b_62  _ _ _ _ _ _ _ _ _ _ _ _ _ _ _ _ _ _ _ _ hf hP hD hS (lv_sub hl [0, 1, 2] rfl)
  have b_46 : ∀ (x1 : Int) (s0 : Int) (i_from : Int) (i_to : Int) (i_sort : Int) (i_worth : Int) (i_fault : Int) (i_bad : Int) (i_nCode : Int) (i_nLeaves : Int) (i_piled : Int) (i_opened : Int) (i_nOp : Nat → Int) (i_nArg : Nat → Int) (i_pile : Nat → Int) (i_pileAt : Nat → Int) (H : Heap) (locs : List Loc) (ls : Array Slot), f_HM_readPart_46 i_taped i_tape i_words x1 s0 i_from i_to i_sort i_worth i_fault i_bad i_nCode i_nLeaves i_piled i_opened i_nOp i_nArg i_pile i_pileAt = some out → va_P (dC, dI) vwCl (wd_HM_readPart cA q0 q1 q2 q3 q4 q5 q6 q7 q8 q9 q10 q11 q12 q13 q14 q15 q16 q17 q18 q19 q20 q21 q22 q23 q24 q25 q26 q27 q28 q29 q30 q31 u0 u1 u2 u3 u4 u5 u6 u7 u8 u9 u10 i_taped i_tape i_words i_from i_to i_sort i_worth i_fault i_bad i_nCode i_nLeaves i_piled i_opened i_nOp i_nArg i_pile i_pileAt) H → va_D A (wd_HM_readPart cA q0 q1 q2 q3 q4 q5 q6 q7 q8 q9 q10 q11 q12 q13 q14 q15 q16 q17 q18 q19 q20 q21 q22 q23 q24 q25 q26 q27 q28 q29 q30 q31 u0 u1 u2 u3 u4 u5 u6 u7 u8 u9 u10 i_taped i_tape i_words i_from i_to i_sort i_worth i_fault i_bad i_nCode i_nLeaves i_piled i_opened i_nOp i_nArg i_pile i_pileAt) → va_S A s.heap H locs → lv_has ls 3 [(0, .ref q0), (1, .int (Int32.ofInt x1))] → W p l e rm_HM_readPart s m args below meth c H locs 0 0 Q (F0 m 46 ls [.int (Int32.ofInt s0)]) := by
    intro x1 s0 i_from i_to i_sort i_worth i_fault i_bad i_nCode i_nLeaves i_piled i_opened i_nOp i_nArg i_pile i_pileAt H locs ls hf hP hD hS hl
    unfold f_HM_readPart_46 at hf
    refine lv_istore_n (lv' := [(2, .int (Int32.ofInt s0)), (0, .ref q0), (1, .int (Int32.ofInt x1))]) hx hb dX11_readPart_46 rfl hl (by decide) rfl (fun ls hl => ?_)
    refine lv_aload_n hx hb dX11_readPart_47 rfl (lv_at hl 1 rfl) ?_
    refine lv_iload_n hx hb dX11_readPart_48 rfl (lv_at hl 2 rfl) ?_
    refine lv_iconst (v := Int32.ofInt (-1)) hx hb dX11_readPart_49 rfl ?_
    refine xi_icmp_ne (tgt := 57) hx hb dX11_readPart_50 (by decide) hf (fun hf => ?_) (fun hf => ?_)
    · exact b_57  _ _ _ _ _ _ _ _ _ _ _ _ _ _ _ _ _ _ _ hf hP hD hS (lv_sub hl [1, 2, 0] rfl)
    · refine lv_iload_n hx hb dX11_readPart_53 rfl (lv_at hl 0 rfl) ?_
      refine xi_if_eq (tgt := 61) hx hb dX11_readPart_54 (by decide) hf (fun hf => ?_) (fun hf => ?_)
      · refine lv_iconst (v := Int32.ofInt 0) hx hb dX11_readPart_61 rfl ?_
        exact b_62  _ _ _ _ _ _ _ _ _ _ _ _ _ _ _ _ _ _ _ _ hf hP hD hS (lv_sub hl [1, 2, 0] rfl)
      · exact b_57  _ _ _ _ _ _ _ _ _ _ _ _ _ _ _ _ _ _ _ hf hP hD hS (lv_sub hl [1, 2, 0] rfl)
  have b_45 : ∀ (x1 : Int) (i_from : Int) (i_to : Int) (i_sort : Int) (i_worth : Int) (i_fault : Int) (i_bad : Int) (i_nCode : Int) (i_nLeaves : Int) (i_piled : Int) (i_opened : Int) (i_nOp : Nat → Int) (i_nArg : Nat → Int) (i_pile : Nat → Int) (i_pileAt : Nat → Int) (H : Heap) (locs : List Loc) (ls : Array Slot), f_HM_readPart_45 i_taped i_tape i_words x1 i_from i_to i_sort i_worth i_fault i_bad i_nCode i_nLeaves i_piled i_opened i_nOp i_nArg i_pile i_pileAt = some out → va_P (dC, dI) vwCl (wd_HM_readPart cA q0 q1 q2 q3 q4 q5 q6 q7 q8 q9 q10 q11 q12 q13 q14 q15 q16 q17 q18 q19 q20 q21 q22 q23 q24 q25 q26 q27 q28 q29 q30 q31 u0 u1 u2 u3 u4 u5 u6 u7 u8 u9 u10 i_taped i_tape i_words i_from i_to i_sort i_worth i_fault i_bad i_nCode i_nLeaves i_piled i_opened i_nOp i_nArg i_pile i_pileAt) H → va_D A (wd_HM_readPart cA q0 q1 q2 q3 q4 q5 q6 q7 q8 q9 q10 q11 q12 q13 q14 q15 q16 q17 q18 q19 q20 q21 q22 q23 q24 q25 q26 q27 q28 q29 q30 q31 u0 u1 u2 u3 u4 u5 u6 u7 u8 u9 u10 i_taped i_tape i_words i_from i_to i_sort i_worth i_fault i_bad i_nCode i_nLeaves i_piled i_opened i_nOp i_nArg i_pile i_pileAt) → va_S A s.heap H locs → lv_has ls 3 [(0, .ref q0), (1, .int (Int32.ofInt x1))] → W p l e rm_HM_readPart s m args below meth c H locs 0 0 Q (F0 m 45 ls []) := by
    intro x1 i_from i_to i_sort i_worth i_fault i_bad i_nCode i_nLeaves i_piled i_opened i_nOp i_nArg i_pile i_pileAt H locs ls hf hP hD hS hl
    unfold f_HM_readPart_45 at hf
    refine lv_iconst (v := Int32.ofInt 0) hx hb dX11_readPart_45 rfl ?_
    exact b_46  _ _ _ _ _ _ _ _ _ _ _ _ _ _ _ _ _ _ _ hf hP hD hS (lv_sub hl [0, 1] rfl)
  unfold f_HM_readPart at hf
  refine lv_aload_n hx hb dX11_readPart_0 rfl (lv_at hl 0 rfl) ?_
  refine lv_bipush (v := Int32.ofInt 91) hx hb dX11_readPart_1 (by decide) ?_
  refine xe_d1 hf (fun v1 hg hf => ?_)
  have hC : ([0] : List Nat).map (fun i => (wd_HM_readPart cA q0 q1 q2 q3 q4 q5 q6 q7 q8 q9 q10 q11 q12 q13 q14 q15 q16 q17 q18 q19 q20 q21 q22 q23 q24 q25 q26 q27 q28 q29 q30 q31 u0 u1 u2 u3 u4 u5 u6 u7 u8 u9 u10 i_taped i_tape i_words i_from i_to i_sort i_worth i_fault i_bad i_nCode i_nLeaves i_piled i_opened i_nOp i_nArg i_pile i_pileAt)[i]?) = (wd_HM_isSign cA q0 q1 q2 q3 q4 q5 q6 q7 q8 q9 q10 q11 q12 q13 q14 q15 q16 q17 q18 q19 q20 q21 q22 q23 q24 q25 q26 q27 q28 q29 q30 q31 u0 u1 u2 i_taped i_from i_to i_fault i_bad u3 i_nCode i_nLeaves i_piled i_opened u4 u5 u6 u7 u8 u9 u10 i_sort i_worth).map some := rfl
  refine xv_afterI (ws' := (wd_HM_readPart cA q0 q1 q2 q3 q4 q5 q6 q7 q8 q9 q10 q11 q12 q13 q14 q15 q16 q17 q18 q19 q20 q21 q22 q23 q24 q25 q26 q27 q28 q29 q30 q31 u0 u1 u2 u3 u4 u5 u6 u7 u8 u9 u10 i_taped i_tape i_words i_from i_to i_sort i_worth i_fault i_bad i_nCode i_nLeaves i_piled i_opened i_nOp i_nArg i_pile i_pileAt)) (isC := [0]) (ps := [some 0, none, none, none, none, none, none]) (va_runV (As := [.int (Int32.ofInt 91)]) (rest := []) ⟨hx, hb, hml, hown, hts⟩ (c_HM_isSign l ev dC dI cA q0 q1 q2 q3 q4 q5 q6 q7 q8 q9 q10 q11 q12 q13 q14 q15 q16 q17 q18 q19 q20 q21 q22 q23 q24 q25 q26 q27 q28 q29 q30 q31 u0 u1 u2 i_taped i_from i_to i_fault i_bad u3 i_nCode i_nLeaves i_piled i_opened u4 u5 u6 u7 u8 u9 u10 hg H.size) (cwV 1 hts (zgV zw_1482 zw_1484 zw_54 zw_115 zw_1485) rfl rfl rfl hd_HM_isSign ⟨Nat.le_of_ble_eq_true rfl, Nat.le_of_ble_eq_true rfl⟩) (xv_preV (T := TX11) (N := 53) hE hA hS hK hP hD (isC := [0]) (by decide +kernel) hC (q0 := 0) (ci := 11) rfl rfl) rfl rfl hl.1 rfl (lv_room (Nat.le_of_ble_eq_true rfl)) dX11_readPart_3 ⟨Nat.le_refl _, Nat.le_refl _⟩) hP hD hS hA (by decide +kernel) rfl hC rfl rfl (fun H locs hP hD hS => ?_)
  refine xi_if_eq (tgt := 17) hx hb dX11_readPart_6 (by decide) hf (fun hf => ?_) (fun hf => ?_)
  · refine lv_aload_n hx hb dX11_readPart_17 rfl (lv_at hl 0 rfl) ?_
    refine xe_d1 hf (fun v2 hg hf => ?_)
    have hC : ([0, 6] : List Nat).map (fun i => (wd_HM_readPart cA q0 q1 q2 q3 q4 q5 q6 q7 q8 q9 q10 q11 q12 q13 q14 q15 q16 q17 q18 q19 q20 q21 q22 q23 q24 q25 q26 q27 q28 q29 q30 q31 u0 u1 u2 u3 u4 u5 u6 u7 u8 u9 u10 i_taped i_tape i_words i_from i_to i_sort i_worth i_fault i_bad i_nCode i_nLeaves i_piled i_opened i_nOp i_nArg i_pile i_pileAt)[i]?) = (wd_HM_partAt cA q0 q1 q2 q3 q4 q5 q6 q7 q8 q9 q10 q11 q12 q13 q14 q15 q16 q17 q18 q19 q20 q21 q22 q23 q24 q25 q26 q27 q28 q29 q30 q31 u0 u1 u2 i_taped i_from i_to i_fault i_bad u3 i_nCode i_nLeaves i_piled i_opened u4 u5 u6 u7 u8 u9 u10 i_sort i_worth i_words).map some := rfl
    refine xv_afterI (ws' := (wd_HM_readPart cA q0 q1 q2 q3 q4 q5 q6 q7 q8 q9 q10 q11 q12 q13 q14 q15 q16 q17 q18 q19 q20 q21 q22 q23 q24 q25 q26 q27 q28 q29 q30 q31 u0 u1 u2 u3 u4 u5 u6 u7 u8 u9 u10 i_taped i_tape i_words i_from i_to i_sort i_worth i_fault i_bad i_nCode i_nLeaves i_piled i_opened i_nOp i_nArg i_pile i_pileAt)) (isC := [0, 6]) (ps := [some 0, none, none, none, none, none, some 1]) (va_runV (As := []) (rest := []) ⟨hx, hb, hml, hown, hts⟩ (c_HM_partAt l ev dC dI cA q0 q1 q2 q3 q4 q5 q6 q7 q8 q9 q10 q11 q12 q13 q14 q15 q16 q17 q18 q19 q20 q21 q22 q23 q24 q25 q26 q27 q28 q29 q30 q31 u0 u1 u2 i_taped i_from i_to i_fault i_bad u3 i_nCode i_nLeaves i_piled i_opened u4 u5 u6 u7 u8 u9 u10 hg H.size) (cwV 0 hts (zgV zw_1494 zw_1496 zw_57 zw_115 zw_1497) rfl rfl rfl hd_HM_partAt ⟨Nat.le_of_ble_eq_true rfl, Nat.le_of_ble_eq_true rfl⟩) (xv_preV (T := TX11) (N := 53) hE hA hS hK hP hD (isC := [0, 6]) (by decide +kernel) hC (q0 := 0) (ci := 11) rfl rfl) rfl rfl hl.1 rfl (lv_room (Nat.le_of_ble_eq_true rfl)) dX11_readPart_18 ⟨Nat.le_refl _, Nat.le_refl _⟩) hP hD hS hA (by decide +kernel) rfl hC rfl rfl (fun H locs hP hD hS => ?_)
    refine lv_istore_n (lv' := [(1, .int (Int32.ofInt v2)), (0, .ref q0)]) hx hb dX11_readPart_21 rfl hl (by decide) rfl (fun ls hl => ?_)
    refine lv_aload_n hx hb dX11_readPart_22 rfl (lv_at hl 1 rfl) ?_
    refine va_get (D := (dC, dI)) (ci := 11) (v := .int (Int32.ofInt i_sort)) (C := RX11) (T := TX11) (N := 53) hx hb hz zi_X11 hown hK hP 0 rfl rfl 11 (by decide) (hz _ zw_1176) (fun _ h9 => h9) rfl dX11_readPart_23 ?_
    refine lv_iconst (v := Int32.ofInt 2) hx hb dX11_readPart_26 rfl ?_
    refine xi_icmp_ne (tgt := 45) hx hb dX11_readPart_27 (by decide) hf (fun hf => ?_) (fun hf => ?_)
    · exact b_45  _ _ _ _ _ _ _ _ _ _ _ _ _ _ _ _ _ _ hf hP hD hS (lv_sub hl [1, 0] rfl)
    · refine lv_aload_n hx hb dX11_readPart_30 rfl (lv_at hl 1 rfl) ?_
      refine va_get (D := (dC, dI)) (ci := 11) (v := .long (Int64.ofInt i_worth)) (C := RX11) (T := TX11) (N := 53) hx hb hz zi_X11 hown hK hP 0 rfl rfl 12 (by decide) (hz _ zw_1177) (fun _ h9 => h9) rfl dX11_readPart_31 ?_
      refine lv_ldc2 (v := Int64.ofInt 1000) hx hb hown (hz _ zw_1498) dX11_readPart_34 ?_
      refine xl_cmp_gt (tgt := 45) hx hb dX11_readPart_37 dX11_readPart_38 (by decide) hf (fun hf => ?_) (fun hf => ?_)
      · exact b_45  _ _ _ _ _ _ _ _ _ _ _ _ _ _ _ _ _ _ hf hP hD hS (lv_sub hl [1, 0] rfl)
      · refine lv_iconst (v := Int32.ofInt 1) hx hb dX11_readPart_41 rfl ?_
        refine lv_goto (tgt := 46) hx hb dX11_readPart_42 (by decide) ?_
        exact b_46  _ _ _ _ _ _ _ _ _ _ _ _ _ _ _ _ _ _ _ hf hP hD hS (lv_sub hl [1, 0] rfl)
  · refine lv_aload_n hx hb dX11_readPart_9 rfl (lv_at hl 0 rfl) ?_
    refine lv_bipush (v := Int32.ofInt 31) hx hb dX11_readPart_10 (by decide) ?_
    refine xe_d10 hf (fun v3 v4 v5 v6 v7 v8 v9 v10 a11 a12 hg hf => ?_)
    have hC : ([0, 1, 4, 5] : List Nat).map (fun i => (wd_HM_readPart cA q0 q1 q2 q3 q4 q5 q6 q7 q8 q9 q10 q11 q12 q13 q14 q15 q16 q17 q18 q19 q20 q21 q22 q23 q24 q25 q26 q27 q28 q29 q30 q31 u0 u1 u2 u3 u4 u5 u6 u7 u8 u9 u10 i_taped i_tape i_words i_from i_to i_sort i_worth i_fault i_bad i_nCode i_nLeaves i_piled i_opened i_nOp i_nArg i_pile i_pileAt)[i]?) = (wd_HM_openBracket cA q0 q1 q2 q3 q4 q5 q6 q7 q8 q9 q10 q11 q12 q13 q14 q15 q16 q17 q18 q19 q20 q21 q22 q23 q24 q25 q26 q27 q28 q29 q30 q31 u0 u1 u2 u3 i_nCode i_nLeaves u4 u5 u6 u7 u8 u9 u10 i_taped i_tape i_from i_to i_sort i_worth i_fault i_bad i_piled i_opened i_pile i_pileAt).map some := rfl
    refine xv_afterV (ws' := (wd_HM_readPart cA q0 q1 q2 q3 q4 q5 q6 q7 q8 q9 q10 q11 q12 q13 q14 q15 q16 q17 q18 q19 q20 q21 q22 q23 q24 q25 q26 q27 q28 q29 q30 q31 u0 u1 u2 u3 u4 u5 u6 u7 u8 u9 u10 i_taped i_tape i_words v3 v4 v5 v6 v7 v8 i_nCode i_nLeaves v9 v10 i_nOp i_nArg a11 a12)) (isC := [0, 1, 4, 5]) (ps := [some 0, some 1, none, none, some 2, some 3, none]) (va_runV (As := [.int (Int32.ofInt 31)]) (rest := []) ⟨hx, hb, hml, hown, hts⟩ (c_HM_openBracket l ev dC dI cA q0 q1 q2 q3 q4 q5 q6 q7 q8 q9 q10 q11 q12 q13 q14 q15 q16 q17 q18 q19 q20 q21 q22 q23 q24 q25 q26 q27 q28 q29 q30 q31 u0 u1 u2 u3 i_nCode i_nLeaves u4 u5 u6 u7 u8 u9 u10 hg H.size) (cwV 1 hts (zgV zw_1486 zw_1488 zw_55 zw_115 zw_1489) rfl rfl rfl hd_HM_openBracket ⟨Nat.le_of_ble_eq_true rfl, Nat.le_of_ble_eq_true rfl⟩) (xv_preV (T := TX11) (N := 53) hE hA hS hK hP hD (isC := [0, 1, 4, 5]) (by decide +kernel) hC (q0 := 0) (ci := 11) rfl rfl) rfl rfl hl.1 rfl (lv_room (Nat.le_of_ble_eq_true rfl)) dX11_readPart_12 ⟨Nat.le_refl _, Nat.le_refl _⟩) hP hD hS hA (by decide +kernel) rfl hC rfl rfl (fun H locs hP hD hS => ?_)
    refine lv_iconst (v := Int32.ofInt 1) hx hb dX11_readPart_15 rfl ?_
    obtain rfl := Option.some.inj hf
    exact hret _ _ _ _ rfl dX11_readPart_16 hP hD hS
theorem dX11_readPlain_0 : decode cX11_readPlain 0 = .ok (.aload_n 0, 1) := by decide +kernel
theorem dX11_readPlain_1 : decode cX11_readPlain 1 = .ok (.ldc2_w 273, 3) := by decide +kernel
theorem dX11_readPlain_4 : decode cX11_readPlain 4 = .ok (.invokevirtual 245, 3) := by decide +kernel
theorem dX11_readPlain_7 : decode cX11_readPlain 7 = .ok (.ifCond .eq 16, 3) := by decide +kernel
theorem dX11_readPlain_10 : decode cX11_readPlain 10 = .ok (.aload_n 0, 1) := by decide +kernel
theorem dX11_readPlain_11 : decode cX11_readPlain 11 = .ok (.bipush 27, 2) := by decide +kernel
theorem dX11_readPlain_13 : decode cX11_readPlain 13 = .ok (.iconst 0, 1) := by decide +kernel
theorem dX11_readPlain_14 : decode cX11_readPlain 14 = .ok (.invokevirtual 252, 3) := by decide +kernel
theorem dX11_readPlain_17 : decode cX11_readPlain 17 = .ok (.aload_n 0, 1) := by decide +kernel
theorem dX11_readPlain_18 : decode cX11_readPlain 18 = .ok (.invokevirtual 189, 3) := by decide +kernel
theorem dX11_readPlain_21 : decode cX11_readPlain 21 = .ok (.iconst 0, 1) := by decide +kernel
theorem dX11_readPlain_22 : decode cX11_readPlain 22 = .ok (.ireturn, 1) := by decide +kernel
theorem dX11_readPlain_23 : decode cX11_readPlain 23 = .ok (.aload_n 0, 1) := by decide +kernel
theorem dX11_readPlain_24 : decode cX11_readPlain 24 = .ok (.bipush 40, 2) := by decide +kernel
theorem dX11_readPlain_26 : decode cX11_readPlain 26 = .ok (.invokevirtual 258, 3) := by decide +kernel
theorem dX11_readPlain_29 : decode cX11_readPlain 29 = .ok (.ifCond .eq 11, 3) := by decide +kernel
theorem dX11_readPlain_32 : decode cX11_readPlain 32 = .ok (.aload_n 0, 1) := by decide +kernel
theorem dX11_readPlain_33 : decode cX11_readPlain 33 = .ok (.bipush 30, 2) := by decide +kernel
theorem dX11_readPlain_35 : decode cX11_readPlain 35 = .ok (.invokevirtual 261, 3) := by decide +kernel
theorem dX11_readPlain_38 : decode cX11_readPlain 38 = .ok (.iconst 0, 1) := by decide +kernel
theorem dX11_readPlain_39 : decode cX11_readPlain 39 = .ok (.ireturn, 1) := by decide +kernel
theorem dX11_readPlain_40 : decode cX11_readPlain 40 = .ok (.aload_n 0, 1) := by decide +kernel
theorem dX11_readPlain_41 : decode cX11_readPlain 41 = .ok (.invokevirtual 275, 3) := by decide +kernel
theorem dX11_readPlain_44 : decode cX11_readPlain 44 = .ok (.ireturn, 1) := by decide +kernel
theorem zw_56 : (Jvm.Cond.selects "HillSchoolModel" ({ cls := "HillSchoolModel", name := "readPart", desc := "()I" } : Jvm.MethodName) ({ cls := "HillSchoolModel", name := "readPart", desc := "()I" } : Jvm.MethodName)) ∈ zall := zmemG (zmj_0 56 rfl) rfl
theorem zw_1476 : (Jvm.Cond.code ({ cls := "HillSchoolModel", name := "readPlain", desc := "()I" } : Jvm.MethodName) prog_13_method_49_code (1 : Nat) (Option.some Jvm.ClassFile.FieldType.int)) ∈ zall := zmemG (zmj_6 173 rfl) rfl
theorem zw_1477 : (Jvm.Cond.constantLong "HillSchoolModel" (273 : Nat) (14836 : Int64)) ∈ zall := zmemG (zmj_6 174 rfl) rfl
theorem zw_1490 : (Jvm.Cond.methodLink "HillSchoolModel" (275 : Nat) ({ cls := "HillSchoolModel", name := "readPart", desc := "()I" } : Jvm.MethodName)) ∈ zall := zmemG (zmj_6 187 rfl) rfl
theorem zw_1492 : (Jvm.Cond.instanceMethod ({ cls := "HillSchoolModel", name := "readPart", desc := "()I" } : Jvm.MethodName)) ∈ zall := zmemG (zmj_6 189 rfl) rfl
abbrev w_HM_readPlain : List Cond := .code yX11_readPlain cX11_readPlain 1 (some .int) :: zall
abbrev rm_HM_readPlain : Room := { frames := 5, cells := 0, slots := 0, locals := 106 }
theorem hd_HM_readPlain : yX11_readPlain.cls = "HillSchoolModel" ∧ yX11_readPlain.cls ≠ "java/lang/invoke/MethodHandle" ∧ yX11_readPlain.cls ≠ "java/lang/invoke/VarHandle" ∧ (parseMethodDescriptor yX11_readPlain.desc).map (fun d => d.parameters.length) = some 0 := by decide +kernel
def wd_HM_readPlain (cA : Nat → ClassId) (q0 q1 q2 q3 q4 q5 q6 q7 q8 q9 q10 q11 q12 q13 q14 q15 q16 q17 q18 q19 q20 q21 q22 q23 q24 q25 q26 q27 q28 q29 q30 q31 : Nat) (u0 u1 u2 u3 u4 u5 u6 u7 u8 u9 u10 : Int) (i_taped : Int) (i_tape : Nat → Int) (i_words : Nat → Int) (i_from : Int) (i_to : Int) (i_sort : Int) (i_worth : Int) (i_fault : Int) (i_bad : Int) (i_nCode : Int) (i_nLeaves : Int) (i_piled : Int) (i_opened : Int) (i_nOp : Nat → Int) (i_nArg : Nat → Int) (i_pile : Nat → Int) (i_pileAt : Nat → Int) : va_W := [(q0, .inr (11, [.int (Int32.ofInt u0), .int (Int32.ofInt u1), .ref q1, .ref q2, .ref q3, .ref q4, .int (Int32.ofInt u2), .ref q5, .int (Int32.ofInt i_taped), .int (Int32.ofInt i_from), .int (Int32.ofInt i_to), .int (Int32.ofInt i_sort), .long (Int64.ofInt i_worth), .int (Int32.ofInt i_fault), .int (Int32.ofInt i_bad), .int (Int32.ofInt u3), .ref q6, .int (Int32.ofInt i_nCode), .ref q7, .ref q8, .int (Int32.ofInt i_nLeaves), .ref q9, .ref q10, .int (Int32.ofInt i_piled), .int (Int32.ofInt i_opened), .ref q11, .int (Int32.ofInt u4), .ref q12, .ref q13, .int (Int32.ofInt u5), .long (Int64.ofInt u6), .long (Int64.ofInt u7), .ref q14, .ref q15, .ref q16, .ref q17, .ref q18, .int (Int32.ofInt u8), .ref q19, .ref q20, .ref q21, .ref q22, .ref q23, .ref q24, .ref q25, .ref q26, .ref q27, .ref q28, .ref q29, .ref q30, .long (Int64.ofInt u9), .ref q31, .int (Int32.ofInt u10)])), (q5, .inl (cA 0, 400, .inl (za i_tape))), (q7, .inl (cA 0, 400, .inl (za i_nOp))), (q8, .inl (cA 0, 400, .inl (za i_nArg))), (q9, .inl (cA 0, 400, .inl (za i_pile))), (q10, .inl (cA 0, 400, .inl (za i_pileAt))), (q11, .inl (cA 2, 8, .inr (.inl (zl i_words))))]
def wf_HM_readPlain (cA : Nat → ClassId) (q0 q1 q2 q3 q4 q5 q6 q7 q8 q9 q10 q11 q12 q13 q14 q15 q16 q17 q18 q19 q20 q21 q22 q23 q24 q25 q26 q27 q28 q29 q30 q31 : Nat) (u0 u1 u2 u3 u4 u5 u6 u7 u8 u9 u10 : Int) (i_taped : Int) (i_tape : Nat → Int) (i_words : Nat → Int) (o : Int × Int × Int × Int × Int × Int × Int × Int × Int × Int × Int × (Nat → Int) × (Nat → Int) × (Nat → Int) × (Nat → Int)) : va_W := wd_HM_readPlain cA q0 q1 q2 q3 q4 q5 q6 q7 q8 q9 q10 q11 q12 q13 q14 q15 q16 q17 q18 q19 q20 q21 q22 q23 q24 q25 q26 q27 q28 q29 q30 q31 u0 u1 u2 u3 u4 u5 u6 u7 u8 u9 u10 i_taped i_tape i_words o.2.1 o.2.2.1 o.2.2.2.1 o.2.2.2.2.1 o.2.2.2.2.2.1 o.2.2.2.2.2.2.1 o.2.2.2.2.2.2.2.1 o.2.2.2.2.2.2.2.2.1 o.2.2.2.2.2.2.2.2.2.1 o.2.2.2.2.2.2.2.2.2.2.1 o.2.2.2.2.2.2.2.2.2.2.2.1 o.2.2.2.2.2.2.2.2.2.2.2.2.1 o.2.2.2.2.2.2.2.2.2.2.2.2.2.1 o.2.2.2.2.2.2.2.2.2.2.2.2.2.2
def f_HM_readPlain (i_taped : Int) (i_tape : Nat → Int) (i_words : Nat → Int) (i_from : Int) (i_to : Int) (i_sort : Int) (i_worth : Int) (i_fault : Int) (i_bad : Int) (i_nCode : Int) (i_nLeaves : Int) (i_piled : Int) (i_opened : Int) (i_nOp : Nat → Int) (i_nArg : Nat → Int) (i_pile : Nat → Int) (i_pileAt : Nat → Int) : Option (Int × Int × Int × Int × Int × Int × Int × Int × Int × Int × Int × (Nat → Int) × (Nat → Int) × (Nat → Int) × (Nat → Int)) :=
  zd1 (f_HM_isWord 14836 i_sort i_worth) fun v1 =>
  if zi_w v1 = 0 then
    zd1 (f_HM_isSign 40 i_sort i_worth) fun v2 =>
    if zi_w v2 = 0 then
      zd15 (f_HM_readPart i_taped i_tape i_words i_from i_to i_sort i_worth i_fault i_bad i_nCode i_nLeaves i_piled i_opened i_nOp i_nArg i_pile i_pileAt) fun v3 v4 v5 v6 v7 v8 v9 v10 v11 v12 v13 a14 a15 a16 a17 =>
      some (v3, v4, v5, v6, v7, v8, v9, v10, v11, v12, v13, a14, a15, a16, a17)
    else
      zd10 (f_HM_openBracket 30 i_taped i_tape i_from i_to i_sort i_worth i_fault i_bad i_piled i_opened i_pile i_pileAt) fun v18 v19 v20 v21 v22 v23 v24 v25 a26 a27 =>
      some (0, v18, v19, v20, v21, v22, v23, i_nCode, i_nLeaves, v24, v25, i_nOp, i_nArg, a26, a27)
  else
    zd3 (f_HM_push 27 0 i_piled i_pile i_pileAt) fun v28 a29 a30 =>
    zd4 (f_HM_next i_taped i_tape i_from i_to i_sort i_worth) fun v31 v32 v33 v34 =>
    some (0, v31, v32, v33, v34, i_fault, i_bad, i_nCode, i_nLeaves, v28, i_opened, i_nOp, i_nArg, a29, a30)
set_option maxHeartbeats 4000000 in
set_option maxRecDepth 100000 in
theorem c_HM_readPlain (l : Launch) (ev : zEv) (dC : Nat → ClassId) (dI : Nat → Nat → Nat) (cA : Nat → ClassId) (q0 q1 q2 q3 q4 q5 q6 q7 q8 q9 q10 q11 q12 q13 q14 q15 q16 q17 q18 q19 q20 q21 q22 q23 q24 q25 q26 q27 q28 q29 q30 q31 : Nat) (u0 u1 u2 u3 u4 u5 u6 u7 u8 u9 u10 : Int) {i_taped : Int} {i_tape : Nat → Int} {i_words : Nat → Int} {i_from : Int} {i_to : Int} {i_sort : Int} {i_worth : Int} {i_fault : Int} {i_bad : Int} {i_nCode : Int} {i_nLeaves : Int} {i_piled : Int} {i_opened : Int} {i_nOp : Nat → Int} {i_nArg : Nat → Int} {i_pile : Nat → Int} {i_pileAt : Nat → Int} {out : Int × Int × Int × Int × Int × Int × Int × Int × Int × Int × Int × (Nat → Int) × (Nat → Int) × (Nat → Int) × (Nat → Int)} (hf : f_HM_readPlain i_taped i_tape i_words i_from i_to i_sort i_worth i_fault i_bad i_nCode i_nLeaves i_piled i_opened i_nOp i_nArg i_pile i_pileAt = some out) : xc_I l ev (dC, dI) vwCl (tyl cA) yX11_readPlain w_HM_readPlain rm_HM_readPlain [.ref q0] (wd_HM_readPlain cA q0 q1 q2 q3 q4 q5 q6 q7 q8 q9 q10 q11 q12 q13 q14 q15 q16 q17 q18 q19 q20 q21 q22 q23 q24 q25 q26 q27 q28 q29 q30 q31 u0 u1 u2 u3 u4 u5 u6 u7 u8 u9 u10 i_taped i_tape i_words i_from i_to i_sort i_worth i_fault i_bad i_nCode i_nLeaves i_piled i_opened i_nOp i_nArg i_pile i_pileAt) (wf_HM_readPlain cA q0 q1 q2 q3 q4 q5 q6 q7 q8 q9 q10 q11 q12 q13 q14 q15 q16 q17 q18 q19 q20 q21 q22 q23 q24 q25 q26 q27 q28 q29 q30 q31 u0 u1 u2 u3 u4 u5 u6 u7 u8 u9 u10 i_taped i_tape i_words out) out.1 := by
  refine xv_startI (cc := cX11_readPlain) (maxL := 1) (rt := .int) (by decide +kernel) rfl (Nat.le_of_ble_eq_true rfl) ?_
  intro p e s m args below meth c A Q H ls hx hb hml hts hown hK hA hP hD hS hl hE hret
  have hown : s.vm.findClass "HillSchoolModel" = some m.cls := hown
  have hz : ∀ w ∈ zall, w.before args s = true := fun w h => hts w (List.mem_cons_of_mem _ h)
  have hl : lv_has ls 1 [(0, .ref q0)] := hl
  unfold f_HM_readPlain at hf
  refine lv_aload_n hx hb dX11_readPlain_0 rfl (lv_at hl 0 rfl) ?_
  refine lv_ldc2 (v := Int64.ofInt 14836) hx hb hown (hz _ zw_1477) dX11_readPlain_1 ?_
  refine xe_d1 hf (fun v1 hg hf => ?_)
  have hC : ([0] : List Nat).map (fun i => (wd_HM_readPlain cA q0 q1 q2 q3 q4 q5 q6 q7 q8 q9 q10 q11 q12 q13 q14 q15 q16 q17 q18 q19 q20 q21 q22 q23 q24 q25 q26 q27 q28 q29 q30 q31 u0 u1 u2 u3 u4 u5 u6 u7 u8 u9 u10 i_taped i_tape i_words i_from i_to i_sort i_worth i_fault i_bad i_nCode i_nLeaves i_piled i_opened i_nOp i_nArg i_pile i_pileAt)[i]?) = (wd_HM_isWord cA q0 q1 q2 q3 q4 q5 q6 q7 q8 q9 q10 q11 q12 q13 q14 q15 q16 q17 q18 q19 q20 q21 q22 q23 q24 q25 q26 q27 q28 q29 q30 q31 u0 u1 u2 i_taped i_from i_to i_fault i_bad u3 i_nCode i_nLeaves i_piled i_opened u4 u5 u6 u7 u8 u9 u10 i_sort i_worth).map some := rfl
  refine xv_afterI (ws' := (wd_HM_readPlain cA q0 q1 q2 q3 q4 q5 q6 q7 q8 q9 q10 q11 q12 q13 q14 q15 q16 q17 q18 q19 q20 q21 q22 q23 q24 q25 q26 q27 q28 q29 q30 q31 u0 u1 u2 u3 u4 u5 u6 u7 u8 u9 u10 i_taped i_tape i_words i_from i_to i_sort i_worth i_fault i_bad i_nCode i_nLeaves i_piled i_opened i_nOp i_nArg i_pile i_pileAt)) (isC := [0]) (ps := [some 0, none, none, none, none, none, none]) (va_runV (As := [.long (Int64.ofInt 14836)]) (rest := []) ⟨hx, hb, hml, hown, hts⟩ (c_HM_isWord l ev dC dI cA q0 q1 q2 q3 q4 q5 q6 q7 q8 q9 q10 q11 q12 q13 q14 q15 q16 q17 q18 q19 q20 q21 q22 q23 q24 q25 q26 q27 q28 q29 q30 q31 u0 u1 u2 i_taped i_from i_to i_fault i_bad u3 i_nCode i_nLeaves i_piled i_opened u4 u5 u6 u7 u8 u9 u10 hg H.size) (cwV 1 hts (zgV zw_1460 zw_1462 zw_49 zw_115 zw_1463) rfl rfl rfl hd_HM_isWord ⟨Nat.le_of_ble_eq_true rfl, Nat.le_of_ble_eq_true rfl⟩) (xv_preV (T := TX11) (N := 53) hE hA hS hK hP hD (isC := [0]) (by decide +kernel) hC (q0 := 0) (ci := 11) rfl rfl) rfl rfl hl.1 rfl (lv_room (Nat.le_of_ble_eq_true rfl)) dX11_readPlain_4 ⟨Nat.le_refl _, Nat.le_refl _⟩) hP hD hS hA (by decide +kernel) rfl hC rfl rfl (fun H locs hP hD hS => ?_)
  refine xi_if_eq (tgt := 23) hx hb dX11_readPlain_7 (by decide) hf (fun hf => ?_) (fun hf => ?_)
  · refine lv_aload_n hx hb dX11_readPlain_23 rfl (lv_at hl 0 rfl) ?_
    refine lv_bipush (v := Int32.ofInt 40) hx hb dX11_readPlain_24 (by decide) ?_
    refine xe_d1 hf (fun v2 hg hf => ?_)
    have hC : ([0] : List Nat).map (fun i => (wd_HM_readPlain cA q0 q1 q2 q3 q4 q5 q6 q7 q8 q9 q10 q11 q12 q13 q14 q15 q16 q17 q18 q19 q20 q21 q22 q23 q24 q25 q26 q27 q28 q29 q30 q31 u0 u1 u2 u3 u4 u5 u6 u7 u8 u9 u10 i_taped i_tape i_words i_from i_to i_sort i_worth i_fault i_bad i_nCode i_nLeaves i_piled i_opened i_nOp i_nArg i_pile i_pileAt)[i]?) = (wd_HM_isSign cA q0 q1 q2 q3 q4 q5 q6 q7 q8 q9 q10 q11 q12 q13 q14 q15 q16 q17 q18 q19 q20 q21 q22 q23 q24 q25 q26 q27 q28 q29 q30 q31 u0 u1 u2 i_taped i_from i_to i_fault i_bad u3 i_nCode i_nLeaves i_piled i_opened u4 u5 u6 u7 u8 u9 u10 i_sort i_worth).map some := rfl
    refine xv_afterI (ws' := (wd_HM_readPlain cA q0 q1 q2 q3 q4 q5 q6 q7 q8 q9 q10 q11 q12 q13 q14 q15 q16 q17 q18 q19 q20 q21 q22 q23 q24 q25 q26 q27 q28 q29 q30 q31 u0 u1 u2 u3 u4 u5 u6 u7 u8 u9 u10 i_taped i_tape i_words i_from i_to i_sort i_worth i_fault i_bad i_nCode i_nLeaves i_piled i_opened i_nOp i_nArg i_pile i_pileAt)) (isC := [0]) (ps := [some 0, none, none, none, none, none, none]) (va_runV (As := [.int (Int32.ofInt 40)]) (rest := []) ⟨hx, hb, hml, hown, hts⟩ (c_HM_isSign l ev dC dI cA q0 q1 q2 q3 q4 q5 q6 q7 q8 q9 q10 q11 q12 q13 q14 q15 q16 q17 q18 q19 q20 q21 q22 q23 q24 q25 q26 q27 q28 q29 q30 q31 u0 u1 u2 i_taped i_from i_to i_fault i_bad u3 i_nCode i_nLeaves i_piled i_opened u4 u5 u6 u7 u8 u9 u10 hg H.size) (cwV 1 hts (zgV zw_1482 zw_1484 zw_54 zw_115 zw_1485) rfl rfl rfl hd_HM_isSign ⟨Nat.le_of_ble_eq_true rfl, Nat.le_of_ble_eq_true rfl⟩) (xv_preV (T := TX11) (N := 53) hE hA hS hK hP hD (isC := [0]) (by decide +kernel) hC (q0 := 0) (ci := 11) rfl rfl) rfl rfl hl.1 rfl (lv_room (Nat.le_of_ble_eq_true rfl)) dX11_readPlain_26 ⟨Nat.le_refl _, Nat.le_refl _⟩) hP hD hS hA (by decide +kernel) rfl hC rfl rfl (fun H locs hP hD hS => ?_)
    refine xi_if_eq (tgt := 40) hx hb dX11_readPlain_29 (by decide) hf (fun hf => ?_) (fun hf => ?_)
    · refine lv_aload_n hx hb dX11_readPlain_40 rfl (lv_at hl 0 rfl) ?_
      refine xe_d15 hf (fun v3 v4 v5 v6 v7 v8 v9 v10 v11 v12 v13 a14 a15 a16 a17 hg hf => ?_)
      have hC : ([0, 1, 2, 3, 4, 5, 6] : List Nat).map (fun i => (wd_HM_readPlain cA q0 q1 q2 q3 q4 q5 q6 q7 q8 q9 q10 q11 q12 q13 q14 q15 q16 q17 q18 q19 q20 q21 q22 q23 q24 q25 q26 q27 q28 q29 q30 q31 u0 u1 u2 u3 u4 u5 u6 u7 u8 u9 u10 i_taped i_tape i_words i_from i_to i_sort i_worth i_fault i_bad i_nCode i_nLeaves i_piled i_opened i_nOp i_nArg i_pile i_pileAt)[i]?) = (wd_HM_readPart cA q0 q1 q2 q3 q4 q5 q6 q7 q8 q9 q10 q11 q12 q13 q14 q15 q16 q17 q18 q19 q20 q21 q22 q23 q24 q25 q26 q27 q28 q29 q30 q31 u0 u1 u2 u3 u4 u5 u6 u7 u8 u9 u10 i_taped i_tape i_words i_from i_to i_sort i_worth i_fault i_bad i_nCode i_nLeaves i_piled i_opened i_nOp i_nArg i_pile i_pileAt).map some := rfl
      refine xv_afterI (ws' := (wd_HM_readPlain cA q0 q1 q2 q3 q4 q5 q6 q7 q8 q9 q10 q11 q12 q13 q14 q15 q16 q17 q18 q19 q20 q21 q22 q23 q24 q25 q26 q27 q28 q29 q30 q31 u0 u1 u2 u3 u4 u5 u6 u7 u8 u9 u10 i_taped i_tape i_words v4 v5 v6 v7 v8 v9 v10 v11 v12 v13 a14 a15 a16 a17)) (isC := [0, 1, 2, 3, 4, 5, 6]) (ps := [some 0, some 1, some 2, some 3, some 4, some 5, some 6]) (va_runV (As := []) (rest := []) ⟨hx, hb, hml, hown, hts⟩ (c_HM_readPart l ev dC dI cA q0 q1 q2 q3 q4 q5 q6 q7 q8 q9 q10 q11 q12 q13 q14 q15 q16 q17 q18 q19 q20 q21 q22 q23 q24 q25 q26 q27 q28 q29 q30 q31 u0 u1 u2 u3 u4 u5 u6 u7 u8 u9 u10 hg H.size) (cwV 0 hts (zgV zw_1490 zw_1492 zw_56 zw_115 zw_1493) rfl rfl rfl hd_HM_readPart ⟨Nat.le_of_ble_eq_true rfl, Nat.le_of_ble_eq_true rfl⟩) (xv_preV (T := TX11) (N := 53) hE hA hS hK hP hD (isC := [0, 1, 2, 3, 4, 5, 6]) (by decide +kernel) hC (q0 := 0) (ci := 11) rfl rfl) rfl rfl hl.1 rfl (lv_room (Nat.le_of_ble_eq_true rfl)) dX11_readPlain_41 ⟨Nat.le_refl _, Nat.le_refl _⟩) hP hD hS hA (by decide +kernel) rfl hC rfl rfl (fun H locs hP hD hS => ?_)
      obtain rfl := Option.some.inj hf
      exact hret _ _ _ _ rfl dX11_readPlain_44 hP hD hS
    · refine lv_aload_n hx hb dX11_readPlain_32 rfl (lv_at hl 0 rfl) ?_
      refine lv_bipush (v := Int32.ofInt 30) hx hb dX11_readPlain_33 (by decide) ?_
      refine xe_d10 hf (fun v18 v19 v20 v21 v22 v23 v24 v25 a26 a27 hg hf => ?_)
      have hC : ([0, 1, 4, 5] : List Nat).map (fun i => (wd_HM_readPlain cA q0 q1 q2 q3 q4 q5 q6 q7 q8 q9 q10 q11 q12 q13 q14 q15 q16 q17 q18 q19 q20 q21 q22 q23 q24 q25 q26 q27 q28 q29 q30 q31 u0 u1 u2 u3 u4 u5 u6 u7 u8 u9 u10 i_taped i_tape i_words i_from i_to i_sort i_worth i_fault i_bad i_nCode i_nLeaves i_piled i_opened i_nOp i_nArg i_pile i_pileAt)[i]?) = (wd_HM_openBracket cA q0 q1 q2 q3 q4 q5 q6 q7 q8 q9 q10 q11 q12 q13 q14 q15 q16 q17 q18 q19 q20 q21 q22 q23 q24 q25 q26 q27 q28 q29 q30 q31 u0 u1 u2 u3 i_nCode i_nLeaves u4 u5 u6 u7 u8 u9 u10 i_taped i_tape i_from i_to i_sort i_worth i_fault i_bad i_piled i_opened i_pile i_pileAt).map some := rfl
      refine xv_afterV (ws' := (wd_HM_readPlain cA q0 q1 q2 q3 q4 q5 q6 q7 q8 q9 q10 q11 q12 q13 q14 q15 q16 q17 q18 q19 q20 q21 q22 q23 q24 q25 q26 q27 q28 q29 q30 q31 u0 u1 u2 u3 u4 u5 u6 u7 u8 u9 u10 i_taped i_tape i_words v18 v19 v20 v21 v22 v23 i_nCode i_nLeaves v24 v25 i_nOp i_nArg a26 a27)) (isC := [0, 1, 4, 5]) (ps := [some 0, some 1, none, none, some 2, some 3, none]) (va_runV (As := [.int (Int32.ofInt 30)]) (rest := []) ⟨hx, hb, hml, hown, hts⟩ (c_HM_openBracket l ev dC dI cA q0 q1 q2 q3 q4 q5 q6 q7 q8 q9 q10 q11 q12 q13 q14 q15 q16 q17 q18 q19 q20 q21 q22 q23 q24 q25 q26 q27 q28 q29 q30 q31 u0 u1 u2 u3 i_nCode i_nLeaves u4 u5 u6 u7 u8 u9 u10 hg H.size) (cwV 1 hts (zgV zw_1486 zw_1488 zw_55 zw_115 zw_1489) rfl rfl rfl hd_HM_openBracket ⟨Nat.le_of_ble_eq_true rfl, Nat.le_of_ble_eq_true rfl⟩) (xv_preV (T := TX11) (N := 53) hE hA hS hK hP hD (isC := [0, 1, 4, 5]) (by decide +kernel) hC (q0 := 0) (ci := 11) rfl rfl) rfl rfl hl.1 rfl (lv_room (Nat.le_of_ble_eq_true rfl)) dX11_readPlain_35 ⟨Nat.le_refl _, Nat.le_refl _⟩) hP hD hS hA (by decide +kernel) rfl hC rfl rfl (fun H locs hP hD hS => ?_)
      refine lv_iconst (v := Int32.ofInt 0) hx hb dX11_readPlain_38 rfl ?_
      obtain rfl := Option.some.inj hf
      exact hret _ _ _ _ rfl dX11_readPlain_39 hP hD hS
  · refine lv_aload_n hx hb dX11_readPlain_10 rfl (lv_at hl 0 rfl) ?_
    refine lv_bipush (v := Int32.ofInt 27) hx hb dX11_readPlain_11 (by decide) ?_
    refine lv_iconst (v := Int32.ofInt 0) hx hb dX11_readPlain_13 rfl ?_
    refine xe_d3 hf (fun v28 a29 a30 hg hf => ?_)
    have hC : ([0, 4, 5] : List Nat).map (fun i => (wd_HM_readPlain cA q0 q1 q2 q3 q4 q5 q6 q7 q8 q9 q10 q11 q12 q13 q14 q15 q16 q17 q18 q19 q20 q21 q22 q23 q24 q25 q26 q27 q28 q29 q30 q31 u0 u1 u2 u3 u4 u5 u6 u7 u8 u9 u10 i_taped i_tape i_words i_from i_to i_sort i_worth i_fault i_bad i_nCode i_nLeaves i_piled i_opened i_nOp i_nArg i_pile i_pileAt)[i]?) = (wd_HM_push cA q0 q1 q2 q3 q4 q5 q6 q7 q8 q9 q10 q11 q12 q13 q14 q15 q16 q17 q18 q19 q20 q21 q22 q23 q24 q25 q26 q27 q28 q29 q30 q31 u0 u1 u2 i_taped i_from i_to i_sort i_worth i_fault i_bad u3 i_nCode i_nLeaves i_opened u4 u5 u6 u7 u8 u9 u10 i_piled i_pile i_pileAt).map some := rfl
    refine xv_afterV (ws' := (wd_HM_readPlain cA q0 q1 q2 q3 q4 q5 q6 q7 q8 q9 q10 q11 q12 q13 q14 q15 q16 q17 q18 q19 q20 q21 q22 q23 q24 q25 q26 q27 q28 q29 q30 q31 u0 u1 u2 u3 u4 u5 u6 u7 u8 u9 u10 i_taped i_tape i_words i_from i_to i_sort i_worth i_fault i_bad i_nCode i_nLeaves v28 i_opened i_nOp i_nArg a29 a30)) (isC := [0, 4, 5]) (ps := [some 0, none, none, none, some 1, some 2, none]) (va_runV (As := [.int (Int32.ofInt 27), .int (Int32.ofInt 0)]) (rest := []) ⟨hx, hb, hml, hown, hts⟩ (c_HM_push l ev dC dI cA q0 q1 q2 q3 q4 q5 q6 q7 q8 q9 q10 q11 q12 q13 q14 q15 q16 q17 q18 q19 q20 q21 q22 q23 q24 q25 q26 q27 q28 q29 q30 q31 u0 u1 u2 i_taped i_from i_to i_sort i_worth i_fault i_bad u3 i_nCode i_nLeaves i_opened u4 u5 u6 u7 u8 u9 u10 hg H.size) (cwV 2 hts (zgV zw_1478 zw_1480 zw_53 zw_115 zw_1481) rfl rfl rfl hd_HM_push ⟨Nat.le_of_ble_eq_true rfl, Nat.le_of_ble_eq_true rfl⟩) (xv_preV (T := TX11) (N := 53) hE hA hS hK hP hD (isC := [0, 4, 5]) (by decide +kernel) hC (q0 := 0) (ci := 11) rfl rfl) rfl rfl hl.1 rfl (lv_room (Nat.le_of_ble_eq_true rfl)) dX11_readPlain_14 ⟨Nat.le_refl _, Nat.le_refl _⟩) hP hD hS hA (by decide +kernel) rfl hC rfl rfl (fun H locs hP hD hS => ?_)
    refine lv_aload_n hx hb dX11_readPlain_17 rfl (lv_at hl 0 rfl) ?_
    refine xe_d4 hf (fun v31 v32 v33 v34 hg hf => ?_)
    have hC : ([0, 1] : List Nat).map (fun i => (wd_HM_readPlain cA q0 q1 q2 q3 q4 q5 q6 q7 q8 q9 q10 q11 q12 q13 q14 q15 q16 q17 q18 q19 q20 q21 q22 q23 q24 q25 q26 q27 q28 q29 q30 q31 u0 u1 u2 u3 u4 u5 u6 u7 u8 u9 u10 i_taped i_tape i_words i_from i_to i_sort i_worth i_fault i_bad i_nCode i_nLeaves v28 i_opened i_nOp i_nArg a29 a30)[i]?) = (wd_HM_next cA q0 q1 q2 q3 q4 q5 q6 q7 q8 q9 q10 q11 q12 q13 q14 q15 q16 q17 q18 q19 q20 q21 q22 q23 q24 q25 q26 q27 q28 q29 q30 q31 u0 u1 u2 i_fault i_bad u3 i_nCode i_nLeaves v28 i_opened u4 u5 u6 u7 u8 u9 u10 i_taped i_tape i_from i_to i_sort i_worth).map some := rfl
    refine xv_afterV (ws' := (wd_HM_readPlain cA q0 q1 q2 q3 q4 q5 q6 q7 q8 q9 q10 q11 q12 q13 q14 q15 q16 q17 q18 q19 q20 q21 q22 q23 q24 q25 q26 q27 q28 q29 q30 q31 u0 u1 u2 u3 u4 u5 u6 u7 u8 u9 u10 i_taped i_tape i_words v31 v32 v33 v34 i_fault i_bad i_nCode i_nLeaves v28 i_opened i_nOp i_nArg a29 a30)) (isC := [0, 1]) (ps := [some 0, some 1, none, none, none, none, none]) (va_runV (As := []) (rest := []) ⟨hx, hb, hml, hown, hts⟩ (c_HM_next l ev dC dI cA q0 q1 q2 q3 q4 q5 q6 q7 q8 q9 q10 q11 q12 q13 q14 q15 q16 q17 q18 q19 q20 q21 q22 q23 q24 q25 q26 q27 q28 q29 q30 q31 u0 u1 u2 i_fault i_bad u3 i_nCode i_nLeaves v28 i_opened u4 u5 u6 u7 u8 u9 u10 hg H.size) (cwV 0 hts (zgV zw_1439 zw_1441 zw_47 zw_115 zw_1442) rfl rfl rfl hd_HM_next ⟨Nat.le_of_ble_eq_true rfl, Nat.le_of_ble_eq_true rfl⟩) (xv_preV (T := TX11) (N := 53) hE hA hS hK hP hD (isC := [0, 1]) (by decide +kernel) hC (q0 := 0) (ci := 11) rfl rfl) rfl rfl hl.1 rfl (lv_room (Nat.le_of_ble_eq_true rfl)) dX11_readPlain_18 ⟨Nat.le_refl _, Nat.le_refl _⟩) hP hD hS hA (by decide +kernel) rfl hC rfl rfl (fun H locs hP hD hS => ?_)
    refine lv_iconst (v := Int32.ofInt 0) hx hb dX11_readPlain_21 rfl ?_
    obtain rfl := Option.some.inj hf
    exact hret _ _ _ _ rfl dX11_readPlain_22 hP hD hS
theorem dX11_inner_0 : decode cX11_inner 0 = .ok (.iconst (-1), 1) := by decide +kernel
theorem dX11_inner_1 : decode cX11_inner 1 = .ok (.istore_n 1, 1) := by decide +kernel
theorem dX11_inner_2 : decode cX11_inner 2 = .ok (.iconst 0, 1) := by decide +kernel
theorem dX11_inner_3 : decode cX11_inner 3 = .ok (.istore_n 2, 1) := by decide +kernel
theorem dX11_inner_4 : decode cX11_inner 4 = .ok (.iload_n 2, 1) := by decide +kernel
theorem dX11_inner_5 : decode cX11_inner 5 = .ok (.aload_n 0, 1) := by decide +kernel
theorem dX11_inner_6 : decode cX11_inner 6 = .ok (.getfield 227, 3) := by decide +kernel
theorem dX11_inner_9 : decode cX11_inner 9 = .ok (.if_icmp .ge 31, 3) := by decide +kernel
theorem dX11_inner_12 : decode cX11_inner 12 = .ok (.aload_n 0, 1) := by decide +kernel
theorem dX11_inner_13 : decode cX11_inner 13 = .ok (.getfield 39, 3) := by decide +kernel
theorem dX11_inner_16 : decode cX11_inner 16 = .ok (.iload_n 2, 1) := by decide +kernel
theorem dX11_inner_17 : decode cX11_inner 17 = .ok (.iaload, 1) := by decide +kernel
theorem dX11_inner_18 : decode cX11_inner 18 = .ok (.bipush 30, 2) := by decide +kernel
theorem dX11_inner_20 : decode cX11_inner 20 = .ok (.if_icmp .lt 12, 3) := by decide +kernel
theorem dX11_inner_23 : decode cX11_inner 23 = .ok (.aload_n 0, 1) := by decide +kernel
theorem dX11_inner_24 : decode cX11_inner 24 = .ok (.getfield 39, 3) := by decide +kernel
theorem dX11_inner_27 : decode cX11_inner 27 = .ok (.iload_n 2, 1) := by decide +kernel
theorem dX11_inner_28 : decode cX11_inner 28 = .ok (.iaload, 1) := by decide +kernel
theorem dX11_inner_29 : decode cX11_inner 29 = .ok (.goto 4, 3) := by decide +kernel
theorem dX11_inner_32 : decode cX11_inner 32 = .ok (.iload_n 1, 1) := by decide +kernel
theorem dX11_inner_33 : decode cX11_inner 33 = .ok (.istore_n 1, 1) := by decide +kernel
theorem dX11_inner_34 : decode cX11_inner 34 = .ok (.iinc 2 1, 3) := by decide +kernel
theorem dX11_inner_37 : decode cX11_inner 37 = .ok (.goto (-33), 3) := by decide +kernel
theorem dX11_inner_40 : decode cX11_inner 40 = .ok (.iload_n 1, 1) := by decide +kernel
theorem dX11_inner_41 : decode cX11_inner 41 = .ok (.ireturn, 1) := by decide +kernel
theorem zw_1521 : (Jvm.Cond.code ({ cls := "HillSchoolModel", name := "inner", desc := "()I" } : Jvm.MethodName) prog_13_method_43_code (3 : Nat) (Option.some Jvm.ClassFile.FieldType.int)) ∈ zall := zmemG (zmj_6 218 rfl) rfl
abbrev w_HM_inner : List Cond := .code yX11_inner cX11_inner 3 (some .int) :: zall
abbrev rm_HM_inner : Room := { frames := 0, cells := 0, slots := 0, locals := 0 }
theorem hd_HM_inner : yX11_inner.cls = "HillSchoolModel" ∧ yX11_inner.cls ≠ "java/lang/invoke/MethodHandle" ∧ yX11_inner.cls ≠ "java/lang/invoke/VarHandle" ∧ (parseMethodDescriptor yX11_inner.desc).map (fun d => d.parameters.length) = some 0 := by decide +kernel
def wd_HM_inner (cA : Nat → ClassId) (q0 q1 q2 q3 q4 q5 q6 q7 q8 q9 q10 q11 q12 q13 q14 q15 q16 q17 q18 q19 q20 q21 q22 q23 q24 q25 q26 q27 q28 q29 q30 q31 : Nat) (u0 u1 u2 u3 u4 u5 u6 u7 u8 u9 u10 u11 u12 u13 u14 u15 u16 u17 u18 u19 u20 : Int) (i_piled : Int) (i_pile : Nat → Int)  : va_W := [(q0, .inr (11, [.int (Int32.ofInt u0), .int (Int32.ofInt u1), .ref q1, .ref q2, .ref q3, .ref q4, .int (Int32.ofInt u2), .ref q5, .int (Int32.ofInt u3), .int (Int32.ofInt u4), .int (Int32.ofInt u5), .int (Int32.ofInt u6), .long (Int64.ofInt u7), .int (Int32.ofInt u8), .int (Int32.ofInt u9), .int (Int32.ofInt u10), .ref q6, .int (Int32.ofInt u11), .ref q7, .ref q8, .int (Int32.ofInt u12), .ref q9, .ref q10, .int (Int32.ofInt i_piled), .int (Int32.ofInt u13), .ref q11, .int (Int32.ofInt u14), .ref q12, .ref q13, .int (Int32.ofInt u15), .long (Int64.ofInt u16), .long (Int64.ofInt u17), .ref q14, .ref q15, .ref q16, .ref q17, .ref q18, .int (Int32.ofInt u18), .ref q19, .ref q20, .ref q21, .ref q22, .ref q23, .ref q24, .ref q25, .ref q26, .ref q27, .ref q28, .ref q29, .ref q30, .long (Int64.ofInt u19), .ref q31, .int (Int32.ofInt u20)])), (q9, .inl (cA 0, 400, .inl (za i_pile)))]
def wf_HM_inner (cA : Nat → ClassId) (q0 q1 q2 q3 q4 q5 q6 q7 q8 q9 q10 q11 q12 q13 q14 q15 q16 q17 q18 q19 q20 q21 q22 q23 q24 q25 q26 q27 q28 q29 q30 q31 : Nat) (u0 u1 u2 u3 u4 u5 u6 u7 u8 u9 u10 u11 u12 u13 u14 u15 u16 u17 u18 u19 u20 : Int) (i_piled : Int) (i_pile : Nat → Int) (o : Int) : va_W := wd_HM_inner cA q0 q1 q2 q3 q4 q5 q6 q7 q8 q9 q10 q11 q12 q13 q14 q15 q16 q17 q18 q19 q20 q21 q22 q23 q24 q25 q26 q27 q28 q29 q30 q31 u0 u1 u2 u3 u4 u5 u6 u7 u8 u9 u10 u11 u12 u13 u14 u15 u16 u17 u18 u19 u20 i_piled i_pile
def f_HM_inner_33 (i_piled : Int) (i_pile : Nat → Int) (k4 : Int → Int → Option (Int)) (x2 : Int) (s0 : Int) : Option (Int) :=
  zn (x2 + 1) fun v1 =>
  k4 s0 v1
def f_HM_inner_4_b (i_piled : Int) (i_pile : Nat → Int) (k4 : Int → Int → Option (Int)) (x1 : Int) (x2 : Int) : Option (Int) :=
  if zi_w i_piled ≤ zi_w x2 then
    some x1
  else
    zg 400 i_pile x2 fun v1 =>
    if zi_w v1 < zi_w 30 then
      f_HM_inner_33 i_piled i_pile k4 x2 x1
    else
      zg 400 i_pile x2 fun v2 =>
      f_HM_inner_33 i_piled i_pile k4 x2 v2
def f_HM_inner_4 (i_piled : Int) (i_pile : Nat → Int) : Nat → Int → Int → Option (Int)
  | 0 => fun _ _ => none
  | n + 1 => fun y0 y1 => f_HM_inner_4_b i_piled i_pile (f_HM_inner_4 i_piled i_pile n) y0 y1
def f_HM_inner (i_piled : Int) (i_pile : Nat → Int) : Option (Int) :=
  f_HM_inner_4 i_piled i_pile zfu (-1) 0
set_option maxHeartbeats 4000000 in
set_option maxRecDepth 100000 in
theorem c_HM_inner (l : Launch) (ev : zEv) (dC : Nat → ClassId) (dI : Nat → Nat → Nat) (cA : Nat → ClassId) (q0 q1 q2 q3 q4 q5 q6 q7 q8 q9 q10 q11 q12 q13 q14 q15 q16 q17 q18 q19 q20 q21 q22 q23 q24 q25 q26 q27 q28 q29 q30 q31 : Nat) (u0 u1 u2 u3 u4 u5 u6 u7 u8 u9 u10 u11 u12 u13 u14 u15 u16 u17 u18 u19 u20 : Int) {i_piled : Int} {i_pile : Nat → Int} {out : Int} (hf : f_HM_inner i_piled i_pile = some out) : xc_I l ev (dC, dI) vwCl (tyl cA) yX11_inner w_HM_inner rm_HM_inner [.ref q0] (wd_HM_inner cA q0 q1 q2 q3 q4 q5 q6 q7 q8 q9 q10 q11 q12 q13 q14 q15 q16 q17 q18 q19 q20 q21 q22 q23 q24 q25 q26 q27 q28 q29 q30 q31 u0 u1 u2 u3 u4 u5 u6 u7 u8 u9 u10 u11 u12 u13 u14 u15 u16 u17 u18 u19 u20 i_piled i_pile) (wf_HM_inner cA q0 q1 q2 q3 q4 q5 q6 q7 q8 q9 q10 q11 q12 q13 q14 q15 q16 q17 q18 q19 q20 q21 q22 q23 q24 q25 q26 q27 q28 q29 q30 q31 u0 u1 u2 u3 u4 u5 u6 u7 u8 u9 u10 u11 u12 u13 u14 u15 u16 u17 u18 u19 u20 i_piled i_pile out) out := by
  refine xv_startI (cc := cX11_inner) (maxL := 3) (rt := .int) (by decide +kernel) rfl (Nat.le_of_ble_eq_true rfl) ?_
  intro p e s m args below meth c A Q H ls hx hb hml hts hown hK hA hP hD hS hl hE hret
  have hown : s.vm.findClass "HillSchoolModel" = some m.cls := hown
  have hz : ∀ w ∈ zall, w.before args s = true := fun w h => hts w (List.mem_cons_of_mem _ h)
  have hl : lv_has ls 3 [(0, .ref q0)] := hl
  have b_33 : ∀ (k4 : Int → Int → Option (Int)) (_ : ∀ (x1 : Int) (x2 : Int) (H : Heap) (locs : List Loc) (ls : Array Slot), k4 x1 x2 = some out → va_P (dC, dI) vwCl (wd_HM_inner cA q0 q1 q2 q3 q4 q5 q6 q7 q8 q9 q10 q11 q12 q13 q14 q15 q16 q17 q18 q19 q20 q21 q22 q23 q24 q25 q26 q27 q28 q29 q30 q31 u0 u1 u2 u3 u4 u5 u6 u7 u8 u9 u10 u11 u12 u13 u14 u15 u16 u17 u18 u19 u20 i_piled i_pile) H → va_D A (wd_HM_inner cA q0 q1 q2 q3 q4 q5 q6 q7 q8 q9 q10 q11 q12 q13 q14 q15 q16 q17 q18 q19 q20 q21 q22 q23 q24 q25 q26 q27 q28 q29 q30 q31 u0 u1 u2 u3 u4 u5 u6 u7 u8 u9 u10 u11 u12 u13 u14 u15 u16 u17 u18 u19 u20 i_piled i_pile) → va_S A s.heap H locs → lv_has ls 3 [(0, .ref q0), (1, .int (Int32.ofInt x1)), (2, .int (Int32.ofInt x2))] → W p l e rm_HM_inner s m args below meth c H locs 0 0 Q (F0 m 4 ls [])), ∀ (x2 : Int) (s0 : Int) (H : Heap) (locs : List Loc) (ls : Array Slot), f_HM_inner_33 i_piled i_pile k4 x2 s0 = some out → va_P (dC, dI) vwCl (wd_HM_inner cA q0 q1 q2 q3 q4 q5 q6 q7 q8 q9 q10 q11 q12 q13 q14 q15 q16 q17 q18 q19 q20 q21 q22 q23 q24 q25 q26 q27 q28 q29 q30 q31 u0 u1 u2 u3 u4 u5 u6 u7 u8 u9 u10 u11 u12 u13 u14 u15 u16 u17 u18 u19 u20 i_piled i_pile) H → va_D A (wd_HM_inner cA q0 q1 q2 q3 q4 q5 q6 q7 q8 q9 q10 q11 q12 q13 q14 q15 q16 q17 q18 q19 q20 q21 q22 q23 q24 q25 q26 q27 q28 q29 q30 q31 u0 u1 u2 u3 u4 u5 u6 u7 u8 u9 u10 u11 u12 u13 u14 u15 u16 u17 u18 u19 u20 i_piled i_pile) → va_S A s.heap H locs → lv_has ls 3 [(0, .ref q0), (2, .int (Int32.ofInt x2))] → W p l e rm_HM_inner s m args below meth c H locs 0 0 Q (F0 m 33 ls [.int (Int32.ofInt s0)]) := by
    intro k4 ih4 x2 s0 H locs ls hf hP hD hS hl
    unfold f_HM_inner_33 at hf
    refine lv_istore_n (lv' := [(1, .int (Int32.ofInt s0)), (0, .ref q0), (2, .int (Int32.ofInt x2))]) hx hb dX11_inner_33 rfl hl (by decide) rfl (fun ls hl => ?_)
    refine xi_iinc hx hb dX11_inner_34 hl (k := 2) rfl (by decide) hf (fun v1 ls hl hf => ?_)
    have hl : lv_has ls 3 [(2, .int (Int32.ofInt v1)), (1, .int (Int32.ofInt s0)), (0, .ref q0)] := hl
    refine lv_goto (tgt := 4) hx hb dX11_inner_37 (by decide) ?_
    exact ih4 _ _ _ _ _ hf hP hD hS (lv_sub hl [2, 1, 0] rfl)
  have b_4 : ∀ (k4 : Int → Int → Option (Int)) (_ : ∀ (x1 : Int) (x2 : Int) (H : Heap) (locs : List Loc) (ls : Array Slot), k4 x1 x2 = some out → va_P (dC, dI) vwCl (wd_HM_inner cA q0 q1 q2 q3 q4 q5 q6 q7 q8 q9 q10 q11 q12 q13 q14 q15 q16 q17 q18 q19 q20 q21 q22 q23 q24 q25 q26 q27 q28 q29 q30 q31 u0 u1 u2 u3 u4 u5 u6 u7 u8 u9 u10 u11 u12 u13 u14 u15 u16 u17 u18 u19 u20 i_piled i_pile) H → va_D A (wd_HM_inner cA q0 q1 q2 q3 q4 q5 q6 q7 q8 q9 q10 q11 q12 q13 q14 q15 q16 q17 q18 q19 q20 q21 q22 q23 q24 q25 q26 q27 q28 q29 q30 q31 u0 u1 u2 u3 u4 u5 u6 u7 u8 u9 u10 u11 u12 u13 u14 u15 u16 u17 u18 u19 u20 i_piled i_pile) → va_S A s.heap H locs → lv_has ls 3 [(0, .ref q0), (1, .int (Int32.ofInt x1)), (2, .int (Int32.ofInt x2))] → W p l e rm_HM_inner s m args below meth c H locs 0 0 Q (F0 m 4 ls [])), ∀ (x1 : Int) (x2 : Int) (H : Heap) (locs : List Loc) (ls : Array Slot), f_HM_inner_4_b i_piled i_pile k4 x1 x2 = some out → va_P (dC, dI) vwCl (wd_HM_inner cA q0 q1 q2 q3 q4 q5 q6 q7 q8 q9 q10 q11 q12 q13 q14 q15 q16 q17 q18 q19 q20 q21 q22 q23 q24 q25 q26 q27 q28 q29 q30 q31 u0 u1 u2 u3 u4 u5 u6 u7 u8 u9 u10 u11 u12 u13 u14 u15 u16 u17 u18 u19 u20 i_piled i_pile) H → va_D A (wd_HM_inner cA q0 q1 q2 q3 q4 q5 q6 q7 q8 q9 q10 q11 q12 q13 q14 q15 q16 q17 q18 q19 q20 q21 q22 q23 q24 q25 q26 q27 q28 q29 q30 q31 u0 u1 u2 u3 u4 u5 u6 u7 u8 u9 u10 u11 u12 u13 u14 u15 u16 u17 u18 u19 u20 i_piled i_pile) → va_S A s.heap H locs → lv_has ls 3 [(0, .ref q0), (1, .int (Int32.ofInt x1)), (2, .int (Int32.ofInt x2))] → W p l e rm_HM_inner s m args below meth c H locs 0 0 Q (F0 m 4 ls []) := by
    intro k4 ih4 x1 x2 H locs ls hf hP hD hS hl
    unfold f_HM_inner_4_b at hf
    refine lv_iload_n hx hb dX11_inner_4 rfl (lv_at hl 2 rfl) ?_
    refine lv_aload_n hx hb dX11_inner_5 rfl (lv_at hl 0 rfl) ?_
    refine va_get (D := (dC, dI)) (ci := 11) (v := .int (Int32.ofInt i_piled)) (C := RX11) (T := TX11) (N := 53) hx hb hz zi_X11 hown hK hP 0 rfl rfl 23 (by decide) (hz _ zw_1188) (fun _ h9 => h9) rfl dX11_inner_6 ?_
    refine xi_icmp_ge (tgt := 40) hx hb dX11_inner_9 (by decide) hf (fun hf => ?_) (fun hf => ?_)
    · refine lv_iload_n hx hb dX11_inner_40 rfl (lv_at hl 1 rfl) ?_
      obtain rfl := Option.some.inj hf
      exact hret _ _ _ _ rfl dX11_inner_41 hP hD hS
    · refine lv_aload_n hx hb dX11_inner_12 rfl (lv_at hl 0 rfl) ?_
      refine va_get (D := (dC, dI)) (ci := 11) (v := .ref q9) (C := RX11) (T := TX11) (N := 53) hx hb hz zi_X11 hown hK hP 0 rfl rfl 21 (by decide) (hz _ zw_1186) (fun _ h9 => h9) rfl dX11_inner_13 ?_
      refine lv_iload_n hx hb dX11_inner_16 rfl (lv_at hl 2 rfl) ?_
      refine xi_iald hx hb hK hP 1 0 rfl rfl dX11_inner_17 hf (fun v1 hf => ?_)
      refine lv_bipush (v := Int32.ofInt 30) hx hb dX11_inner_18 (by decide) ?_
      refine xi_icmp_lt (tgt := 32) hx hb dX11_inner_20 (by decide) hf (fun hf => ?_) (fun hf => ?_)
      · refine lv_iload_n hx hb dX11_inner_32 rfl (lv_at hl 1 rfl) ?_
        exact b_33 _ ih4 _ _ _ _ _ hf hP hD hS (lv_sub hl [0, 2] rfl)
      · refine lv_aload_n hx hb dX11_inner_23 rfl (lv_at hl 0 rfl) ?_
        refine va_get (D := (dC, dI)) (ci := 11) (v := .ref q9) (C := RX11) (T := TX11) (N := 53) hx hb hz zi_X11 hown hK hP 0 rfl rfl 21 (by decide) (hz _ zw_1186) (fun _ h9 => h9) rfl dX11_inner_24 ?_
        refine lv_iload_n hx hb dX11_inner_27 rfl (lv_at hl 2 rfl) ?_
        refine xi_iald hx hb hK hP 1 0 rfl rfl dX11_inner_28 hf (fun v2 hf => ?_)
        refine lv_goto (tgt := 33) hx hb dX11_inner_29 (by decide) ?_
        exact b_33 _ ih4 _ _ _ _ _ hf hP hD hS (lv_sub hl [0, 2] rfl)
  have l_4 : ∀ (n : Nat), ∀ (x1 : Int) (x2 : Int) (H : Heap) (locs : List Loc) (ls : Array Slot), f_HM_inner_4 i_piled i_pile n x1 x2 = some out → va_P (dC, dI) vwCl (wd_HM_inner cA q0 q1 q2 q3 q4 q5 q6 q7 q8 q9 q10 q11 q12 q13 q14 q15 q16 q17 q18 q19 q20 q21 q22 q23 q24 q25 q26 q27 q28 q29 q30 q31 u0 u1 u2 u3 u4 u5 u6 u7 u8 u9 u10 u11 u12 u13 u14 u15 u16 u17 u18 u19 u20 i_piled i_pile) H → va_D A (wd_HM_inner cA q0 q1 q2 q3 q4 q5 q6 q7 q8 q9 q10 q11 q12 q13 q14 q15 q16 q17 q18 q19 q20 q21 q22 q23 q24 q25 q26 q27 q28 q29 q30 q31 u0 u1 u2 u3 u4 u5 u6 u7 u8 u9 u10 u11 u12 u13 u14 u15 u16 u17 u18 u19 u20 i_piled i_pile) → va_S A s.heap H locs → lv_has ls 3 [(0, .ref q0), (1, .int (Int32.ofInt x1)), (2, .int (Int32.ofInt x2))] → W p l e rm_HM_inner s m args below meth c H locs 0 0 Q (F0 m 4 ls []) := by
    intro n
    induction n with
    | zero => intro x1 x2 H locs ls hf hP hD hS hl; exact nomatch hf
    | succ n ih => intro x1 x2 H locs ls hf hP hD hS hl; exact b_4 (f_HM_inner_4 i_piled i_pile n) ih x1 x2 H locs ls hf hP hD hS hl
  unfold f_HM_inner at hf
  refine lv_iconst (v := Int32.ofInt (-1)) hx hb dX11_inner_0 rfl ?_
  refine lv_istore_n (lv' := [(1, .int (Int32.ofInt (-1))), (0, .ref q0)]) hx hb dX11_inner_1 rfl hl (by decide) rfl (fun ls hl => ?_)
  refine lv_iconst (v := Int32.ofInt 0) hx hb dX11_inner_2 rfl ?_
  refine lv_istore_n (lv' := [(2, .int (Int32.ofInt 0)), (1, .int (Int32.ofInt (-1))), (0, .ref q0)]) hx hb dX11_inner_3 rfl hl (by decide) rfl (fun ls hl => ?_)
  exact l_4  _ _ _ _ _ _ hf hP hD hS (lv_sub hl [2, 1, 0] rfl)
theorem dX11_behindTest_0 : decode cX11_behindTest 0 = .ok (.aload_n 0, 1) := by decide +kernel
theorem dX11_behindTest_1 : decode cX11_behindTest 1 = .ok (.ldc2_w 288, 3) := by decide +kernel
theorem dX11_behindTest_4 : decode cX11_behindTest 4 = .ok (.invokevirtual 245, 3) := by decide +kernel
theorem dX11_behindTest_7 : decode cX11_behindTest 7 = .ok (.istore_n 1, 1) := by decide +kernel
theorem dX11_behindTest_8 : decode cX11_behindTest 8 = .ok (.iload_n 1, 1) := by decide +kernel
theorem dX11_behindTest_9 : decode cX11_behindTest 9 = .ok (.ifCond .ne 13, 3) := by decide +kernel
theorem dX11_behindTest_12 : decode cX11_behindTest 12 = .ok (.aload_n 0, 1) := by decide +kernel
theorem dX11_behindTest_13 : decode cX11_behindTest 13 = .ok (.ldc2_w 290, 3) := by decide +kernel
theorem dX11_behindTest_16 : decode cX11_behindTest 16 = .ok (.invokevirtual 245, 3) := by decide +kernel
theorem dX11_behindTest_19 : decode cX11_behindTest 19 = .ok (.ifCond .eq 57, 3) := by decide +kernel
theorem dX11_behindTest_22 : decode cX11_behindTest 22 = .ok (.aload_n 0, 1) := by decide +kernel
theorem dX11_behindTest_23 : decode cX11_behindTest 23 = .ok (.iload_n 1, 1) := by decide +kernel
theorem dX11_behindTest_24 : decode cX11_behindTest 24 = .ok (.ifCond .eq 7, 3) := by decide +kernel
theorem dX11_behindTest_27 : decode cX11_behindTest 27 = .ok (.iconst 2, 1) := by decide +kernel
theorem dX11_behindTest_28 : decode cX11_behindTest 28 = .ok (.goto 4, 3) := by decide +kernel
theorem dX11_behindTest_31 : decode cX11_behindTest 31 = .ok (.iconst 1, 1) := by decide +kernel
theorem dX11_behindTest_32 : decode cX11_behindTest 32 = .ok (.invokevirtual 278, 3) := by decide +kernel
theorem dX11_behindTest_35 : decode cX11_behindTest 35 = .ok (.aload_n 0, 1) := by decide +kernel
theorem dX11_behindTest_36 : decode cX11_behindTest 36 = .ok (.iload_n 1, 1) := by decide +kernel
theorem dX11_behindTest_37 : decode cX11_behindTest 37 = .ok (.ifCond .eq 8, 3) := by decide +kernel
theorem dX11_behindTest_40 : decode cX11_behindTest 40 = .ok (.bipush 28, 2) := by decide +kernel
theorem dX11_behindTest_42 : decode cX11_behindTest 42 = .ok (.goto 5, 3) := by decide +kernel
theorem dX11_behindTest_45 : decode cX11_behindTest 45 = .ok (.bipush 29, 2) := by decide +kernel
theorem dX11_behindTest_47 : decode cX11_behindTest 47 = .ok (.aload_n 0, 1) := by decide +kernel
theorem dX11_behindTest_48 : decode cX11_behindTest 48 = .ok (.getfield 224, 3) := by decide +kernel
theorem dX11_behindTest_51 : decode cX11_behindTest 51 = .ok (.invokevirtual 252, 3) := by decide +kernel
theorem dX11_behindTest_54 : decode cX11_behindTest 54 = .ok (.aload_n 0, 1) := by decide +kernel
theorem dX11_behindTest_55 : decode cX11_behindTest 55 = .ok (.iload_n 1, 1) := by decide +kernel
theorem dX11_behindTest_56 : decode cX11_behindTest 56 = .ok (.ifCond .eq 8, 3) := by decide +kernel
theorem dX11_behindTest_59 : decode cX11_behindTest 59 = .ok (.bipush 28, 2) := by decide +kernel
theorem dX11_behindTest_61 : decode cX11_behindTest 61 = .ok (.goto 5, 3) := by decide +kernel
theorem dX11_behindTest_64 : decode cX11_behindTest 64 = .ok (.bipush 29, 2) := by decide +kernel
theorem dX11_behindTest_66 : decode cX11_behindTest 66 = .ok (.iconst 0, 1) := by decide +kernel
theorem dX11_behindTest_67 : decode cX11_behindTest 67 = .ok (.invokevirtual 233, 3) := by decide +kernel
theorem dX11_behindTest_70 : decode cX11_behindTest 70 = .ok (.aload_n 0, 1) := by decide +kernel
theorem dX11_behindTest_71 : decode cX11_behindTest 71 = .ok (.invokevirtual 189, 3) := by decide +kernel
theorem dX11_behindTest_74 : decode cX11_behindTest 74 = .ok (.iconst 0, 1) := by decide +kernel
theorem dX11_behindTest_75 : decode cX11_behindTest 75 = .ok (.ireturn, 1) := by decide +kernel
theorem dX11_behindTest_76 : decode cX11_behindTest 76 = .ok (.aload_n 0, 1) := by decide +kernel
theorem dX11_behindTest_77 : decode cX11_behindTest 77 = .ok (.invokevirtual 281, 3) := by decide +kernel
theorem dX11_behindTest_80 : decode cX11_behindTest 80 = .ok (.iconst (-1), 1) := by decide +kernel
theorem dX11_behindTest_81 : decode cX11_behindTest 81 = .ok (.if_icmp .ne 5, 3) := by decide +kernel
theorem dX11_behindTest_84 : decode cX11_behindTest 84 = .ok (.iconst 4, 1) := by decide +kernel
theorem dX11_behindTest_85 : decode cX11_behindTest 85 = .ok (.ireturn, 1) := by decide +kernel
theorem dX11_behindTest_86 : decode cX11_behindTest 86 = .ok (.aload_n 0, 1) := by decide +kernel
theorem dX11_behindTest_87 : decode cX11_behindTest 87 = .ok (.aload_n 0, 1) := by decide +kernel
theorem dX11_behindTest_88 : decode cX11_behindTest 88 = .ok (.bipush 41, 2) := by decide +kernel
theorem dX11_behindTest_90 : decode cX11_behindTest 90 = .ok (.invokevirtual 258, 3) := by decide +kernel
theorem dX11_behindTest_93 : decode cX11_behindTest 93 = .ok (.invokevirtual 220, 3) := by decide +kernel
theorem dX11_behindTest_96 : decode cX11_behindTest 96 = .ok (.aload_n 0, 1) := by decide +kernel
theorem dX11_behindTest_97 : decode cX11_behindTest 97 = .ok (.getfield 185, 3) := by decide +kernel
theorem dX11_behindTest_100 : decode cX11_behindTest 100 = .ok (.ifCond .ne 28, 3) := by decide +kernel
theorem dX11_behindTest_103 : decode cX11_behindTest 103 = .ok (.aload_n 0, 1) := by decide +kernel
theorem dX11_behindTest_104 : decode cX11_behindTest 104 = .ok (.iconst 1, 1) := by decide +kernel
theorem dX11_behindTest_105 : decode cX11_behindTest 105 = .ok (.invokevirtual 278, 3) := by decide +kernel
theorem dX11_behindTest_108 : decode cX11_behindTest 108 = .ok (.aload_n 0, 1) := by decide +kernel
theorem dX11_behindTest_109 : decode cX11_behindTest 109 = .ok (.dup, 1) := by decide +kernel
theorem dX11_behindTest_110 : decode cX11_behindTest 110 = .ok (.getfield 227, 3) := by decide +kernel
theorem dX11_behindTest_113 : decode cX11_behindTest 113 = .ok (.iconst 1, 1) := by decide +kernel
theorem dX11_behindTest_114 : decode cX11_behindTest 114 = .ok (.isub, 1) := by decide +kernel
theorem dX11_behindTest_115 : decode cX11_behindTest 115 = .ok (.putfield 227, 3) := by decide +kernel
theorem dX11_behindTest_118 : decode cX11_behindTest 118 = .ok (.aload_n 0, 1) := by decide +kernel
theorem dX11_behindTest_119 : decode cX11_behindTest 119 = .ok (.dup, 1) := by decide +kernel
theorem dX11_behindTest_120 : decode cX11_behindTest 120 = .ok (.getfield 249, 3) := by decide +kernel
theorem dX11_behindTest_123 : decode cX11_behindTest 123 = .ok (.iconst 1, 1) := by decide +kernel
theorem dX11_behindTest_124 : decode cX11_behindTest 124 = .ok (.isub, 1) := by decide +kernel
theorem dX11_behindTest_125 : decode cX11_behindTest 125 = .ok (.putfield 249, 3) := by decide +kernel
theorem dX11_behindTest_128 : decode cX11_behindTest 128 = .ok (.iconst 2, 1) := by decide +kernel
theorem dX11_behindTest_129 : decode cX11_behindTest 129 = .ok (.ireturn, 1) := by decide +kernel
theorem zw_61 : (Jvm.Cond.selects "HillSchoolModel" ({ cls := "HillSchoolModel", name := "settle", desc := "(I)V" } : Jvm.MethodName) ({ cls := "HillSchoolModel", name := "settle", desc := "(I)V" } : Jvm.MethodName)) ∈ zall := zmemG (zmj_0 61 rfl) rfl
theorem zw_62 : (Jvm.Cond.selects "HillSchoolModel" ({ cls := "HillSchoolModel", name := "inner", desc := "()I" } : Jvm.MethodName) ({ cls := "HillSchoolModel", name := "inner", desc := "()I" } : Jvm.MethodName)) ∈ zall := zmemG (zmj_0 62 rfl) rfl
theorem zw_1514 : (Jvm.Cond.methodLink "HillSchoolModel" (278 : Nat) ({ cls := "HillSchoolModel", name := "settle", desc := "(I)V" } : Jvm.MethodName)) ∈ zall := zmemG (zmj_6 211 rfl) rfl
theorem zw_1516 : (Jvm.Cond.instanceMethod ({ cls := "HillSchoolModel", name := "settle", desc := "(I)V" } : Jvm.MethodName)) ∈ zall := zmemG (zmj_6 213 rfl) rfl
theorem zw_1518 : (Jvm.Cond.methodLink "HillSchoolModel" (281 : Nat) ({ cls := "HillSchoolModel", name := "inner", desc := "()I" } : Jvm.MethodName)) ∈ zall := zmemG (zmj_6 215 rfl) rfl
theorem zw_1520 : (Jvm.Cond.instanceMethod ({ cls := "HillSchoolModel", name := "inner", desc := "()I" } : Jvm.MethodName)) ∈ zall := zmemG (zmj_6 217 rfl) rfl
theorem zw_1533 : (Jvm.Cond.code ({ cls := "HillSchoolModel", name := "behindTest", desc := "()I" } : Jvm.MethodName) prog_13_method_51_code (2 : Nat) (Option.some Jvm.ClassFile.FieldType.int)) ∈ zall := zmemG (zmj_6 230 rfl) rfl
theorem zw_1534 : (Jvm.Cond.constantLong "HillSchoolModel" (288 : Nat) (1476 : Int64)) ∈ zall := zmemG (zmj_6 231 rfl) rfl
theorem zw_1535 : (Jvm.Cond.constantLong "HillSchoolModel" (290 : Nat) (498 : Int64)) ∈ zall := zmemG (zmj_6 232 rfl) rfl
abbrev w_HM_behindTest : List Cond := .code yX11_behindTest cX11_behindTest 2 (some .int) :: zall
abbrev rm_HM_behindTest : Room := { frames := 3, cells := 0, slots := 0, locals := 61 }
theorem hd_HM_behindTest : yX11_behindTest.cls = "HillSchoolModel" ∧ yX11_behindTest.cls ≠ "java/lang/invoke/MethodHandle" ∧ yX11_behindTest.cls ≠ "java/lang/invoke/VarHandle" ∧ (parseMethodDescriptor yX11_behindTest.desc).map (fun d => d.parameters.length) = some 0 := by decide +kernel
def wd_HM_behindTest (cA : Nat → ClassId) (q0 q1 q2 q3 q4 q5 q6 q7 q8 q9 q10 q11 q12 q13 q14 q15 q16 q17 q18 q19 q20 q21 q22 q23 q24 q25 q26 q27 q28 q29 q30 q31 : Nat) (u0 u1 u2 u3 u4 u5 u6 u7 u8 u9 u10 u11 : Int) (i_taped : Int) (i_tape : Nat → Int) (i_from : Int) (i_to : Int) (i_sort : Int) (i_worth : Int) (i_fault : Int) (i_bad : Int) (i_nCode : Int) (i_piled : Int) (i_opened : Int) (i_nOp : Nat → Int) (i_nArg : Nat → Int) (i_pile : Nat → Int) (i_pileAt : Nat → Int) : va_W := [(q0, .inr (11, [.int (Int32.ofInt u0), .int (Int32.ofInt u1), .ref q1, .ref q2, .ref q3, .ref q4, .int (Int32.ofInt u2), .ref q5, .int (Int32.ofInt i_taped), .int (Int32.ofInt i_from), .int (Int32.ofInt i_to), .int (Int32.ofInt i_sort), .long (Int64.ofInt i_worth), .int (Int32.ofInt i_fault), .int (Int32.ofInt i_bad), .int (Int32.ofInt u3), .ref q6, .int (Int32.ofInt i_nCode), .ref q7, .ref q8, .int (Int32.ofInt u4), .ref q9, .ref q10, .int (Int32.ofInt i_piled), .int (Int32.ofInt i_opened), .ref q11, .int (Int32.ofInt u5), .ref q12, .ref q13, .int (Int32.ofInt u6), .long (Int64.ofInt u7), .long (Int64.ofInt u8), .ref q14, .ref q15, .ref q16, .ref q17, .ref q18, .int (Int32.ofInt u9), .ref q19, .ref q20, .ref q21, .ref q22, .ref q23, .ref q24, .ref q25, .ref q26, .ref q27, .ref q28, .ref q29, .ref q30, .long (Int64.ofInt u10), .ref q31, .int (Int32.ofInt u11)])), (q5, .inl (cA 0, 400, .inl (za i_tape))), (q7, .inl (cA 0, 400, .inl (za i_nOp))), (q8, .inl (cA 0, 400, .inl (za i_nArg))), (q9, .inl (cA 0, 400, .inl (za i_pile))), (q10, .inl (cA 0, 400, .inl (za i_pileAt)))]
def wf_HM_behindTest (cA : Nat → ClassId) (q0 q1 q2 q3 q4 q5 q6 q7 q8 q9 q10 q11 q12 q13 q14 q15 q16 q17 q18 q19 q20 q21 q22 q23 q24 q25 q26 q27 q28 q29 q30 q31 : Nat) (u0 u1 u2 u3 u4 u5 u6 u7 u8 u9 u10 u11 : Int) (i_taped : Int) (i_tape : Nat → Int) (o : Int × Int × Int × Int × Int × Int × Int × Int × Int × Int × (Nat → Int) × (Nat → Int) × (Nat → Int) × (Nat → Int)) : va_W := wd_HM_behindTest cA q0 q1 q2 q3 q4 q5 q6 q7 q8 q9 q10 q11 q12 q13 q14 q15 q16 q17 q18 q19 q20 q21 q22 q23 q24 q25 q26 q27 q28 q29 q30 q31 u0 u1 u2 u3 u4 u5 u6 u7 u8 u9 u10 u11 i_taped i_tape o.2.1 o.2.2.1 o.2.2.2.1 o.2.2.2.2.1 o.2.2.2.2.2.1 o.2.2.2.2.2.2.1 o.2.2.2.2.2.2.2.1 o.2.2.2.2.2.2.2.2.1 o.2.2.2.2.2.2.2.2.2.1 o.2.2.2.2.2.2.2.2.2.2.1 o.2.2.2.2.2.2.2.2.2.2.2.1 o.2.2.2.2.2.2.2.2.2.2.2.2.1 o.2.2.2.2.2.2.2.2.2.2.2.2.2
def f_HM_behindTest_66 (i_taped : Int) (i_tape : Nat → Int) (s1 : Int) (i_from : Int) (i_to : Int) (i_sort : Int) (i_worth : Int) (i_fault : Int) (i_bad : Int) (i_nCode : Int) (i_piled : Int) (i_opened : Int) (i_nOp : Nat → Int) (i_nArg : Nat → Int) (i_pile : Nat → Int) (i_pileAt : Nat → Int) : Option (Int × Int × Int × Int × Int × Int × Int × Int × Int × Int × (Nat → Int) × (Nat → Int) × (Nat → Int) × (Nat → Int)) :=
  zd3 (f_HM_emit s1 0 i_nCode i_nOp i_nArg) fun v1 a2 a3 =>
  zd4 (f_HM_next i_taped i_tape i_from i_to i_sort i_worth) fun v4 v5 v6 v7 =>
  some (0, v4, v5, v6, v7, i_fault, i_bad, v1, i_piled, i_opened, a2, a3, i_pile, i_pileAt)
def f_HM_behindTest_47 (i_taped : Int) (i_tape : Nat → Int) (x1 : Int) (s1 : Int) (i_from : Int) (i_to : Int) (i_sort : Int) (i_worth : Int) (i_fault : Int) (i_bad : Int) (i_nCode : Int) (i_piled : Int) (i_opened : Int) (i_nOp : Nat → Int) (i_nArg : Nat → Int) (i_pile : Nat → Int) (i_pileAt : Nat → Int) : Option (Int × Int × Int × Int × Int × Int × Int × Int × Int × Int × (Nat → Int) × (Nat → Int) × (Nat → Int) × (Nat → Int)) :=
  zd3 (f_HM_push s1 i_nCode i_piled i_pile i_pileAt) fun v1 a2 a3 =>
  if zi_w x1 = 0 then
    f_HM_behindTest_66 i_taped i_tape 29 i_from i_to i_sort i_worth i_fault i_bad i_nCode v1 i_opened i_nOp i_nArg a2 a3
  else
    f_HM_behindTest_66 i_taped i_tape 28 i_from i_to i_sort i_worth i_fault i_bad i_nCode v1 i_opened i_nOp i_nArg a2 a3
def f_HM_behindTest_32 (i_taped : Int) (i_tape : Nat → Int) (x1 : Int) (s1 : Int) (i_from : Int) (i_to : Int) (i_sort : Int) (i_worth : Int) (i_fault : Int) (i_bad : Int) (i_nCode : Int) (i_piled : Int) (i_opened : Int) (i_nOp : Nat → Int) (i_nArg : Nat → Int) (i_pile : Nat → Int) (i_pileAt : Nat → Int) : Option (Int × Int × Int × Int × Int × Int × Int × Int × Int × Int × (Nat → Int) × (Nat → Int) × (Nat → Int) × (Nat → Int)) :=
  zd4 (f_HM_settle s1 i_pile i_pileAt i_nCode i_piled i_nOp i_nArg) fun v1 v2 a3 a4 =>
  if zi_w x1 = 0 then
    f_HM_behindTest_47 i_taped i_tape x1 29 i_from i_to i_sort i_worth i_fault i_bad v1 v2 i_opened a3 a4 i_pile i_pileAt
  else
    f_HM_behindTest_47 i_taped i_tape x1 28 i_from i_to i_sort i_worth i_fault i_bad v1 v2 i_opened a3 a4 i_pile i_pileAt
def f_HM_behindTest_22 (i_taped : Int) (i_tape : Nat → Int) (x1 : Int) (i_from : Int) (i_to : Int) (i_sort : Int) (i_worth : Int) (i_fault : Int) (i_bad : Int) (i_nCode : Int) (i_piled : Int) (i_opened : Int) (i_nOp : Nat → Int) (i_nArg : Nat → Int) (i_pile : Nat → Int) (i_pileAt : Nat → Int) : Option (Int × Int × Int × Int × Int × Int × Int × Int × Int × Int × (Nat → Int) × (Nat → Int) × (Nat → Int) × (Nat → Int)) :=
  if zi_w x1 = 0 then
    f_HM_behindTest_32 i_taped i_tape x1 1 i_from i_to i_sort i_worth i_fault i_bad i_nCode i_piled i_opened i_nOp i_nArg i_pile i_pileAt
  else
    f_HM_behindTest_32 i_taped i_tape x1 2 i_from i_to i_sort i_worth i_fault i_bad i_nCode i_piled i_opened i_nOp i_nArg i_pile i_pileAt
def f_HM_behindTest (i_taped : Int) (i_tape : Nat → Int) (i_from : Int) (i_to : Int) (i_sort : Int) (i_worth : Int) (i_fault : Int) (i_bad : Int) (i_nCode : Int) (i_piled : Int) (i_opened : Int) (i_nOp : Nat → Int) (i_nArg : Nat → Int) (i_pile : Nat → Int) (i_pileAt : Nat → Int) : Option (Int × Int × Int × Int × Int × Int × Int × Int × Int × Int × (Nat → Int) × (Nat → Int) × (Nat → Int) × (Nat → Int)) :=
  zd1 (f_HM_isWord 1476 i_sort i_worth) fun v1 =>
  if zi_w v1 ≠ 0 then
    f_HM_behindTest_22 i_taped i_tape v1 i_from i_to i_sort i_worth i_fault i_bad i_nCode i_piled i_opened i_nOp i_nArg i_pile i_pileAt
  else
    zd1 (f_HM_isWord 498 i_sort i_worth) fun v2 =>
    if zi_w v2 = 0 then
      zd1 (f_HM_inner i_piled i_pile) fun v3 =>
      if zi_w v3 ≠ zi_w (-1) then
        zd1 (f_HM_isSign 41 i_sort i_worth) fun v4 =>
        zd6 (f_HM_must v4 i_taped i_tape i_from i_to i_sort i_worth i_fault i_bad) fun v5 v6 v7 v8 v9 v10 =>
        if zi_w v10 ≠ 0 then
          some (2, v5, v6, v7, v8, v9, v10, i_nCode, i_piled, i_opened, i_nOp, i_nArg, i_pile, i_pileAt)
        else
          zd4 (f_HM_settle 1 i_pile i_pileAt i_nCode i_piled i_nOp i_nArg) fun v11 v12 a13 a14 =>
          zn (v12 - 1) fun v15 =>
          zn (i_opened - 1) fun v16 =>
          some (2, v5, v6, v7, v8, v9, v10, v11, v15, v16, a13, a14, i_pile, i_pileAt)
      else
        some (4, i_from, i_to, i_sort, i_worth, i_fault, i_bad, i_nCode, i_piled, i_opened, i_nOp, i_nArg, i_pile, i_pileAt)
    else
      f_HM_behindTest_22 i_taped i_tape v1 i_from i_to i_sort i_worth i_fault i_bad i_nCode i_piled i_opened i_nOp i_nArg i_pile i_pileAt
set_option maxHeartbeats 4000000 in
set_option maxRecDepth 100000 in
theorem c_HM_behindTest (l : Launch) (ev : zEv) (dC : Nat → ClassId) (dI : Nat → Nat → Nat) (cA : Nat → ClassId) (q0 q1 q2 q3 q4 q5 q6 q7 q8 q9 q10 q11 q12 q13 q14 q15 q16 q17 q18 q19 q20 q21 q22 q23 q24 q25 q26 q27 q28 q29 q30 q31 : Nat) (u0 u1 u2 u3 u4 u5 u6 u7 u8 u9 u10 u11 : Int) {i_taped : Int} {i_tape : Nat → Int} {i_from : Int} {i_to : Int} {i_sort : Int} {i_worth : Int} {i_fault : Int} {i_bad : Int} {i_nCode : Int} {i_piled : Int} {i_opened : Int} {i_nOp : Nat → Int} {i_nArg : Nat → Int} {i_pile : Nat → Int} {i_pileAt : Nat → Int} {out : Int × Int × Int × Int × Int × Int × Int × Int × Int × Int × (Nat → Int) × (Nat → Int) × (Nat → Int) × (Nat → Int)} (hf : f_HM_behindTest i_taped i_tape i_from i_to i_sort i_worth i_fault i_bad i_nCode i_piled i_opened i_nOp i_nArg i_pile i_pileAt = some out) : xc_I l ev (dC, dI) vwCl (tyl cA) yX11_behindTest w_HM_behindTest rm_HM_behindTest [.ref q0] (wd_HM_behindTest cA q0 q1 q2 q3 q4 q5 q6 q7 q8 q9 q10 q11 q12 q13 q14 q15 q16 q17 q18 q19 q20 q21 q22 q23 q24 q25 q26 q27 q28 q29 q30 q31 u0 u1 u2 u3 u4 u5 u6 u7 u8 u9 u10 u11 i_taped i_tape i_from i_to i_sort i_worth i_fault i_bad i_nCode i_piled i_opened i_nOp i_nArg i_pile i_pileAt) (wf_HM_behindTest cA q0 q1 q2 q3 q4 q5 q6 q7 q8 q9 q10 q11 q12 q13 q14 q15 q16 q17 q18 q19 q20 q21 q22 q23 q24 q25 q26 q27 q28 q29 q30 q31 u0 u1 u2 u3 u4 u5 u6 u7 u8 u9 u10 u11 i_taped i_tape out) out.1 := by
  refine xv_startI (cc := cX11_behindTest) (maxL := 2) (rt := .int) (by decide +kernel) rfl (Nat.le_of_ble_eq_true rfl) ?_
  intro p e s m args below meth c A Q H ls hx hb hml hts hown hK hA hP hD hS hl hE hret
  have hown : s.vm.findClass "HillSchoolModel" = some m.cls := hown
  have hz : ∀ w ∈ zall, w.before args s = true := fun w h => hts w (List.mem_cons_of_mem _ h)
  have hl : lv_has ls 2 [(0, .ref q0)] := hl
  have b_66 : ∀ (s1 : Int) (i_from : Int) (i_to : Int) (i_sort : Int) (i_worth : Int) (i_fault : Int) (i_bad : Int) (i_nCode : Int) (i_piled : Int) (i_opened : Int) (i_nOp : Nat → Int) (i_nArg : Nat → Int) (i_pile : Nat → Int) (i_pileAt : Nat → Int) (H : Heap) (locs : List Loc) (ls : Array Slot), f_HM_behindTest_66 i_taped i_tape s1 i_from i_to i_sort i_worth i_fault i_bad i_nCode i_piled i_opened i_nOp i_nArg i_pile i_pileAt = some out → va_P (dC, dI) vwCl (wd_HM_behindTest cA q0 q1 q2 q3 q4 q5 q6 q7 q8 q9 q10 q11 q12 q13 q14 q15 q16 q17 q18 q19 q20 q21 q22 q23 q24 q25 q26 q27 q28 q29 q30 q31 u0 u1 u2 u3 u4 u5 u6 u7 u8 u9 u10 u11 i_taped i_tape i_from i_to i_sort i_worth i_fault i_bad i_nCode i_piled i_opened i_nOp i_nArg i_pile i_pileAt) H → va_D A (wd_HM_behindTest cA q0 q1 q2 q3 q4 q5 q6 q7 q8 q9 q10 q11 q12 q13 q14 q15 q16 q17 q18 q19 q20 q21 q22 q23 q24 q25 q26 q27 q28 q29 q30 q31 u0 u1 u2 u3 u4 u5 u6 u7 u8 u9 u10 u11 i_taped i_tape i_from i_to i_sort i_worth i_fault i_bad i_nCode i_piled i_opened i_nOp i_nArg i_pile i_pileAt) → va_S A s.heap H locs → lv_has ls 2 [(0, .ref q0)] → W p l e rm_HM_behindTest s m args below meth c H locs 0 0 Q (F0 m 66 ls [.int (Int32.ofInt s1), .ref q0]) := by
    intro s1 i_from i_to i_sort i_worth i_fault i_bad i_nCode i_piled i_opened i_nOp i_nArg i_pile i_pileAt H locs ls hf hP hD hS hl
    unfold f_HM_behindTest_66 at hf
    refine lv_iconst (v := Int32.ofInt 0) hx hb dX11_behindTest_66 rfl ?_
    refine xe_d3 hf (fun v1 a2 a3 hg hf => ?_)
    have hC : ([0, 2, 3] : List Nat).map (fun i => (wd_HM_behindTest cA q0 q1 q2 q3 q4 q5 q6 q7 q8 q9 q10 q11 q12 q13 q14 q15 q16 q17 q18 q19 q20 q21 q22 q23 q24 q25 q26 q27 q28 q29 q30 q31 u0 u1 u2 u3 u4 u5 u6 u7 u8 u9 u10 u11 i_taped i_tape i_from i_to i_sort i_worth i_fault i_bad i_nCode i_piled i_opened i_nOp i_nArg i_pile i_pileAt)[i]?) = (wd_HM_emit cA q0 q1 q2 q3 q4 q5 q6 q7 q8 q9 q10 q11 q12 q13 q14 q15 q16 q17 q18 q19 q20 q21 q22 q23 q24 q25 q26 q27 q28 q29 q30 q31 u0 u1 u2 i_taped i_from i_to i_sort i_worth i_fault i_bad u3 u4 i_piled i_opened u5 u6 u7 u8 u9 u10 u11 i_nCode i_nOp i_nArg).map some := rfl
    refine xv_afterV (ws' := (wd_HM_behindTest cA q0 q1 q2 q3 q4 q5 q6 q7 q8 q9 q10 q11 q12 q13 q14 q15 q16 q17 q18 q19 q20 q21 q22 q23 q24 q25 q26 q27 q28 q29 q30 q31 u0 u1 u2 u3 u4 u5 u6 u7 u8 u9 u10 u11 i_taped i_tape i_from i_to i_sort i_worth i_fault i_bad v1 i_piled i_opened a2 a3 i_pile i_pileAt)) (isC := [0, 2, 3]) (ps := [some 0, none, some 1, some 2, none, none]) (va_runV (As := [.int (Int32.ofInt s1), .int (Int32.ofInt 0)]) (rest := []) ⟨hx, hb, hml, hown, hts⟩ (c_HM_emit l ev dC dI cA q0 q1 q2 q3 q4 q5 q6 q7 q8 q9 q10 q11 q12 q13 q14 q15 q16 q17 q18 q19 q20 q21 q22 q23 q24 q25 q26 q27 q28 q29 q30 q31 u0 u1 u2 i_taped i_from i_to i_sort i_worth i_fault i_bad u3 u4 i_piled i_opened u5 u6 u7 u8 u9 u10 u11 hg H.size) (cwV 2 hts (zgV zw_1503 zw_1505 zw_59 zw_115 zw_1506) rfl rfl rfl hd_HM_emit ⟨Nat.le_of_ble_eq_true rfl, Nat.le_of_ble_eq_true rfl⟩) (xv_preV (T := TX11) (N := 53) hE hA hS hK hP hD (isC := [0, 2, 3]) (by decide +kernel) hC (q0 := 0) (ci := 11) rfl rfl) rfl rfl hl.1 rfl (lv_room (Nat.le_of_ble_eq_true rfl)) dX11_behindTest_67 ⟨Nat.le_refl _, Nat.le_refl _⟩) hP hD hS hA (by decide +kernel) rfl hC rfl rfl (fun H locs hP hD hS => ?_)
    refine lv_aload_n hx hb dX11_behindTest_70 rfl (lv_at hl 0 rfl) ?_
    refine xe_d4 hf (fun v4 v5 v6 v7 hg hf => ?_)
    have hC : ([0, 1] : List Nat).map (fun i => (wd_HM_behindTest cA q0 q1 q2 q3 q4 q5 q6 q7 q8 q9 q10 q11 q12 q13 q14 q15 q16 q17 q18 q19 q20 q21 q22 q23 q24 q25 q26 q27 q28 q29 q30 q31 u0 u1 u2 u3 u4 u5 u6 u7 u8 u9 u10 u11 i_taped i_tape i_from i_to i_sort i_worth i_fault i_bad v1 i_piled i_opened a2 a3 i_pile i_pileAt)[i]?) = (wd_HM_next cA q0 q1 q2 q3 q4 q5 q6 q7 q8 q9 q10 q11 q12 q13 q14 q15 q16 q17 q18 q19 q20 q21 q22 q23 q24 q25 q26 q27 q28 q29 q30 q31 u0 u1 u2 i_fault i_bad u3 v1 u4 i_piled i_opened u5 u6 u7 u8 u9 u10 u11 i_taped i_tape i_from i_to i_sort i_worth).map some := rfl
    refine xv_afterV (ws' := (wd_HM_behindTest cA q0 q1 q2 q3 q4 q5 q6 q7 q8 q9 q10 q11 q12 q13 q14 q15 q16 q17 q18 q19 q20 q21 q22 q23 q24 q25 q26 q27 q28 q29 q30 q31 u0 u1 u2 u3 u4 u5 u6 u7 u8 u9 u10 u11 i_taped i_tape v4 v5 v6 v7 i_fault i_bad v1 i_piled i_opened a2 a3 i_pile i_pileAt)) (isC := [0, 1]) (ps := [some 0, some 1, none, none, none, none]) (va_runV (As := []) (rest := []) ⟨hx, hb, hml, hown, hts⟩ (c_HM_next l ev dC dI cA q0 q1 q2 q3 q4 q5 q6 q7 q8 q9 q10 q11 q12 q13 q14 q15 q16 q17 q18 q19 q20 q21 q22 q23 q24 q25 q26 q27 q28 q29 q30 q31 u0 u1 u2 i_fault i_bad u3 v1 u4 i_piled i_opened u5 u6 u7 u8 u9 u10 u11 hg H.size) (cwV 0 hts (zgV zw_1439 zw_1441 zw_47 zw_115 zw_1442) rfl rfl rfl hd_HM_next ⟨Nat.le_of_ble_eq_true rfl, Nat.le_of_ble_eq_true rfl⟩) (xv_preV (T := TX11) (N := 53) hE hA hS hK hP hD (isC := [0, 1]) (by decide +kernel) hC (q0 := 0) (ci := 11) rfl rfl) rfl rfl hl.1 rfl (lv_room (Nat.le_of_ble_eq_true rfl)) dX11_behindTest_71 ⟨Nat.le_refl _, Nat.le_refl _⟩) hP hD hS hA (by decide +kernel) rfl hC rfl rfl (fun H locs hP hD hS => ?_)
    refine lv_iconst (v := Int32.ofInt 0) hx hb dX11_behindTest_74 rfl ?_
    obtain rfl := Option.some.inj hf
    exact hret _ _ _ _ rfl dX11_behindTest_75 hP hD hS
  have b_47 : ∀ (x1 : Int) (s1 : Int) (i_from : Int) (i_to : Int) (i_sort : Int) (i_worth : Int) (i_fault : Int) (i_bad : Int) (i_nCode : Int) (i_piled : Int) (i_opened : Int) (i_nOp : Nat → Int) (i_nArg : Nat → Int) (i_pile : Nat → Int) (i_pileAt : Nat → Int) (H : Heap) (locs : List Loc) (ls : Array Slot), f_HM_behindTest_47 i_taped i_tape x1 s1 i_from i_to i_sort i_worth i_fault i_bad i_nCode i_piled i_opened i_nOp i_nArg i_pile i_pileAt = some out → va_P (dC, dI) vwCl (wd_HM_behindTest cA q0 q1 q2 q3 q4 q5 q6 q7 q8 q9 q10 q11 q12 q13 q14 q15 q16 q17 q18 q19 q20 q21 q22 q23 q24 q25 q26 q27 q28 q29 q30 q31 u0 u1 u2 u3 u4 u5 u6 u7 u8 u9 u10 u11 i_taped i_tape i_from i_to i_sort i_worth i_fault i_bad i_nCode i_piled i_opened i_nOp i_nArg i_pile i_pileAt) H → va_D A (wd_HM_behindTest cA q0 q1 q2 q3 q4 q5 q6 q7 q8 q9 q10 q11 q12 q13 q14 q15 q16 q17 q18 q19 q20 q21 q22 q23 q24 q25 q26 q27 q28 q29 q30 q31 u0 u1 u2 u3 u4 u5 u6 u7 u8 u9 u10 u11 i_taped i_tape i_from i_to i_sort i_worth i_fault i_bad i_nCode i_piled i_opened i_nOp i_nArg i_pile i_pileAt) → va_S A s.heap H locs → lv_has ls 2 [(0, .ref q0), (1, .int (Int32.ofInt x1))] → W p l e rm_HM_behindTest s m args below meth c H locs 0 0 Q (F0 m 47 ls [.int (Int32.ofInt s1), .ref q0]) := by
    intro x1 s1 i_from i_to i_sort i_worth i_fault i_bad i_nCode i_piled i_opened i_nOp i_nArg i_pile i_pileAt H locs ls hf hP hD hS hl
    unfold f_HM_behindTest_47 at hf
    refine lv_aload_n hx hb dX11_behindTest_47 rfl (lv_at hl 0 rfl) ?_
    refine va_get (D := (dC, dI)) (ci := 11) (v := .int (Int32.ofInt i_nCode)) (C := RX11) (T := TX11) (N := 53) hx hb hz zi_X11 hown hK hP 0 rfl rfl 17 (by decide) (hz _ zw_1182) (fun _ h9 => h9) rfl dX11_behindTest_48 ?_
    refine xe_d3 hf (fun v1 a2 a3 hg hf => ?_)
    have hC : ([0, 4, 5] : List Nat).map (fun i => (wd_HM_behindTest cA q0 q1 q2 q3 q4 q5 q6 q7 q8 q9 q10 q11 q12 q13 q14 q15 q16 q17 q18 q19 q20 q21 q22 q23 q24 q25 q26 q27 q28 q29 q30 q31 u0 u1 u2 u3 u4 u5 u6 u7 u8 u9 u10 u11 i_taped i_tape i_from i_to i_sort i_worth i_fault i_bad i_nCode i_piled i_opened i_nOp i_nArg i_pile i_pileAt)[i]?) = (wd_HM_push cA q0 q1 q2 q3 q4 q5 q6 q7 q8 q9 q10 q11 q12 q13 q14 q15 q16 q17 q18 q19 q20 q21 q22 q23 q24 q25 q26 q27 q28 q29 q30 q31 u0 u1 u2 i_taped i_from i_to i_sort i_worth i_fault i_bad u3 i_nCode u4 i_opened u5 u6 u7 u8 u9 u10 u11 i_piled i_pile i_pileAt).map some := rfl
    refine xv_afterV (ws' := (wd_HM_behindTest cA q0 q1 q2 q3 q4 q5 q6 q7 q8 q9 q10 q11 q12 q13 q14 q15 q16 q17 q18 q19 q20 q21 q22 q23 q24 q25 q26 q27 q28 q29 q30 q31 u0 u1 u2 u3 u4 u5 u6 u7 u8 u9 u10 u11 i_taped i_tape i_from i_to i_sort i_worth i_fault i_bad i_nCode v1 i_opened i_nOp i_nArg a2 a3)) (isC := [0, 4, 5]) (ps := [some 0, none, none, none, some 1, some 2]) (va_runV (As := [.int (Int32.ofInt s1), .int (Int32.ofInt i_nCode)]) (rest := []) ⟨hx, hb, hml, hown, hts⟩ (c_HM_push l ev dC dI cA q0 q1 q2 q3 q4 q5 q6 q7 q8 q9 q10 q11 q12 q13 q14 q15 q16 q17 q18 q19 q20 q21 q22 q23 q24 q25 q26 q27 q28 q29 q30 q31 u0 u1 u2 i_taped i_from i_to i_sort i_worth i_fault i_bad u3 i_nCode u4 i_opened u5 u6 u7 u8 u9 u10 u11 hg H.size) (cwV 2 hts (zgV zw_1478 zw_1480 zw_53 zw_115 zw_1481) rfl rfl rfl hd_HM_push ⟨Nat.le_of_ble_eq_true rfl, Nat.le_of_ble_eq_true rfl⟩) (xv_preV (T := TX11) (N := 53) hE hA hS hK hP hD (isC := [0, 4, 5]) (by decide +kernel) hC (q0 := 0) (ci := 11) rfl rfl) rfl rfl hl.1 rfl (lv_room (Nat.le_of_ble_eq_true rfl)) dX11_behindTest_51 ⟨Nat.le_refl _, Nat.le_refl _⟩) hP hD hS hA (by decide +kernel) rfl hC rfl rfl (fun H locs hP hD hS => ?_)
    refine lv_aload_n hx hb dX11_behindTest_54 rfl (lv_at hl 0 rfl) ?_
    refine lv_iload_n hx hb dX11_behindTest_55 rfl (lv_at hl 1 rfl) ?_
    refine xi_if_eq (tgt := 64) hx hb dX11_behindTest_56 (by decide) hf (fun hf => ?_) (fun hf => ?_)
    · refine lv_bipush (v := Int32.ofInt 29) hx hb dX11_behindTest_64 (by decide) ?_
      exact b_66  _ _ _ _ _ _ _ _ _ _ _ _ _ _ _ _ _ hf hP hD hS (lv_sub hl [0] rfl)
    · refine lv_bipush (v := Int32.ofInt 28) hx hb dX11_behindTest_59 (by decide) ?_
      refine lv_goto (tgt := 66) hx hb dX11_behindTest_61 (by decide) ?_
      exact b_66  _ _ _ _ _ _ _ _ _ _ _ _ _ _ _ _ _ hf hP hD hS (lv_sub hl [0] rfl)
  have b_32 : ∀ (x1 : Int) (s1 : Int) (i_from : Int) (i_to : Int) (i_sort : Int) (i_worth : Int) (i_fault : Int) (i_bad : Int) (i_nCode : Int) (i_piled : Int) (i_opened : Int) (i_nOp : Nat → Int) (i_nArg : Nat → Int) (i_pile : Nat → Int) (i_pileAt : Nat → Int) (H : Heap) (locs : List Loc) (ls : Array Slot), f_HM_behindTest_32 i_taped i_tape x1 s1 i_from i_to i_sort i_worth i_fault i_bad i_nCode i_piled i_opened i_nOp i_nArg i_pile i_pileAt = some out → va_P (dC, dI) vwCl (wd_HM_behindTest cA q0 q1 q2 q3 q4 q5 q6 q7 q8 q9 q10 q11 q12 q13 q14 q15 q16 q17 q18 q19 q20 q21 q22 q23 q24 q25 q26 q27 q28 q29 q30 q31 u0 u1 u2 u3 u4 u5 u6 u7 u8 u9 u10 u11 i_taped i_tape i_from i_to i_sort i_worth i_fault i_bad i_nCode i_piled i_opened i_nOp i_nArg i_pile i_pileAt) H → va_D A (wd_HM_behindTest cA q0 q1 q2 q3 q4 q5 q6 q7 q8 q9 q10 q11 q12 q13 q14 q15 q16 q17 q18 q19 q20 q21 q22 q23 q24 q25 q26 q27 q28 q29 q30 q31 u0 u1 u2 u3 u4 u5 u6 u7 u8 u9 u10 u11 i_taped i_tape i_from i_to i_sort i_worth i_fault i_bad i_nCode i_piled i_opened i_nOp i_nArg i_pile i_pileAt) → va_S A s.heap H locs → lv_has ls 2 [(0, .ref q0), (1, .int (Int32.ofInt x1))] → W p l e rm_HM_behindTest s m args below meth c H locs 0 0 Q (F0 m 32 ls [.int (Int32.ofInt s1), .ref q0]) := by
    intro x1 s1 i_from i_to i_sort i_worth i_fault i_bad i_nCode i_piled i_opened i_nOp i_nArg i_pile i_pileAt H locs ls hf hP hD hS hl
    unfold f_HM_behindTest_32 at hf
    refine xe_d4 hf (fun v1 v2 a3 a4 hg hf => ?_)
    have hC : ([0, 2, 3, 4, 5] : List Nat).map (fun i => (wd_HM_behindTest cA q0 q1 q2 q3 q4 q5 q6 q7 q8 q9 q10 q11 q12 q13 q14 q15 q16 q17 q18 q19 q20 q21 q22 q23 q24 q25 q26 q27 q28 q29 q30 q31 u0 u1 u2 u3 u4 u5 u6 u7 u8 u9 u10 u11 i_taped i_tape i_from i_to i_sort i_worth i_fault i_bad i_nCode i_piled i_opened i_nOp i_nArg i_pile i_pileAt)[i]?) = (wd_HM_settle cA q0 q1 q2 q3 q4 q5 q6 q7 q8 q9 q10 q11 q12 q13 q14 q15 q16 q17 q18 q19 q20 q21 q22 q23 q24 q25 q26 q27 q28 q29 q30 q31 u0 u1 u2 i_taped i_from i_to i_sort i_worth i_fault i_bad u3 u4 i_opened u5 u6 u7 u8 u9 u10 u11 i_pile i_pileAt i_nCode i_piled i_nOp i_nArg).map some := rfl
    refine xv_afterV (ws' := (wd_HM_behindTest cA q0 q1 q2 q3 q4 q5 q6 q7 q8 q9 q10 q11 q12 q13 q14 q15 q16 q17 q18 q19 q20 q21 q22 q23 q24 q25 q26 q27 q28 q29 q30 q31 u0 u1 u2 u3 u4 u5 u6 u7 u8 u9 u10 u11 i_taped i_tape i_from i_to i_sort i_worth i_fault i_bad v1 v2 i_opened a3 a4 i_pile i_pileAt)) (isC := [0, 2, 3, 4, 5]) (ps := [some 0, none, some 1, some 2, some 3, some 4]) (va_runV (As := [.int (Int32.ofInt s1)]) (rest := []) ⟨hx, hb, hml, hown, hts⟩ (c_HM_settle l ev dC dI cA q0 q1 q2 q3 q4 q5 q6 q7 q8 q9 q10 q11 q12 q13 q14 q15 q16 q17 q18 q19 q20 q21 q22 q23 q24 q25 q26 q27 q28 q29 q30 q31 u0 u1 u2 i_taped i_from i_to i_sort i_worth i_fault i_bad u3 u4 i_opened u5 u6 u7 u8 u9 u10 u11 hg H.size) (cwV 1 hts (zgV zw_1514 zw_1516 zw_61 zw_115 zw_1517) rfl rfl rfl hd_HM_settle ⟨Nat.le_of_ble_eq_true rfl, Nat.le_of_ble_eq_true rfl⟩) (xv_preV (T := TX11) (N := 53) hE hA hS hK hP hD (isC := [0, 2, 3, 4, 5]) (by decide +kernel) hC (q0 := 0) (ci := 11) rfl rfl) rfl rfl hl.1 rfl (lv_room (Nat.le_of_ble_eq_true rfl)) dX11_behindTest_32 ⟨Nat.le_refl _, Nat.le_refl _⟩) hP hD hS hA (by decide +kernel) rfl hC rfl rfl (fun H locs hP hD hS => ?_)
    refine lv_aload_n hx hb dX11_behindTest_35 rfl (lv_at hl 0 rfl) ?_
    refine lv_iload_n hx hb dX11_behindTest_36 rfl (lv_at hl 1 rfl) ?_
    refine xi_if_eq (tgt := 45) hx hb dX11_behindTest_37 (by decide) hf (fun hf => ?_) (fun hf => ?_)
    · refine lv_bipush (v := Int32.ofInt 29) hx hb dX11_behindTest_45 (by decide) ?_
      exact b_47  _ _ _ _ _ _ _ _ _ _ _ _ _ _ _ _ _ _ hf hP hD hS (lv_sub hl [0, 1] rfl)
    · refine lv_bipush (v := Int32.ofInt 28) hx hb dX11_behindTest_40 (by decide) ?_
      refine lv_goto (tgt := 47) hx hb dX11_behindTest_42 (by decide) ?_
      exact b_47  _ _ _ _ _ _ _ _ _ _ _ _ _ _ _ _ _ _ hf hP hD hS (lv_sub hl [0, 1] rfl)
  have b_22 : ∀ (x1 : Int) (i_from : Int) (i_to : Int) (i_sort : Int) (i_worth : Int) (i_fault : Int) (i_bad : Int) (i_nCode : Int) (i_piled : Int) (i_opened : Int) (i_nOp : Nat → Int) (i_nArg : Nat → Int) (i_pile : Nat → Int) (i_pileAt : Nat → Int) (H : Heap) (locs : List Loc) (ls : Array Slot), f_HM_behindTest_22 i_taped i_tape x1 i_from i_to i_sort i_worth i_fault i_bad i_nCode i_piled i_opened i_nOp i_nArg i_pile i_pileAt = some out → va_P (dC, dI) vwCl (wd_HM_behindTest cA q0 q1 q2 q3 q4 q5 q6 q7 q8 q9 q10 q11 q12 q13 q14 q15 q16 q17 q18 q19 q20 q21 q22 q23 q24 q25 q26 q27 q28 q29 q30 q31 u0 u1 u2 u3 u4 u5 u6 u7 u8 u9 u10 u11 i_taped i_tape i_from i_to i_sort i_worth i_fault i_bad i_nCode i_piled i_opened i_nOp i_nArg i_pile i_pileAt) H → va_D A (wd_HM_behindTest cA q0 q1 q2 q3 q4 q5 q6 q7 q8 q9 q10 q11 q12 q13 q14 q15 q16 q17 q18 q19 q20 q21 q22 q23 q24 q25 q26 q27 q28 q29 q30 q31 u0 u1 u2 u3 u4 u5 u6 u7 u8 u9 u10 u11 i_taped i_tape i_from i_to i_sort i_worth i_fault i_bad i_nCode i_piled i_opened i_nOp i_nArg i_pile i_pileAt) → va_S A s.heap H locs → lv_has ls 2 [(0, .ref q0), (1, .int (Int32.ofInt x1))] → W p l e rm_HM_behindTest s m args below meth c H locs 0 0 Q (F0 m 22 ls []) := by
    intro x1 i_from i_to i_sort i_worth i_fault i_bad i_nCode i_piled i_opened i_nOp i_nArg i_pile i_pileAt H locs ls hf hP hD hS hl
    unfold f_HM_behindTest_22 at hf
    refine lv_aload_n hx hb dX11_behindTest_22 rfl (lv_at hl 0 rfl) ?_
    refine lv_iload_n hx hb dX11_behindTest_23 rfl (lv_at hl 1 rfl) ?_
    refine xi_if_eq (tgt := 31) hx hb dX11_behindTest_24 (by decide) hf (fun hf => ?_) (fun hf => ?_)
    · refine lv_iconst (v := Int32.ofInt 1) hx hb dX11_behindTest_31 rfl ?_
      exact b_32  _ _ _ _ _ _ _ _ _ _ _ _ _ _ _ _ _ _ hf hP hD hS (lv_sub hl [0, 1] rfl)
    · refine lv_iconst (v := Int32.ofInt 2) hx hb dX11_behindTest_27 rfl ?_
      refine lv_goto (tgt := 32) hx hb dX11_behindTest_28 (by decide) ?_
      exact b_32  _ _ _ _ _ _ _ _ _ _ _ _ _ _ _ _ _ _ hf hP hD hS (lv_sub hl [0, 1] rfl)
  unfold f_HM_behindTest at hf
  refine lv_aload_n hx hb dX11_behindTest_0 rfl (lv_at hl 0 rfl) ?_
  refine lv_ldc2 (v := Int64.ofInt 1476) hx hb hown (hz _ zw_1534) dX11_behindTest_1 ?_
  refine xe_d1 hf (fun v1 hg hf => ?_)
  have hC : ([0] : List Nat).map (fun i => (wd_HM_behindTest cA q0 q1 q2 q3 q4 q5 q6 q7 q8 q9 q10 q11 q12 q13 q14 q15 q16 q17 q18 q19 q20 q21 q22 q23 q24 q25 q26 q27 q28 q29 q30 q31 u0 u1 u2 u3 u4 u5 u6 u7 u8 u9 u10 u11 i_taped i_tape i_from i_to i_sort i_worth i_fault i_bad i_nCode i_piled i_opened i_nOp i_nArg i_pile i_pileAt)[i]?) = (wd_HM_isWord cA q0 q1 q2 q3 q4 q5 q6 q7 q8 q9 q10 q11 q12 q13 q14 q15 q16 q17 q18 q19 q20 q21 q22 q23 q24 q25 q26 q27 q28 q29 q30 q31 u0 u1 u2 i_taped i_from i_to i_fault i_bad u3 i_nCode u4 i_piled i_opened u5 u6 u7 u8 u9 u10 u11 i_sort i_worth).map some := rfl
  refine xv_afterI (ws' := (wd_HM_behindTest cA q0 q1 q2 q3 q4 q5 q6 q7 q8 q9 q10 q11 q12 q13 q14 q15 q16 q17 q18 q19 q20 q21 q22 q23 q24 q25 q26 q27 q28 q29 q30 q31 u0 u1 u2 u3 u4 u5 u6 u7 u8 u9 u10 u11 i_taped i_tape i_from i_to i_sort i_worth i_fault i_bad i_nCode i_piled i_opened i_nOp i_nArg i_pile i_pileAt)) (isC := [0]) (ps := [some 0, none, none, none, none, none]) (va_runV (As := [.long (Int64.ofInt 1476)]) (rest := []) ⟨hx, hb, hml, hown, hts⟩ (c_HM_isWord l ev dC dI cA q0 q1 q2 q3 q4 q5 q6 q7 q8 q9 q10 q11 q12 q13 q14 q15 q16 q17 q18 q19 q20 q21 q22 q23 q24 q25 q26 q27 q28 q29 q30 q31 u0 u1 u2 i_taped i_from i_to i_fault i_bad u3 i_nCode u4 i_piled i_opened u5 u6 u7 u8 u9 u10 u11 hg H.size) (cwV 1 hts (zgV zw_1460 zw_1462 zw_49 zw_115 zw_1463) rfl rfl rfl hd_HM_isWord ⟨Nat.le_of_ble_eq_true rfl, Nat.le_of_ble_eq_true rfl⟩) (xv_preV (T := TX11) (N := 53) hE hA hS hK hP hD (isC := [0]) (by decide +kernel) hC (q0 := 0) (ci := 11) rfl rfl) rfl rfl hl.1 rfl (lv_room (Nat.le_of_ble_eq_true rfl)) dX11_behindTest_4 ⟨Nat.le_refl _, Nat.le_refl _⟩) hP hD hS hA (by decide +kernel) rfl hC rfl rfl (fun H locs hP hD hS => ?_)
  refine lv_istore_n (lv' := [(1, .int (Int32.ofInt v1)), (0, .ref q0)]) hx hb dX11_behindTest_7 rfl hl (by decide) rfl (fun ls hl => ?_)
  refine lv_iload_n hx hb dX11_behindTest_8 rfl (lv_at hl 0 rfl) ?_
  refine xi_if_ne (tgt := 22) hx hb dX11_behindTest_9 (by decide) hf (fun hf => ?_) (fun hf => ?_)
  · exact b_22  _ _ _ _ _ _ _ _ _ _ _ _ _ _ _ _ _ hf hP hD hS (lv_sub hl [1, 0] rfl)
  · refine lv_aload_n hx hb dX11_behindTest_12 rfl (lv_at hl 1 rfl) ?_
    refine lv_ldc2 (v := Int64.ofInt 498) hx hb hown (hz _ zw_1535) dX11_behindTest_13 ?_
    refine xe_d1 hf (fun v2 hg hf => ?_)
    have hC : ([0] : List Nat).map (fun i => (wd_HM_behindTest cA q0 q1 q2 q3 q4 q5 q6 q7 q8 q9 q10 q11 q12 q13 q14 q15 q16 q17 q18 q19 q20 q21 q22 q23 q24 q25 q26 q27 q28 q29 q30 q31 u0 u1 u2 u3 u4 u5 u6 u7 u8 u9 u10 u11 i_taped i_tape i_from i_to i_sort i_worth i_fault i_bad i_nCode i_piled i_opened i_nOp i_nArg i_pile i_pileAt)[i]?) = (wd_HM_isWord cA q0 q1 q2 q3 q4 q5 q6 q7 q8 q9 q10 q11 q12 q13 q14 q15 q16 q17 q18 q19 q20 q21 q22 q23 q24 q25 q26 q27 q28 q29 q30 q31 u0 u1 u2 i_taped i_from i_to i_fault i_bad u3 i_nCode u4 i_piled i_opened u5 u6 u7 u8 u9 u10 u11 i_sort i_worth).map some := rfl
    refine xv_afterI (ws' := (wd_HM_behindTest cA q0 q1 q2 q3 q4 q5 q6 q7 q8 q9 q10 q11 q12 q13 q14 q15 q16 q17 q18 q19 q20 q21 q22 q23 q24 q25 q26 q27 q28 q29 q30 q31 u0 u1 u2 u3 u4 u5 u6 u7 u8 u9 u10 u11 i_taped i_tape i_from i_to i_sort i_worth i_fault i_bad i_nCode i_piled i_opened i_nOp i_nArg i_pile i_pileAt)) (isC := [0]) (ps := [some 0, none, none, none, none, none]) (va_runV (As := [.long (Int64.ofInt 498)]) (rest := []) ⟨hx, hb, hml, hown, hts⟩ (c_HM_isWord l ev dC dI cA q0 q1 q2 q3 q4 q5 q6 q7 q8 q9 q10 q11 q12 q13 q14 q15 q16 q17 q18 q19 q20 q21 q22 q23 q24 q25 q26 q27 q28 q29 q30 q31 u0 u1 u2 i_taped i_from i_to i_fault i_bad u3 i_nCode u4 i_piled i_opened u5 u6 u7 u8 u9 u10 u11 hg H.size) (cwV 1 hts (zgV zw_1460 zw_1462 zw_49 zw_115 zw_1463) rfl rfl rfl hd_HM_isWord ⟨Nat.le_of_ble_eq_true rfl, Nat.le_of_ble_eq_true rfl⟩) (xv_preV (T := TX11) (N := 53) hE hA hS hK hP hD (isC := [0]) (by decide +kernel) hC (q0 := 0) (ci := 11) rfl rfl) rfl rfl hl.1 rfl (lv_room (Nat.le_of_ble_eq_true rfl)) dX11_behindTest_16 ⟨Nat.le_refl _, Nat.le_refl _⟩) hP hD hS hA (by decide +kernel) rfl hC rfl rfl (fun H locs hP hD hS => ?_)
    refine xi_if_eq (tgt := 76) hx hb dX11_behindTest_19 (by decide) hf (fun hf => ?_) (fun hf => ?_)
    · refine lv_aload_n hx hb dX11_behindTest_76 rfl (lv_at hl 1 rfl) ?_
      refine xe_d1 hf (fun v3 hg hf => ?_)
      have hC : ([0, 4] : List Nat).map (fun i => (wd_HM_behindTest cA q0 q1 q2 q3 q4 q5 q6 q7 q8 q9 q10 q11 q12 q13 q14 q15 q16 q17 q18 q19 q20 q21 q22 q23 q24 q25 q26 q27 q28 q29 q30 q31 u0 u1 u2 u3 u4 u5 u6 u7 u8 u9 u10 u11 i_taped i_tape i_from i_to i_sort i_worth i_fault i_bad i_nCode i_piled i_opened i_nOp i_nArg i_pile i_pileAt)[i]?) = (wd_HM_inner cA q0 q1 q2 q3 q4 q5 q6 q7 q8 q9 q10 q11 q12 q13 q14 q15 q16 q17 q18 q19 q20 q21 q22 q23 q24 q25 q26 q27 q28 q29 q30 q31 u0 u1 u2 i_taped i_from i_to i_sort i_worth i_fault i_bad u3 i_nCode u4 i_opened u5 u6 u7 u8 u9 u10 u11 i_piled i_pile).map some := rfl
      refine xv_afterI (ws' := (wd_HM_behindTest cA q0 q1 q2 q3 q4 q5 q6 q7 q8 q9 q10 q11 q12 q13 q14 q15 q16 q17 q18 q19 q20 q21 q22 q23 q24 q25 q26 q27 q28 q29 q30 q31 u0 u1 u2 u3 u4 u5 u6 u7 u8 u9 u10 u11 i_taped i_tape i_from i_to i_sort i_worth i_fault i_bad i_nCode i_piled i_opened i_nOp i_nArg i_pile i_pileAt)) (isC := [0, 4]) (ps := [some 0, none, none, none, some 1, none]) (va_runV (As := []) (rest := []) ⟨hx, hb, hml, hown, hts⟩ (c_HM_inner l ev dC dI cA q0 q1 q2 q3 q4 q5 q6 q7 q8 q9 q10 q11 q12 q13 q14 q15 q16 q17 q18 q19 q20 q21 q22 q23 q24 q25 q26 q27 q28 q29 q30 q31 u0 u1 u2 i_taped i_from i_to i_sort i_worth i_fault i_bad u3 i_nCode u4 i_opened u5 u6 u7 u8 u9 u10 u11 hg H.size) (cwV 0 hts (zgV zw_1518 zw_1520 zw_62 zw_115 zw_1521) rfl rfl rfl hd_HM_inner ⟨Nat.le_of_ble_eq_true rfl, Nat.le_of_ble_eq_true rfl⟩) (xv_preV (T := TX11) (N := 53) hE hA hS hK hP hD (isC := [0, 4]) (by decide +kernel) hC (q0 := 0) (ci := 11) rfl rfl) rfl rfl hl.1 rfl (lv_room (Nat.le_of_ble_eq_true rfl)) dX11_behindTest_77 ⟨Nat.le_refl _, Nat.le_refl _⟩) hP hD hS hA (by decide +kernel) rfl hC rfl rfl (fun H locs hP hD hS => ?_)
      refine lv_iconst (v := Int32.ofInt (-1)) hx hb dX11_behindTest_80 rfl ?_
      refine xi_icmp_ne (tgt := 86) hx hb dX11_behindTest_81 (by decide) hf (fun hf => ?_) (fun hf => ?_)
      · refine lv_aload_n hx hb dX11_behindTest_86 rfl (lv_at hl 1 rfl) ?_
        refine lv_aload_n hx hb dX11_behindTest_87 rfl (lv_at hl 1 rfl) ?_
        refine lv_bipush (v := Int32.ofInt 41) hx hb dX11_behindTest_88 (by decide) ?_
        refine xe_d1 hf (fun v4 hg hf => ?_)
        have hC : ([0] : List Nat).map (fun i => (wd_HM_behindTest cA q0 q1 q2 q3 q4 q5 q6 q7 q8 q9 q10 q11 q12 q13 q14 q15 q16 q17 q18 q19 q20 q21 q22 q23 q24 q25 q26 q27 q28 q29 q30 q31 u0 u1 u2 u3 u4 u5 u6 u7 u8 u9 u10 u11 i_taped i_tape i_from i_to i_sort i_worth i_fault i_bad i_nCode i_piled i_opened i_nOp i_nArg i_pile i_pileAt)[i]?) = (wd_HM_isSign cA q0 q1 q2 q3 q4 q5 q6 q7 q8 q9 q10 q11 q12 q13 q14 q15 q16 q17 q18 q19 q20 q21 q22 q23 q24 q25 q26 q27 q28 q29 q30 q31 u0 u1 u2 i_taped i_from i_to i_fault i_bad u3 i_nCode u4 i_piled i_opened u5 u6 u7 u8 u9 u10 u11 i_sort i_worth).map some := rfl
        refine xv_afterI (ws' := (wd_HM_behindTest cA q0 q1 q2 q3 q4 q5 q6 q7 q8 q9 q10 q11 q12 q13 q14 q15 q16 q17 q18 q19 q20 q21 q22 q23 q24 q25 q26 q27 q28 q29 q30 q31 u0 u1 u2 u3 u4 u5 u6 u7 u8 u9 u10 u11 i_taped i_tape i_from i_to i_sort i_worth i_fault i_bad i_nCode i_piled i_opened i_nOp i_nArg i_pile i_pileAt)) (isC := [0]) (ps := [some 0, none, none, none, none, none]) (va_runV (As := [.int (Int32.ofInt 41)]) (rest := [.ref q0]) ⟨hx, hb, hml, hown, hts⟩ (c_HM_isSign l ev dC dI cA q0 q1 q2 q3 q4 q5 q6 q7 q8 q9 q10 q11 q12 q13 q14 q15 q16 q17 q18 q19 q20 q21 q22 q23 q24 q25 q26 q27 q28 q29 q30 q31 u0 u1 u2 i_taped i_from i_to i_fault i_bad u3 i_nCode u4 i_piled i_opened u5 u6 u7 u8 u9 u10 u11 hg H.size) (cwV 1 hts (zgV zw_1482 zw_1484 zw_54 zw_115 zw_1485) rfl rfl rfl hd_HM_isSign ⟨Nat.le_of_ble_eq_true rfl, Nat.le_of_ble_eq_true rfl⟩) (xv_preV (T := TX11) (N := 53) hE hA hS hK hP hD (isC := [0]) (by decide +kernel) hC (q0 := 0) (ci := 11) rfl rfl) rfl rfl hl.1 rfl (lv_room (Nat.le_of_ble_eq_true rfl)) dX11_behindTest_90 ⟨Nat.le_refl _, Nat.le_refl _⟩) hP hD hS hA (by decide +kernel) rfl hC rfl rfl (fun H locs hP hD hS => ?_)
        refine xe_d6 hf (fun v5 v6 v7 v8 v9 v10 hg hf => ?_)
        have hC : ([0, 1] : List Nat).map (fun i => (wd_HM_behindTest cA q0 q1 q2 q3 q4 q5 q6 q7 q8 q9 q10 q11 q12 q13 q14 q15 q16 q17 q18 q19 q20 q21 q22 q23 q24 q25 q26 q27 q28 q29 q30 q31 u0 u1 u2 u3 u4 u5 u6 u7 u8 u9 u10 u11 i_taped i_tape i_from i_to i_sort i_worth i_fault i_bad i_nCode i_piled i_opened i_nOp i_nArg i_pile i_pileAt)[i]?) = (wd_HM_must cA q0 q1 q2 q3 q4 q5 q6 q7 q8 q9 q10 q11 q12 q13 q14 q15 q16 q17 q18 q19 q20 q21 q22 q23 q24 q25 q26 q27 q28 q29 q30 q31 u0 u1 u2 u3 i_nCode u4 i_piled i_opened u5 u6 u7 u8 u9 u10 u11 i_taped i_tape i_from i_to i_sort i_worth i_fault i_bad).map some := rfl
        refine xv_afterV (ws' := (wd_HM_behindTest cA q0 q1 q2 q3 q4 q5 q6 q7 q8 q9 q10 q11 q12 q13 q14 q15 q16 q17 q18 q19 q20 q21 q22 q23 q24 q25 q26 q27 q28 q29 q30 q31 u0 u1 u2 u3 u4 u5 u6 u7 u8 u9 u10 u11 i_taped i_tape v5 v6 v7 v8 v9 v10 i_nCode i_piled i_opened i_nOp i_nArg i_pile i_pileAt)) (isC := [0, 1]) (ps := [some 0, some 1, none, none, none, none]) (va_runV (As := [.int (Int32.ofInt v4)]) (rest := []) ⟨hx, hb, hml, hown, hts⟩ (c_HM_must l ev dC dI cA q0 q1 q2 q3 q4 q5 q6 q7 q8 q9 q10 q11 q12 q13 q14 q15 q16 q17 q18 q19 q20 q21 q22 q23 q24 q25 q26 q27 q28 q29 q30 q31 u0 u1 u2 u3 i_nCode u4 i_piled i_opened u5 u6 u7 u8 u9 u10 u11 hg H.size) (cwV 1 hts (zgV zw_1465 zw_1467 zw_50 zw_115 zw_1468) rfl rfl rfl hd_HM_must ⟨Nat.le_of_ble_eq_true rfl, Nat.le_of_ble_eq_true rfl⟩) (xv_preV (T := TX11) (N := 53) hE hA hS hK hP hD (isC := [0, 1]) (by decide +kernel) hC (q0 := 0) (ci := 11) rfl rfl) rfl rfl hl.1 rfl (lv_room (Nat.le_of_ble_eq_true rfl)) dX11_behindTest_93 ⟨Nat.le_refl _, Nat.le_refl _⟩) hP hD hS hA (by decide +kernel) rfl hC rfl rfl (fun H locs hP hD hS => ?_)
        refine lv_aload_n hx hb dX11_behindTest_96 rfl (lv_at hl 1 rfl) ?_
        refine va_get (D := (dC, dI)) (ci := 11) (v := .int (Int32.ofInt v10)) (C := RX11) (T := TX11) (N := 53) hx hb hz zi_X11 hown hK hP 0 rfl rfl 14 (by decide) (hz _ zw_1179) (fun _ h9 => h9) rfl dX11_behindTest_97 ?_
        refine xi_if_ne (tgt := 128) hx hb dX11_behindTest_100 (by decide) hf (fun hf => ?_) (fun hf => ?_)
        · refine lv_iconst (v := Int32.ofInt 2) hx hb dX11_behindTest_128 rfl ?_
          obtain rfl := Option.some.inj hf
          exact hret _ _ _ _ rfl dX11_behindTest_129 hP hD hS
        · refine lv_aload_n hx hb dX11_behindTest_103 rfl (lv_at hl 1 rfl) ?_
          refine lv_iconst (v := Int32.ofInt 1) hx hb dX11_behindTest_104 rfl ?_
          refine xe_d4 hf (fun v11 v12 a13 a14 hg hf => ?_)
          have hC : ([0, 2, 3, 4, 5] : List Nat).map (fun i => (wd_HM_behindTest cA q0 q1 q2 q3 q4 q5 q6 q7 q8 q9 q10 q11 q12 q13 q14 q15 q16 q17 q18 q19 q20 q21 q22 q23 q24 q25 q26 q27 q28 q29 q30 q31 u0 u1 u2 u3 u4 u5 u6 u7 u8 u9 u10 u11 i_taped i_tape v5 v6 v7 v8 v9 v10 i_nCode i_piled i_opened i_nOp i_nArg i_pile i_pileAt)[i]?) = (wd_HM_settle cA q0 q1 q2 q3 q4 q5 q6 q7 q8 q9 q10 q11 q12 q13 q14 q15 q16 q17 q18 q19 q20 q21 q22 q23 q24 q25 q26 q27 q28 q29 q30 q31 u0 u1 u2 i_taped v5 v6 v7 v8 v9 v10 u3 u4 i_opened u5 u6 u7 u8 u9 u10 u11 i_pile i_pileAt i_nCode i_piled i_nOp i_nArg).map some := rfl
          refine xv_afterV (ws' := (wd_HM_behindTest cA q0 q1 q2 q3 q4 q5 q6 q7 q8 q9 q10 q11 q12 q13 q14 q15 q16 q17 q18 q19 q20 q21 q22 q23 q24 q25 q26 q27 q28 q29 q30 q31 u0 u1 u2 u3 u4 u5 u6 u7 u8 u9 u10 u11 i_taped i_tape v5 v6 v7 v8 v9 v10 v11 v12 i_opened a13 a14 i_pile i_pileAt)) (isC := [0, 2, 3, 4, 5]) (ps := [some 0, none, some 1, some 2, some 3, some 4]) (va_runV (As := [.int (Int32.ofInt 1)]) (rest := []) ⟨hx, hb, hml, hown, hts⟩ (c_HM_settle l ev dC dI cA q0 q1 q2 q3 q4 q5 q6 q7 q8 q9 q10 q11 q12 q13 q14 q15 q16 q17 q18 q19 q20 q21 q22 q23 q24 q25 q26 q27 q28 q29 q30 q31 u0 u1 u2 i_taped v5 v6 v7 v8 v9 v10 u3 u4 i_opened u5 u6 u7 u8 u9 u10 u11 hg H.size) (cwV 1 hts (zgV zw_1514 zw_1516 zw_61 zw_115 zw_1517) rfl rfl rfl hd_HM_settle ⟨Nat.le_of_ble_eq_true rfl, Nat.le_of_ble_eq_true rfl⟩) (xv_preV (T := TX11) (N := 53) hE hA hS hK hP hD (isC := [0, 2, 3, 4, 5]) (by decide +kernel) hC (q0 := 0) (ci := 11) rfl rfl) rfl rfl hl.1 rfl (lv_room (Nat.le_of_ble_eq_true rfl)) dX11_behindTest_105 ⟨Nat.le_refl _, Nat.le_refl _⟩) hP hD hS hA (by decide +kernel) rfl hC rfl rfl (fun H locs hP hD hS => ?_)
          refine lv_aload_n hx hb dX11_behindTest_108 rfl (lv_at hl 1 rfl) ?_
          refine lv_dup hx hb dX11_behindTest_109 rfl ?_
          refine va_get (D := (dC, dI)) (ci := 11) (v := .int (Int32.ofInt v12)) (C := RX11) (T := TX11) (N := 53) hx hb hz zi_X11 hown hK hP 0 rfl rfl 23 (by decide) (hz _ zw_1188) (fun _ h9 => h9) rfl dX11_behindTest_110 ?_
          refine lv_iconst (v := Int32.ofInt 1) hx hb dX11_behindTest_113 rfl ?_
          refine xi_isub hx hb dX11_behindTest_114 hf (fun v15 hf => ?_)
          refine va_put (D := (dC, dI)) (ci := 11) (v := .int (Int32.ofInt v15)) (ty := .int) (C := RX11) (T := TX11) (N := 53) hx hb hz zi_X11 tyX11 tyX11_ok nmX11 hown hK hP hD hS 0 rfl rfl 23 (by decide) (hz _ zw_1188) (fun _ h9 => h9) rfl (by decide +kernel) rfl rfl (Nat.le_of_ble_eq_true rfl) dX11_behindTest_115 (fun H locs hP hD hS => ?_)
          have hP : va_P (dC, dI) vwCl (wd_HM_behindTest cA q0 q1 q2 q3 q4 q5 q6 q7 q8 q9 q10 q11 q12 q13 q14 q15 q16 q17 q18 q19 q20 q21 q22 q23 q24 q25 q26 q27 q28 q29 q30 q31 u0 u1 u2 u3 u4 u5 u6 u7 u8 u9 u10 u11 i_taped i_tape v5 v6 v7 v8 v9 v10 v11 v15 i_opened a13 a14 i_pile i_pileAt) H := hP
          have hD : va_D A (wd_HM_behindTest cA q0 q1 q2 q3 q4 q5 q6 q7 q8 q9 q10 q11 q12 q13 q14 q15 q16 q17 q18 q19 q20 q21 q22 q23 q24 q25 q26 q27 q28 q29 q30 q31 u0 u1 u2 u3 u4 u5 u6 u7 u8 u9 u10 u11 i_taped i_tape v5 v6 v7 v8 v9 v10 v11 v15 i_opened a13 a14 i_pile i_pileAt) := hD
          refine lv_aload_n hx hb dX11_behindTest_118 rfl (lv_at hl 1 rfl) ?_
          refine lv_dup hx hb dX11_behindTest_119 rfl ?_
          refine va_get (D := (dC, dI)) (ci := 11) (v := .int (Int32.ofInt i_opened)) (C := RX11) (T := TX11) (N := 53) hx hb hz zi_X11 hown hK hP 0 rfl rfl 24 (by decide) (hz _ zw_1189) (fun _ h9 => h9) rfl dX11_behindTest_120 ?_
          refine lv_iconst (v := Int32.ofInt 1) hx hb dX11_behindTest_123 rfl ?_
          refine xi_isub hx hb dX11_behindTest_124 hf (fun v16 hf => ?_)
          refine va_put (D := (dC, dI)) (ci := 11) (v := .int (Int32.ofInt v16)) (ty := .int) (C := RX11) (T := TX11) (N := 53) hx hb hz zi_X11 tyX11 tyX11_ok nmX11 hown hK hP hD hS 0 rfl rfl 24 (by decide) (hz _ zw_1189) (fun _ h9 => h9) rfl (by decide +kernel) rfl rfl (Nat.le_of_ble_eq_true rfl) dX11_behindTest_125 (fun H locs hP hD hS => ?_)
          have hP : va_P (dC, dI) vwCl (wd_HM_behindTest cA q0 q1 q2 q3 q4 q5 q6 q7 q8 q9 q10 q11 q12 q13 q14 q15 q16 q17 q18 q19 q20 q21 q22 q23 q24 q25 q26 q27 q28 q29 q30 q31 u0 u1 u2 u3 u4 u5 u6 u7 u8 u9 u10 u11 i_taped i_tape v5 v6 v7 v8 v9 v10 v11 v15 v16 a13 a14 i_pile i_pileAt) H := hP
          have hD : va_D A (wd_HM_behindTest cA q0 q1 q2 q3 q4 q5 q6 q7 q8 q9 q10 q11 q12 q13 q14 q15 q16 q17 q18 q19 q20 q21 q22 q23 q24 q25 q26 q27 q28 q29 q30 q31 u0 u1 u2 u3 u4 u5 u6 u7 u8 u9 u10 u11 i_taped i_tape v5 v6 v7 v8 v9 v10 v11 v15 v16 a13 a14 i_pile i_pileAt) := hD
          refine lv_iconst (v := Int32.ofInt 2) hx hb dX11_behindTest_128 rfl ?_
          obtain rfl := Option.some.inj hf
          exact hret _ _ _ _ rfl dX11_behindTest_129 hP hD hS
      · refine lv_iconst (v := Int32.ofInt 4) hx hb dX11_behindTest_84 rfl ?_
        obtain rfl := Option.some.inj hf
        exact hret _ _ _ _ rfl dX11_behindTest_85 hP hD hS
    · exact b_22  _ _ _ _ _ _ _ _ _ _ _ _ _ _ _ _ _ hf hP hD hS (lv_sub hl [1, 0] rfl)
