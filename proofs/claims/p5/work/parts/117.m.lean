theorem dX11_allShades_0 : decode cX11_allShades 0 = .ok (.iconst 0, 1) := by decide +kernel
theorem dX11_allShades_1 : decode cX11_allShades 1 = .ok (.istore_n 1, 1) := by decide +kernel
theorem dX11_allShades_2 : decode cX11_allShades 2 = .ok (.iconst 0, 1) := by decide +kernel
theorem dX11_allShades_3 : decode cX11_allShades 3 = .ok (.istore_n 2, 1) := by decide +kernel
theorem dX11_allShades_4 : decode cX11_allShades 4 = .ok (.iload_n 2, 1) := by decide +kernel
theorem dX11_allShades_5 : decode cX11_allShades 5 = .ok (.aload_n 0, 1) := by decide +kernel
theorem dX11_allShades_6 : decode cX11_allShades 6 = .ok (.getfield 13, 3) := by decide +kernel
theorem dX11_allShades_9 : decode cX11_allShades 9 = .ok (.iconst 2, 1) := by decide +kernel
theorem dX11_allShades_10 : decode cX11_allShades 10 = .ok (.iaload, 1) := by decide +kernel
theorem dX11_allShades_11 : decode cX11_allShades 11 = .ok (.if_icmp .ge 26, 3) := by decide +kernel
theorem dX11_allShades_14 : decode cX11_allShades 14 = .ok (.iload_n 1, 1) := by decide +kernel
theorem dX11_allShades_15 : decode cX11_allShades 15 = .ok (.aload_n 0, 1) := by decide +kernel
theorem dX11_allShades_16 : decode cX11_allShades 16 = .ok (.aload_n 0, 1) := by decide +kernel
theorem dX11_allShades_17 : decode cX11_allShades 17 = .ok (.getfield 13, 3) := by decide +kernel
theorem dX11_allShades_20 : decode cX11_allShades 20 = .ok (.sipush 171, 3) := by decide +kernel
theorem dX11_allShades_23 : decode cX11_allShades 23 = .ok (.iload_n 2, 1) := by decide +kernel
theorem dX11_allShades_24 : decode cX11_allShades 24 = .ok (.iadd, 1) := by decide +kernel
theorem dX11_allShades_25 : decode cX11_allShades 25 = .ok (.iaload, 1) := by decide +kernel
theorem dX11_allShades_26 : decode cX11_allShades 26 = .ok (.invokevirtual 382, 3) := by decide +kernel
theorem dX11_allShades_29 : decode cX11_allShades 29 = .ok (.iadd, 1) := by decide +kernel
theorem dX11_allShades_30 : decode cX11_allShades 30 = .ok (.istore_n 1, 1) := by decide +kernel
theorem dX11_allShades_31 : decode cX11_allShades 31 = .ok (.iinc 2 1, 3) := by decide +kernel
theorem dX11_allShades_34 : decode cX11_allShades 34 = .ok (.goto (-30), 3) := by decide +kernel
theorem dX11_allShades_37 : decode cX11_allShades 37 = .ok (.iload_n 1, 1) := by decide +kernel
theorem dX11_allShades_38 : decode cX11_allShades 38 = .ok (.ireturn, 1) := by decide +kernel
theorem zw_79 : (Jvm.Cond.selects "HillSchoolModel" ({ cls := "HillSchoolModel", name := "shadeAt", desc := "(I)I" } : Jvm.MethodName) ({ cls := "HillSchoolModel", name := "shadeAt", desc := "(I)I" } : Jvm.MethodName)) ∈ zall := zmemG (zmj_0 79 rfl) rfl
theorem zw_1629 : (Jvm.Cond.code ({ cls := "HillSchoolModel", name := "allShades", desc := "()I" } : Jvm.MethodName) prog_13_method_76_code (3 : Nat) (Option.some Jvm.ClassFile.FieldType.int)) ∈ zall := zmemG (zmj_7 86 rfl) rfl
theorem zw_1630 : (Jvm.Cond.methodLink "HillSchoolModel" (382 : Nat) ({ cls := "HillSchoolModel", name := "shadeAt", desc := "(I)I" } : Jvm.MethodName)) ∈ zall := zmemG (zmj_7 87 rfl) rfl
theorem zw_1632 : (Jvm.Cond.instanceMethod ({ cls := "HillSchoolModel", name := "shadeAt", desc := "(I)I" } : Jvm.MethodName)) ∈ zall := zmemG (zmj_7 89 rfl) rfl
abbrev w_HM_allShades : List Cond := .code yX11_allShades cX11_allShades 3 (some .int) :: zall
abbrev rm_HM_allShades : Room := { frames := 2, cells := 0, slots := 0, locals := 44 }
theorem hd_HM_allShades : yX11_allShades.cls = "HillSchoolModel" ∧ yX11_allShades.cls ≠ "java/lang/invoke/MethodHandle" ∧ yX11_allShades.cls ≠ "java/lang/invoke/VarHandle" ∧ (parseMethodDescriptor yX11_allShades.desc).map (fun d => d.parameters.length) = some 0 := by decide +kernel
def wd_HM_allShades (cA : Nat → ClassId) (q0 q1 q2 q3 q4 q5 q6 q7 q8 q9 q10 q11 q12 q13 q14 q15 q16 q17 q18 q19 q20 q21 q22 q23 q24 q25 q26 q27 q28 q29 q30 q31 : Nat) (u0 u1 u2 u3 u4 u5 u6 u7 u8 u9 u10 u11 u12 u13 u14 u15 u16 u17 u18 u19 u20 u21 : Int) (i_row : Nat → Int) (i_high : Nat → Int)  : va_W := [(q0, .inr (11, [.int (Int32.ofInt u0), .int (Int32.ofInt u1), .ref q1, .ref q2, .ref q3, .ref q4, .int (Int32.ofInt u2), .ref q5, .int (Int32.ofInt u3), .int (Int32.ofInt u4), .int (Int32.ofInt u5), .int (Int32.ofInt u6), .long (Int64.ofInt u7), .int (Int32.ofInt u8), .int (Int32.ofInt u9), .int (Int32.ofInt u10), .ref q6, .int (Int32.ofInt u11), .ref q7, .ref q8, .int (Int32.ofInt u12), .ref q9, .ref q10, .int (Int32.ofInt u13), .int (Int32.ofInt u14), .ref q11, .int (Int32.ofInt u15), .ref q12, .ref q13, .int (Int32.ofInt u16), .long (Int64.ofInt u17), .long (Int64.ofInt u18), .ref q14, .ref q15, .ref q16, .ref q17, .ref q18, .int (Int32.ofInt u19), .ref q19, .ref q20, .ref q21, .ref q22, .ref q23, .ref q24, .ref q25, .ref q26, .ref q27, .ref q28, .ref q29, .ref q30, .long (Int64.ofInt u20), .ref q31, .int (Int32.ofInt u21)])), (q2, .inl (cA 0, 5580, .inl (za i_row))), (q14, .inl (cA 0, 12, .inl (za i_high)))]
def wf_HM_allShades (cA : Nat → ClassId) (q0 q1 q2 q3 q4 q5 q6 q7 q8 q9 q10 q11 q12 q13 q14 q15 q16 q17 q18 q19 q20 q21 q22 q23 q24 q25 q26 q27 q28 q29 q30 q31 : Nat) (u0 u1 u2 u3 u4 u5 u6 u7 u8 u9 u10 u11 u12 u13 u14 u15 u16 u17 u18 u19 u20 u21 : Int) (i_row : Nat → Int) (i_high : Nat → Int) (o : Int) : va_W := wd_HM_allShades cA q0 q1 q2 q3 q4 q5 q6 q7 q8 q9 q10 q11 q12 q13 q14 q15 q16 q17 q18 q19 q20 q21 q22 q23 q24 q25 q26 q27 q28 q29 q30 q31 u0 u1 u2 u3 u4 u5 u6 u7 u8 u9 u10 u11 u12 u13 u14 u15 u16 u17 u18 u19 u20 u21 i_row i_high
def f_HM_allShades_4_b (i_row : Nat → Int) (i_high : Nat → Int) (k4 : Int → Int → Option (Int)) (x1 : Int) (x2 : Int) : Option (Int) :=
  zg 5580 i_row 2 fun v1 =>
  if zi_w v1 ≤ zi_w x2 then
    some x1
  else
    zn (171 + x2) fun v2 =>
    zg 5580 i_row v2 fun v3 =>
    zd1 (f_HM_shadeAt v3 i_row i_high) fun v4 =>
    zn (x1 + v4) fun v5 =>
    zn (x2 + 1) fun v6 =>
    k4 v5 v6
def f_HM_allShades_4 (i_row : Nat → Int) (i_high : Nat → Int) : Nat → Int → Int → Option (Int)
  | 0 => fun _ _ => none
  | n + 1 => fun y0 y1 => f_HM_allShades_4_b i_row i_high (f_HM_allShades_4 i_row i_high n) y0 y1
def f_HM_allShades (i_row : Nat → Int) (i_high : Nat → Int) : Option (Int) :=
  f_HM_allShades_4 i_row i_high zfu 0 0
set_option maxHeartbeats 4000000 in
set_option maxRecDepth 100000 in
theorem c_HM_allShades (l : Launch) (ev : zEv) (dC : Nat → ClassId) (dI : Nat → Nat → Nat) (cA : Nat → ClassId) (q0 q1 q2 q3 q4 q5 q6 q7 q8 q9 q10 q11 q12 q13 q14 q15 q16 q17 q18 q19 q20 q21 q22 q23 q24 q25 q26 q27 q28 q29 q30 q31 : Nat) (u0 u1 u2 u3 u4 u5 u6 u7 u8 u9 u10 u11 u12 u13 u14 u15 u16 u17 u18 u19 u20 u21 : Int) {i_row : Nat → Int} {i_high : Nat → Int} {out : Int} (hf : f_HM_allShades i_row i_high = some out) : xc_I l ev (dC, dI) vwCl (tyl cA) yX11_allShades w_HM_allShades rm_HM_allShades [.ref q0] (wd_HM_allShades cA q0 q1 q2 q3 q4 q5 q6 q7 q8 q9 q10 q11 q12 q13 q14 q15 q16 q17 q18 q19 q20 q21 q22 q23 q24 q25 q26 q27 q28 q29 q30 q31 u0 u1 u2 u3 u4 u5 u6 u7 u8 u9 u10 u11 u12 u13 u14 u15 u16 u17 u18 u19 u20 u21 i_row i_high) (wf_HM_allShades cA q0 q1 q2 q3 q4 q5 q6 q7 q8 q9 q10 q11 q12 q13 q14 q15 q16 q17 q18 q19 q20 q21 q22 q23 q24 q25 q26 q27 q28 q29 q30 q31 u0 u1 u2 u3 u4 u5 u6 u7 u8 u9 u10 u11 u12 u13 u14 u15 u16 u17 u18 u19 u20 u21 i_row i_high out) out := by
  refine xv_startI (cc := cX11_allShades) (maxL := 3) (rt := .int) (by decide +kernel) rfl (Nat.le_of_ble_eq_true rfl) ?_
  intro p e s m args below meth c A Q H ls hx hb hml hts hown hK hA hP hD hS hl hE hret
  have hown : s.vm.findClass "HillSchoolModel" = some m.cls := hown
  have hz : ∀ w ∈ zall, w.before args s = true := fun w h => hts w (List.mem_cons_of_mem _ h)
  have hl : lv_has ls 3 [(0, .ref q0)] := hl
  have b_4 : ∀ (k4 : Int → Int → Option (Int)) (_ : ∀ (x1 : Int) (x2 : Int) (H : Heap) (locs : List Loc) (ls : Array Slot), k4 x1 x2 = some out → va_P (dC, dI) vwCl (wd_HM_allShades cA q0 q1 q2 q3 q4 q5 q6 q7 q8 q9 q10 q11 q12 q13 q14 q15 q16 q17 q18 q19 q20 q21 q22 q23 q24 q25 q26 q27 q28 q29 q30 q31 u0 u1 u2 u3 u4 u5 u6 u7 u8 u9 u10 u11 u12 u13 u14 u15 u16 u17 u18 u19 u20 u21 i_row i_high) H → va_D A (wd_HM_allShades cA q0 q1 q2 q3 q4 q5 q6 q7 q8 q9 q10 q11 q12 q13 q14 q15 q16 q17 q18 q19 q20 q21 q22 q23 q24 q25 q26 q27 q28 q29 q30 q31 u0 u1 u2 u3 u4 u5 u6 u7 u8 u9 u10 u11 u12 u13 u14 u15 u16 u17 u18 u19 u20 u21 i_row i_high) → va_S A s.heap H locs → lv_has ls 3 [(0, .ref q0), (1, .int (Int32.ofInt x1)), (2, .int (Int32.ofInt x2))] → W p l e rm_HM_allShades s m args below meth c H locs 0 0 Q (F0 m 4 ls [])), ∀ (x1 : Int) (x2 : Int) (H : Heap) (locs : List Loc) (ls : Array Slot), f_HM_allShades_4_b i_row i_high k4 x1 x2 = some out → va_P (dC, dI) vwCl (wd_HM_allShades cA q0 q1 q2 q3 q4 q5 q6 q7 q8 q9 q10 q11 q12 q13 q14 q15 q16 q17 q18 q19 q20 q21 q22 q23 q24 q25 q26 q27 q28 q29 q30 q31 u0 u1 u2 u3 u4 u5 u6 u7 u8 u9 u10 u11 u12 u13 u14 u15 u16 u17 u18 u19 u20 u21 i_row i_high) H → va_D A (wd_HM_allShades cA q0 q1 q2 q3 q4 q5 q6 q7 q8 q9 q10 q11 q12 q13 q14 q15 q16 q17 q18 q19 q20 q21 q22 q23 q24 q25 q26 q27 q28 q29 q30 q31 u0 u1 u2 u3 u4 u5 u6 u7 u8 u9 u10 u11 u12 u13 u14 u15 u16 u17 u18 u19 u20 u21 i_row i_high) → va_S A s.heap H locs → lv_has ls 3 [(0, .ref q0), (1, .int (Int32.ofInt x1)), (2, .int (Int32.ofInt x2))] → W p l e rm_HM_allShades s m args below meth c H locs 0 0 Q (F0 m 4 ls []) := by
    intro k4 ih4 x1 x2 H locs ls hf hP hD hS hl
    unfold f_HM_allShades_4_b at hf
    refine lv_iload_n hx hb dX11_allShades_4 rfl (lv_at hl 2 rfl) ?_
    refine lv_aload_n hx hb dX11_allShades_5 rfl (lv_at hl 0 rfl) ?_
    refine va_get (D := (dC, dI)) (ci := 11) (v := .ref q2) (C := RX11) (T := TX11) (N := 53) hx hb hz zi_X11 hown hK hP 0 rfl rfl 3 (by decide) (hz _ zw_1168) (fun _ h9 => h9) rfl dX11_allShades_6 ?_
    refine lv_iconst (v := Int32.ofInt 2) hx hb dX11_allShades_9 rfl ?_
    refine xi_iald hx hb hK hP 1 0 rfl rfl dX11_allShades_10 hf (fun v1 hf => ?_)
    refine xi_icmp_ge (tgt := 37) hx hb dX11_allShades_11 (by decide) hf (fun hf => ?_) (fun hf => ?_)
    · refine lv_iload_n hx hb dX11_allShades_37 rfl (lv_at hl 1 rfl) ?_
      obtain rfl := Option.some.inj hf
      exact hret _ _ _ _ rfl dX11_allShades_38 hP hD hS
    · refine lv_iload_n hx hb dX11_allShades_14 rfl (lv_at hl 1 rfl) ?_
      refine lv_aload_n hx hb dX11_allShades_15 rfl (lv_at hl 0 rfl) ?_
      refine lv_aload_n hx hb dX11_allShades_16 rfl (lv_at hl 0 rfl) ?_
      refine va_get (D := (dC, dI)) (ci := 11) (v := .ref q2) (C := RX11) (T := TX11) (N := 53) hx hb hz zi_X11 hown hK hP 0 rfl rfl 3 (by decide) (hz _ zw_1168) (fun _ h9 => h9) rfl dX11_allShades_17 ?_
      refine lv_sipush (v := Int32.ofInt 171) hx hb dX11_allShades_20 (by decide) ?_
      refine lv_iload_n hx hb dX11_allShades_23 rfl (lv_at hl 2 rfl) ?_
      refine xi_iadd hx hb dX11_allShades_24 hf (fun v2 hf => ?_)
      refine xi_iald hx hb hK hP 1 0 rfl rfl dX11_allShades_25 hf (fun v3 hf => ?_)
      refine xe_d1 hf (fun v4 hg hf => ?_)
      have hC : ([0, 1, 2] : List Nat).map (fun i => (wd_HM_allShades cA q0 q1 q2 q3 q4 q5 q6 q7 q8 q9 q10 q11 q12 q13 q14 q15 q16 q17 q18 q19 q20 q21 q22 q23 q24 q25 q26 q27 q28 q29 q30 q31 u0 u1 u2 u3 u4 u5 u6 u7 u8 u9 u10 u11 u12 u13 u14 u15 u16 u17 u18 u19 u20 u21 i_row i_high)[i]?) = (wd_HM_shadeAt cA q0 q1 q2 q3 q4 q5 q6 q7 q8 q9 q10 q11 q12 q13 q14 q15 q16 q17 q18 q19 q20 q21 q22 q23 q24 q25 q26 q27 q28 q29 q30 q31 u0 u1 u2 u3 u4 u5 u6 u7 u8 u9 u10 u11 u12 u13 u14 u15 u16 u17 u18 u19 u20 u21 i_row i_high).map some := rfl
      refine xv_afterI (ws' := (wd_HM_allShades cA q0 q1 q2 q3 q4 q5 q6 q7 q8 q9 q10 q11 q12 q13 q14 q15 q16 q17 q18 q19 q20 q21 q22 q23 q24 q25 q26 q27 q28 q29 q30 q31 u0 u1 u2 u3 u4 u5 u6 u7 u8 u9 u10 u11 u12 u13 u14 u15 u16 u17 u18 u19 u20 u21 i_row i_high)) (isC := [0, 1, 2]) (ps := [some 0, some 1, some 2]) (va_runV (As := [.int (Int32.ofInt v3)]) (rest := [.int (Int32.ofInt x1)]) ⟨hx, hb, hml, hown, hts⟩ (c_HM_shadeAt l ev dC dI cA q0 q1 q2 q3 q4 q5 q6 q7 q8 q9 q10 q11 q12 q13 q14 q15 q16 q17 q18 q19 q20 q21 q22 q23 q24 q25 q26 q27 q28 q29 q30 q31 u0 u1 u2 u3 u4 u5 u6 u7 u8 u9 u10 u11 u12 u13 u14 u15 u16 u17 u18 u19 u20 u21 hg H.size) (cwV 1 hts (zgV zw_1630 zw_1632 zw_79 zw_115 zw_1633) rfl rfl rfl hd_HM_shadeAt ⟨Nat.le_of_ble_eq_true rfl, Nat.le_of_ble_eq_true rfl⟩) (xv_preV (T := TX11) (N := 53) hE hA hS hK hP hD (isC := [0, 1, 2]) (by decide +kernel) hC (q0 := 0) (ci := 11) rfl rfl) rfl rfl hl.1 rfl (lv_room (Nat.le_of_ble_eq_true rfl)) dX11_allShades_26 ⟨Nat.le_refl _, Nat.le_refl _⟩) hP hD hS hA (by decide +kernel) rfl hC rfl rfl (fun H locs hP hD hS => ?_)
      refine xi_iadd hx hb dX11_allShades_29 hf (fun v5 hf => ?_)
      refine lv_istore_n (lv' := [(1, .int (Int32.ofInt v5)), (0, .ref q0), (2, .int (Int32.ofInt x2))]) hx hb dX11_allShades_30 rfl hl (by decide) rfl (fun ls hl => ?_)
      refine xi_iinc hx hb dX11_allShades_31 hl (k := 2) rfl (by decide) hf (fun v6 ls hl hf => ?_)
      have hl : lv_has ls 3 [(2, .int (Int32.ofInt v6)), (1, .int (Int32.ofInt v5)), (0, .ref q0)] := hl
      refine lv_goto (tgt := 4) hx hb dX11_allShades_34 (by decide) ?_
      exact ih4 _ _ _ _ _ hf hP hD hS (lv_sub hl [2, 1, 0] rfl)
  have l_4 : ∀ (n : Nat), ∀ (x1 : Int) (x2 : Int) (H : Heap) (locs : List Loc) (ls : Array Slot), f_HM_allShades_4 i_row i_high n x1 x2 = some out → va_P (dC, dI) vwCl (wd_HM_allShades cA q0 q1 q2 q3 q4 q5 q6 q7 q8 q9 q10 q11 q12 q13 q14 q15 q16 q17 q18 q19 q20 q21 q22 q23 q24 q25 q26 q27 q28 q29 q30 q31 u0 u1 u2 u3 u4 u5 u6 u7 u8 u9 u10 u11 u12 u13 u14 u15 u16 u17 u18 u19 u20 u21 i_row i_high) H → va_D A (wd_HM_allShades cA q0 q1 q2 q3 q4 q5 q6 q7 q8 q9 q10 q11 q12 q13 q14 q15 q16 q17 q18 q19 q20 q21 q22 q23 q24 q25 q26 q27 q28 q29 q30 q31 u0 u1 u2 u3 u4 u5 u6 u7 u8 u9 u10 u11 u12 u13 u14 u15 u16 u17 u18 u19 u20 u21 i_row i_high) → va_S A s.heap H locs → lv_has ls 3 [(0, .ref q0), (1, .int (Int32.ofInt x1)), (2, .int (Int32.ofInt x2))] → W p l e rm_HM_allShades s m args below meth c H locs 0 0 Q (F0 m 4 ls []) := by
    intro n
    induction n with
    | zero => intro x1 x2 H locs ls hf hP hD hS hl; exact nomatch hf
    | succ n ih => intro x1 x2 H locs ls hf hP hD hS hl; exact b_4 (f_HM_allShades_4 i_row i_high n) ih x1 x2 H locs ls hf hP hD hS hl
  unfold f_HM_allShades at hf
  refine lv_iconst (v := Int32.ofInt 0) hx hb dX11_allShades_0 rfl ?_
  refine lv_istore_n (lv' := [(1, .int (Int32.ofInt 0)), (0, .ref q0)]) hx hb dX11_allShades_1 rfl hl (by decide) rfl (fun ls hl => ?_)
  refine lv_iconst (v := Int32.ofInt 0) hx hb dX11_allShades_2 rfl ?_
  refine lv_istore_n (lv' := [(2, .int (Int32.ofInt 0)), (1, .int (Int32.ofInt 0)), (0, .ref q0)]) hx hb dX11_allShades_3 rfl hl (by decide) rfl (fun ls hl => ?_)
  exact l_4  _ _ _ _ _ _ hf hP hD hS (lv_sub hl [2, 1, 0] rfl)
theorem dX11_isParish_0 : decode cX11_isParish 0 = .ok (.iload_n 1, 1) := by decide +kernel
theorem dX11_isParish_1 : decode cX11_isParish 1 = .ok (.i2l, 1) := by decide +kernel
theorem dX11_isParish_2 : decode cX11_isParish 2 = .ok (.lconst 0, 1) := by decide +kernel
theorem dX11_isParish_3 : decode cX11_isParish 3 = .ok (.aload_n 0, 1) := by decide +kernel
theorem dX11_isParish_4 : decode cX11_isParish 4 = .ok (.getfield 13, 3) := by decide +kernel
theorem dX11_isParish_7 : decode cX11_isParish 7 = .ok (.iconst 2, 1) := by decide +kernel
theorem dX11_isParish_8 : decode cX11_isParish 8 = .ok (.iaload, 1) := by decide +kernel
theorem dX11_isParish_9 : decode cX11_isParish 9 = .ok (.i2l, 1) := by decide +kernel
theorem dX11_isParish_10 : decode cX11_isParish 10 = .ok (.lconst 1, 1) := by decide +kernel
theorem dX11_isParish_11 : decode cX11_isParish 11 = .ok (.lsub, 1) := by decide +kernel
theorem dX11_isParish_12 : decode cX11_isParish 12 = .ok (.invokestatic 132, 3) := by decide +kernel
theorem dX11_isParish_15 : decode cX11_isParish 15 = .ok (.ireturn, 1) := by decide +kernel
theorem zw_1637 : (Jvm.Cond.code ({ cls := "HillSchoolModel", name := "isParish", desc := "(I)Z" } : Jvm.MethodName) prog_13_method_77_code (2 : Nat) (Option.some Jvm.ClassFile.FieldType.boolean)) ∈ zall := zmemG (zmj_7 94 rfl) rfl
abbrev w_HM_isParish : List Cond := .code yX11_isParish cX11_isParish 2 (some .boolean) :: zall
abbrev rm_HM_isParish : Room := { frames := 1, cells := 0, slots := 0, locals := 25 }
theorem hd_HM_isParish : yX11_isParish.cls = "HillSchoolModel" ∧ yX11_isParish.cls ≠ "java/lang/invoke/MethodHandle" ∧ yX11_isParish.cls ≠ "java/lang/invoke/VarHandle" ∧ (parseMethodDescriptor yX11_isParish.desc).map (fun d => d.parameters.length) = some 1 := by decide +kernel
def wd_HM_isParish (cA : Nat → ClassId) (q0 q1 q2 q3 q4 q5 q6 q7 q8 q9 q10 q11 q12 q13 q14 q15 q16 q17 q18 q19 q20 q21 q22 q23 q24 q25 q26 q27 q28 q29 q30 q31 : Nat) (u0 u1 u2 u3 u4 u5 u6 u7 u8 u9 u10 u11 u12 u13 u14 u15 u16 u17 u18 u19 u20 u21 : Int) (i_row : Nat → Int)  : va_W := [(q0, .inr (11, [.int (Int32.ofInt u0), .int (Int32.ofInt u1), .ref q1, .ref q2, .ref q3, .ref q4, .int (Int32.ofInt u2), .ref q5, .int (Int32.ofInt u3), .int (Int32.ofInt u4), .int (Int32.ofInt u5), .int (Int32.ofInt u6), .long (Int64.ofInt u7), .int (Int32.ofInt u8), .int (Int32.ofInt u9), .int (Int32.ofInt u10), .ref q6, .int (Int32.ofInt u11), .ref q7, .ref q8, .int (Int32.ofInt u12), .ref q9, .ref q10, .int (Int32.ofInt u13), .int (Int32.ofInt u14), .ref q11, .int (Int32.ofInt u15), .ref q12, .ref q13, .int (Int32.ofInt u16), .long (Int64.ofInt u17), .long (Int64.ofInt u18), .ref q14, .ref q15, .ref q16, .ref q17, .ref q18, .int (Int32.ofInt u19), .ref q19, .ref q20, .ref q21, .ref q22, .ref q23, .ref q24, .ref q25, .ref q26, .ref q27, .ref q28, .ref q29, .ref q30, .long (Int64.ofInt u20), .ref q31, .int (Int32.ofInt u21)])), (q2, .inl (cA 0, 5580, .inl (za i_row)))]
def wf_HM_isParish (cA : Nat → ClassId) (q0 q1 q2 q3 q4 q5 q6 q7 q8 q9 q10 q11 q12 q13 q14 q15 q16 q17 q18 q19 q20 q21 q22 q23 q24 q25 q26 q27 q28 q29 q30 q31 : Nat) (u0 u1 u2 u3 u4 u5 u6 u7 u8 u9 u10 u11 u12 u13 u14 u15 u16 u17 u18 u19 u20 u21 : Int) (i_row : Nat → Int) (o : Int) : va_W := wd_HM_isParish cA q0 q1 q2 q3 q4 q5 q6 q7 q8 q9 q10 q11 q12 q13 q14 q15 q16 q17 q18 q19 q20 q21 q22 q23 q24 q25 q26 q27 q28 q29 q30 q31 u0 u1 u2 u3 u4 u5 u6 u7 u8 u9 u10 u11 u12 u13 u14 u15 u16 u17 u18 u19 u20 u21 i_row
def f_HM_isParish (x1 : Int) (i_row : Nat → Int) : Option (Int) :=
  zn (zi_w x1) fun v1 =>
  zg 5580 i_row 2 fun v2 =>
  zn (zi_w v2) fun v3 =>
  zn (v3 - 1) fun v4 =>
  zd1 (f_HM_in v1 0 v4) fun v5 =>
  if ¬ (zi_w v5 = 0 ∨ zi_w v5 = 1) then none else
  some v5
set_option maxHeartbeats 4000000 in
set_option maxRecDepth 100000 in
theorem c_HM_isParish (l : Launch) (ev : zEv) (dC : Nat → ClassId) (dI : Nat → Nat → Nat) (cA : Nat → ClassId) (q0 q1 q2 q3 q4 q5 q6 q7 q8 q9 q10 q11 q12 q13 q14 q15 q16 q17 q18 q19 q20 q21 q22 q23 q24 q25 q26 q27 q28 q29 q30 q31 : Nat) (u0 u1 u2 u3 u4 u5 u6 u7 u8 u9 u10 u11 u12 u13 u14 u15 u16 u17 u18 u19 u20 u21 : Int) {x1 : Int} {i_row : Nat → Int} {out : Int} (hf : f_HM_isParish x1 i_row = some out) : xc_I l ev (dC, dI) vwCl (tyl cA) yX11_isParish w_HM_isParish rm_HM_isParish [.ref q0, .int (Int32.ofInt x1)] (wd_HM_isParish cA q0 q1 q2 q3 q4 q5 q6 q7 q8 q9 q10 q11 q12 q13 q14 q15 q16 q17 q18 q19 q20 q21 q22 q23 q24 q25 q26 q27 q28 q29 q30 q31 u0 u1 u2 u3 u4 u5 u6 u7 u8 u9 u10 u11 u12 u13 u14 u15 u16 u17 u18 u19 u20 u21 i_row) (wf_HM_isParish cA q0 q1 q2 q3 q4 q5 q6 q7 q8 q9 q10 q11 q12 q13 q14 q15 q16 q17 q18 q19 q20 q21 q22 q23 q24 q25 q26 q27 q28 q29 q30 q31 u0 u1 u2 u3 u4 u5 u6 u7 u8 u9 u10 u11 u12 u13 u14 u15 u16 u17 u18 u19 u20 u21 i_row out) out := by
  refine xv_startI (cc := cX11_isParish) (maxL := 2) (rt := .boolean) (by decide +kernel) rfl (Nat.le_of_ble_eq_true rfl) ?_
  intro p e s m args below meth c A Q H ls hx hb hml hts hown hK hA hP hD hS hl hE hret
  have hown : s.vm.findClass "HillSchoolModel" = some m.cls := hown
  have hz : ∀ w ∈ zall, w.before args s = true := fun w h => hts w (List.mem_cons_of_mem _ h)
  have hl : lv_has ls 2 [(0, .ref q0), (1, .int (Int32.ofInt x1))] := hl
  unfold f_HM_isParish at hf
  refine lv_iload_n hx hb dX11_isParish_0 rfl (lv_at hl 1 rfl) ?_
  refine xi_i2l hx hb dX11_isParish_1 hf (fun v1 hf => ?_)
  refine lv_lconst (v := Int64.ofInt 0) hx hb dX11_isParish_2 (by decide) ?_
  refine lv_aload_n hx hb dX11_isParish_3 rfl (lv_at hl 0 rfl) ?_
  refine va_get (D := (dC, dI)) (ci := 11) (v := .ref q2) (C := RX11) (T := TX11) (N := 53) hx hb hz zi_X11 hown hK hP 0 rfl rfl 3 (by decide) (hz _ zw_1168) (fun _ h9 => h9) rfl dX11_isParish_4 ?_
  refine lv_iconst (v := Int32.ofInt 2) hx hb dX11_isParish_7 rfl ?_
  refine xi_iald hx hb hK hP 1 0 rfl rfl dX11_isParish_8 hf (fun v2 hf => ?_)
  refine xi_i2l hx hb dX11_isParish_9 hf (fun v3 hf => ?_)
  refine lv_lconst (v := Int64.ofInt 1) hx hb dX11_isParish_10 (by decide) ?_
  refine xl_lsub hx hb dX11_isParish_11 hf (fun v4 hf => ?_)
  refine xe_d1 hf (fun v5 hg hf => ?_)
  have hC : ([] : List Nat).map (fun i => (wd_HM_isParish cA q0 q1 q2 q3 q4 q5 q6 q7 q8 q9 q10 q11 q12 q13 q14 q15 q16 q17 q18 q19 q20 q21 q22 q23 q24 q25 q26 q27 q28 q29 q30 q31 u0 u1 u2 u3 u4 u5 u6 u7 u8 u9 u10 u11 u12 u13 u14 u15 u16 u17 u18 u19 u20 u21 i_row)[i]?) = (wd_HM_in cA).map some := rfl
  refine xv_afterI (ws' := (wd_HM_isParish cA q0 q1 q2 q3 q4 q5 q6 q7 q8 q9 q10 q11 q12 q13 q14 q15 q16 q17 q18 q19 q20 q21 q22 q23 q24 q25 q26 q27 q28 q29 q30 q31 u0 u1 u2 u3 u4 u5 u6 u7 u8 u9 u10 u11 u12 u13 u14 u15 u16 u17 u18 u19 u20 u21 i_row)) (isC := []) (ps := [none, none]) (va_runS (As := [.long (Int64.ofInt v1), .long (Int64.ofInt 0), .long (Int64.ofInt v4)]) (rest := []) ⟨hx, hb, hml, hown, hts⟩ (c_HM_in l ev dC dI cA hg H.size) (va_cwS 3 hts (zgS zw_1329 zw_1330 zw_115 zw_1331) rfl rfl rfl hd_HM_in.2 ⟨Nat.le_of_ble_eq_true rfl, Nat.le_of_ble_eq_true rfl⟩) (xv_preS hE hA hS hK hP hD (isC := []) (by decide +kernel) hC) rfl rfl hl.1 rfl (lv_room (Nat.le_of_ble_eq_true rfl)) dX11_isParish_12 ⟨Nat.le_refl _, Nat.le_refl _⟩) hP hD hS hA (by decide +kernel) rfl hC rfl rfl (fun H locs hP hD hS => ?_)
  obtain ⟨hzb, hf⟩ := xz_q hf
  obtain rfl := Option.some.inj hf
  exact hret _ _ _ _ (zz_bool hzb) dX11_isParish_15 hP hD hS
theorem dX11_shade_0 : decode cX11_shade 0 = .ok (.aload_n 0, 1) := by decide +kernel
theorem dX11_shade_1 : decode cX11_shade 1 = .ok (.iconst 0, 1) := by decide +kernel
theorem dX11_shade_2 : decode cX11_shade 2 = .ok (.putfield 126, 3) := by decide +kernel
theorem dX11_shade_5 : decode cX11_shade 5 = .ok (.aload_n 0, 1) := by decide +kernel
theorem dX11_shade_6 : decode cX11_shade 6 = .ok (.invokevirtual 360, 3) := by decide +kernel
theorem dX11_shade_9 : decode cX11_shade 9 = .ok (.iload_n 1, 1) := by decide +kernel
theorem dX11_shade_10 : decode cX11_shade 10 = .ok (.iconst (-1), 1) := by decide +kernel
theorem dX11_shade_11 : decode cX11_shade 11 = .ok (.if_icmp .ne 10, 3) := by decide +kernel
theorem dX11_shade_14 : decode cX11_shade 14 = .ok (.aload_n 0, 1) := by decide +kernel
theorem dX11_shade_15 : decode cX11_shade 15 = .ok (.invokevirtual 385, 3) := by decide +kernel
theorem dX11_shade_18 : decode cX11_shade 18 = .ok (.goto 29, 3) := by decide +kernel
theorem dX11_shade_21 : decode cX11_shade 21 = .ok (.aload_n 0, 1) := by decide +kernel
theorem dX11_shade_22 : decode cX11_shade 22 = .ok (.iload_n 1, 1) := by decide +kernel
theorem dX11_shade_23 : decode cX11_shade 23 = .ok (.invokevirtual 388, 3) := by decide +kernel
theorem dX11_shade_26 : decode cX11_shade 26 = .ok (.ifCond .eq 20, 3) := by decide +kernel
theorem dX11_shade_29 : decode cX11_shade 29 = .ok (.aload_n 0, 1) := by decide +kernel
theorem dX11_shade_30 : decode cX11_shade 30 = .ok (.aload_n 0, 1) := by decide +kernel
theorem dX11_shade_31 : decode cX11_shade 31 = .ok (.getfield 13, 3) := by decide +kernel
theorem dX11_shade_34 : decode cX11_shade 34 = .ok (.sipush 171, 3) := by decide +kernel
theorem dX11_shade_37 : decode cX11_shade 37 = .ok (.iload_n 1, 1) := by decide +kernel
theorem dX11_shade_38 : decode cX11_shade 38 = .ok (.iadd, 1) := by decide +kernel
theorem dX11_shade_39 : decode cX11_shade 39 = .ok (.iaload, 1) := by decide +kernel
theorem dX11_shade_40 : decode cX11_shade 40 = .ok (.invokevirtual 382, 3) := by decide +kernel
theorem dX11_shade_43 : decode cX11_shade 43 = .ok (.goto 4, 3) := by decide +kernel
theorem dX11_shade_46 : decode cX11_shade 46 = .ok (.iconst (-1), 1) := by decide +kernel
theorem dX11_shade_47 : decode cX11_shade 47 = .ok (.ireturn, 1) := by decide +kernel
theorem zw_78 : (Jvm.Cond.selects "HillSchoolModel" ({ cls := "HillSchoolModel", name := "allShades", desc := "()I" } : Jvm.MethodName) ({ cls := "HillSchoolModel", name := "allShades", desc := "()I" } : Jvm.MethodName)) ∈ zall := zmemG (zmj_0 78 rfl) rfl
theorem zw_80 : (Jvm.Cond.selects "HillSchoolModel" ({ cls := "HillSchoolModel", name := "isParish", desc := "(I)Z" } : Jvm.MethodName) ({ cls := "HillSchoolModel", name := "isParish", desc := "(I)Z" } : Jvm.MethodName)) ∈ zall := zmemG (zmj_0 80 rfl) rfl
theorem zw_1625 : (Jvm.Cond.code ({ cls := "HillSchoolModel", name := "shade", desc := "(I)I" } : Jvm.MethodName) prog_13_method_78_code (2 : Nat) (Option.some Jvm.ClassFile.FieldType.int)) ∈ zall := zmemG (zmj_7 82 rfl) rfl
theorem zw_1626 : (Jvm.Cond.methodLink "HillSchoolModel" (385 : Nat) ({ cls := "HillSchoolModel", name := "allShades", desc := "()I" } : Jvm.MethodName)) ∈ zall := zmemG (zmj_7 83 rfl) rfl
theorem zw_1628 : (Jvm.Cond.instanceMethod ({ cls := "HillSchoolModel", name := "allShades", desc := "()I" } : Jvm.MethodName)) ∈ zall := zmemG (zmj_7 85 rfl) rfl
theorem zw_1634 : (Jvm.Cond.methodLink "HillSchoolModel" (388 : Nat) ({ cls := "HillSchoolModel", name := "isParish", desc := "(I)Z" } : Jvm.MethodName)) ∈ zall := zmemG (zmj_7 91 rfl) rfl
theorem zw_1636 : (Jvm.Cond.instanceMethod ({ cls := "HillSchoolModel", name := "isParish", desc := "(I)Z" } : Jvm.MethodName)) ∈ zall := zmemG (zmj_7 93 rfl) rfl
abbrev w_HM_shade : List Cond := .code yX11_shade cX11_shade 2 (some .int) :: zall
abbrev rm_HM_shade : Room := { frames := 3, cells := 0, slots := 0, locals := 66 }
theorem hd_HM_shade : yX11_shade.cls = "HillSchoolModel" ∧ yX11_shade.cls ≠ "java/lang/invoke/MethodHandle" ∧ yX11_shade.cls ≠ "java/lang/invoke/VarHandle" ∧ (parseMethodDescriptor yX11_shade.desc).map (fun d => d.parameters.length) = some 1 := by decide +kernel
def wd_HM_shade (cA : Nat → ClassId) (q0 q1 q2 q3 q4 q5 q6 q7 q8 q9 q10 q11 q12 q13 q14 q15 q16 q17 q18 q19 q20 q21 q22 q23 q24 q25 q26 q27 q28 q29 q30 q31 : Nat) (u0 u1 u2 u3 u4 u5 u6 u7 u8 u9 u10 u11 u12 u13 u14 u15 u16 u17 u18 u19 u20 : Int) (i_row : Nat → Int) (i_thrown : Int) (i_high : Nat → Int) (i_heaps : Nat → Int) : va_W := [(q0, .inr (11, [.int (Int32.ofInt i_thrown), .int (Int32.ofInt u0), .ref q1, .ref q2, .ref q3, .ref q4, .int (Int32.ofInt u1), .ref q5, .int (Int32.ofInt u2), .int (Int32.ofInt u3), .int (Int32.ofInt u4), .int (Int32.ofInt u5), .long (Int64.ofInt u6), .int (Int32.ofInt u7), .int (Int32.ofInt u8), .int (Int32.ofInt u9), .ref q6, .int (Int32.ofInt u10), .ref q7, .ref q8, .int (Int32.ofInt u11), .ref q9, .ref q10, .int (Int32.ofInt u12), .int (Int32.ofInt u13), .ref q11, .int (Int32.ofInt u14), .ref q12, .ref q13, .int (Int32.ofInt u15), .long (Int64.ofInt u16), .long (Int64.ofInt u17), .ref q14, .ref q15, .ref q16, .ref q17, .ref q18, .int (Int32.ofInt u18), .ref q19, .ref q20, .ref q21, .ref q22, .ref q23, .ref q24, .ref q25, .ref q26, .ref q27, .ref q28, .ref q29, .ref q30, .long (Int64.ofInt u19), .ref q31, .int (Int32.ofInt u20)])), (q2, .inl (cA 0, 5580, .inl (za i_row))), (q14, .inl (cA 0, 12, .inl (za i_high))), (q15, .inl (cA 0, 120, .inl (za i_heaps)))]
def wf_HM_shade (cA : Nat → ClassId) (q0 q1 q2 q3 q4 q5 q6 q7 q8 q9 q10 q11 q12 q13 q14 q15 q16 q17 q18 q19 q20 q21 q22 q23 q24 q25 q26 q27 q28 q29 q30 q31 : Nat) (u0 u1 u2 u3 u4 u5 u6 u7 u8 u9 u10 u11 u12 u13 u14 u15 u16 u17 u18 u19 u20 : Int) (i_row : Nat → Int) (o : Int × Int × (Nat → Int) × (Nat → Int)) : va_W := wd_HM_shade cA q0 q1 q2 q3 q4 q5 q6 q7 q8 q9 q10 q11 q12 q13 q14 q15 q16 q17 q18 q19 q20 q21 q22 q23 q24 q25 q26 q27 q28 q29 q30 q31 u0 u1 u2 u3 u4 u5 u6 u7 u8 u9 u10 u11 u12 u13 u14 u15 u16 u17 u18 u19 u20 i_row o.2.1 o.2.2.1 o.2.2.2
def f_HM_shade (x1 : Int) (i_row : Nat → Int) (i_thrown : Int) (i_high : Nat → Int) (i_heaps : Nat → Int) : Option (Int × Int × (Nat → Int) × (Nat → Int)) :=
  zd2 (f_HM_load i_row i_high i_heaps) fun a1 a2 =>
  if zi_w x1 ≠ zi_w (-1) then
    zd1 (f_HM_isParish x1 i_row) fun v3 =>
    if zi_w v3 = 0 then
      some ((-1), 0, a1, a2)
    else
      zn (171 + x1) fun v4 =>
      zg 5580 i_row v4 fun v5 =>
      zd1 (f_HM_shadeAt v5 i_row a1) fun v6 =>
      some (v6, 0, a1, a2)
  else
    zd1 (f_HM_allShades i_row a1) fun v7 =>
    some (v7, 0, a1, a2)
set_option maxHeartbeats 4000000 in
set_option maxRecDepth 100000 in
theorem c_HM_shade (l : Launch) (ev : zEv) (dC : Nat → ClassId) (dI : Nat → Nat → Nat) (cA : Nat → ClassId) (q0 q1 q2 q3 q4 q5 q6 q7 q8 q9 q10 q11 q12 q13 q14 q15 q16 q17 q18 q19 q20 q21 q22 q23 q24 q25 q26 q27 q28 q29 q30 q31 : Nat) (u0 u1 u2 u3 u4 u5 u6 u7 u8 u9 u10 u11 u12 u13 u14 u15 u16 u17 u18 u19 u20 : Int) {x1 : Int} {i_row : Nat → Int} {i_thrown : Int} {i_high : Nat → Int} {i_heaps : Nat → Int} {out : Int × Int × (Nat → Int) × (Nat → Int)} (hf : f_HM_shade x1 i_row i_thrown i_high i_heaps = some out) : xc_I l ev (dC, dI) vwCl (tyl cA) yX11_shade w_HM_shade rm_HM_shade [.ref q0, .int (Int32.ofInt x1)] (wd_HM_shade cA q0 q1 q2 q3 q4 q5 q6 q7 q8 q9 q10 q11 q12 q13 q14 q15 q16 q17 q18 q19 q20 q21 q22 q23 q24 q25 q26 q27 q28 q29 q30 q31 u0 u1 u2 u3 u4 u5 u6 u7 u8 u9 u10 u11 u12 u13 u14 u15 u16 u17 u18 u19 u20 i_row i_thrown i_high i_heaps) (wf_HM_shade cA q0 q1 q2 q3 q4 q5 q6 q7 q8 q9 q10 q11 q12 q13 q14 q15 q16 q17 q18 q19 q20 q21 q22 q23 q24 q25 q26 q27 q28 q29 q30 q31 u0 u1 u2 u3 u4 u5 u6 u7 u8 u9 u10 u11 u12 u13 u14 u15 u16 u17 u18 u19 u20 i_row out) out.1 := by
  refine xv_startI (cc := cX11_shade) (maxL := 2) (rt := .int) (by decide +kernel) rfl (Nat.le_of_ble_eq_true rfl) ?_
  intro p e s m args below meth c A Q H ls hx hb hml hts hown hK hA hP hD hS hl hE hret
  have hown : s.vm.findClass "HillSchoolModel" = some m.cls := hown
  have hz : ∀ w ∈ zall, w.before args s = true := fun w h => hts w (List.mem_cons_of_mem _ h)
  have hl : lv_has ls 2 [(0, .ref q0), (1, .int (Int32.ofInt x1))] := hl
  unfold f_HM_shade at hf
  refine lv_aload_n hx hb dX11_shade_0 rfl (lv_at hl 0 rfl) ?_
  refine lv_iconst (v := Int32.ofInt 0) hx hb dX11_shade_1 rfl ?_
  refine va_put (D := (dC, dI)) (ci := 11) (v := .int (Int32.ofInt 0)) (ty := .int) (C := RX11) (T := TX11) (N := 53) hx hb hz zi_X11 tyX11 tyX11_ok nmX11 hown hK hP hD hS 0 rfl rfl 0 (by decide) (hz _ zw_1165) (fun _ h9 => h9) rfl (by decide +kernel) rfl rfl (Nat.le_of_ble_eq_true rfl) dX11_shade_2 (fun H locs hP hD hS => ?_)
  have hP : va_P (dC, dI) vwCl (wd_HM_shade cA q0 q1 q2 q3 q4 q5 q6 q7 q8 q9 q10 q11 q12 q13 q14 q15 q16 q17 q18 q19 q20 q21 q22 q23 q24 q25 q26 q27 q28 q29 q30 q31 u0 u1 u2 u3 u4 u5 u6 u7 u8 u9 u10 u11 u12 u13 u14 u15 u16 u17 u18 u19 u20 i_row 0 i_high i_heaps) H := hP
  have hD : va_D A (wd_HM_shade cA q0 q1 q2 q3 q4 q5 q6 q7 q8 q9 q10 q11 q12 q13 q14 q15 q16 q17 q18 q19 q20 q21 q22 q23 q24 q25 q26 q27 q28 q29 q30 q31 u0 u1 u2 u3 u4 u5 u6 u7 u8 u9 u10 u11 u12 u13 u14 u15 u16 u17 u18 u19 u20 i_row 0 i_high i_heaps) := hD
  refine lv_aload_n hx hb dX11_shade_5 rfl (lv_at hl 0 rfl) ?_
  refine xe_d2 hf (fun a1 a2 hg hf => ?_)
  have hC : ([0, 1, 2, 3] : List Nat).map (fun i => (wd_HM_shade cA q0 q1 q2 q3 q4 q5 q6 q7 q8 q9 q10 q11 q12 q13 q14 q15 q16 q17 q18 q19 q20 q21 q22 q23 q24 q25 q26 q27 q28 q29 q30 q31 u0 u1 u2 u3 u4 u5 u6 u7 u8 u9 u10 u11 u12 u13 u14 u15 u16 u17 u18 u19 u20 i_row 0 i_high i_heaps)[i]?) = (wd_HM_load cA q0 q1 q2 q3 q4 q5 q6 q7 q8 q9 q10 q11 q12 q13 q14 q15 q16 q17 q18 q19 q20 q21 q22 q23 q24 q25 q26 q27 q28 q29 q30 q31 0 u0 u1 u2 u3 u4 u5 u6 u7 u8 u9 u10 u11 u12 u13 u14 u15 u16 u17 u18 u19 u20 i_row i_high i_heaps).map some := rfl
  refine xv_afterV (ws' := (wd_HM_shade cA q0 q1 q2 q3 q4 q5 q6 q7 q8 q9 q10 q11 q12 q13 q14 q15 q16 q17 q18 q19 q20 q21 q22 q23 q24 q25 q26 q27 q28 q29 q30 q31 u0 u1 u2 u3 u4 u5 u6 u7 u8 u9 u10 u11 u12 u13 u14 u15 u16 u17 u18 u19 u20 i_row 0 a1 a2)) (isC := [0, 1, 2, 3]) (ps := [some 0, some 1, some 2, some 3]) (va_runV (As := []) (rest := []) ⟨hx, hb, hml, hown, hts⟩ (c_HM_load l ev dC dI cA q0 q1 q2 q3 q4 q5 q6 q7 q8 q9 q10 q11 q12 q13 q14 q15 q16 q17 q18 q19 q20 q21 q22 q23 q24 q25 q26 q27 q28 q29 q30 q31 0 u0 u1 u2 u3 u4 u5 u6 u7 u8 u9 u10 u11 u12 u13 u14 u15 u16 u17 u18 u19 u20 hg H.size) (cwV 0 hts (zgV zw_1549 zw_1551 zw_66 zw_115 zw_1552) rfl rfl rfl hd_HM_load ⟨Nat.le_of_ble_eq_true rfl, Nat.le_of_ble_eq_true rfl⟩) (xv_preV (T := TX11) (N := 53) hE hA hS hK hP hD (isC := [0, 1, 2, 3]) (by decide +kernel) hC (q0 := 0) (ci := 11) rfl rfl) rfl rfl hl.1 rfl (lv_room (Nat.le_of_ble_eq_true rfl)) dX11_shade_6 ⟨Nat.le_refl _, Nat.le_refl _⟩) hP hD hS hA (by decide +kernel) rfl hC rfl rfl (fun H locs hP hD hS => ?_)
  refine lv_iload_n hx hb dX11_shade_9 rfl (lv_at hl 1 rfl) ?_
  refine lv_iconst (v := Int32.ofInt (-1)) hx hb dX11_shade_10 rfl ?_
  refine xi_icmp_ne (tgt := 21) hx hb dX11_shade_11 (by decide) hf (fun hf => ?_) (fun hf => ?_)
  · refine lv_aload_n hx hb dX11_shade_21 rfl (lv_at hl 0 rfl) ?_
    refine lv_iload_n hx hb dX11_shade_22 rfl (lv_at hl 1 rfl) ?_
    refine xe_d1 hf (fun v3 hg hf => ?_)
    have hC : ([0, 1] : List Nat).map (fun i => (wd_HM_shade cA q0 q1 q2 q3 q4 q5 q6 q7 q8 q9 q10 q11 q12 q13 q14 q15 q16 q17 q18 q19 q20 q21 q22 q23 q24 q25 q26 q27 q28 q29 q30 q31 u0 u1 u2 u3 u4 u5 u6 u7 u8 u9 u10 u11 u12 u13 u14 u15 u16 u17 u18 u19 u20 i_row 0 a1 a2)[i]?) = (wd_HM_isParish cA q0 q1 q2 q3 q4 q5 q6 q7 q8 q9 q10 q11 q12 q13 q14 q15 q16 q17 q18 q19 q20 q21 q22 q23 q24 q25 q26 q27 q28 q29 q30 q31 0 u0 u1 u2 u3 u4 u5 u6 u7 u8 u9 u10 u11 u12 u13 u14 u15 u16 u17 u18 u19 u20 i_row).map some := rfl
    refine xv_afterI (ws' := (wd_HM_shade cA q0 q1 q2 q3 q4 q5 q6 q7 q8 q9 q10 q11 q12 q13 q14 q15 q16 q17 q18 q19 q20 q21 q22 q23 q24 q25 q26 q27 q28 q29 q30 q31 u0 u1 u2 u3 u4 u5 u6 u7 u8 u9 u10 u11 u12 u13 u14 u15 u16 u17 u18 u19 u20 i_row 0 a1 a2)) (isC := [0, 1]) (ps := [some 0, some 1, none, none]) (va_runV (As := [.int (Int32.ofInt x1)]) (rest := []) ⟨hx, hb, hml, hown, hts⟩ (c_HM_isParish l ev dC dI cA q0 q1 q2 q3 q4 q5 q6 q7 q8 q9 q10 q11 q12 q13 q14 q15 q16 q17 q18 q19 q20 q21 q22 q23 q24 q25 q26 q27 q28 q29 q30 q31 0 u0 u1 u2 u3 u4 u5 u6 u7 u8 u9 u10 u11 u12 u13 u14 u15 u16 u17 u18 u19 u20 hg H.size) (cwV 1 hts (zgV zw_1634 zw_1636 zw_80 zw_115 zw_1637) rfl rfl rfl hd_HM_isParish ⟨Nat.le_of_ble_eq_true rfl, Nat.le_of_ble_eq_true rfl⟩) (xv_preV (T := TX11) (N := 53) hE hA hS hK hP hD (isC := [0, 1]) (by decide +kernel) hC (q0 := 0) (ci := 11) rfl rfl) rfl rfl hl.1 rfl (lv_room (Nat.le_of_ble_eq_true rfl)) dX11_shade_23 ⟨Nat.le_refl _, Nat.le_refl _⟩) hP hD hS hA (by decide +kernel) rfl hC rfl rfl (fun H locs hP hD hS => ?_)
    refine xi_if_eq (tgt := 46) hx hb dX11_shade_26 (by decide) hf (fun hf => ?_) (fun hf => ?_)
    · refine lv_iconst (v := Int32.ofInt (-1)) hx hb dX11_shade_46 rfl ?_
      obtain rfl := Option.some.inj hf
      exact hret _ _ _ _ rfl dX11_shade_47 hP hD hS
    · refine lv_aload_n hx hb dX11_shade_29 rfl (lv_at hl 0 rfl) ?_
      refine lv_aload_n hx hb dX11_shade_30 rfl (lv_at hl 0 rfl) ?_
      refine va_get (D := (dC, dI)) (ci := 11) (v := .ref q2) (C := RX11) (T := TX11) (N := 53) hx hb hz zi_X11 hown hK hP 0 rfl rfl 3 (by decide) (hz _ zw_1168) (fun _ h9 => h9) rfl dX11_shade_31 ?_
      refine lv_sipush (v := Int32.ofInt 171) hx hb dX11_shade_34 (by decide) ?_
      refine lv_iload_n hx hb dX11_shade_37 rfl (lv_at hl 1 rfl) ?_
      refine xi_iadd hx hb dX11_shade_38 hf (fun v4 hf => ?_)
      refine xi_iald hx hb hK hP 1 0 rfl rfl dX11_shade_39 hf (fun v5 hf => ?_)
      refine xe_d1 hf (fun v6 hg hf => ?_)
      have hC : ([0, 1, 2] : List Nat).map (fun i => (wd_HM_shade cA q0 q1 q2 q3 q4 q5 q6 q7 q8 q9 q10 q11 q12 q13 q14 q15 q16 q17 q18 q19 q20 q21 q22 q23 q24 q25 q26 q27 q28 q29 q30 q31 u0 u1 u2 u3 u4 u5 u6 u7 u8 u9 u10 u11 u12 u13 u14 u15 u16 u17 u18 u19 u20 i_row 0 a1 a2)[i]?) = (wd_HM_shadeAt cA q0 q1 q2 q3 q4 q5 q6 q7 q8 q9 q10 q11 q12 q13 q14 q15 q16 q17 q18 q19 q20 q21 q22 q23 q24 q25 q26 q27 q28 q29 q30 q31 0 u0 u1 u2 u3 u4 u5 u6 u7 u8 u9 u10 u11 u12 u13 u14 u15 u16 u17 u18 u19 u20 i_row a1).map some := rfl
      refine xv_afterI (ws' := (wd_HM_shade cA q0 q1 q2 q3 q4 q5 q6 q7 q8 q9 q10 q11 q12 q13 q14 q15 q16 q17 q18 q19 q20 q21 q22 q23 q24 q25 q26 q27 q28 q29 q30 q31 u0 u1 u2 u3 u4 u5 u6 u7 u8 u9 u10 u11 u12 u13 u14 u15 u16 u17 u18 u19 u20 i_row 0 a1 a2)) (isC := [0, 1, 2]) (ps := [some 0, some 1, some 2, none]) (va_runV (As := [.int (Int32.ofInt v5)]) (rest := []) ⟨hx, hb, hml, hown, hts⟩ (c_HM_shadeAt l ev dC dI cA q0 q1 q2 q3 q4 q5 q6 q7 q8 q9 q10 q11 q12 q13 q14 q15 q16 q17 q18 q19 q20 q21 q22 q23 q24 q25 q26 q27 q28 q29 q30 q31 0 u0 u1 u2 u3 u4 u5 u6 u7 u8 u9 u10 u11 u12 u13 u14 u15 u16 u17 u18 u19 u20 hg H.size) (cwV 1 hts (zgV zw_1630 zw_1632 zw_79 zw_115 zw_1633) rfl rfl rfl hd_HM_shadeAt ⟨Nat.le_of_ble_eq_true rfl, Nat.le_of_ble_eq_true rfl⟩) (xv_preV (T := TX11) (N := 53) hE hA hS hK hP hD (isC := [0, 1, 2]) (by decide +kernel) hC (q0 := 0) (ci := 11) rfl rfl) rfl rfl hl.1 rfl (lv_room (Nat.le_of_ble_eq_true rfl)) dX11_shade_40 ⟨Nat.le_refl _, Nat.le_refl _⟩) hP hD hS hA (by decide +kernel) rfl hC rfl rfl (fun H locs hP hD hS => ?_)
      refine lv_goto (tgt := 47) hx hb dX11_shade_43 (by decide) ?_
      obtain rfl := Option.some.inj hf
      exact hret _ _ _ _ rfl dX11_shade_47 hP hD hS
  · refine lv_aload_n hx hb dX11_shade_14 rfl (lv_at hl 0 rfl) ?_
    refine xe_d1 hf (fun v7 hg hf => ?_)
    have hC : ([0, 1, 2] : List Nat).map (fun i => (wd_HM_shade cA q0 q1 q2 q3 q4 q5 q6 q7 q8 q9 q10 q11 q12 q13 q14 q15 q16 q17 q18 q19 q20 q21 q22 q23 q24 q25 q26 q27 q28 q29 q30 q31 u0 u1 u2 u3 u4 u5 u6 u7 u8 u9 u10 u11 u12 u13 u14 u15 u16 u17 u18 u19 u20 i_row 0 a1 a2)[i]?) = (wd_HM_allShades cA q0 q1 q2 q3 q4 q5 q6 q7 q8 q9 q10 q11 q12 q13 q14 q15 q16 q17 q18 q19 q20 q21 q22 q23 q24 q25 q26 q27 q28 q29 q30 q31 0 u0 u1 u2 u3 u4 u5 u6 u7 u8 u9 u10 u11 u12 u13 u14 u15 u16 u17 u18 u19 u20 i_row a1).map some := rfl
    refine xv_afterI (ws' := (wd_HM_shade cA q0 q1 q2 q3 q4 q5 q6 q7 q8 q9 q10 q11 q12 q13 q14 q15 q16 q17 q18 q19 q20 q21 q22 q23 q24 q25 q26 q27 q28 q29 q30 q31 u0 u1 u2 u3 u4 u5 u6 u7 u8 u9 u10 u11 u12 u13 u14 u15 u16 u17 u18 u19 u20 i_row 0 a1 a2)) (isC := [0, 1, 2]) (ps := [some 0, some 1, some 2, none]) (va_runV (As := []) (rest := []) ⟨hx, hb, hml, hown, hts⟩ (c_HM_allShades l ev dC dI cA q0 q1 q2 q3 q4 q5 q6 q7 q8 q9 q10 q11 q12 q13 q14 q15 q16 q17 q18 q19 q20 q21 q22 q23 q24 q25 q26 q27 q28 q29 q30 q31 0 u0 u1 u2 u3 u4 u5 u6 u7 u8 u9 u10 u11 u12 u13 u14 u15 u16 u17 u18 u19 u20 hg H.size) (cwV 0 hts (zgV zw_1626 zw_1628 zw_78 zw_115 zw_1629) rfl rfl rfl hd_HM_allShades ⟨Nat.le_of_ble_eq_true rfl, Nat.le_of_ble_eq_true rfl⟩) (xv_preV (T := TX11) (N := 53) hE hA hS hK hP hD (isC := [0, 1, 2]) (by decide +kernel) hC (q0 := 0) (ci := 11) rfl rfl) rfl rfl hl.1 rfl (lv_room (Nat.le_of_ble_eq_true rfl)) dX11_shade_15 ⟨Nat.le_refl _, Nat.le_refl _⟩) hP hD hS hA (by decide +kernel) rfl hC rfl rfl (fun H locs hP hD hS => ?_)
    refine lv_goto (tgt := 47) hx hb dX11_shade_18 (by decide) ?_
    obtain rfl := Option.some.inj hf
    exact hret _ _ _ _ rfl dX11_shade_47 hP hD hS
theorem dX11_gains_0 : decode cX11_gains 0 = .ok (.aload_n 0, 1) := by decide +kernel
theorem dX11_gains_1 : decode cX11_gains 1 = .ok (.iconst 0, 1) := by decide +kernel
theorem dX11_gains_2 : decode cX11_gains 2 = .ok (.putfield 126, 3) := by decide +kernel
theorem dX11_gains_5 : decode cX11_gains 5 = .ok (.aload_n 0, 1) := by decide +kernel
theorem dX11_gains_6 : decode cX11_gains 6 = .ok (.iload_n 1, 1) := by decide +kernel
theorem dX11_gains_7 : decode cX11_gains 7 = .ok (.invokevirtual 388, 3) := by decide +kernel
theorem dX11_gains_10 : decode cX11_gains 10 = .ok (.ifCond .eq 14, 3) := by decide +kernel
theorem dX11_gains_13 : decode cX11_gains 13 = .ok (.aload_n 0, 1) := by decide +kernel
theorem dX11_gains_14 : decode cX11_gains 14 = .ok (.iload_n 2, 1) := by decide +kernel
theorem dX11_gains_15 : decode cX11_gains 15 = .ok (.iload_n 3, 1) := by decide +kernel
theorem dX11_gains_16 : decode cX11_gains 16 = .ok (.iload 4, 2) := by decide +kernel
theorem dX11_gains_18 : decode cX11_gains 18 = .ok (.invokevirtual 356, 3) := by decide +kernel
theorem dX11_gains_21 : decode cX11_gains 21 = .ok (.ifCond .ne 7, 3) := by decide +kernel
theorem dX11_gains_24 : decode cX11_gains 24 = .ok (.sipush (-1000), 3) := by decide +kernel
theorem dX11_gains_27 : decode cX11_gains 27 = .ok (.ireturn, 1) := by decide +kernel
theorem dX11_gains_28 : decode cX11_gains 28 = .ok (.aload_n 0, 1) := by decide +kernel
theorem dX11_gains_29 : decode cX11_gains 29 = .ok (.invokevirtual 360, 3) := by decide +kernel
theorem dX11_gains_32 : decode cX11_gains 32 = .ok (.aload_n 0, 1) := by decide +kernel
theorem dX11_gains_33 : decode cX11_gains 33 = .ok (.iload_n 2, 1) := by decide +kernel
theorem dX11_gains_34 : decode cX11_gains 34 = .ok (.iload_n 3, 1) := by decide +kernel
theorem dX11_gains_35 : decode cX11_gains 35 = .ok (.iload 4, 2) := by decide +kernel
theorem dX11_gains_37 : decode cX11_gains 37 = .ok (.invokevirtual 363, 3) := by decide +kernel
theorem dX11_gains_40 : decode cX11_gains 40 = .ok (.iconst (-1), 1) := by decide +kernel
theorem dX11_gains_41 : decode cX11_gains 41 = .ok (.if_icmp .ne 7, 3) := by decide +kernel
theorem dX11_gains_44 : decode cX11_gains 44 = .ok (.sipush (-1000), 3) := by decide +kernel
theorem dX11_gains_47 : decode cX11_gains 47 = .ok (.ireturn, 1) := by decide +kernel
theorem dX11_gains_48 : decode cX11_gains 48 = .ok (.aload_n 0, 1) := by decide +kernel
theorem dX11_gains_49 : decode cX11_gains 49 = .ok (.aload_n 0, 1) := by decide +kernel
theorem dX11_gains_50 : decode cX11_gains 50 = .ok (.getfield 13, 3) := by decide +kernel
theorem dX11_gains_53 : decode cX11_gains 53 = .ok (.sipush 171, 3) := by decide +kernel
theorem dX11_gains_56 : decode cX11_gains 56 = .ok (.iload_n 1, 1) := by decide +kernel
theorem dX11_gains_57 : decode cX11_gains 57 = .ok (.iadd, 1) := by decide +kernel
theorem dX11_gains_58 : decode cX11_gains 58 = .ok (.iaload, 1) := by decide +kernel
theorem dX11_gains_59 : decode cX11_gains 59 = .ok (.invokevirtual 382, 3) := by decide +kernel
theorem dX11_gains_62 : decode cX11_gains 62 = .ok (.istore 5, 2) := by decide +kernel
theorem dX11_gains_64 : decode cX11_gains 64 = .ok (.aload_n 0, 1) := by decide +kernel
theorem dX11_gains_65 : decode cX11_gains 65 = .ok (.iload_n 3, 1) := by decide +kernel
theorem dX11_gains_66 : decode cX11_gains 66 = .ok (.iload 4, 2) := by decide +kernel
theorem dX11_gains_68 : decode cX11_gains 68 = .ok (.invokevirtual 367, 3) := by decide +kernel
theorem dX11_gains_71 : decode cX11_gains 71 = .ok (.iload 5, 2) := by decide +kernel
theorem dX11_gains_73 : decode cX11_gains 73 = .ok (.aload_n 0, 1) := by decide +kernel
theorem dX11_gains_74 : decode cX11_gains 74 = .ok (.aload_n 0, 1) := by decide +kernel
theorem dX11_gains_75 : decode cX11_gains 75 = .ok (.getfield 13, 3) := by decide +kernel
theorem dX11_gains_78 : decode cX11_gains 78 = .ok (.sipush 171, 3) := by decide +kernel
theorem dX11_gains_81 : decode cX11_gains 81 = .ok (.iload_n 1, 1) := by decide +kernel
theorem dX11_gains_82 : decode cX11_gains 82 = .ok (.iadd, 1) := by decide +kernel
theorem dX11_gains_83 : decode cX11_gains 83 = .ok (.iaload, 1) := by decide +kernel
theorem dX11_gains_84 : decode cX11_gains 84 = .ok (.invokevirtual 382, 3) := by decide +kernel
theorem dX11_gains_87 : decode cX11_gains 87 = .ok (.isub, 1) := by decide +kernel
theorem dX11_gains_88 : decode cX11_gains 88 = .ok (.ireturn, 1) := by decide +kernel
theorem zw_1641 : (Jvm.Cond.code ({ cls := "HillSchoolModel", name := "gains", desc := "(IIII)I" } : Jvm.MethodName) prog_13_method_79_code (6 : Nat) (Option.some Jvm.ClassFile.FieldType.int)) ∈ zall := zmemG (zmj_7 98 rfl) rfl
abbrev w_HM_gains : List Cond := .code yX11_gains cX11_gains 6 (some .int) :: zall
abbrev rm_HM_gains : Room := { frames := 5, cells := 0, slots := 0, locals := 126 }
theorem hd_HM_gains : yX11_gains.cls = "HillSchoolModel" ∧ yX11_gains.cls ≠ "java/lang/invoke/MethodHandle" ∧ yX11_gains.cls ≠ "java/lang/invoke/VarHandle" ∧ (parseMethodDescriptor yX11_gains.desc).map (fun d => d.parameters.length) = some 4 := by decide +kernel
def wd_HM_gains (cA : Nat → ClassId) (q0 q1 q2 q3 q4 q5 q6 q7 q8 q9 q10 q11 q12 q13 q14 q15 q16 q17 q18 q19 q20 q21 q22 q23 q24 q25 q26 q27 q28 q29 q30 q31 : Nat) (u0 u1 u2 u3 u4 u5 u6 u7 u8 u9 u10 u11 u12 u13 u14 u15 u16 : Int) (i_row : Nat → Int) (i_thrown : Int) (i_law : Int) (i_broken : Int) (i_value : Int) (i_sum : Int) (i_set : Nat → Int) (i_rest : Nat → Int) (i_high : Nat → Int) (i_heaps : Nat → Int) : va_W := [(q0, .inr (11, [.int (Int32.ofInt i_thrown), .int (Int32.ofInt u0), .ref q1, .ref q2, .ref q3, .ref q4, .int (Int32.ofInt u1), .ref q5, .int (Int32.ofInt u2), .int (Int32.ofInt u3), .int (Int32.ofInt u4), .int (Int32.ofInt u5), .long (Int64.ofInt u6), .int (Int32.ofInt u7), .int (Int32.ofInt u8), .int (Int32.ofInt u9), .ref q6, .int (Int32.ofInt u10), .ref q7, .ref q8, .int (Int32.ofInt u11), .ref q9, .ref q10, .int (Int32.ofInt u12), .int (Int32.ofInt u13), .ref q11, .int (Int32.ofInt i_law), .ref q12, .ref q13, .int (Int32.ofInt i_broken), .long (Int64.ofInt i_value), .long (Int64.ofInt i_sum), .ref q14, .ref q15, .ref q16, .ref q17, .ref q18, .int (Int32.ofInt u14), .ref q19, .ref q20, .ref q21, .ref q22, .ref q23, .ref q24, .ref q25, .ref q26, .ref q27, .ref q28, .ref q29, .ref q30, .long (Int64.ofInt u15), .ref q31, .int (Int32.ofInt u16)])), (q2, .inl (cA 0, 5580, .inl (za i_row))), (q12, .inl (cA 2, 13, .inr (.inl (zl i_set)))), (q13, .inl (cA 2, 400, .inr (.inl (zl i_rest)))), (q14, .inl (cA 0, 12, .inl (za i_high))), (q15, .inl (cA 0, 120, .inl (za i_heaps)))]
def wf_HM_gains (cA : Nat → ClassId) (q0 q1 q2 q3 q4 q5 q6 q7 q8 q9 q10 q11 q12 q13 q14 q15 q16 q17 q18 q19 q20 q21 q22 q23 q24 q25 q26 q27 q28 q29 q30 q31 : Nat) (u0 u1 u2 u3 u4 u5 u6 u7 u8 u9 u10 u11 u12 u13 u14 u15 u16 : Int) (i_row : Nat → Int) (o : Int × Int × Int × Int × Int × Int × (Nat → Int) × (Nat → Int) × (Nat → Int) × (Nat → Int)) : va_W := wd_HM_gains cA q0 q1 q2 q3 q4 q5 q6 q7 q8 q9 q10 q11 q12 q13 q14 q15 q16 q17 q18 q19 q20 q21 q22 q23 q24 q25 q26 q27 q28 q29 q30 q31 u0 u1 u2 u3 u4 u5 u6 u7 u8 u9 u10 u11 u12 u13 u14 u15 u16 i_row o.2.1 o.2.2.1 o.2.2.2.1 o.2.2.2.2.1 o.2.2.2.2.2.1 o.2.2.2.2.2.2.1 o.2.2.2.2.2.2.2.1 o.2.2.2.2.2.2.2.2.1 o.2.2.2.2.2.2.2.2.2
def f_HM_gains (x1 : Int) (x2 : Int) (x3 : Int) (x4 : Int) (i_row : Nat → Int) (i_thrown : Int) (i_law : Int) (i_broken : Int) (i_value : Int) (i_sum : Int) (i_set : Nat → Int) (i_rest : Nat → Int) (i_high : Nat → Int) (i_heaps : Nat → Int) : Option (Int × Int × Int × Int × Int × Int × (Nat → Int) × (Nat → Int) × (Nat → Int) × (Nat → Int)) :=
  zd1 (f_HM_isParish x1 i_row) fun v1 =>
  if zi_w v1 = 0 then
    some ((-1000), 0, i_law, i_broken, i_value, i_sum, i_set, i_rest, i_high, i_heaps)
  else
    zd1 (f_HM_are x2 x3 x4 i_row) fun v2 =>
    if zi_w v2 ≠ 0 then
      zd2 (f_HM_load i_row i_high i_heaps) fun a3 a4 =>
      zd7 (f_HM_carrying x2 x3 x4 i_row a3 a4 i_law i_broken i_value i_sum i_set i_rest) fun v5 v6 v7 v8 v9 a10 a11 =>
      if zi_w v5 ≠ zi_w (-1) then
        zn (171 + x1) fun v12 =>
        zg 5580 i_row v12 fun v13 =>
        zd1 (f_HM_shadeAt v13 i_row a3) fun v14 =>
        zd2 (f_HM_shift x3 x4 a3 a4) fun a15 a16 =>
        zn (171 + x1) fun v17 =>
        zg 5580 i_row v17 fun v18 =>
        zd1 (f_HM_shadeAt v18 i_row a15) fun v19 =>
        zn (v14 - v19) fun v20 =>
        some (v20, 0, v6, v7, v8, v9, a10, a11, a15, a16)
      else
        some ((-1000), 0, v6, v7, v8, v9, a10, a11, a3, a4)
    else
      some ((-1000), 0, i_law, i_broken, i_value, i_sum, i_set, i_rest, i_high, i_heaps)
set_option maxHeartbeats 4000000 in
set_option maxRecDepth 100000 in
theorem c_HM_gains (l : Launch) (ev : zEv) (dC : Nat → ClassId) (dI : Nat → Nat → Nat) (cA : Nat → ClassId) (q0 q1 q2 q3 q4 q5 q6 q7 q8 q9 q10 q11 q12 q13 q14 q15 q16 q17 q18 q19 q20 q21 q22 q23 q24 q25 q26 q27 q28 q29 q30 q31 : Nat) (u0 u1 u2 u3 u4 u5 u6 u7 u8 u9 u10 u11 u12 u13 u14 u15 u16 : Int) {x1 x2 x3 x4 : Int} {i_row : Nat → Int} {i_thrown : Int} {i_law : Int} {i_broken : Int} {i_value : Int} {i_sum : Int} {i_set : Nat → Int} {i_rest : Nat → Int} {i_high : Nat → Int} {i_heaps : Nat → Int} {out : Int × Int × Int × Int × Int × Int × (Nat → Int) × (Nat → Int) × (Nat → Int) × (Nat → Int)} (hf : f_HM_gains x1 x2 x3 x4 i_row i_thrown i_law i_broken i_value i_sum i_set i_rest i_high i_heaps = some out) : xc_I l ev (dC, dI) vwCl (tyl cA) yX11_gains w_HM_gains rm_HM_gains [.ref q0, .int (Int32.ofInt x1), .int (Int32.ofInt x2), .int (Int32.ofInt x3), .int (Int32.ofInt x4)] (wd_HM_gains cA q0 q1 q2 q3 q4 q5 q6 q7 q8 q9 q10 q11 q12 q13 q14 q15 q16 q17 q18 q19 q20 q21 q22 q23 q24 q25 q26 q27 q28 q29 q30 q31 u0 u1 u2 u3 u4 u5 u6 u7 u8 u9 u10 u11 u12 u13 u14 u15 u16 i_row i_thrown i_law i_broken i_value i_sum i_set i_rest i_high i_heaps) (wf_HM_gains cA q0 q1 q2 q3 q4 q5 q6 q7 q8 q9 q10 q11 q12 q13 q14 q15 q16 q17 q18 q19 q20 q21 q22 q23 q24 q25 q26 q27 q28 q29 q30 q31 u0 u1 u2 u3 u4 u5 u6 u7 u8 u9 u10 u11 u12 u13 u14 u15 u16 i_row out) out.1 := by
  refine xv_startI (cc := cX11_gains) (maxL := 6) (rt := .int) (by decide +kernel) rfl (Nat.le_of_ble_eq_true rfl) ?_
  intro p e s m args below meth c A Q H ls hx hb hml hts hown hK hA hP hD hS hl hE hret
  have hown : s.vm.findClass "HillSchoolModel" = some m.cls := hown
  have hz : ∀ w ∈ zall, w.before args s = true := fun w h => hts w (List.mem_cons_of_mem _ h)
  have hl : lv_has ls 6 [(0, .ref q0), (1, .int (Int32.ofInt x1)), (2, .int (Int32.ofInt x2)), (3, .int (Int32.ofInt x3)), (4, .int (Int32.ofInt x4))] := hl
  unfold f_HM_gains at hf
  refine lv_aload_n hx hb dX11_gains_0 rfl (lv_at hl 0 rfl) ?_
  refine lv_iconst (v := Int32.ofInt 0) hx hb dX11_gains_1 rfl ?_
  refine va_put (D := (dC, dI)) (ci := 11) (v := .int (Int32.ofInt 0)) (ty := .int) (C := RX11) (T := TX11) (N := 53) hx hb hz zi_X11 tyX11 tyX11_ok nmX11 hown hK hP hD hS 0 rfl rfl 0 (by decide) (hz _ zw_1165) (fun _ h9 => h9) rfl (by decide +kernel) rfl rfl (Nat.le_of_ble_eq_true rfl) dX11_gains_2 (fun H locs hP hD hS => ?_)
  have hP : va_P (dC, dI) vwCl (wd_HM_gains cA q0 q1 q2 q3 q4 q5 q6 q7 q8 q9 q10 q11 q12 q13 q14 q15 q16 q17 q18 q19 q20 q21 q22 q23 q24 q25 q26 q27 q28 q29 q30 q31 u0 u1 u2 u3 u4 u5 u6 u7 u8 u9 u10 u11 u12 u13 u14 u15 u16 i_row 0 i_law i_broken i_value i_sum i_set i_rest i_high i_heaps) H := hP
  have hD : va_D A (wd_HM_gains cA q0 q1 q2 q3 q4 q5 q6 q7 q8 q9 q10 q11 q12 q13 q14 q15 q16 q17 q18 q19 q20 q21 q22 q23 q24 q25 q26 q27 q28 q29 q30 q31 u0 u1 u2 u3 u4 u5 u6 u7 u8 u9 u10 u11 u12 u13 u14 u15 u16 i_row 0 i_law i_broken i_value i_sum i_set i_rest i_high i_heaps) := hD
  refine lv_aload_n hx hb dX11_gains_5 rfl (lv_at hl 0 rfl) ?_
  refine lv_iload_n hx hb dX11_gains_6 rfl (lv_at hl 1 rfl) ?_
  refine xe_d1 hf (fun v1 hg hf => ?_)
  have hC : ([0, 1] : List Nat).map (fun i => (wd_HM_gains cA q0 q1 q2 q3 q4 q5 q6 q7 q8 q9 q10 q11 q12 q13 q14 q15 q16 q17 q18 q19 q20 q21 q22 q23 q24 q25 q26 q27 q28 q29 q30 q31 u0 u1 u2 u3 u4 u5 u6 u7 u8 u9 u10 u11 u12 u13 u14 u15 u16 i_row 0 i_law i_broken i_value i_sum i_set i_rest i_high i_heaps)[i]?) = (wd_HM_isParish cA q0 q1 q2 q3 q4 q5 q6 q7 q8 q9 q10 q11 q12 q13 q14 q15 q16 q17 q18 q19 q20 q21 q22 q23 q24 q25 q26 q27 q28 q29 q30 q31 0 u0 u1 u2 u3 u4 u5 u6 u7 u8 u9 u10 u11 u12 u13 i_law i_broken i_value i_sum u14 u15 u16 i_row).map some := rfl
  refine xv_afterI (ws' := (wd_HM_gains cA q0 q1 q2 q3 q4 q5 q6 q7 q8 q9 q10 q11 q12 q13 q14 q15 q16 q17 q18 q19 q20 q21 q22 q23 q24 q25 q26 q27 q28 q29 q30 q31 u0 u1 u2 u3 u4 u5 u6 u7 u8 u9 u10 u11 u12 u13 u14 u15 u16 i_row 0 i_law i_broken i_value i_sum i_set i_rest i_high i_heaps)) (isC := [0, 1]) (ps := [some 0, some 1, none, none, none, none]) (va_runV (As := [.int (Int32.ofInt x1)]) (rest := []) ⟨hx, hb, hml, hown, hts⟩ (c_HM_isParish l ev dC dI cA q0 q1 q2 q3 q4 q5 q6 q7 q8 q9 q10 q11 q12 q13 q14 q15 q16 q17 q18 q19 q20 q21 q22 q23 q24 q25 q26 q27 q28 q29 q30 q31 0 u0 u1 u2 u3 u4 u5 u6 u7 u8 u9 u10 u11 u12 u13 i_law i_broken i_value i_sum u14 u15 u16 hg H.size) (cwV 1 hts (zgV zw_1634 zw_1636 zw_80 zw_115 zw_1637) rfl rfl rfl hd_HM_isParish ⟨Nat.le_of_ble_eq_true rfl, Nat.le_of_ble_eq_true rfl⟩) (xv_preV (T := TX11) (N := 53) hE hA hS hK hP hD (isC := [0, 1]) (by decide +kernel) hC (q0 := 0) (ci := 11) rfl rfl) rfl rfl hl.1 rfl (lv_room (Nat.le_of_ble_eq_true rfl)) dX11_gains_7 ⟨Nat.le_refl _, Nat.le_refl _⟩) hP hD hS hA (by decide +kernel) rfl hC rfl rfl (fun H locs hP hD hS => ?_)
  refine xi_if_eq (tgt := 24) hx hb dX11_gains_10 (by decide) hf (fun hf => ?_) (fun hf => ?_)
  · refine lv_sipush (v := Int32.ofInt (-1000)) hx hb dX11_gains_24 (by decide) ?_
    obtain rfl := Option.some.inj hf
    exact hret _ _ _ _ rfl dX11_gains_27 hP hD hS
  · refine lv_aload_n hx hb dX11_gains_13 rfl (lv_at hl 0 rfl) ?_
    refine lv_iload_n hx hb dX11_gains_14 rfl (lv_at hl 2 rfl) ?_
    refine lv_iload_n hx hb dX11_gains_15 rfl (lv_at hl 3 rfl) ?_
    refine lv_iload hx hb dX11_gains_16 (lv_at hl 4 rfl) ?_
    refine xe_d1 hf (fun v2 hg hf => ?_)
    have hC : ([0, 1] : List Nat).map (fun i => (wd_HM_gains cA q0 q1 q2 q3 q4 q5 q6 q7 q8 q9 q10 q11 q12 q13 q14 q15 q16 q17 q18 q19 q20 q21 q22 q23 q24 q25 q26 q27 q28 q29 q30 q31 u0 u1 u2 u3 u4 u5 u6 u7 u8 u9 u10 u11 u12 u13 u14 u15 u16 i_row 0 i_law i_broken i_value i_sum i_set i_rest i_high i_heaps)[i]?) = (wd_HM_are cA q0 q1 q2 q3 q4 q5 q6 q7 q8 q9 q10 q11 q12 q13 q14 q15 q16 q17 q18 q19 q20 q21 q22 q23 q24 q25 q26 q27 q28 q29 q30 q31 0 u0 u1 u2 u3 u4 u5 u6 u7 u8 u9 u10 u11 u12 u13 i_law i_broken i_value i_sum u14 u15 u16 i_row).map some := rfl
    refine xv_afterI (ws' := (wd_HM_gains cA q0 q1 q2 q3 q4 q5 q6 q7 q8 q9 q10 q11 q12 q13 q14 q15 q16 q17 q18 q19 q20 q21 q22 q23 q24 q25 q26 q27 q28 q29 q30 q31 u0 u1 u2 u3 u4 u5 u6 u7 u8 u9 u10 u11 u12 u13 u14 u15 u16 i_row 0 i_law i_broken i_value i_sum i_set i_rest i_high i_heaps)) (isC := [0, 1]) (ps := [some 0, some 1, none, none, none, none]) (va_runV (As := [.int (Int32.ofInt x2), .int (Int32.ofInt x3), .int (Int32.ofInt x4)]) (rest := []) ⟨hx, hb, hml, hown, hts⟩ (c_HM_are l ev dC dI cA q0 q1 q2 q3 q4 q5 q6 q7 q8 q9 q10 q11 q12 q13 q14 q15 q16 q17 q18 q19 q20 q21 q22 q23 q24 q25 q26 q27 q28 q29 q30 q31 0 u0 u1 u2 u3 u4 u5 u6 u7 u8 u9 u10 u11 u12 u13 i_law i_broken i_value i_sum u14 u15 u16 hg H.size) (cwV 3 hts (zgV zw_1545 zw_1547 zw_65 zw_115 zw_1548) rfl rfl rfl hd_HM_are ⟨Nat.le_of_ble_eq_true rfl, Nat.le_of_ble_eq_true rfl⟩) (xv_preV (T := TX11) (N := 53) hE hA hS hK hP hD (isC := [0, 1]) (by decide +kernel) hC (q0 := 0) (ci := 11) rfl rfl) rfl rfl hl.1 rfl (lv_room (Nat.le_of_ble_eq_true rfl)) dX11_gains_18 ⟨Nat.le_refl _, Nat.le_refl _⟩) hP hD hS hA (by decide +kernel) rfl hC rfl rfl (fun H locs hP hD hS => ?_)
    refine xi_if_ne (tgt := 28) hx hb dX11_gains_21 (by decide) hf (fun hf => ?_) (fun hf => ?_)
    · refine lv_aload_n hx hb dX11_gains_28 rfl (lv_at hl 0 rfl) ?_
      refine xe_d2 hf (fun a3 a4 hg hf => ?_)
      have hC : ([0, 1, 4, 5] : List Nat).map (fun i => (wd_HM_gains cA q0 q1 q2 q3 q4 q5 q6 q7 q8 q9 q10 q11 q12 q13 q14 q15 q16 q17 q18 q19 q20 q21 q22 q23 q24 q25 q26 q27 q28 q29 q30 q31 u0 u1 u2 u3 u4 u5 u6 u7 u8 u9 u10 u11 u12 u13 u14 u15 u16 i_row 0 i_law i_broken i_value i_sum i_set i_rest i_high i_heaps)[i]?) = (wd_HM_load cA q0 q1 q2 q3 q4 q5 q6 q7 q8 q9 q10 q11 q12 q13 q14 q15 q16 q17 q18 q19 q20 q21 q22 q23 q24 q25 q26 q27 q28 q29 q30 q31 0 u0 u1 u2 u3 u4 u5 u6 u7 u8 u9 u10 u11 u12 u13 i_law i_broken i_value i_sum u14 u15 u16 i_row i_high i_heaps).map some := rfl
      refine xv_afterV (ws' := (wd_HM_gains cA q0 q1 q2 q3 q4 q5 q6 q7 q8 q9 q10 q11 q12 q13 q14 q15 q16 q17 q18 q19 q20 q21 q22 q23 q24 q25 q26 q27 q28 q29 q30 q31 u0 u1 u2 u3 u4 u5 u6 u7 u8 u9 u10 u11 u12 u13 u14 u15 u16 i_row 0 i_law i_broken i_value i_sum i_set i_rest a3 a4)) (isC := [0, 1, 4, 5]) (ps := [some 0, some 1, none, none, some 2, some 3]) (va_runV (As := []) (rest := []) ⟨hx, hb, hml, hown, hts⟩ (c_HM_load l ev dC dI cA q0 q1 q2 q3 q4 q5 q6 q7 q8 q9 q10 q11 q12 q13 q14 q15 q16 q17 q18 q19 q20 q21 q22 q23 q24 q25 q26 q27 q28 q29 q30 q31 0 u0 u1 u2 u3 u4 u5 u6 u7 u8 u9 u10 u11 u12 u13 i_law i_broken i_value i_sum u14 u15 u16 hg H.size) (cwV 0 hts (zgV zw_1549 zw_1551 zw_66 zw_115 zw_1552) rfl rfl rfl hd_HM_load ⟨Nat.le_of_ble_eq_true rfl, Nat.le_of_ble_eq_true rfl⟩) (xv_preV (T := TX11) (N := 53) hE hA hS hK hP hD (isC := [0, 1, 4, 5]) (by decide +kernel) hC (q0 := 0) (ci := 11) rfl rfl) rfl rfl hl.1 rfl (lv_room (Nat.le_of_ble_eq_true rfl)) dX11_gains_29 ⟨Nat.le_refl _, Nat.le_refl _⟩) hP hD hS hA (by decide +kernel) rfl hC rfl rfl (fun H locs hP hD hS => ?_)
      refine lv_aload_n hx hb dX11_gains_32 rfl (lv_at hl 0 rfl) ?_
      refine lv_iload_n hx hb dX11_gains_33 rfl (lv_at hl 2 rfl) ?_
      refine lv_iload_n hx hb dX11_gains_34 rfl (lv_at hl 3 rfl) ?_
      refine lv_iload hx hb dX11_gains_35 (lv_at hl 4 rfl) ?_
      refine xe_d7 hf (fun v5 v6 v7 v8 v9 a10 a11 hg hf => ?_)
      have hC : ([0, 1, 2, 3, 4, 5] : List Nat).map (fun i => (wd_HM_gains cA q0 q1 q2 q3 q4 q5 q6 q7 q8 q9 q10 q11 q12 q13 q14 q15 q16 q17 q18 q19 q20 q21 q22 q23 q24 q25 q26 q27 q28 q29 q30 q31 u0 u1 u2 u3 u4 u5 u6 u7 u8 u9 u10 u11 u12 u13 u14 u15 u16 i_row 0 i_law i_broken i_value i_sum i_set i_rest a3 a4)[i]?) = (wd_HM_carrying cA q0 q1 q2 q3 q4 q5 q6 q7 q8 q9 q10 q11 q12 q13 q14 q15 q16 q17 q18 q19 q20 q21 q22 q23 q24 q25 q26 q27 q28 q29 q30 q31 0 u0 u1 u2 u3 u4 u5 u6 u7 u8 u9 u10 u11 u12 u13 u14 u15 u16 i_row a3 a4 i_law i_broken i_value i_sum i_set i_rest).map some := rfl
      refine xv_afterI (ws' := (wd_HM_gains cA q0 q1 q2 q3 q4 q5 q6 q7 q8 q9 q10 q11 q12 q13 q14 q15 q16 q17 q18 q19 q20 q21 q22 q23 q24 q25 q26 q27 q28 q29 q30 q31 u0 u1 u2 u3 u4 u5 u6 u7 u8 u9 u10 u11 u12 u13 u14 u15 u16 i_row 0 v6 v7 v8 v9 a10 a11 a3 a4)) (isC := [0, 1, 2, 3, 4, 5]) (ps := [some 0, some 1, some 2, some 3, some 4, some 5]) (va_runV (As := [.int (Int32.ofInt x2), .int (Int32.ofInt x3), .int (Int32.ofInt x4)]) (rest := []) ⟨hx, hb, hml, hown, hts⟩ (c_HM_carrying l ev dC dI cA q0 q1 q2 q3 q4 q5 q6 q7 q8 q9 q10 q11 q12 q13 q14 q15 q16 q17 q18 q19 q20 q21 q22 q23 q24 q25 q26 q27 q28 q29 q30 q31 0 u0 u1 u2 u3 u4 u5 u6 u7 u8 u9 u10 u11 u12 u13 u14 u15 u16 hg H.size) (cwV 3 hts (zgV zw_1553 zw_1555 zw_67 zw_115 zw_1556) rfl rfl rfl hd_HM_carrying ⟨Nat.le_of_ble_eq_true rfl, Nat.le_of_ble_eq_true rfl⟩) (xv_preV (T := TX11) (N := 53) hE hA hS hK hP hD (isC := [0, 1, 2, 3, 4, 5]) (by decide +kernel) hC (q0 := 0) (ci := 11) rfl rfl) rfl rfl hl.1 rfl (lv_room (Nat.le_of_ble_eq_true rfl)) dX11_gains_37 ⟨Nat.le_refl _, Nat.le_refl _⟩) hP hD hS hA (by decide +kernel) rfl hC rfl rfl (fun H locs hP hD hS => ?_)
      refine lv_iconst (v := Int32.ofInt (-1)) hx hb dX11_gains_40 rfl ?_
      refine xi_icmp_ne (tgt := 48) hx hb dX11_gains_41 (by decide) hf (fun hf => ?_) (fun hf => ?_)
      · refine lv_aload_n hx hb dX11_gains_48 rfl (lv_at hl 0 rfl) ?_
        refine lv_aload_n hx hb dX11_gains_49 rfl (lv_at hl 0 rfl) ?_
        refine va_get (D := (dC, dI)) (ci := 11) (v := .ref q2) (C := RX11) (T := TX11) (N := 53) hx hb hz zi_X11 hown hK hP 0 rfl rfl 3 (by decide) (hz _ zw_1168) (fun _ h9 => h9) rfl dX11_gains_50 ?_
        refine lv_sipush (v := Int32.ofInt 171) hx hb dX11_gains_53 (by decide) ?_
        refine lv_iload_n hx hb dX11_gains_56 rfl (lv_at hl 1 rfl) ?_
        refine xi_iadd hx hb dX11_gains_57 hf (fun v12 hf => ?_)
        refine xi_iald hx hb hK hP 1 0 rfl rfl dX11_gains_58 hf (fun v13 hf => ?_)
        refine xe_d1 hf (fun v14 hg hf => ?_)
        have hC : ([0, 1, 4] : List Nat).map (fun i => (wd_HM_gains cA q0 q1 q2 q3 q4 q5 q6 q7 q8 q9 q10 q11 q12 q13 q14 q15 q16 q17 q18 q19 q20 q21 q22 q23 q24 q25 q26 q27 q28 q29 q30 q31 u0 u1 u2 u3 u4 u5 u6 u7 u8 u9 u10 u11 u12 u13 u14 u15 u16 i_row 0 v6 v7 v8 v9 a10 a11 a3 a4)[i]?) = (wd_HM_shadeAt cA q0 q1 q2 q3 q4 q5 q6 q7 q8 q9 q10 q11 q12 q13 q14 q15 q16 q17 q18 q19 q20 q21 q22 q23 q24 q25 q26 q27 q28 q29 q30 q31 0 u0 u1 u2 u3 u4 u5 u6 u7 u8 u9 u10 u11 u12 u13 v6 v7 v8 v9 u14 u15 u16 i_row a3).map some := rfl
        refine xv_afterI (ws' := (wd_HM_gains cA q0 q1 q2 q3 q4 q5 q6 q7 q8 q9 q10 q11 q12 q13 q14 q15 q16 q17 q18 q19 q20 q21 q22 q23 q24 q25 q26 q27 q28 q29 q30 q31 u0 u1 u2 u3 u4 u5 u6 u7 u8 u9 u10 u11 u12 u13 u14 u15 u16 i_row 0 v6 v7 v8 v9 a10 a11 a3 a4)) (isC := [0, 1, 4]) (ps := [some 0, some 1, none, none, some 2, none]) (va_runV (As := [.int (Int32.ofInt v13)]) (rest := []) ⟨hx, hb, hml, hown, hts⟩ (c_HM_shadeAt l ev dC dI cA q0 q1 q2 q3 q4 q5 q6 q7 q8 q9 q10 q11 q12 q13 q14 q15 q16 q17 q18 q19 q20 q21 q22 q23 q24 q25 q26 q27 q28 q29 q30 q31 0 u0 u1 u2 u3 u4 u5 u6 u7 u8 u9 u10 u11 u12 u13 v6 v7 v8 v9 u14 u15 u16 hg H.size) (cwV 1 hts (zgV zw_1630 zw_1632 zw_79 zw_115 zw_1633) rfl rfl rfl hd_HM_shadeAt ⟨Nat.le_of_ble_eq_true rfl, Nat.le_of_ble_eq_true rfl⟩) (xv_preV (T := TX11) (N := 53) hE hA hS hK hP hD (isC := [0, 1, 4]) (by decide +kernel) hC (q0 := 0) (ci := 11) rfl rfl) rfl rfl hl.1 rfl (lv_room (Nat.le_of_ble_eq_true rfl)) dX11_gains_59 ⟨Nat.le_refl _, Nat.le_refl _⟩) hP hD hS hA (by decide +kernel) rfl hC rfl rfl (fun H locs hP hD hS => ?_)
        refine lv_istore (lv' := [(5, .int (Int32.ofInt v14)), (0, .ref q0), (1, .int (Int32.ofInt x1)), (2, .int (Int32.ofInt x2)), (3, .int (Int32.ofInt x3)), (4, .int (Int32.ofInt x4))]) hx hb dX11_gains_62 hl (by decide) rfl (fun ls hl => ?_)
        refine lv_aload_n hx hb dX11_gains_64 rfl (lv_at hl 1 rfl) ?_
        refine lv_iload_n hx hb dX11_gains_65 rfl (lv_at hl 4 rfl) ?_
        refine lv_iload hx hb dX11_gains_66 (lv_at hl 5 rfl) ?_
        refine xe_d2 hf (fun a15 a16 hg hf => ?_)
        have hC : ([0, 4, 5] : List Nat).map (fun i => (wd_HM_gains cA q0 q1 q2 q3 q4 q5 q6 q7 q8 q9 q10 q11 q12 q13 q14 q15 q16 q17 q18 q19 q20 q21 q22 q23 q24 q25 q26 q27 q28 q29 q30 q31 u0 u1 u2 u3 u4 u5 u6 u7 u8 u9 u10 u11 u12 u13 u14 u15 u16 i_row 0 v6 v7 v8 v9 a10 a11 a3 a4)[i]?) = (wd_HM_shift cA q0 q1 q2 q3 q4 q5 q6 q7 q8 q9 q10 q11 q12 q13 q14 q15 q16 q17 q18 q19 q20 q21 q22 q23 q24 q25 q26 q27 q28 q29 q30 q31 0 u0 u1 u2 u3 u4 u5 u6 u7 u8 u9 u10 u11 u12 u13 v6 v7 v8 v9 u14 u15 u16 a3 a4).map some := rfl
        refine xv_afterV (ws' := (wd_HM_gains cA q0 q1 q2 q3 q4 q5 q6 q7 q8 q9 q10 q11 q12 q13 q14 q15 q16 q17 q18 q19 q20 q21 q22 q23 q24 q25 q26 q27 q28 q29 q30 q31 u0 u1 u2 u3 u4 u5 u6 u7 u8 u9 u10 u11 u12 u13 u14 u15 u16 i_row 0 v6 v7 v8 v9 a10 a11 a15 a16)) (isC := [0, 4, 5]) (ps := [some 0, none, none, none, some 1, some 2]) (va_runV (As := [.int (Int32.ofInt x3), .int (Int32.ofInt x4)]) (rest := []) ⟨hx, hb, hml, hown, hts⟩ (c_HM_shift l ev dC dI cA q0 q1 q2 q3 q4 q5 q6 q7 q8 q9 q10 q11 q12 q13 q14 q15 q16 q17 q18 q19 q20 q21 q22 q23 q24 q25 q26 q27 q28 q29 q30 q31 0 u0 u1 u2 u3 u4 u5 u6 u7 u8 u9 u10 u11 u12 u13 v6 v7 v8 v9 u14 u15 u16 hg H.size) (cwV 2 hts (zgV zw_1590 zw_1592 zw_73 zw_115 zw_1593) rfl rfl rfl hd_HM_shift ⟨Nat.le_of_ble_eq_true rfl, Nat.le_of_ble_eq_true rfl⟩) (xv_preV (T := TX11) (N := 53) hE hA hS hK hP hD (isC := [0, 4, 5]) (by decide +kernel) hC (q0 := 0) (ci := 11) rfl rfl) rfl rfl hl.1 rfl (lv_room (Nat.le_of_ble_eq_true rfl)) dX11_gains_68 ⟨Nat.le_refl _, Nat.le_refl _⟩) hP hD hS hA (by decide +kernel) rfl hC rfl rfl (fun H locs hP hD hS => ?_)
        refine lv_iload hx hb dX11_gains_71 (lv_at hl 0 rfl) ?_
        refine lv_aload_n hx hb dX11_gains_73 rfl (lv_at hl 1 rfl) ?_
        refine lv_aload_n hx hb dX11_gains_74 rfl (lv_at hl 1 rfl) ?_
        refine va_get (D := (dC, dI)) (ci := 11) (v := .ref q2) (C := RX11) (T := TX11) (N := 53) hx hb hz zi_X11 hown hK hP 0 rfl rfl 3 (by decide) (hz _ zw_1168) (fun _ h9 => h9) rfl dX11_gains_75 ?_
        refine lv_sipush (v := Int32.ofInt 171) hx hb dX11_gains_78 (by decide) ?_
        refine lv_iload_n hx hb dX11_gains_81 rfl (lv_at hl 2 rfl) ?_
        refine xi_iadd hx hb dX11_gains_82 hf (fun v17 hf => ?_)
        refine xi_iald hx hb hK hP 1 0 rfl rfl dX11_gains_83 hf (fun v18 hf => ?_)
        refine xe_d1 hf (fun v19 hg hf => ?_)
        have hC : ([0, 1, 4] : List Nat).map (fun i => (wd_HM_gains cA q0 q1 q2 q3 q4 q5 q6 q7 q8 q9 q10 q11 q12 q13 q14 q15 q16 q17 q18 q19 q20 q21 q22 q23 q24 q25 q26 q27 q28 q29 q30 q31 u0 u1 u2 u3 u4 u5 u6 u7 u8 u9 u10 u11 u12 u13 u14 u15 u16 i_row 0 v6 v7 v8 v9 a10 a11 a15 a16)[i]?) = (wd_HM_shadeAt cA q0 q1 q2 q3 q4 q5 q6 q7 q8 q9 q10 q11 q12 q13 q14 q15 q16 q17 q18 q19 q20 q21 q22 q23 q24 q25 q26 q27 q28 q29 q30 q31 0 u0 u1 u2 u3 u4 u5 u6 u7 u8 u9 u10 u11 u12 u13 v6 v7 v8 v9 u14 u15 u16 i_row a15).map some := rfl
        refine xv_afterI (ws' := (wd_HM_gains cA q0 q1 q2 q3 q4 q5 q6 q7 q8 q9 q10 q11 q12 q13 q14 q15 q16 q17 q18 q19 q20 q21 q22 q23 q24 q25 q26 q27 q28 q29 q30 q31 u0 u1 u2 u3 u4 u5 u6 u7 u8 u9 u10 u11 u12 u13 u14 u15 u16 i_row 0 v6 v7 v8 v9 a10 a11 a15 a16)) (isC := [0, 1, 4]) (ps := [some 0, some 1, none, none, some 2, none]) (va_runV (As := [.int (Int32.ofInt v18)]) (rest := [.int (Int32.ofInt v14)]) ⟨hx, hb, hml, hown, hts⟩ (c_HM_shadeAt l ev dC dI cA q0 q1 q2 q3 q4 q5 q6 q7 q8 q9 q10 q11 q12 q13 q14 q15 q16 q17 q18 q19 q20 q21 q22 q23 q24 q25 q26 q27 q28 q29 q30 q31 0 u0 u1 u2 u3 u4 u5 u6 u7 u8 u9 u10 u11 u12 u13 v6 v7 v8 v9 u14 u15 u16 hg H.size) (cwV 1 hts (zgV zw_1630 zw_1632 zw_79 zw_115 zw_1633) rfl rfl rfl hd_HM_shadeAt ⟨Nat.le_of_ble_eq_true rfl, Nat.le_of_ble_eq_true rfl⟩) (xv_preV (T := TX11) (N := 53) hE hA hS hK hP hD (isC := [0, 1, 4]) (by decide +kernel) hC (q0 := 0) (ci := 11) rfl rfl) rfl rfl hl.1 rfl (lv_room (Nat.le_of_ble_eq_true rfl)) dX11_gains_84 ⟨Nat.le_refl _, Nat.le_refl _⟩) hP hD hS hA (by decide +kernel) rfl hC rfl rfl (fun H locs hP hD hS => ?_)
        refine xi_isub hx hb dX11_gains_87 hf (fun v20 hf => ?_)
        obtain rfl := Option.some.inj hf
        exact hret _ _ _ _ rfl dX11_gains_88 hP hD hS
      · refine lv_sipush (v := Int32.ofInt (-1000)) hx hb dX11_gains_44 (by decide) ?_
        obtain rfl := Option.some.inj hf
        exact hret _ _ _ _ rfl dX11_gains_47 hP hD hS
    · refine lv_sipush (v := Int32.ofInt (-1000)) hx hb dX11_gains_24 (by decide) ?_
      obtain rfl := Option.some.inj hf
      exact hret _ _ _ _ rfl dX11_gains_27 hP hD hS
theorem dX11_goal_0 : decode cX11_goal 0 = .ok (.aload_n 0, 1) := by decide +kernel
theorem dX11_goal_1 : decode cX11_goal 1 = .ok (.iconst 0, 1) := by decide +kernel
theorem dX11_goal_2 : decode cX11_goal 2 = .ok (.putfield 126, 3) := by decide +kernel
theorem dX11_goal_5 : decode cX11_goal 5 = .ok (.iload_n 2, 1) := by decide +kernel
theorem dX11_goal_6 : decode cX11_goal 6 = .ok (.i2l, 1) := by decide +kernel
theorem dX11_goal_7 : decode cX11_goal 7 = .ok (.ldc2_w 212, 3) := by decide +kernel
theorem dX11_goal_10 : decode cX11_goal 10 = .ok (.ldc2_w 216, 3) := by decide +kernel
theorem dX11_goal_13 : decode cX11_goal 13 = .ok (.invokestatic 132, 3) := by decide +kernel
theorem dX11_goal_16 : decode cX11_goal 16 = .ok (.ifCond .ne 19, 3) := by decide +kernel
theorem dX11_goal_19 : decode cX11_goal 19 = .ok (.aload_n 0, 1) := by decide +kernel
theorem dX11_goal_20 : decode cX11_goal 20 = .ok (.iconst (-1), 1) := by decide +kernel
theorem dX11_goal_21 : decode cX11_goal 21 = .ok (.invokevirtual 136, 3) := by decide +kernel
theorem dX11_goal_24 : decode cX11_goal 24 = .ok (.ifCond .ge 9, 3) := by decide +kernel
theorem dX11_goal_27 : decode cX11_goal 27 = .ok (.sipush (-1000), 3) := by decide +kernel
theorem dX11_goal_30 : decode cX11_goal 30 = .ok (.goto 4, 3) := by decide +kernel
theorem dX11_goal_33 : decode cX11_goal 33 = .ok (.iconst 0, 1) := by decide +kernel
theorem dX11_goal_34 : decode cX11_goal 34 = .ok (.ireturn, 1) := by decide +kernel
theorem dX11_goal_35 : decode cX11_goal 35 = .ok (.aload_n 0, 1) := by decide +kernel
theorem dX11_goal_36 : decode cX11_goal 36 = .ok (.iload_n 1, 1) := by decide +kernel
theorem dX11_goal_37 : decode cX11_goal 37 = .ok (.invokevirtual 150, 3) := by decide +kernel
theorem dX11_goal_40 : decode cX11_goal 40 = .ok (.ifCond .ne 20, 3) := by decide +kernel
theorem dX11_goal_43 : decode cX11_goal 43 = .ok (.aload_n 0, 1) := by decide +kernel
theorem dX11_goal_44 : decode cX11_goal 44 = .ok (.bipush (-2), 2) := by decide +kernel
theorem dX11_goal_46 : decode cX11_goal 46 = .ok (.invokevirtual 136, 3) := by decide +kernel
theorem dX11_goal_49 : decode cX11_goal 49 = .ok (.ifCond .ge 9, 3) := by decide +kernel
theorem dX11_goal_52 : decode cX11_goal 52 = .ok (.sipush (-1000), 3) := by decide +kernel
theorem dX11_goal_55 : decode cX11_goal 55 = .ok (.goto 4, 3) := by decide +kernel
theorem dX11_goal_58 : decode cX11_goal 58 = .ok (.iconst 0, 1) := by decide +kernel
theorem dX11_goal_59 : decode cX11_goal 59 = .ok (.ireturn, 1) := by decide +kernel
theorem dX11_goal_60 : decode cX11_goal 60 = .ok (.aload_n 0, 1) := by decide +kernel
theorem dX11_goal_61 : decode cX11_goal 61 = .ok (.sipush 141, 3) := by decide +kernel
theorem dX11_goal_64 : decode cX11_goal 64 = .ok (.iload_n 1, 1) := by decide +kernel
theorem dX11_goal_65 : decode cX11_goal 65 = .ok (.iadd, 1) := by decide +kernel
theorem dX11_goal_66 : decode cX11_goal 66 = .ok (.iload_n 2, 1) := by decide +kernel
theorem dX11_goal_67 : decode cX11_goal 67 = .ok (.invokevirtual 158, 3) := by decide +kernel
theorem dX11_goal_70 : decode cX11_goal 70 = .ok (.ireturn, 1) := by decide +kernel
theorem zw_1645 : (Jvm.Cond.code ({ cls := "HillSchoolModel", name := "goal", desc := "(II)I" } : Jvm.MethodName) prog_13_method_80_code (3 : Nat) (Option.some Jvm.ClassFile.FieldType.int)) ∈ zall := zmemG (zmj_7 102 rfl) rfl
abbrev w_HM_goal : List Cond := .code yX11_goal cX11_goal 3 (some .int) :: zall
abbrev rm_HM_goal : Room := { frames := 2, cells := 0, slots := 0, locals := 46 }
theorem hd_HM_goal : yX11_goal.cls = "HillSchoolModel" ∧ yX11_goal.cls ≠ "java/lang/invoke/MethodHandle" ∧ yX11_goal.cls ≠ "java/lang/invoke/VarHandle" ∧ (parseMethodDescriptor yX11_goal.desc).map (fun d => d.parameters.length) = some 2 := by decide +kernel
def wd_HM_goal (cA : Nat → ClassId) (q0 q1 q2 q3 q4 q5 q6 q7 q8 q9 q10 q11 q12 q13 q14 q15 q16 q17 q18 q19 q20 q21 q22 q23 q24 q25 q26 q27 q28 q29 q30 q31 : Nat) (u0 u1 u2 u3 u4 u5 u6 u7 u8 u9 u10 u11 u12 u13 u14 u15 u16 u17 u18 u19 : Int)  (i_thrown : Int) (i_status : Int) (i_refusals : Nat → Int) (i_row : Nat → Int) : va_W := [(q0, .inr (11, [.int (Int32.ofInt i_thrown), .int (Int32.ofInt i_status), .ref q1, .ref q2, .ref q3, .ref q4, .int (Int32.ofInt u0), .ref q5, .int (Int32.ofInt u1), .int (Int32.ofInt u2), .int (Int32.ofInt u3), .int (Int32.ofInt u4), .long (Int64.ofInt u5), .int (Int32.ofInt u6), .int (Int32.ofInt u7), .int (Int32.ofInt u8), .ref q6, .int (Int32.ofInt u9), .ref q7, .ref q8, .int (Int32.ofInt u10), .ref q9, .ref q10, .int (Int32.ofInt u11), .int (Int32.ofInt u12), .ref q11, .int (Int32.ofInt u13), .ref q12, .ref q13, .int (Int32.ofInt u14), .long (Int64.ofInt u15), .long (Int64.ofInt u16), .ref q14, .ref q15, .ref q16, .ref q17, .ref q18, .int (Int32.ofInt u17), .ref q19, .ref q20, .ref q21, .ref q22, .ref q23, .ref q24, .ref q25, .ref q26, .ref q27, .ref q28, .ref q29, .ref q30, .long (Int64.ofInt u18), .ref q31, .int (Int32.ofInt u19)])), (q1, .inl (cA 0, 7, .inl (za i_refusals))), (q2, .inl (cA 0, 5580, .inl (za i_row)))]
def wf_HM_goal (cA : Nat → ClassId) (q0 q1 q2 q3 q4 q5 q6 q7 q8 q9 q10 q11 q12 q13 q14 q15 q16 q17 q18 q19 q20 q21 q22 q23 q24 q25 q26 q27 q28 q29 q30 q31 : Nat) (u0 u1 u2 u3 u4 u5 u6 u7 u8 u9 u10 u11 u12 u13 u14 u15 u16 u17 u18 u19 : Int)  (o : Int × Int × Int × (Nat → Int) × (Nat → Int)) : va_W := wd_HM_goal cA q0 q1 q2 q3 q4 q5 q6 q7 q8 q9 q10 q11 q12 q13 q14 q15 q16 q17 q18 q19 q20 q21 q22 q23 q24 q25 q26 q27 q28 q29 q30 q31 u0 u1 u2 u3 u4 u5 u6 u7 u8 u9 u10 u11 u12 u13 u14 u15 u16 u17 u18 u19 o.2.1 o.2.2.1 o.2.2.2.1 o.2.2.2.2
def f_HM_goal (x1 : Int) (x2 : Int) (i_thrown : Int) (i_status : Int) (i_refusals : Nat → Int) (i_row : Nat → Int) : Option (Int × Int × Int × (Nat → Int) × (Nat → Int)) :=
  zn (zi_w x2) fun v1 =>
  zd1 (f_HM_in v1 (-1) 10) fun v2 =>
  if zi_w v2 ≠ 0 then
    zd1 (f_HM_isColumn x1 i_row) fun v3 =>
    if zi_w v3 ≠ 0 then
      zn (141 + x1) fun v4 =>
      zd3 (f_HM_change v4 x2 i_status i_row) fun v5 v6 a7 =>
      some (v5, 0, v6, i_refusals, a7)
    else
      zd3 (f_HM_tell (-2) i_status i_refusals) fun v8 v9 a10 =>
      if 0 ≤ zi_w v8 then
        some (0, 0, v9, a10, i_row)
      else
        some ((-1000), 0, v9, a10, i_row)
  else
    zd3 (f_HM_tell (-1) i_status i_refusals) fun v11 v12 a13 =>
    if 0 ≤ zi_w v11 then
      some (0, 0, v12, a13, i_row)
    else
      some ((-1000), 0, v12, a13, i_row)
set_option maxHeartbeats 4000000 in
set_option maxRecDepth 100000 in
theorem c_HM_goal (l : Launch) (ev : zEv) (dC : Nat → ClassId) (dI : Nat → Nat → Nat) (cA : Nat → ClassId) (q0 q1 q2 q3 q4 q5 q6 q7 q8 q9 q10 q11 q12 q13 q14 q15 q16 q17 q18 q19 q20 q21 q22 q23 q24 q25 q26 q27 q28 q29 q30 q31 : Nat) (u0 u1 u2 u3 u4 u5 u6 u7 u8 u9 u10 u11 u12 u13 u14 u15 u16 u17 u18 u19 : Int) {x1 x2 : Int} {i_thrown : Int} {i_status : Int} {i_refusals : Nat → Int} {i_row : Nat → Int} {out : Int × Int × Int × (Nat → Int) × (Nat → Int)} (hf : f_HM_goal x1 x2 i_thrown i_status i_refusals i_row = some out) : xc_I l ev (dC, dI) vwCl (tyl cA) yX11_goal w_HM_goal rm_HM_goal [.ref q0, .int (Int32.ofInt x1), .int (Int32.ofInt x2)] (wd_HM_goal cA q0 q1 q2 q3 q4 q5 q6 q7 q8 q9 q10 q11 q12 q13 q14 q15 q16 q17 q18 q19 q20 q21 q22 q23 q24 q25 q26 q27 q28 q29 q30 q31 u0 u1 u2 u3 u4 u5 u6 u7 u8 u9 u10 u11 u12 u13 u14 u15 u16 u17 u18 u19 i_thrown i_status i_refusals i_row) (wf_HM_goal cA q0 q1 q2 q3 q4 q5 q6 q7 q8 q9 q10 q11 q12 q13 q14 q15 q16 q17 q18 q19 q20 q21 q22 q23 q24 q25 q26 q27 q28 q29 q30 q31 u0 u1 u2 u3 u4 u5 u6 u7 u8 u9 u10 u11 u12 u13 u14 u15 u16 u17 u18 u19 out) out.1 := by
  refine xv_startI (cc := cX11_goal) (maxL := 3) (rt := .int) (by decide +kernel) rfl (Nat.le_of_ble_eq_true rfl) ?_
  intro p e s m args below meth c A Q H ls hx hb hml hts hown hK hA hP hD hS hl hE hret
  have hown : s.vm.findClass "HillSchoolModel" = some m.cls := hown
  have hz : ∀ w ∈ zall, w.before args s = true := fun w h => hts w (List.mem_cons_of_mem _ h)
  have hl : lv_has ls 3 [(0, .ref q0), (1, .int (Int32.ofInt x1)), (2, .int (Int32.ofInt x2))] := hl
  unfold f_HM_goal at hf
  refine lv_aload_n hx hb dX11_goal_0 rfl (lv_at hl 0 rfl) ?_
  refine lv_iconst (v := Int32.ofInt 0) hx hb dX11_goal_1 rfl ?_
  refine va_put (D := (dC, dI)) (ci := 11) (v := .int (Int32.ofInt 0)) (ty := .int) (C := RX11) (T := TX11) (N := 53) hx hb hz zi_X11 tyX11 tyX11_ok nmX11 hown hK hP hD hS 0 rfl rfl 0 (by decide) (hz _ zw_1165) (fun _ h9 => h9) rfl (by decide +kernel) rfl rfl (Nat.le_of_ble_eq_true rfl) dX11_goal_2 (fun H locs hP hD hS => ?_)
  have hP : va_P (dC, dI) vwCl (wd_HM_goal cA q0 q1 q2 q3 q4 q5 q6 q7 q8 q9 q10 q11 q12 q13 q14 q15 q16 q17 q18 q19 q20 q21 q22 q23 q24 q25 q26 q27 q28 q29 q30 q31 u0 u1 u2 u3 u4 u5 u6 u7 u8 u9 u10 u11 u12 u13 u14 u15 u16 u17 u18 u19 0 i_status i_refusals i_row) H := hP
  have hD : va_D A (wd_HM_goal cA q0 q1 q2 q3 q4 q5 q6 q7 q8 q9 q10 q11 q12 q13 q14 q15 q16 q17 q18 q19 q20 q21 q22 q23 q24 q25 q26 q27 q28 q29 q30 q31 u0 u1 u2 u3 u4 u5 u6 u7 u8 u9 u10 u11 u12 u13 u14 u15 u16 u17 u18 u19 0 i_status i_refusals i_row) := hD
  refine lv_iload_n hx hb dX11_goal_5 rfl (lv_at hl 2 rfl) ?_
  refine xi_i2l hx hb dX11_goal_6 hf (fun v1 hf => ?_)
  refine lv_ldc2 (v := Int64.ofInt (-1)) hx hb hown (hz _ zw_1451) dX11_goal_7 ?_
  refine lv_ldc2 (v := Int64.ofInt 10) hx hb hown (hz _ zw_1453) dX11_goal_10 ?_
  refine xe_d1 hf (fun v2 hg hf => ?_)
  have hC : ([] : List Nat).map (fun i => (wd_HM_goal cA q0 q1 q2 q3 q4 q5 q6 q7 q8 q9 q10 q11 q12 q13 q14 q15 q16 q17 q18 q19 q20 q21 q22 q23 q24 q25 q26 q27 q28 q29 q30 q31 u0 u1 u2 u3 u4 u5 u6 u7 u8 u9 u10 u11 u12 u13 u14 u15 u16 u17 u18 u19 0 i_status i_refusals i_row)[i]?) = (wd_HM_in cA).map some := rfl
  refine xv_afterI (ws' := (wd_HM_goal cA q0 q1 q2 q3 q4 q5 q6 q7 q8 q9 q10 q11 q12 q13 q14 q15 q16 q17 q18 q19 q20 q21 q22 q23 q24 q25 q26 q27 q28 q29 q30 q31 u0 u1 u2 u3 u4 u5 u6 u7 u8 u9 u10 u11 u12 u13 u14 u15 u16 u17 u18 u19 0 i_status i_refusals i_row)) (isC := []) (ps := [none, none, none]) (va_runS (As := [.long (Int64.ofInt v1), .long (Int64.ofInt (-1)), .long (Int64.ofInt 10)]) (rest := []) ⟨hx, hb, hml, hown, hts⟩ (c_HM_in l ev dC dI cA hg H.size) (va_cwS 3 hts (zgS zw_1329 zw_1330 zw_115 zw_1331) rfl rfl rfl hd_HM_in.2 ⟨Nat.le_of_ble_eq_true rfl, Nat.le_of_ble_eq_true rfl⟩) (xv_preS hE hA hS hK hP hD (isC := []) (by decide +kernel) hC) rfl rfl hl.1 rfl (lv_room (Nat.le_of_ble_eq_true rfl)) dX11_goal_13 ⟨Nat.le_refl _, Nat.le_refl _⟩) hP hD hS hA (by decide +kernel) rfl hC rfl rfl (fun H locs hP hD hS => ?_)
  refine xi_if_ne (tgt := 35) hx hb dX11_goal_16 (by decide) hf (fun hf => ?_) (fun hf => ?_)
  · refine lv_aload_n hx hb dX11_goal_35 rfl (lv_at hl 0 rfl) ?_
    refine lv_iload_n hx hb dX11_goal_36 rfl (lv_at hl 1 rfl) ?_
    refine xe_d1 hf (fun v3 hg hf => ?_)
    have hC : ([0, 2] : List Nat).map (fun i => (wd_HM_goal cA q0 q1 q2 q3 q4 q5 q6 q7 q8 q9 q10 q11 q12 q13 q14 q15 q16 q17 q18 q19 q20 q21 q22 q23 q24 q25 q26 q27 q28 q29 q30 q31 u0 u1 u2 u3 u4 u5 u6 u7 u8 u9 u10 u11 u12 u13 u14 u15 u16 u17 u18 u19 0 i_status i_refusals i_row)[i]?) = (wd_HM_isColumn cA q0 q1 q2 q3 q4 q5 q6 q7 q8 q9 q10 q11 q12 q13 q14 q15 q16 q17 q18 q19 q20 q21 q22 q23 q24 q25 q26 q27 q28 q29 q30 q31 0 i_status u0 u1 u2 u3 u4 u5 u6 u7 u8 u9 u10 u11 u12 u13 u14 u15 u16 u17 u18 u19 i_row).map some := rfl
    refine xv_afterI (ws' := (wd_HM_goal cA q0 q1 q2 q3 q4 q5 q6 q7 q8 q9 q10 q11 q12 q13 q14 q15 q16 q17 q18 q19 q20 q21 q22 q23 q24 q25 q26 q27 q28 q29 q30 q31 u0 u1 u2 u3 u4 u5 u6 u7 u8 u9 u10 u11 u12 u13 u14 u15 u16 u17 u18 u19 0 i_status i_refusals i_row)) (isC := [0, 2]) (ps := [some 0, none, some 1]) (va_runV (As := [.int (Int32.ofInt x1)]) (rest := []) ⟨hx, hb, hml, hown, hts⟩ (c_HM_isColumn l ev dC dI cA q0 q1 q2 q3 q4 q5 q6 q7 q8 q9 q10 q11 q12 q13 q14 q15 q16 q17 q18 q19 q20 q21 q22 q23 q24 q25 q26 q27 q28 q29 q30 q31 0 i_status u0 u1 u2 u3 u4 u5 u6 u7 u8 u9 u10 u11 u12 u13 u14 u15 u16 u17 u18 u19 hg H.size) (cwV 1 hts (zgV zw_1356 zw_1358 zw_42 zw_115 zw_1359) rfl rfl rfl hd_HM_isColumn ⟨Nat.le_of_ble_eq_true rfl, Nat.le_of_ble_eq_true rfl⟩) (xv_preV (T := TX11) (N := 53) hE hA hS hK hP hD (isC := [0, 2]) (by decide +kernel) hC (q0 := 0) (ci := 11) rfl rfl) rfl rfl hl.1 rfl (lv_room (Nat.le_of_ble_eq_true rfl)) dX11_goal_37 ⟨Nat.le_refl _, Nat.le_refl _⟩) hP hD hS hA (by decide +kernel) rfl hC rfl rfl (fun H locs hP hD hS => ?_)
    refine xi_if_ne (tgt := 60) hx hb dX11_goal_40 (by decide) hf (fun hf => ?_) (fun hf => ?_)
    · refine lv_aload_n hx hb dX11_goal_60 rfl (lv_at hl 0 rfl) ?_
      refine lv_sipush (v := Int32.ofInt 141) hx hb dX11_goal_61 (by decide) ?_
      refine lv_iload_n hx hb dX11_goal_64 rfl (lv_at hl 1 rfl) ?_
      refine xi_iadd hx hb dX11_goal_65 hf (fun v4 hf => ?_)
      refine lv_iload_n hx hb dX11_goal_66 rfl (lv_at hl 2 rfl) ?_
      refine xe_d3 hf (fun v5 v6 a7 hg hf => ?_)
      have hC : ([0, 2] : List Nat).map (fun i => (wd_HM_goal cA q0 q1 q2 q3 q4 q5 q6 q7 q8 q9 q10 q11 q12 q13 q14 q15 q16 q17 q18 q19 q20 q21 q22 q23 q24 q25 q26 q27 q28 q29 q30 q31 u0 u1 u2 u3 u4 u5 u6 u7 u8 u9 u10 u11 u12 u13 u14 u15 u16 u17 u18 u19 0 i_status i_refusals i_row)[i]?) = (wd_HM_change cA q0 q1 q2 q3 q4 q5 q6 q7 q8 q9 q10 q11 q12 q13 q14 q15 q16 q17 q18 q19 q20 q21 q22 q23 q24 q25 q26 q27 q28 q29 q30 q31 0 u0 u1 u2 u3 u4 u5 u6 u7 u8 u9 u10 u11 u12 u13 u14 u15 u16 u17 u18 u19 i_status i_row).map some := rfl
      refine xv_afterI (ws' := (wd_HM_goal cA q0 q1 q2 q3 q4 q5 q6 q7 q8 q9 q10 q11 q12 q13 q14 q15 q16 q17 q18 q19 q20 q21 q22 q23 q24 q25 q26 q27 q28 q29 q30 q31 u0 u1 u2 u3 u4 u5 u6 u7 u8 u9 u10 u11 u12 u13 u14 u15 u16 u17 u18 u19 0 v6 i_refusals a7)) (isC := [0, 2]) (ps := [some 0, none, some 1]) (va_runV (As := [.int (Int32.ofInt v4), .int (Int32.ofInt x2)]) (rest := []) ⟨hx, hb, hml, hown, hts⟩ (c_HM_change l ev dC dI cA q0 q1 q2 q3 q4 q5 q6 q7 q8 q9 q10 q11 q12 q13 q14 q15 q16 q17 q18 q19 q20 q21 q22 q23 q24 q25 q26 q27 q28 q29 q30 q31 0 u0 u1 u2 u3 u4 u5 u6 u7 u8 u9 u10 u11 u12 u13 u14 u15 u16 u17 u18 u19 hg H.size) (cwV 2 hts (zgV zw_1385 zw_1387 zw_44 zw_115 zw_1388) rfl rfl rfl hd_HM_change ⟨Nat.le_of_ble_eq_true rfl, Nat.le_of_ble_eq_true rfl⟩) (xv_preV (T := TX11) (N := 53) hE hA hS hK hP hD (isC := [0, 2]) (by decide +kernel) hC (q0 := 0) (ci := 11) rfl rfl) rfl rfl hl.1 rfl (lv_room (Nat.le_of_ble_eq_true rfl)) dX11_goal_67 ⟨Nat.le_refl _, Nat.le_refl _⟩) hP hD hS hA (by decide +kernel) rfl hC rfl rfl (fun H locs hP hD hS => ?_)
      obtain rfl := Option.some.inj hf
      exact hret _ _ _ _ rfl dX11_goal_70 hP hD hS
    · refine lv_aload_n hx hb dX11_goal_43 rfl (lv_at hl 0 rfl) ?_
      refine lv_bipush (v := Int32.ofInt (-2)) hx hb dX11_goal_44 (by decide) ?_
      refine xe_d3 hf (fun v8 v9 a10 hg hf => ?_)
      have hC : ([0, 1] : List Nat).map (fun i => (wd_HM_goal cA q0 q1 q2 q3 q4 q5 q6 q7 q8 q9 q10 q11 q12 q13 q14 q15 q16 q17 q18 q19 q20 q21 q22 q23 q24 q25 q26 q27 q28 q29 q30 q31 u0 u1 u2 u3 u4 u5 u6 u7 u8 u9 u10 u11 u12 u13 u14 u15 u16 u17 u18 u19 0 i_status i_refusals i_row)[i]?) = (wd_HM_tell cA q0 q1 q2 q3 q4 q5 q6 q7 q8 q9 q10 q11 q12 q13 q14 q15 q16 q17 q18 q19 q20 q21 q22 q23 q24 q25 q26 q27 q28 q29 q30 q31 0 u0 u1 u2 u3 u4 u5 u6 u7 u8 u9 u10 u11 u12 u13 u14 u15 u16 u17 u18 u19 i_status i_refusals).map some := rfl
      refine xv_afterI (ws' := (wd_HM_goal cA q0 q1 q2 q3 q4 q5 q6 q7 q8 q9 q10 q11 q12 q13 q14 q15 q16 q17 q18 q19 q20 q21 q22 q23 q24 q25 q26 q27 q28 q29 q30 q31 u0 u1 u2 u3 u4 u5 u6 u7 u8 u9 u10 u11 u12 u13 u14 u15 u16 u17 u18 u19 0 v9 a10 i_row)) (isC := [0, 1]) (ps := [some 0, some 1, none]) (va_runV (As := [.int (Int32.ofInt (-2))]) (rest := []) ⟨hx, hb, hml, hown, hts⟩ (c_HM_tell l ev dC dI cA q0 q1 q2 q3 q4 q5 q6 q7 q8 q9 q10 q11 q12 q13 q14 q15 q16 q17 q18 q19 q20 q21 q22 q23 q24 q25 q26 q27 q28 q29 q30 q31 0 u0 u1 u2 u3 u4 u5 u6 u7 u8 u9 u10 u11 u12 u13 u14 u15 u16 u17 u18 u19 hg H.size) (cwV 1 hts (zgV zw_1332 zw_1334 zw_40 zw_115 zw_1335) rfl rfl rfl hd_HM_tell ⟨Nat.le_of_ble_eq_true rfl, Nat.le_of_ble_eq_true rfl⟩) (xv_preV (T := TX11) (N := 53) hE hA hS hK hP hD (isC := [0, 1]) (by decide +kernel) hC (q0 := 0) (ci := 11) rfl rfl) rfl rfl hl.1 rfl (lv_room (Nat.le_of_ble_eq_true rfl)) dX11_goal_46 ⟨Nat.le_refl _, Nat.le_refl _⟩) hP hD hS hA (by decide +kernel) rfl hC rfl rfl (fun H locs hP hD hS => ?_)
      refine xi_if_ge (tgt := 58) hx hb dX11_goal_49 (by decide) hf (fun hf => ?_) (fun hf => ?_)
      · refine lv_iconst (v := Int32.ofInt 0) hx hb dX11_goal_58 rfl ?_
        obtain rfl := Option.some.inj hf
        exact hret _ _ _ _ rfl dX11_goal_59 hP hD hS
      · refine lv_sipush (v := Int32.ofInt (-1000)) hx hb dX11_goal_52 (by decide) ?_
        refine lv_goto (tgt := 59) hx hb dX11_goal_55 (by decide) ?_
        obtain rfl := Option.some.inj hf
        exact hret _ _ _ _ rfl dX11_goal_59 hP hD hS
  · refine lv_aload_n hx hb dX11_goal_19 rfl (lv_at hl 0 rfl) ?_
    refine lv_iconst (v := Int32.ofInt (-1)) hx hb dX11_goal_20 rfl ?_
    refine xe_d3 hf (fun v11 v12 a13 hg hf => ?_)
    have hC : ([0, 1] : List Nat).map (fun i => (wd_HM_goal cA q0 q1 q2 q3 q4 q5 q6 q7 q8 q9 q10 q11 q12 q13 q14 q15 q16 q17 q18 q19 q20 q21 q22 q23 q24 q25 q26 q27 q28 q29 q30 q31 u0 u1 u2 u3 u4 u5 u6 u7 u8 u9 u10 u11 u12 u13 u14 u15 u16 u17 u18 u19 0 i_status i_refusals i_row)[i]?) = (wd_HM_tell cA q0 q1 q2 q3 q4 q5 q6 q7 q8 q9 q10 q11 q12 q13 q14 q15 q16 q17 q18 q19 q20 q21 q22 q23 q24 q25 q26 q27 q28 q29 q30 q31 0 u0 u1 u2 u3 u4 u5 u6 u7 u8 u9 u10 u11 u12 u13 u14 u15 u16 u17 u18 u19 i_status i_refusals).map some := rfl
    refine xv_afterI (ws' := (wd_HM_goal cA q0 q1 q2 q3 q4 q5 q6 q7 q8 q9 q10 q11 q12 q13 q14 q15 q16 q17 q18 q19 q20 q21 q22 q23 q24 q25 q26 q27 q28 q29 q30 q31 u0 u1 u2 u3 u4 u5 u6 u7 u8 u9 u10 u11 u12 u13 u14 u15 u16 u17 u18 u19 0 v12 a13 i_row)) (isC := [0, 1]) (ps := [some 0, some 1, none]) (va_runV (As := [.int (Int32.ofInt (-1))]) (rest := []) ⟨hx, hb, hml, hown, hts⟩ (c_HM_tell l ev dC dI cA q0 q1 q2 q3 q4 q5 q6 q7 q8 q9 q10 q11 q12 q13 q14 q15 q16 q17 q18 q19 q20 q21 q22 q23 q24 q25 q26 q27 q28 q29 q30 q31 0 u0 u1 u2 u3 u4 u5 u6 u7 u8 u9 u10 u11 u12 u13 u14 u15 u16 u17 u18 u19 hg H.size) (cwV 1 hts (zgV zw_1332 zw_1334 zw_40 zw_115 zw_1335) rfl rfl rfl hd_HM_tell ⟨Nat.le_of_ble_eq_true rfl, Nat.le_of_ble_eq_true rfl⟩) (xv_preV (T := TX11) (N := 53) hE hA hS hK hP hD (isC := [0, 1]) (by decide +kernel) hC (q0 := 0) (ci := 11) rfl rfl) rfl rfl hl.1 rfl (lv_room (Nat.le_of_ble_eq_true rfl)) dX11_goal_21 ⟨Nat.le_refl _, Nat.le_refl _⟩) hP hD hS hA (by decide +kernel) rfl hC rfl rfl (fun H locs hP hD hS => ?_)
    refine xi_if_ge (tgt := 33) hx hb dX11_goal_24 (by decide) hf (fun hf => ?_) (fun hf => ?_)
    · refine lv_iconst (v := Int32.ofInt 0) hx hb dX11_goal_33 rfl ?_
      obtain rfl := Option.some.inj hf
      exact hret _ _ _ _ rfl dX11_goal_34 hP hD hS
    · refine lv_sipush (v := Int32.ofInt (-1000)) hx hb dX11_goal_27 (by decide) ?_
      refine lv_goto (tgt := 34) hx hb dX11_goal_30 (by decide) ?_
      obtain rfl := Option.some.inj hf
      exact hret _ _ _ _ rfl dX11_goal_34 hP hD hS
theorem dX11_stones_0 : decode cX11_stones 0 = .ok (.iconst 0, 1) := by decide +kernel
theorem dX11_stones_1 : decode cX11_stones 1 = .ok (.istore_n 1, 1) := by decide +kernel
theorem dX11_stones_2 : decode cX11_stones 2 = .ok (.iconst 0, 1) := by decide +kernel
theorem dX11_stones_3 : decode cX11_stones 3 = .ok (.istore_n 2, 1) := by decide +kernel
theorem dX11_stones_4 : decode cX11_stones 4 = .ok (.iload_n 2, 1) := by decide +kernel
theorem dX11_stones_5 : decode cX11_stones 5 = .ok (.aload_n 0, 1) := by decide +kernel
theorem dX11_stones_6 : decode cX11_stones 6 = .ok (.invokevirtual 140, 3) := by decide +kernel
theorem dX11_stones_9 : decode cX11_stones 9 = .ok (.if_icmp .ge 21, 3) := by decide +kernel
theorem dX11_stones_12 : decode cX11_stones 12 = .ok (.iload_n 1, 1) := by decide +kernel
theorem dX11_stones_13 : decode cX11_stones 13 = .ok (.aload_n 0, 1) := by decide +kernel
theorem dX11_stones_14 : decode cX11_stones 14 = .ok (.getfield 13, 3) := by decide +kernel
theorem dX11_stones_17 : decode cX11_stones 17 = .ok (.bipush 9, 2) := by decide +kernel
theorem dX11_stones_19 : decode cX11_stones 19 = .ok (.iload_n 2, 1) := by decide +kernel
theorem dX11_stones_20 : decode cX11_stones 20 = .ok (.iadd, 1) := by decide +kernel
theorem dX11_stones_21 : decode cX11_stones 21 = .ok (.iaload, 1) := by decide +kernel
theorem dX11_stones_22 : decode cX11_stones 22 = .ok (.iadd, 1) := by decide +kernel
theorem dX11_stones_23 : decode cX11_stones 23 = .ok (.istore_n 1, 1) := by decide +kernel
theorem dX11_stones_24 : decode cX11_stones 24 = .ok (.iinc 2 1, 3) := by decide +kernel
theorem dX11_stones_27 : decode cX11_stones 27 = .ok (.goto (-23), 3) := by decide +kernel
theorem dX11_stones_30 : decode cX11_stones 30 = .ok (.iload_n 1, 1) := by decide +kernel
theorem dX11_stones_31 : decode cX11_stones 31 = .ok (.ireturn, 1) := by decide +kernel
theorem zw_1653 : (Jvm.Cond.code ({ cls := "HillSchoolModel", name := "stones", desc := "()I" } : Jvm.MethodName) prog_13_method_81_code (3 : Nat) (Option.some Jvm.ClassFile.FieldType.int)) ∈ zall := zmemG (zmj_7 110 rfl) rfl
abbrev w_HM_stones : List Cond := .code yX11_stones cX11_stones 3 (some .int) :: zall
abbrev rm_HM_stones : Room := { frames := 1, cells := 0, slots := 0, locals := 20 }
theorem hd_HM_stones : yX11_stones.cls = "HillSchoolModel" ∧ yX11_stones.cls ≠ "java/lang/invoke/MethodHandle" ∧ yX11_stones.cls ≠ "java/lang/invoke/VarHandle" ∧ (parseMethodDescriptor yX11_stones.desc).map (fun d => d.parameters.length) = some 0 := by decide +kernel
def wd_HM_stones (cA : Nat → ClassId) (q0 q1 q2 q3 q4 q5 q6 q7 q8 q9 q10 q11 q12 q13 q14 q15 q16 q17 q18 q19 q20 q21 q22 q23 q24 q25 q26 q27 q28 q29 q30 q31 : Nat) (u0 u1 u2 u3 u4 u5 u6 u7 u8 u9 u10 u11 u12 u13 u14 u15 u16 u17 u18 u19 u20 u21 : Int) (i_row : Nat → Int)  : va_W := [(q0, .inr (11, [.int (Int32.ofInt u0), .int (Int32.ofInt u1), .ref q1, .ref q2, .ref q3, .ref q4, .int (Int32.ofInt u2), .ref q5, .int (Int32.ofInt u3), .int (Int32.ofInt u4), .int (Int32.ofInt u5), .int (Int32.ofInt u6), .long (Int64.ofInt u7), .int (Int32.ofInt u8), .int (Int32.ofInt u9), .int (Int32.ofInt u10), .ref q6, .int (Int32.ofInt u11), .ref q7, .ref q8, .int (Int32.ofInt u12), .ref q9, .ref q10, .int (Int32.ofInt u13), .int (Int32.ofInt u14), .ref q11, .int (Int32.ofInt u15), .ref q12, .ref q13, .int (Int32.ofInt u16), .long (Int64.ofInt u17), .long (Int64.ofInt u18), .ref q14, .ref q15, .ref q16, .ref q17, .ref q18, .int (Int32.ofInt u19), .ref q19, .ref q20, .ref q21, .ref q22, .ref q23, .ref q24, .ref q25, .ref q26, .ref q27, .ref q28, .ref q29, .ref q30, .long (Int64.ofInt u20), .ref q31, .int (Int32.ofInt u21)])), (q2, .inl (cA 0, 5580, .inl (za i_row)))]
def wf_HM_stones (cA : Nat → ClassId) (q0 q1 q2 q3 q4 q5 q6 q7 q8 q9 q10 q11 q12 q13 q14 q15 q16 q17 q18 q19 q20 q21 q22 q23 q24 q25 q26 q27 q28 q29 q30 q31 : Nat) (u0 u1 u2 u3 u4 u5 u6 u7 u8 u9 u10 u11 u12 u13 u14 u15 u16 u17 u18 u19 u20 u21 : Int) (i_row : Nat → Int) (o : Int) : va_W := wd_HM_stones cA q0 q1 q2 q3 q4 q5 q6 q7 q8 q9 q10 q11 q12 q13 q14 q15 q16 q17 q18 q19 q20 q21 q22 q23 q24 q25 q26 q27 q28 q29 q30 q31 u0 u1 u2 u3 u4 u5 u6 u7 u8 u9 u10 u11 u12 u13 u14 u15 u16 u17 u18 u19 u20 u21 i_row
def f_HM_stones_4_b (i_row : Nat → Int) (k4 : Int → Int → Option (Int)) (x1 : Int) (x2 : Int) : Option (Int) :=
  zd1 (f_HM_columns i_row) fun v1 =>
  if zi_w v1 ≤ zi_w x2 then
    some x1
  else
    zn (9 + x2) fun v2 =>
    zg 5580 i_row v2 fun v3 =>
    zn (x1 + v3) fun v4 =>
    zn (x2 + 1) fun v5 =>
    k4 v4 v5
def f_HM_stones_4 (i_row : Nat → Int) : Nat → Int → Int → Option (Int)
  | 0 => fun _ _ => none
  | n + 1 => fun y0 y1 => f_HM_stones_4_b i_row (f_HM_stones_4 i_row n) y0 y1
def f_HM_stones (i_row : Nat → Int) : Option (Int) :=
  f_HM_stones_4 i_row zfu 0 0
set_option maxHeartbeats 4000000 in
set_option maxRecDepth 100000 in
theorem c_HM_stones (l : Launch) (ev : zEv) (dC : Nat → ClassId) (dI : Nat → Nat → Nat) (cA : Nat → ClassId) (q0 q1 q2 q3 q4 q5 q6 q7 q8 q9 q10 q11 q12 q13 q14 q15 q16 q17 q18 q19 q20 q21 q22 q23 q24 q25 q26 q27 q28 q29 q30 q31 : Nat) (u0 u1 u2 u3 u4 u5 u6 u7 u8 u9 u10 u11 u12 u13 u14 u15 u16 u17 u18 u19 u20 u21 : Int) {i_row : Nat → Int} {out : Int} (hf : f_HM_stones i_row = some out) : xc_I l ev (dC, dI) vwCl (tyl cA) yX11_stones w_HM_stones rm_HM_stones [.ref q0] (wd_HM_stones cA q0 q1 q2 q3 q4 q5 q6 q7 q8 q9 q10 q11 q12 q13 q14 q15 q16 q17 q18 q19 q20 q21 q22 q23 q24 q25 q26 q27 q28 q29 q30 q31 u0 u1 u2 u3 u4 u5 u6 u7 u8 u9 u10 u11 u12 u13 u14 u15 u16 u17 u18 u19 u20 u21 i_row) (wf_HM_stones cA q0 q1 q2 q3 q4 q5 q6 q7 q8 q9 q10 q11 q12 q13 q14 q15 q16 q17 q18 q19 q20 q21 q22 q23 q24 q25 q26 q27 q28 q29 q30 q31 u0 u1 u2 u3 u4 u5 u6 u7 u8 u9 u10 u11 u12 u13 u14 u15 u16 u17 u18 u19 u20 u21 i_row out) out := by
  refine xv_startI (cc := cX11_stones) (maxL := 3) (rt := .int) (by decide +kernel) rfl (Nat.le_of_ble_eq_true rfl) ?_
  intro p e s m args below meth c A Q H ls hx hb hml hts hown hK hA hP hD hS hl hE hret
  have hown : s.vm.findClass "HillSchoolModel" = some m.cls := hown
  have hz : ∀ w ∈ zall, w.before args s = true := fun w h => hts w (List.mem_cons_of_mem _ h)
  have hl : lv_has ls 3 [(0, .ref q0)] := hl
  have b_4 : ∀ (k4 : Int → Int → Option (Int)) (_ : ∀ (x1 : Int) (x2 : Int) (H : Heap) (locs : List Loc) (ls : Array Slot), k4 x1 x2 = some out → va_P (dC, dI) vwCl (wd_HM_stones cA q0 q1 q2 q3 q4 q5 q6 q7 q8 q9 q10 q11 q12 q13 q14 q15 q16 q17 q18 q19 q20 q21 q22 q23 q24 q25 q26 q27 q28 q29 q30 q31 u0 u1 u2 u3 u4 u5 u6 u7 u8 u9 u10 u11 u12 u13 u14 u15 u16 u17 u18 u19 u20 u21 i_row) H → va_D A (wd_HM_stones cA q0 q1 q2 q3 q4 q5 q6 q7 q8 q9 q10 q11 q12 q13 q14 q15 q16 q17 q18 q19 q20 q21 q22 q23 q24 q25 q26 q27 q28 q29 q30 q31 u0 u1 u2 u3 u4 u5 u6 u7 u8 u9 u10 u11 u12 u13 u14 u15 u16 u17 u18 u19 u20 u21 i_row) → va_S A s.heap H locs → lv_has ls 3 [(0, .ref q0), (1, .int (Int32.ofInt x1)), (2, .int (Int32.ofInt x2))] → W p l e rm_HM_stones s m args below meth c H locs 0 0 Q (F0 m 4 ls [])), ∀ (x1 : Int) (x2 : Int) (H : Heap) (locs : List Loc) (ls : Array Slot), f_HM_stones_4_b i_row k4 x1 x2 = some out → va_P (dC, dI) vwCl (wd_HM_stones cA q0 q1 q2 q3 q4 q5 q6 q7 q8 q9 q10 q11 q12 q13 q14 q15 q16 q17 q18 q19 q20 q21 q22 q23 q24 q25 q26 q27 q28 q29 q30 q31 u0 u1 u2 u3 u4 u5 u6 u7 u8 u9 u10 u11 u12 u13 u14 u15 u16 u17 u18 u19 u20 u21 i_row) H → va_D A (wd_HM_stones cA q0 q1 q2 q3 q4 q5 q6 q7 q8 q9 q10 q11 q12 q13 q14 q15 q16 q17 q18 q19 q20 q21 q22 q23 q24 q25 q26 q27 q28 q29 q30 q31 u0 u1 u2 u3 u4 u5 u6 u7 u8 u9 u10 u11 u12 u13 u14 u15 u16 u17 u18 u19 u20 u21 i_row) → va_S A s.heap H locs → lv_has ls 3 [(0, .ref q0), (1, .int (Int32.ofInt x1)), (2, .int (Int32.ofInt x2))] → W p l e rm_HM_stones s m args below meth c H locs 0 0 Q (F0 m 4 ls []) := by
    intro k4 ih4 x1 x2 H locs ls hf hP hD hS hl
    unfold f_HM_stones_4_b at hf
    refine lv_iload_n hx hb dX11_stones_4 rfl (lv_at hl 2 rfl) ?_
    refine lv_aload_n hx hb dX11_stones_5 rfl (lv_at hl 0 rfl) ?_
    refine xe_d1 hf (fun v1 hg hf => ?_)
    have hC : ([0, 1] : List Nat).map (fun i => (wd_HM_stones cA q0 q1 q2 q3 q4 q5 q6 q7 q8 q9 q10 q11 q12 q13 q14 q15 q16 q17 q18 q19 q20 q21 q22 q23 q24 q25 q26 q27 q28 q29 q30 q31 u0 u1 u2 u3 u4 u5 u6 u7 u8 u9 u10 u11 u12 u13 u14 u15 u16 u17 u18 u19 u20 u21 i_row)[i]?) = (wd_HM_columns cA q0 q1 q2 q3 q4 q5 q6 q7 q8 q9 q10 q11 q12 q13 q14 q15 q16 q17 q18 q19 q20 q21 q22 q23 q24 q25 q26 q27 q28 q29 q30 q31 u0 u1 u2 u3 u4 u5 u6 u7 u8 u9 u10 u11 u12 u13 u14 u15 u16 u17 u18 u19 u20 u21 i_row).map some := rfl
    refine xv_afterI (ws' := (wd_HM_stones cA q0 q1 q2 q3 q4 q5 q6 q7 q8 q9 q10 q11 q12 q13 q14 q15 q16 q17 q18 q19 q20 q21 q22 q23 q24 q25 q26 q27 q28 q29 q30 q31 u0 u1 u2 u3 u4 u5 u6 u7 u8 u9 u10 u11 u12 u13 u14 u15 u16 u17 u18 u19 u20 u21 i_row)) (isC := [0, 1]) (ps := [some 0, some 1]) (va_runV (As := []) (rest := [.int (Int32.ofInt x2)]) ⟨hx, hb, hml, hown, hts⟩ (c_HM_columns l ev dC dI cA q0 q1 q2 q3 q4 q5 q6 q7 q8 q9 q10 q11 q12 q13 q14 q15 q16 q17 q18 q19 q20 q21 q22 q23 q24 q25 q26 q27 q28 q29 q30 q31 u0 u1 u2 u3 u4 u5 u6 u7 u8 u9 u10 u11 u12 u13 u14 u15 u16 u17 u18 u19 u20 u21 hg H.size) (cwV 0 hts (zgV zw_1344 zw_1346 zw_41 zw_115 zw_1347) rfl rfl rfl hd_HM_columns ⟨Nat.le_of_ble_eq_true rfl, Nat.le_of_ble_eq_true rfl⟩) (xv_preV (T := TX11) (N := 53) hE hA hS hK hP hD (isC := [0, 1]) (by decide +kernel) hC (q0 := 0) (ci := 11) rfl rfl) rfl rfl hl.1 rfl (lv_room (Nat.le_of_ble_eq_true rfl)) dX11_stones_6 ⟨Nat.le_refl _, Nat.le_refl _⟩) hP hD hS hA (by decide +kernel) rfl hC rfl rfl (fun H locs hP hD hS => ?_)
    refine xi_icmp_ge (tgt := 30) hx hb dX11_stones_9 (by decide) hf (fun hf => ?_) (fun hf => ?_)
    · refine lv_iload_n hx hb dX11_stones_30 rfl (lv_at hl 1 rfl) ?_
      obtain rfl := Option.some.inj hf
      exact hret _ _ _ _ rfl dX11_stones_31 hP hD hS
    · refine lv_iload_n hx hb dX11_stones_12 rfl (lv_at hl 1 rfl) ?_
      refine lv_aload_n hx hb dX11_stones_13 rfl (lv_at hl 0 rfl) ?_
      refine va_get (D := (dC, dI)) (ci := 11) (v := .ref q2) (C := RX11) (T := TX11) (N := 53) hx hb hz zi_X11 hown hK hP 0 rfl rfl 3 (by decide) (hz _ zw_1168) (fun _ h9 => h9) rfl dX11_stones_14 ?_
      refine lv_bipush (v := Int32.ofInt 9) hx hb dX11_stones_17 (by decide) ?_
      refine lv_iload_n hx hb dX11_stones_19 rfl (lv_at hl 2 rfl) ?_
      refine xi_iadd hx hb dX11_stones_20 hf (fun v2 hf => ?_)
      refine xi_iald hx hb hK hP 1 0 rfl rfl dX11_stones_21 hf (fun v3 hf => ?_)
      refine xi_iadd hx hb dX11_stones_22 hf (fun v4 hf => ?_)
      refine lv_istore_n (lv' := [(1, .int (Int32.ofInt v4)), (0, .ref q0), (2, .int (Int32.ofInt x2))]) hx hb dX11_stones_23 rfl hl (by decide) rfl (fun ls hl => ?_)
      refine xi_iinc hx hb dX11_stones_24 hl (k := 2) rfl (by decide) hf (fun v5 ls hl hf => ?_)
      have hl : lv_has ls 3 [(2, .int (Int32.ofInt v5)), (1, .int (Int32.ofInt v4)), (0, .ref q0)] := hl
      refine lv_goto (tgt := 4) hx hb dX11_stones_27 (by decide) ?_
      exact ih4 _ _ _ _ _ hf hP hD hS (lv_sub hl [2, 1, 0] rfl)
  have l_4 : ∀ (n : Nat), ∀ (x1 : Int) (x2 : Int) (H : Heap) (locs : List Loc) (ls : Array Slot), f_HM_stones_4 i_row n x1 x2 = some out → va_P (dC, dI) vwCl (wd_HM_stones cA q0 q1 q2 q3 q4 q5 q6 q7 q8 q9 q10 q11 q12 q13 q14 q15 q16 q17 q18 q19 q20 q21 q22 q23 q24 q25 q26 q27 q28 q29 q30 q31 u0 u1 u2 u3 u4 u5 u6 u7 u8 u9 u10 u11 u12 u13 u14 u15 u16 u17 u18 u19 u20 u21 i_row) H → va_D A (wd_HM_stones cA q0 q1 q2 q3 q4 q5 q6 q7 q8 q9 q10 q11 q12 q13 q14 q15 q16 q17 q18 q19 q20 q21 q22 q23 q24 q25 q26 q27 q28 q29 q30 q31 u0 u1 u2 u3 u4 u5 u6 u7 u8 u9 u10 u11 u12 u13 u14 u15 u16 u17 u18 u19 u20 u21 i_row) → va_S A s.heap H locs → lv_has ls 3 [(0, .ref q0), (1, .int (Int32.ofInt x1)), (2, .int (Int32.ofInt x2))] → W p l e rm_HM_stones s m args below meth c H locs 0 0 Q (F0 m 4 ls []) := by
    intro n
    induction n with
    | zero => intro x1 x2 H locs ls hf hP hD hS hl; exact nomatch hf
    | succ n ih => intro x1 x2 H locs ls hf hP hD hS hl; exact b_4 (f_HM_stones_4 i_row n) ih x1 x2 H locs ls hf hP hD hS hl
  unfold f_HM_stones at hf
  refine lv_iconst (v := Int32.ofInt 0) hx hb dX11_stones_0 rfl ?_
  refine lv_istore_n (lv' := [(1, .int (Int32.ofInt 0)), (0, .ref q0)]) hx hb dX11_stones_1 rfl hl (by decide) rfl (fun ls hl => ?_)
  refine lv_iconst (v := Int32.ofInt 0) hx hb dX11_stones_2 rfl ?_
  refine lv_istore_n (lv' := [(2, .int (Int32.ofInt 0)), (1, .int (Int32.ofInt 0)), (0, .ref q0)]) hx hb dX11_stones_3 rfl hl (by decide) rfl (fun ls hl => ?_)
  exact l_4  _ _ _ _ _ _ hf hP hD hS (lv_sub hl [2, 1, 0] rfl)
theorem dX11_costAt_0 : decode cX11_costAt 0 = .ok (.iload_n 1, 1) := by decide +kernel
theorem dX11_costAt_1 : decode cX11_costAt 1 = .ok (.iconst 5, 1) := by decide +kernel
theorem dX11_costAt_2 : decode cX11_costAt 2 = .ok (.imul, 1) := by decide +kernel
theorem dX11_costAt_3 : decode cX11_costAt 3 = .ok (.iload_n 2, 1) := by decide +kernel
theorem dX11_costAt_4 : decode cX11_costAt 4 = .ok (.iadd, 1) := by decide +kernel
theorem dX11_costAt_5 : decode cX11_costAt 5 = .ok (.bipush 16, 2) := by decide +kernel
theorem dX11_costAt_7 : decode cX11_costAt 7 = .ok (.imul, 1) := by decide +kernel
theorem dX11_costAt_8 : decode cX11_costAt 8 = .ok (.iload_n 3, 1) := by decide +kernel
theorem dX11_costAt_9 : decode cX11_costAt 9 = .ok (.iadd, 1) := by decide +kernel
theorem dX11_costAt_10 : decode cX11_costAt 10 = .ok (.bipush 25, 2) := by decide +kernel
theorem dX11_costAt_12 : decode cX11_costAt 12 = .ok (.imul, 1) := by decide +kernel
theorem dX11_costAt_13 : decode cX11_costAt 13 = .ok (.iconst 5, 1) := by decide +kernel
theorem dX11_costAt_14 : decode cX11_costAt 14 = .ok (.iload 4, 2) := by decide +kernel
theorem dX11_costAt_16 : decode cX11_costAt 16 = .ok (.iconst 1, 1) := by decide +kernel
theorem dX11_costAt_17 : decode cX11_costAt 17 = .ok (.isub, 1) := by decide +kernel
theorem dX11_costAt_18 : decode cX11_costAt 18 = .ok (.imul, 1) := by decide +kernel
theorem dX11_costAt_19 : decode cX11_costAt 19 = .ok (.iadd, 1) := by decide +kernel
theorem dX11_costAt_20 : decode cX11_costAt 20 = .ok (.iload 5, 2) := by decide +kernel
theorem dX11_costAt_22 : decode cX11_costAt 22 = .ok (.iadd, 1) := by decide +kernel
theorem dX11_costAt_23 : decode cX11_costAt 23 = .ok (.ireturn, 1) := by decide +kernel
theorem zw_1693 : (Jvm.Cond.code ({ cls := "HillSchoolModel", name := "costAt", desc := "(IIIII)I" } : Jvm.MethodName) prog_13_method_86_code (6 : Nat) (Option.some Jvm.ClassFile.FieldType.int)) ∈ zall := zmemG (zmj_7 150 rfl) rfl
abbrev w_HM_costAt : List Cond := .code yX11_costAt cX11_costAt 6 (some .int) :: zall
abbrev rm_HM_costAt : Room := { frames := 0, cells := 0, slots := 0, locals := 0 }
theorem hd_HM_costAt : yX11_costAt.cls = "HillSchoolModel" ∧ yX11_costAt.cls ≠ "java/lang/invoke/MethodHandle" ∧ yX11_costAt.cls ≠ "java/lang/invoke/VarHandle" ∧ (parseMethodDescriptor yX11_costAt.desc).map (fun d => d.parameters.length) = some 5 := by decide +kernel
def wd_HM_costAt (cA : Nat → ClassId) (q0 : Nat)   : va_W := []
def wf_HM_costAt (cA : Nat → ClassId) (q0 : Nat)  (o : Int) : va_W := wd_HM_costAt cA q0
def f_HM_costAt (x1 : Int) (x2 : Int) (x3 : Int) (x4 : Int) (x5 : Int) : Option (Int) :=
  zn (x1 * 5) fun v1 =>
  zn (v1 + x2) fun v2 =>
  zn (v2 * 16) fun v3 =>
  zn (v3 + x3) fun v4 =>
  zn (v4 * 25) fun v5 =>
  zn (x4 - 1) fun v6 =>
  zn (5 * v6) fun v7 =>
  zn (v5 + v7) fun v8 =>
  zn (v8 + x5) fun v9 =>
  some v9
set_option maxHeartbeats 4000000 in
set_option maxRecDepth 100000 in
theorem c_HM_costAt (l : Launch) (ev : zEv) (dC : Nat → ClassId) (dI : Nat → Nat → Nat) (cA : Nat → ClassId) (q0 : Nat) {x1 x2 x3 x4 x5 : Int} {out : Int} (hf : f_HM_costAt x1 x2 x3 x4 x5 = some out) : xc_I l ev (dC, dI) vwCl (tyl cA) yX11_costAt w_HM_costAt rm_HM_costAt [.ref q0, .int (Int32.ofInt x1), .int (Int32.ofInt x2), .int (Int32.ofInt x3), .int (Int32.ofInt x4), .int (Int32.ofInt x5)] (wd_HM_costAt cA q0) (wf_HM_costAt cA q0 out) out := by
  refine xv_startI (cc := cX11_costAt) (maxL := 6) (rt := .int) (by decide +kernel) rfl (Nat.le_of_ble_eq_true rfl) ?_
  intro p e s m args below meth c A Q H ls hx hb hml hts hown hK hA hP hD hS hl hE hret
  have hown : s.vm.findClass "HillSchoolModel" = some m.cls := hown
  have hz : ∀ w ∈ zall, w.before args s = true := fun w h => hts w (List.mem_cons_of_mem _ h)
  have hl : lv_has ls 6 [(0, .ref q0), (1, .int (Int32.ofInt x1)), (2, .int (Int32.ofInt x2)), (3, .int (Int32.ofInt x3)), (4, .int (Int32.ofInt x4)), (5, .int (Int32.ofInt x5))] := hl
  unfold f_HM_costAt at hf
  refine lv_iload_n hx hb dX11_costAt_0 rfl (lv_at hl 1 rfl) ?_
  refine lv_iconst (v := Int32.ofInt 5) hx hb dX11_costAt_1 rfl ?_
  refine xi_imul hx hb dX11_costAt_2 hf (fun v1 hf => ?_)
  refine lv_iload_n hx hb dX11_costAt_3 rfl (lv_at hl 2 rfl) ?_
  refine xi_iadd hx hb dX11_costAt_4 hf (fun v2 hf => ?_)
  refine lv_bipush (v := Int32.ofInt 16) hx hb dX11_costAt_5 (by decide) ?_
  refine xi_imul hx hb dX11_costAt_7 hf (fun v3 hf => ?_)
  refine lv_iload_n hx hb dX11_costAt_8 rfl (lv_at hl 3 rfl) ?_
  refine xi_iadd hx hb dX11_costAt_9 hf (fun v4 hf => ?_)
  refine lv_bipush (v := Int32.ofInt 25) hx hb dX11_costAt_10 (by decide) ?_
  refine xi_imul hx hb dX11_costAt_12 hf (fun v5 hf => ?_)
  refine lv_iconst (v := Int32.ofInt 5) hx hb dX11_costAt_13 rfl ?_
  refine lv_iload hx hb dX11_costAt_14 (lv_at hl 4 rfl) ?_
  refine lv_iconst (v := Int32.ofInt 1) hx hb dX11_costAt_16 rfl ?_
  refine xi_isub hx hb dX11_costAt_17 hf (fun v6 hf => ?_)
  refine xi_imul hx hb dX11_costAt_18 hf (fun v7 hf => ?_)
  refine xi_iadd hx hb dX11_costAt_19 hf (fun v8 hf => ?_)
  refine lv_iload hx hb dX11_costAt_20 (lv_at hl 5 rfl) ?_
  refine xi_iadd hx hb dX11_costAt_22 hf (fun v9 hf => ?_)
  obtain rfl := Option.some.inj hf
  exact hret _ _ _ _ rfl dX11_costAt_23 hP hD hS
theorem dX11_smallTop_0 : decode cX11_smallTop 0 = .ok (.aload_n 0, 1) := by decide +kernel
theorem dX11_smallTop_1 : decode cX11_smallTop 1 = .ok (.getfield 96, 3) := by decide +kernel
theorem dX11_smallTop_4 : decode cX11_smallTop 4 = .ok (.iconst 5, 1) := by decide +kernel
theorem dX11_smallTop_5 : decode cX11_smallTop 5 = .ok (.iload_n 1, 1) := by decide +kernel
theorem dX11_smallTop_6 : decode cX11_smallTop 6 = .ok (.imul, 1) := by decide +kernel
theorem dX11_smallTop_7 : decode cX11_smallTop 7 = .ok (.aload_n 0, 1) := by decide +kernel
theorem dX11_smallTop_8 : decode cX11_smallTop 8 = .ok (.getfield 99, 3) := by decide +kernel
theorem dX11_smallTop_11 : decode cX11_smallTop 11 = .ok (.iload_n 1, 1) := by decide +kernel
theorem dX11_smallTop_12 : decode cX11_smallTop 12 = .ok (.iaload, 1) := by decide +kernel
theorem dX11_smallTop_13 : decode cX11_smallTop 13 = .ok (.iadd, 1) := by decide +kernel
theorem dX11_smallTop_14 : decode cX11_smallTop 14 = .ok (.iconst 1, 1) := by decide +kernel
theorem dX11_smallTop_15 : decode cX11_smallTop 15 = .ok (.isub, 1) := by decide +kernel
theorem dX11_smallTop_16 : decode cX11_smallTop 16 = .ok (.iaload, 1) := by decide +kernel
theorem dX11_smallTop_17 : decode cX11_smallTop 17 = .ok (.ireturn, 1) := by decide +kernel
theorem zw_1206 : (Jvm.Cond.fieldLink "HillSchoolModel" (96 : Nat) "HillSchoolModel" "small" "[I") ∈ zall := zmemG (zmj_5 143 rfl) rfl
theorem zw_1207 : (Jvm.Cond.fieldLink "HillSchoolModel" (99 : Nat) "HillSchoolModel" "tall" "[I") ∈ zall := zmemG (zmj_5 144 rfl) rfl
theorem zw_1689 : (Jvm.Cond.code ({ cls := "HillSchoolModel", name := "smallTop", desc := "(I)I" } : Jvm.MethodName) prog_13_method_89_code (2 : Nat) (Option.some Jvm.ClassFile.FieldType.int)) ∈ zall := zmemG (zmj_7 146 rfl) rfl
abbrev w_HM_smallTop : List Cond := .code yX11_smallTop cX11_smallTop 2 (some .int) :: zall
abbrev rm_HM_smallTop : Room := { frames := 0, cells := 0, slots := 0, locals := 0 }
theorem hd_HM_smallTop : yX11_smallTop.cls = "HillSchoolModel" ∧ yX11_smallTop.cls ≠ "java/lang/invoke/MethodHandle" ∧ yX11_smallTop.cls ≠ "java/lang/invoke/VarHandle" ∧ (parseMethodDescriptor yX11_smallTop.desc).map (fun d => d.parameters.length) = some 1 := by decide +kernel
def wd_HM_smallTop (cA : Nat → ClassId) (q0 q1 q2 q3 q4 q5 q6 q7 q8 q9 q10 q11 q12 q13 q14 q15 q16 q17 q18 q19 q20 q21 q22 q23 q24 q25 q26 q27 q28 q29 q30 q31 : Nat) (u0 u1 u2 u3 u4 u5 u6 u7 u8 u9 u10 u11 u12 u13 u14 u15 u16 u17 u18 u19 u20 u21 : Int) (i_small : Nat → Int) (i_tall : Nat → Int)  : va_W := [(q0, .inr (11, [.int (Int32.ofInt u0), .int (Int32.ofInt u1), .ref q1, .ref q2, .ref q3, .ref q4, .int (Int32.ofInt u2), .ref q5, .int (Int32.ofInt u3), .int (Int32.ofInt u4), .int (Int32.ofInt u5), .int (Int32.ofInt u6), .long (Int64.ofInt u7), .int (Int32.ofInt u8), .int (Int32.ofInt u9), .int (Int32.ofInt u10), .ref q6, .int (Int32.ofInt u11), .ref q7, .ref q8, .int (Int32.ofInt u12), .ref q9, .ref q10, .int (Int32.ofInt u13), .int (Int32.ofInt u14), .ref q11, .int (Int32.ofInt u15), .ref q12, .ref q13, .int (Int32.ofInt u16), .long (Int64.ofInt u17), .long (Int64.ofInt u18), .ref q14, .ref q15, .ref q16, .ref q17, .ref q18, .int (Int32.ofInt u19), .ref q19, .ref q20, .ref q21, .ref q22, .ref q23, .ref q24, .ref q25, .ref q26, .ref q27, .ref q28, .ref q29, .ref q30, .long (Int64.ofInt u20), .ref q31, .int (Int32.ofInt u21)])), (q22, .inl (cA 0, 20, .inl (za i_small))), (q23, .inl (cA 0, 4, .inl (za i_tall)))]
def wf_HM_smallTop (cA : Nat → ClassId) (q0 q1 q2 q3 q4 q5 q6 q7 q8 q9 q10 q11 q12 q13 q14 q15 q16 q17 q18 q19 q20 q21 q22 q23 q24 q25 q26 q27 q28 q29 q30 q31 : Nat) (u0 u1 u2 u3 u4 u5 u6 u7 u8 u9 u10 u11 u12 u13 u14 u15 u16 u17 u18 u19 u20 u21 : Int) (i_small : Nat → Int) (i_tall : Nat → Int) (o : Int) : va_W := wd_HM_smallTop cA q0 q1 q2 q3 q4 q5 q6 q7 q8 q9 q10 q11 q12 q13 q14 q15 q16 q17 q18 q19 q20 q21 q22 q23 q24 q25 q26 q27 q28 q29 q30 q31 u0 u1 u2 u3 u4 u5 u6 u7 u8 u9 u10 u11 u12 u13 u14 u15 u16 u17 u18 u19 u20 u21 i_small i_tall
def f_HM_smallTop (x1 : Int) (i_small : Nat → Int) (i_tall : Nat → Int) : Option (Int) :=
  zn (5 * x1) fun v1 =>
  zg 4 i_tall x1 fun v2 =>
  zn (v1 + v2) fun v3 =>
  zn (v3 - 1) fun v4 =>
  zg 20 i_small v4 fun v5 =>
  some v5
set_option maxHeartbeats 4000000 in
set_option maxRecDepth 100000 in
theorem c_HM_smallTop (l : Launch) (ev : zEv) (dC : Nat → ClassId) (dI : Nat → Nat → Nat) (cA : Nat → ClassId) (q0 q1 q2 q3 q4 q5 q6 q7 q8 q9 q10 q11 q12 q13 q14 q15 q16 q17 q18 q19 q20 q21 q22 q23 q24 q25 q26 q27 q28 q29 q30 q31 : Nat) (u0 u1 u2 u3 u4 u5 u6 u7 u8 u9 u10 u11 u12 u13 u14 u15 u16 u17 u18 u19 u20 u21 : Int) {x1 : Int} {i_small : Nat → Int} {i_tall : Nat → Int} {out : Int} (hf : f_HM_smallTop x1 i_small i_tall = some out) : xc_I l ev (dC, dI) vwCl (tyl cA) yX11_smallTop w_HM_smallTop rm_HM_smallTop [.ref q0, .int (Int32.ofInt x1)] (wd_HM_smallTop cA q0 q1 q2 q3 q4 q5 q6 q7 q8 q9 q10 q11 q12 q13 q14 q15 q16 q17 q18 q19 q20 q21 q22 q23 q24 q25 q26 q27 q28 q29 q30 q31 u0 u1 u2 u3 u4 u5 u6 u7 u8 u9 u10 u11 u12 u13 u14 u15 u16 u17 u18 u19 u20 u21 i_small i_tall) (wf_HM_smallTop cA q0 q1 q2 q3 q4 q5 q6 q7 q8 q9 q10 q11 q12 q13 q14 q15 q16 q17 q18 q19 q20 q21 q22 q23 q24 q25 q26 q27 q28 q29 q30 q31 u0 u1 u2 u3 u4 u5 u6 u7 u8 u9 u10 u11 u12 u13 u14 u15 u16 u17 u18 u19 u20 u21 i_small i_tall out) out := by
  refine xv_startI (cc := cX11_smallTop) (maxL := 2) (rt := .int) (by decide +kernel) rfl (Nat.le_of_ble_eq_true rfl) ?_
  intro p e s m args below meth c A Q H ls hx hb hml hts hown hK hA hP hD hS hl hE hret
  have hown : s.vm.findClass "HillSchoolModel" = some m.cls := hown
  have hz : ∀ w ∈ zall, w.before args s = true := fun w h => hts w (List.mem_cons_of_mem _ h)
  have hl : lv_has ls 2 [(0, .ref q0), (1, .int (Int32.ofInt x1))] := hl
  unfold f_HM_smallTop at hf
  refine lv_aload_n hx hb dX11_smallTop_0 rfl (lv_at hl 0 rfl) ?_
  refine va_get (D := (dC, dI)) (ci := 11) (v := .ref q22) (C := RX11) (T := TX11) (N := 53) hx hb hz zi_X11 hown hK hP 0 rfl rfl 41 (by decide) (hz _ zw_1206) (fun _ h9 => h9) rfl dX11_smallTop_1 ?_
  refine lv_iconst (v := Int32.ofInt 5) hx hb dX11_smallTop_4 rfl ?_
  refine lv_iload_n hx hb dX11_smallTop_5 rfl (lv_at hl 1 rfl) ?_
  refine xi_imul hx hb dX11_smallTop_6 hf (fun v1 hf => ?_)
  refine lv_aload_n hx hb dX11_smallTop_7 rfl (lv_at hl 0 rfl) ?_
  refine va_get (D := (dC, dI)) (ci := 11) (v := .ref q23) (C := RX11) (T := TX11) (N := 53) hx hb hz zi_X11 hown hK hP 0 rfl rfl 42 (by decide) (hz _ zw_1207) (fun _ h9 => h9) rfl dX11_smallTop_8 ?_
  refine lv_iload_n hx hb dX11_smallTop_11 rfl (lv_at hl 1 rfl) ?_
  refine xi_iald hx hb hK hP 2 0 rfl rfl dX11_smallTop_12 hf (fun v2 hf => ?_)
  refine xi_iadd hx hb dX11_smallTop_13 hf (fun v3 hf => ?_)
  refine lv_iconst (v := Int32.ofInt 1) hx hb dX11_smallTop_14 rfl ?_
  refine xi_isub hx hb dX11_smallTop_15 hf (fun v4 hf => ?_)
  refine xi_iald hx hb hK hP 1 0 rfl rfl dX11_smallTop_16 hf (fun v5 hf => ?_)
  obtain rfl := Option.some.inj hf
  exact hret _ _ _ _ rfl dX11_smallTop_17 hP hD hS
theorem dX11_openSmall_0 : decode cX11_openSmall 0 = .ok (.iload_n 1, 1) := by decide +kernel
theorem dX11_openSmall_1 : decode cX11_openSmall 1 = .ok (.istore_n 3, 1) := by decide +kernel
theorem dX11_openSmall_2 : decode cX11_openSmall 2 = .ok (.iconst 3, 1) := by decide +kernel
theorem dX11_openSmall_3 : decode cX11_openSmall 3 = .ok (.istore 4, 2) := by decide +kernel
theorem dX11_openSmall_5 : decode cX11_openSmall 5 = .ok (.iconst 0, 1) := by decide +kernel
theorem dX11_openSmall_6 : decode cX11_openSmall 6 = .ok (.istore 5, 2) := by decide +kernel
theorem dX11_openSmall_8 : decode cX11_openSmall 8 = .ok (.iload 5, 2) := by decide +kernel
theorem dX11_openSmall_10 : decode cX11_openSmall 10 = .ok (.iconst 4, 1) := by decide +kernel
theorem dX11_openSmall_11 : decode cX11_openSmall 11 = .ok (.if_icmp .ge 17, 3) := by decide +kernel
theorem dX11_openSmall_14 : decode cX11_openSmall 14 = .ok (.aload_n 0, 1) := by decide +kernel
theorem dX11_openSmall_15 : decode cX11_openSmall 15 = .ok (.getfield 99, 3) := by decide +kernel
theorem dX11_openSmall_18 : decode cX11_openSmall 18 = .ok (.iload 5, 2) := by decide +kernel
theorem dX11_openSmall_20 : decode cX11_openSmall 20 = .ok (.iconst 0, 1) := by decide +kernel
theorem dX11_openSmall_21 : decode cX11_openSmall 21 = .ok (.iastore, 1) := by decide +kernel
theorem dX11_openSmall_22 : decode cX11_openSmall 22 = .ok (.iinc 5 1, 3) := by decide +kernel
theorem dX11_openSmall_25 : decode cX11_openSmall 25 = .ok (.goto (-17), 3) := by decide +kernel
theorem dX11_openSmall_28 : decode cX11_openSmall 28 = .ok (.iconst 0, 1) := by decide +kernel
theorem dX11_openSmall_29 : decode cX11_openSmall 29 = .ok (.istore 5, 2) := by decide +kernel
theorem dX11_openSmall_31 : decode cX11_openSmall 31 = .ok (.iload 5, 2) := by decide +kernel
theorem dX11_openSmall_33 : decode cX11_openSmall 33 = .ok (.iload_n 2, 1) := by decide +kernel
theorem dX11_openSmall_34 : decode cX11_openSmall 34 = .ok (.iconst 3, 1) := by decide +kernel
theorem dX11_openSmall_35 : decode cX11_openSmall 35 = .ok (.iadd, 1) := by decide +kernel
theorem dX11_openSmall_36 : decode cX11_openSmall 36 = .ok (.if_icmp .ge 63, 3) := by decide +kernel
theorem dX11_openSmall_39 : decode cX11_openSmall 39 = .ok (.iload_n 3, 1) := by decide +kernel
theorem dX11_openSmall_40 : decode cX11_openSmall 40 = .ok (.bipush 6, 2) := by decide +kernel
theorem dX11_openSmall_42 : decode cX11_openSmall 42 = .ok (.irem, 1) := by decide +kernel
theorem dX11_openSmall_43 : decode cX11_openSmall 43 = .ok (.istore 6, 2) := by decide +kernel
theorem dX11_openSmall_45 : decode cX11_openSmall 45 = .ok (.iload_n 3, 1) := by decide +kernel
theorem dX11_openSmall_46 : decode cX11_openSmall 46 = .ok (.bipush 6, 2) := by decide +kernel
theorem dX11_openSmall_48 : decode cX11_openSmall 48 = .ok (.idiv, 1) := by decide +kernel
theorem dX11_openSmall_49 : decode cX11_openSmall 49 = .ok (.istore_n 3, 1) := by decide +kernel
theorem dX11_openSmall_50 : decode cX11_openSmall 50 = .ok (.iload 6, 2) := by decide +kernel
theorem dX11_openSmall_52 : decode cX11_openSmall 52 = .ok (.ifCond .ne 9, 3) := by decide +kernel
theorem dX11_openSmall_55 : decode cX11_openSmall 55 = .ok (.iinc 4 (-1), 3) := by decide +kernel
theorem dX11_openSmall_58 : decode cX11_openSmall 58 = .ok (.goto 35, 3) := by decide +kernel
theorem dX11_openSmall_61 : decode cX11_openSmall 61 = .ok (.aload_n 0, 1) := by decide +kernel
theorem dX11_openSmall_62 : decode cX11_openSmall 62 = .ok (.getfield 96, 3) := by decide +kernel
theorem dX11_openSmall_65 : decode cX11_openSmall 65 = .ok (.iconst 5, 1) := by decide +kernel
theorem dX11_openSmall_66 : decode cX11_openSmall 66 = .ok (.iload 4, 2) := by decide +kernel
theorem dX11_openSmall_68 : decode cX11_openSmall 68 = .ok (.imul, 1) := by decide +kernel
theorem dX11_openSmall_69 : decode cX11_openSmall 69 = .ok (.aload_n 0, 1) := by decide +kernel
theorem dX11_openSmall_70 : decode cX11_openSmall 70 = .ok (.getfield 99, 3) := by decide +kernel
theorem dX11_openSmall_73 : decode cX11_openSmall 73 = .ok (.iload 4, 2) := by decide +kernel
theorem dX11_openSmall_75 : decode cX11_openSmall 75 = .ok (.iaload, 1) := by decide +kernel
theorem dX11_openSmall_76 : decode cX11_openSmall 76 = .ok (.iadd, 1) := by decide +kernel
theorem dX11_openSmall_77 : decode cX11_openSmall 77 = .ok (.iload 6, 2) := by decide +kernel
theorem dX11_openSmall_79 : decode cX11_openSmall 79 = .ok (.iconst 1, 1) := by decide +kernel
theorem dX11_openSmall_80 : decode cX11_openSmall 80 = .ok (.isub, 1) := by decide +kernel
theorem dX11_openSmall_81 : decode cX11_openSmall 81 = .ok (.iastore, 1) := by decide +kernel
theorem dX11_openSmall_82 : decode cX11_openSmall 82 = .ok (.aload_n 0, 1) := by decide +kernel
theorem dX11_openSmall_83 : decode cX11_openSmall 83 = .ok (.getfield 99, 3) := by decide +kernel
theorem dX11_openSmall_86 : decode cX11_openSmall 86 = .ok (.iload 4, 2) := by decide +kernel
theorem dX11_openSmall_88 : decode cX11_openSmall 88 = .ok (.dup2, 1) := by decide +kernel
theorem dX11_openSmall_89 : decode cX11_openSmall 89 = .ok (.iaload, 1) := by decide +kernel
theorem dX11_openSmall_90 : decode cX11_openSmall 90 = .ok (.iconst 1, 1) := by decide +kernel
theorem dX11_openSmall_91 : decode cX11_openSmall 91 = .ok (.iadd, 1) := by decide +kernel
theorem dX11_openSmall_92 : decode cX11_openSmall 92 = .ok (.iastore, 1) := by decide +kernel
theorem dX11_openSmall_93 : decode cX11_openSmall 93 = .ok (.iinc 5 1, 3) := by decide +kernel
theorem dX11_openSmall_96 : decode cX11_openSmall 96 = .ok (.goto (-65), 3) := by decide +kernel
theorem dX11_openSmall_99 : decode cX11_openSmall 99 = .ok (.iconst 0, 1) := by decide +kernel
theorem dX11_openSmall_100 : decode cX11_openSmall 100 = .ok (.istore 5, 2) := by decide +kernel
theorem dX11_openSmall_102 : decode cX11_openSmall 102 = .ok (.iload 5, 2) := by decide +kernel
theorem dX11_openSmall_104 : decode cX11_openSmall 104 = .ok (.iconst 4, 1) := by decide +kernel
theorem dX11_openSmall_105 : decode cX11_openSmall 105 = .ok (.if_icmp .ge 98, 3) := by decide +kernel
theorem dX11_openSmall_108 : decode cX11_openSmall 108 = .ok (.iconst 0, 1) := by decide +kernel
theorem dX11_openSmall_109 : decode cX11_openSmall 109 = .ok (.istore 6, 2) := by decide +kernel
theorem dX11_openSmall_111 : decode cX11_openSmall 111 = .ok (.iload 6, 2) := by decide +kernel
theorem dX11_openSmall_113 : decode cX11_openSmall 113 = .ok (.aload_n 0, 1) := by decide +kernel
theorem dX11_openSmall_114 : decode cX11_openSmall 114 = .ok (.getfield 99, 3) := by decide +kernel
theorem dX11_openSmall_117 : decode cX11_openSmall 117 = .ok (.iload 5, 2) := by decide +kernel
theorem dX11_openSmall_119 : decode cX11_openSmall 119 = .ok (.iaload, 1) := by decide +kernel
theorem dX11_openSmall_120 : decode cX11_openSmall 120 = .ok (.iconst 2, 1) := by decide +kernel
theorem dX11_openSmall_121 : decode cX11_openSmall 121 = .ok (.idiv, 1) := by decide +kernel
theorem dX11_openSmall_122 : decode cX11_openSmall 122 = .ok (.if_icmp .ge 75, 3) := by decide +kernel
theorem dX11_openSmall_125 : decode cX11_openSmall 125 = .ok (.aload_n 0, 1) := by decide +kernel
theorem dX11_openSmall_126 : decode cX11_openSmall 126 = .ok (.getfield 99, 3) := by decide +kernel
theorem dX11_openSmall_129 : decode cX11_openSmall 129 = .ok (.iload 5, 2) := by decide +kernel
theorem dX11_openSmall_131 : decode cX11_openSmall 131 = .ok (.iaload, 1) := by decide +kernel
theorem dX11_openSmall_132 : decode cX11_openSmall 132 = .ok (.iconst 1, 1) := by decide +kernel
theorem dX11_openSmall_133 : decode cX11_openSmall 133 = .ok (.isub, 1) := by decide +kernel
theorem dX11_openSmall_134 : decode cX11_openSmall 134 = .ok (.iload 6, 2) := by decide +kernel
theorem dX11_openSmall_136 : decode cX11_openSmall 136 = .ok (.isub, 1) := by decide +kernel
theorem dX11_openSmall_137 : decode cX11_openSmall 137 = .ok (.istore 7, 2) := by decide +kernel
theorem dX11_openSmall_139 : decode cX11_openSmall 139 = .ok (.aload_n 0, 1) := by decide +kernel
theorem dX11_openSmall_140 : decode cX11_openSmall 140 = .ok (.getfield 96, 3) := by decide +kernel
theorem dX11_openSmall_143 : decode cX11_openSmall 143 = .ok (.iconst 5, 1) := by decide +kernel
theorem dX11_openSmall_144 : decode cX11_openSmall 144 = .ok (.iload 5, 2) := by decide +kernel
theorem dX11_openSmall_146 : decode cX11_openSmall 146 = .ok (.imul, 1) := by decide +kernel
theorem dX11_openSmall_147 : decode cX11_openSmall 147 = .ok (.iload 6, 2) := by decide +kernel
theorem dX11_openSmall_149 : decode cX11_openSmall 149 = .ok (.iadd, 1) := by decide +kernel
theorem dX11_openSmall_150 : decode cX11_openSmall 150 = .ok (.iaload, 1) := by decide +kernel
theorem dX11_openSmall_151 : decode cX11_openSmall 151 = .ok (.istore 8, 2) := by decide +kernel
theorem dX11_openSmall_153 : decode cX11_openSmall 153 = .ok (.aload_n 0, 1) := by decide +kernel
theorem dX11_openSmall_154 : decode cX11_openSmall 154 = .ok (.getfield 96, 3) := by decide +kernel
theorem dX11_openSmall_157 : decode cX11_openSmall 157 = .ok (.iconst 5, 1) := by decide +kernel
theorem dX11_openSmall_158 : decode cX11_openSmall 158 = .ok (.iload 5, 2) := by decide +kernel
theorem dX11_openSmall_160 : decode cX11_openSmall 160 = .ok (.imul, 1) := by decide +kernel
theorem dX11_openSmall_161 : decode cX11_openSmall 161 = .ok (.iload 6, 2) := by decide +kernel
theorem dX11_openSmall_163 : decode cX11_openSmall 163 = .ok (.iadd, 1) := by decide +kernel
theorem dX11_openSmall_164 : decode cX11_openSmall 164 = .ok (.aload_n 0, 1) := by decide +kernel
theorem dX11_openSmall_165 : decode cX11_openSmall 165 = .ok (.getfield 96, 3) := by decide +kernel
theorem dX11_openSmall_168 : decode cX11_openSmall 168 = .ok (.iconst 5, 1) := by decide +kernel
theorem dX11_openSmall_169 : decode cX11_openSmall 169 = .ok (.iload 5, 2) := by decide +kernel
theorem dX11_openSmall_171 : decode cX11_openSmall 171 = .ok (.imul, 1) := by decide +kernel
theorem dX11_openSmall_172 : decode cX11_openSmall 172 = .ok (.iload 7, 2) := by decide +kernel
theorem dX11_openSmall_174 : decode cX11_openSmall 174 = .ok (.iadd, 1) := by decide +kernel
theorem dX11_openSmall_175 : decode cX11_openSmall 175 = .ok (.iaload, 1) := by decide +kernel
theorem dX11_openSmall_176 : decode cX11_openSmall 176 = .ok (.iastore, 1) := by decide +kernel
theorem dX11_openSmall_177 : decode cX11_openSmall 177 = .ok (.aload_n 0, 1) := by decide +kernel
theorem dX11_openSmall_178 : decode cX11_openSmall 178 = .ok (.getfield 96, 3) := by decide +kernel
theorem dX11_openSmall_181 : decode cX11_openSmall 181 = .ok (.iconst 5, 1) := by decide +kernel
theorem dX11_openSmall_182 : decode cX11_openSmall 182 = .ok (.iload 5, 2) := by decide +kernel
theorem dX11_openSmall_184 : decode cX11_openSmall 184 = .ok (.imul, 1) := by decide +kernel
theorem dX11_openSmall_185 : decode cX11_openSmall 185 = .ok (.iload 7, 2) := by decide +kernel
theorem dX11_openSmall_187 : decode cX11_openSmall 187 = .ok (.iadd, 1) := by decide +kernel
theorem dX11_openSmall_188 : decode cX11_openSmall 188 = .ok (.iload 8, 2) := by decide +kernel
theorem dX11_openSmall_190 : decode cX11_openSmall 190 = .ok (.iastore, 1) := by decide +kernel
theorem dX11_openSmall_191 : decode cX11_openSmall 191 = .ok (.iinc 6 1, 3) := by decide +kernel
theorem dX11_openSmall_194 : decode cX11_openSmall 194 = .ok (.goto (-83), 3) := by decide +kernel
theorem dX11_openSmall_197 : decode cX11_openSmall 197 = .ok (.iinc 5 1, 3) := by decide +kernel
theorem dX11_openSmall_200 : decode cX11_openSmall 200 = .ok (.goto (-98), 3) := by decide +kernel
theorem dX11_openSmall_203 : decode cX11_openSmall 203 = .ok (.return_, 1) := by decide +kernel
theorem zw_1681 : (Jvm.Cond.code ({ cls := "HillSchoolModel", name := "openSmall", desc := "(II)V" } : Jvm.MethodName) prog_13_method_85_code (9 : Nat) (Option.none : Option Jvm.ClassFile.FieldType)) ∈ zall := zmemG (zmj_7 138 rfl) rfl
abbrev w_HM_openSmall : List Cond := .code yX11_openSmall cX11_openSmall 9 none :: zall
abbrev rm_HM_openSmall : Room := { frames := 0, cells := 0, slots := 0, locals := 0 }
theorem hd_HM_openSmall : yX11_openSmall.cls = "HillSchoolModel" ∧ yX11_openSmall.cls ≠ "java/lang/invoke/MethodHandle" ∧ yX11_openSmall.cls ≠ "java/lang/invoke/VarHandle" ∧ (parseMethodDescriptor yX11_openSmall.desc).map (fun d => d.parameters.length) = some 2 := by decide +kernel
def wd_HM_openSmall (cA : Nat → ClassId) (q0 q1 q2 q3 q4 q5 q6 q7 q8 q9 q10 q11 q12 q13 q14 q15 q16 q17 q18 q19 q20 q21 q22 q23 q24 q25 q26 q27 q28 q29 q30 q31 : Nat) (u0 u1 u2 u3 u4 u5 u6 u7 u8 u9 u10 u11 u12 u13 u14 u15 u16 u17 u18 u19 u20 u21 : Int)  (i_small : Nat → Int) (i_tall : Nat → Int) : va_W := [(q0, .inr (11, [.int (Int32.ofInt u0), .int (Int32.ofInt u1), .ref q1, .ref q2, .ref q3, .ref q4, .int (Int32.ofInt u2), .ref q5, .int (Int32.ofInt u3), .int (Int32.ofInt u4), .int (Int32.ofInt u5), .int (Int32.ofInt u6), .long (Int64.ofInt u7), .int (Int32.ofInt u8), .int (Int32.ofInt u9), .int (Int32.ofInt u10), .ref q6, .int (Int32.ofInt u11), .ref q7, .ref q8, .int (Int32.ofInt u12), .ref q9, .ref q10, .int (Int32.ofInt u13), .int (Int32.ofInt u14), .ref q11, .int (Int32.ofInt u15), .ref q12, .ref q13, .int (Int32.ofInt u16), .long (Int64.ofInt u17), .long (Int64.ofInt u18), .ref q14, .ref q15, .ref q16, .ref q17, .ref q18, .int (Int32.ofInt u19), .ref q19, .ref q20, .ref q21, .ref q22, .ref q23, .ref q24, .ref q25, .ref q26, .ref q27, .ref q28, .ref q29, .ref q30, .long (Int64.ofInt u20), .ref q31, .int (Int32.ofInt u21)])), (q22, .inl (cA 0, 20, .inl (za i_small))), (q23, .inl (cA 0, 4, .inl (za i_tall)))]
def wf_HM_openSmall (cA : Nat → ClassId) (q0 q1 q2 q3 q4 q5 q6 q7 q8 q9 q10 q11 q12 q13 q14 q15 q16 q17 q18 q19 q20 q21 q22 q23 q24 q25 q26 q27 q28 q29 q30 q31 : Nat) (u0 u1 u2 u3 u4 u5 u6 u7 u8 u9 u10 u11 u12 u13 u14 u15 u16 u17 u18 u19 u20 u21 : Int)  (o : (Nat → Int) × (Nat → Int)) : va_W := wd_HM_openSmall cA q0 q1 q2 q3 q4 q5 q6 q7 q8 q9 q10 q11 q12 q13 q14 q15 q16 q17 q18 q19 q20 q21 q22 q23 q24 q25 q26 q27 q28 q29 q30 q31 u0 u1 u2 u3 u4 u5 u6 u7 u8 u9 u10 u11 u12 u13 u14 u15 u16 u17 u18 u19 u20 u21 o.1 o.2
def f_HM_openSmall_111_b (k102 : Int → (Nat → Int) → (Nat → Int) → Option ((Nat → Int) × (Nat → Int))) (k111 : Int → Int → (Nat → Int) → (Nat → Int) → Option ((Nat → Int) × (Nat → Int))) (x5 : Int) (x6 : Int) (i_small : Nat → Int) (i_tall : Nat → Int) : Option ((Nat → Int) × (Nat → Int)) :=
  zg 4 i_tall x5 fun v1 =>
  if zi_w 2 = 0 then none else zn (zi_div v1 2) fun v2 =>
  if zi_w v2 ≤ zi_w x6 then
    zn (x5 + 1) fun v3 =>
    k102 v3 i_small i_tall
  else
    zg 4 i_tall x5 fun v4 =>
    zn (v4 - 1) fun v5 =>
    zn (v5 - x6) fun v6 =>
    zn (5 * x5) fun v7 =>
    zn (v7 + x6) fun v8 =>
    zg 20 i_small v8 fun v9 =>
    zn (5 * x5) fun v10 =>
    zn (v10 + x6) fun v11 =>
    zn (5 * x5) fun v12 =>
    zn (v12 + v6) fun v13 =>
    zg 20 i_small v13 fun v14 =>
    zs 20 i_small v11 v14 fun a15 =>
    zn (5 * x5) fun v16 =>
    zn (v16 + v6) fun v17 =>
    zs 20 a15 v17 v9 fun a18 =>
    zn (x6 + 1) fun v19 =>
    k111 x5 v19 a18 i_tall
def f_HM_openSmall_111 (k102 : Int → (Nat → Int) → (Nat → Int) → Option ((Nat → Int) × (Nat → Int))) : Nat → Int → Int → (Nat → Int) → (Nat → Int) → Option ((Nat → Int) × (Nat → Int))
  | 0 => fun _ _ _ _ => none
  | n + 1 => fun y0 y1 y2 y3 => f_HM_openSmall_111_b k102 (f_HM_openSmall_111 k102 n) y0 y1 y2 y3
def f_HM_openSmall_102_b  (k102 : Int → (Nat → Int) → (Nat → Int) → Option ((Nat → Int) × (Nat → Int))) (x5 : Int) (i_small : Nat → Int) (i_tall : Nat → Int) : Option ((Nat → Int) × (Nat → Int)) :=
  if zi_w 4 ≤ zi_w x5 then
    some (i_small, i_tall)
  else
    f_HM_openSmall_111 k102 zfu x5 0 i_small i_tall
def f_HM_openSmall_102  : Nat → Int → (Nat → Int) → (Nat → Int) → Option ((Nat → Int) × (Nat → Int))
  | 0 => fun _ _ _ => none
  | n + 1 => fun y0 y1 y2 => f_HM_openSmall_102_b  (f_HM_openSmall_102  n) y0 y1 y2
def f_HM_openSmall_93 (k31 : Int → Int → Int → Int → (Nat → Int) → (Nat → Int) → Option ((Nat → Int) × (Nat → Int))) (x2 : Int) (x3 : Int) (x4 : Int) (x5 : Int) (i_small : Nat → Int) (i_tall : Nat → Int) : Option ((Nat → Int) × (Nat → Int)) :=
  zn (x5 + 1) fun v1 =>
  k31 x2 x3 x4 v1 i_small i_tall
def f_HM_openSmall_31_b  (k31 : Int → Int → Int → Int → (Nat → Int) → (Nat → Int) → Option ((Nat → Int) × (Nat → Int))) (x2 : Int) (x3 : Int) (x4 : Int) (x5 : Int) (i_small : Nat → Int) (i_tall : Nat → Int) : Option ((Nat → Int) × (Nat → Int)) :=
  zn (x2 + 3) fun v1 =>
  if zi_w v1 ≤ zi_w x5 then
    f_HM_openSmall_102 zfu 0 i_small i_tall
  else
    if zi_w 6 = 0 then none else zn (zi_rem x3 6) fun v2 =>
    if zi_w 6 = 0 then none else zn (zi_div x3 6) fun v3 =>
    if zi_w v2 ≠ 0 then
      zn (5 * x4) fun v4 =>
      zg 4 i_tall x4 fun v5 =>
      zn (v4 + v5) fun v6 =>
      zn (v2 - 1) fun v7 =>
      zs 20 i_small v6 v7 fun a8 =>
      zg 4 i_tall x4 fun v9 =>
      zn (v9 + 1) fun v10 =>
      zs 4 i_tall x4 v10 fun a11 =>
      f_HM_openSmall_93 k31 x2 v3 x4 x5 a8 a11
    else
      zn (x4 + (-1)) fun v12 =>
      f_HM_openSmall_93 k31 x2 v3 v12 x5 i_small i_tall
def f_HM_openSmall_31  : Nat → Int → Int → Int → Int → (Nat → Int) → (Nat → Int) → Option ((Nat → Int) × (Nat → Int))
  | 0 => fun _ _ _ _ _ _ => none
  | n + 1 => fun y0 y1 y2 y3 y4 y5 => f_HM_openSmall_31_b  (f_HM_openSmall_31  n) y0 y1 y2 y3 y4 y5
def f_HM_openSmall_8_b  (k8 : Int → Int → Int → Int → (Nat → Int) → (Nat → Int) → Option ((Nat → Int) × (Nat → Int))) (x2 : Int) (x3 : Int) (x4 : Int) (x5 : Int) (i_small : Nat → Int) (i_tall : Nat → Int) : Option ((Nat → Int) × (Nat → Int)) :=
  if zi_w 4 ≤ zi_w x5 then
    f_HM_openSmall_31 zfu x2 x3 x4 0 i_small i_tall
  else
    zs 4 i_tall x5 0 fun a1 =>
    zn (x5 + 1) fun v2 =>
    k8 x2 x3 x4 v2 i_small a1
def f_HM_openSmall_8  : Nat → Int → Int → Int → Int → (Nat → Int) → (Nat → Int) → Option ((Nat → Int) × (Nat → Int))
  | 0 => fun _ _ _ _ _ _ => none
  | n + 1 => fun y0 y1 y2 y3 y4 y5 => f_HM_openSmall_8_b  (f_HM_openSmall_8  n) y0 y1 y2 y3 y4 y5
def f_HM_openSmall (x1 : Int) (x2 : Int) (i_small : Nat → Int) (i_tall : Nat → Int) : Option ((Nat → Int) × (Nat → Int)) :=
  f_HM_openSmall_8 zfu x2 x1 3 0 i_small i_tall
set_option maxHeartbeats 4000000 in
set_option maxRecDepth 100000 in
theorem c_HM_openSmall (l : Launch) (ev : zEv) (dC : Nat → ClassId) (dI : Nat → Nat → Nat) (cA : Nat → ClassId) (q0 q1 q2 q3 q4 q5 q6 q7 q8 q9 q10 q11 q12 q13 q14 q15 q16 q17 q18 q19 q20 q21 q22 q23 q24 q25 q26 q27 q28 q29 q30 q31 : Nat) (u0 u1 u2 u3 u4 u5 u6 u7 u8 u9 u10 u11 u12 u13 u14 u15 u16 u17 u18 u19 u20 u21 : Int) {x1 x2 : Int} {i_small : Nat → Int} {i_tall : Nat → Int} {out : (Nat → Int) × (Nat → Int)} (hf : f_HM_openSmall x1 x2 i_small i_tall = some out) : xc_V l ev (dC, dI) vwCl (tyl cA) yX11_openSmall w_HM_openSmall rm_HM_openSmall [.ref q0, .int (Int32.ofInt x1), .int (Int32.ofInt x2)] (wd_HM_openSmall cA q0 q1 q2 q3 q4 q5 q6 q7 q8 q9 q10 q11 q12 q13 q14 q15 q16 q17 q18 q19 q20 q21 q22 q23 q24 q25 q26 q27 q28 q29 q30 q31 u0 u1 u2 u3 u4 u5 u6 u7 u8 u9 u10 u11 u12 u13 u14 u15 u16 u17 u18 u19 u20 u21 i_small i_tall) (wf_HM_openSmall cA q0 q1 q2 q3 q4 q5 q6 q7 q8 q9 q10 q11 q12 q13 q14 q15 q16 q17 q18 q19 q20 q21 q22 q23 q24 q25 q26 q27 q28 q29 q30 q31 u0 u1 u2 u3 u4 u5 u6 u7 u8 u9 u10 u11 u12 u13 u14 u15 u16 u17 u18 u19 u20 u21 out) := by
  refine xv_startV (cc := cX11_openSmall) (maxL := 9) (by decide +kernel) rfl (Nat.le_of_ble_eq_true rfl) ?_
  intro p e s m args below meth c A Q H ls hx hb hml hts hown hK hA hP hD hS hl hE hret
  have hown : s.vm.findClass "HillSchoolModel" = some m.cls := hown
  have hz : ∀ w ∈ zall, w.before args s = true := fun w h => hts w (List.mem_cons_of_mem _ h)
  have hl : lv_has ls 9 [(0, .ref q0), (1, .int (Int32.ofInt x1)), (2, .int (Int32.ofInt x2))] := hl
  have b_111 : ∀ (k102 : Int → (Nat → Int) → (Nat → Int) → Option ((Nat → Int) × (Nat → Int))) (_ : ∀ (x5 : Int) (i_small : Nat → Int) (i_tall : Nat → Int) (H : Heap) (locs : List Loc) (ls : Array Slot), k102 x5 i_small i_tall = some out → va_P (dC, dI) vwCl (wd_HM_openSmall cA q0 q1 q2 q3 q4 q5 q6 q7 q8 q9 q10 q11 q12 q13 q14 q15 q16 q17 q18 q19 q20 q21 q22 q23 q24 q25 q26 q27 q28 q29 q30 q31 u0 u1 u2 u3 u4 u5 u6 u7 u8 u9 u10 u11 u12 u13 u14 u15 u16 u17 u18 u19 u20 u21 i_small i_tall) H → va_D A (wd_HM_openSmall cA q0 q1 q2 q3 q4 q5 q6 q7 q8 q9 q10 q11 q12 q13 q14 q15 q16 q17 q18 q19 q20 q21 q22 q23 q24 q25 q26 q27 q28 q29 q30 q31 u0 u1 u2 u3 u4 u5 u6 u7 u8 u9 u10 u11 u12 u13 u14 u15 u16 u17 u18 u19 u20 u21 i_small i_tall) → va_S A s.heap H locs → lv_has ls 9 [(0, .ref q0), (5, .int (Int32.ofInt x5))] → W p l e rm_HM_openSmall s m args below meth c H locs 0 0 Q (F0 m 102 ls [])), ∀ (k111 : Int → Int → (Nat → Int) → (Nat → Int) → Option ((Nat → Int) × (Nat → Int))) (_ : ∀ (x5 : Int) (x6 : Int) (i_small : Nat → Int) (i_tall : Nat → Int) (H : Heap) (locs : List Loc) (ls : Array Slot), k111 x5 x6 i_small i_tall = some out → va_P (dC, dI) vwCl (wd_HM_openSmall cA q0 q1 q2 q3 q4 q5 q6 q7 q8 q9 q10 q11 q12 q13 q14 q15 q16 q17 q18 q19 q20 q21 q22 q23 q24 q25 q26 q27 q28 q29 q30 q31 u0 u1 u2 u3 u4 u5 u6 u7 u8 u9 u10 u11 u12 u13 u14 u15 u16 u17 u18 u19 u20 u21 i_small i_tall) H → va_D A (wd_HM_openSmall cA q0 q1 q2 q3 q4 q5 q6 q7 q8 q9 q10 q11 q12 q13 q14 q15 q16 q17 q18 q19 q20 q21 q22 q23 q24 q25 q26 q27 q28 q29 q30 q31 u0 u1 u2 u3 u4 u5 u6 u7 u8 u9 u10 u11 u12 u13 u14 u15 u16 u17 u18 u19 u20 u21 i_small i_tall) → va_S A s.heap H locs → lv_has ls 9 [(0, .ref q0), (5, .int (Int32.ofInt x5)), (6, .int (Int32.ofInt x6))] → W p l e rm_HM_openSmall s m args below meth c H locs 0 0 Q (F0 m 111 ls [])), ∀ (x5 : Int) (x6 : Int) (i_small : Nat → Int) (i_tall : Nat → Int) (H : Heap) (locs : List Loc) (ls : Array Slot), f_HM_openSmall_111_b k102 k111 x5 x6 i_small i_tall = some out → va_P (dC, dI) vwCl (wd_HM_openSmall cA q0 q1 q2 q3 q4 q5 q6 q7 q8 q9 q10 q11 q12 q13 q14 q15 q16 q17 q18 q19 q20 q21 q22 q23 q24 q25 q26 q27 q28 q29 q30 q31 u0 u1 u2 u3 u4 u5 u6 u7 u8 u9 u10 u11 u12 u13 u14 u15 u16 u17 u18 u19 u20 u21 i_small i_tall) H → va_D A (wd_HM_openSmall cA q0 q1 q2 q3 q4 q5 q6 q7 q8 q9 q10 q11 q12 q13 q14 q15 q16 q17 q18 q19 q20 q21 q22 q23 q24 q25 q26 q27 q28 q29 q30 q31 u0 u1 u2 u3 u4 u5 u6 u7 u8 u9 u10 u11 u12 u13 u14 u15 u16 u17 u18 u19 u20 u21 i_small i_tall) → va_S A s.heap H locs → lv_has ls 9 [(0, .ref q0), (5, .int (Int32.ofInt x5)), (6, .int (Int32.ofInt x6))] → W p l e rm_HM_openSmall s m args below meth c H locs 0 0 Q (F0 m 111 ls []) := by
    intro k102 ih102 k111 ih111 x5 x6 i_small i_tall H locs ls hf hP hD hS hl
    unfold f_HM_openSmall_111_b at hf
    refine lv_iload hx hb dX11_openSmall_111 (lv_at hl 2 rfl) ?_
    refine lv_aload_n hx hb dX11_openSmall_113 rfl (lv_at hl 0 rfl) ?_
    refine va_get (D := (dC, dI)) (ci := 11) (v := .ref q23) (C := RX11) (T := TX11) (N := 53) hx hb hz zi_X11 hown hK hP 0 rfl rfl 42 (by decide) (hz _ zw_1207) (fun _ h9 => h9) rfl dX11_openSmall_114 ?_
    refine lv_iload hx hb dX11_openSmall_117 (lv_at hl 1 rfl) ?_
    refine xi_iald hx hb hK hP 2 0 rfl rfl dX11_openSmall_119 hf (fun v1 hf => ?_)
    refine lv_iconst (v := Int32.ofInt 2) hx hb dX11_openSmall_120 rfl ?_
    refine xi_idiv hx hb dX11_openSmall_121 hf (fun v2 hf => ?_)
    refine xi_icmp_ge (tgt := 197) hx hb dX11_openSmall_122 (by decide) hf (fun hf => ?_) (fun hf => ?_)
    · refine xi_iinc hx hb dX11_openSmall_197 hl (k := 1) rfl (by decide) hf (fun v3 ls hl hf => ?_)
      have hl : lv_has ls 9 [(5, .int (Int32.ofInt v3)), (0, .ref q0), (6, .int (Int32.ofInt x6))] := hl
      refine lv_goto (tgt := 102) hx hb dX11_openSmall_200 (by decide) ?_
      exact ih102 _ _ _ _ _ _ hf hP hD hS (lv_sub hl [1, 0] rfl)
    · refine lv_aload_n hx hb dX11_openSmall_125 rfl (lv_at hl 0 rfl) ?_
      refine va_get (D := (dC, dI)) (ci := 11) (v := .ref q23) (C := RX11) (T := TX11) (N := 53) hx hb hz zi_X11 hown hK hP 0 rfl rfl 42 (by decide) (hz _ zw_1207) (fun _ h9 => h9) rfl dX11_openSmall_126 ?_
      refine lv_iload hx hb dX11_openSmall_129 (lv_at hl 1 rfl) ?_
      refine xi_iald hx hb hK hP 2 0 rfl rfl dX11_openSmall_131 hf (fun v4 hf => ?_)
      refine lv_iconst (v := Int32.ofInt 1) hx hb dX11_openSmall_132 rfl ?_
      refine xi_isub hx hb dX11_openSmall_133 hf (fun v5 hf => ?_)
      refine lv_iload hx hb dX11_openSmall_134 (lv_at hl 2 rfl) ?_
      refine xi_isub hx hb dX11_openSmall_136 hf (fun v6 hf => ?_)
      refine lv_istore (lv' := [(7, .int (Int32.ofInt v6)), (0, .ref q0), (5, .int (Int32.ofInt x5)), (6, .int (Int32.ofInt x6))]) hx hb dX11_openSmall_137 hl (by decide) rfl (fun ls hl => ?_)
      refine lv_aload_n hx hb dX11_openSmall_139 rfl (lv_at hl 1 rfl) ?_
      refine va_get (D := (dC, dI)) (ci := 11) (v := .ref q22) (C := RX11) (T := TX11) (N := 53) hx hb hz zi_X11 hown hK hP 0 rfl rfl 41 (by decide) (hz _ zw_1206) (fun _ h9 => h9) rfl dX11_openSmall_140 ?_
      refine lv_iconst (v := Int32.ofInt 5) hx hb dX11_openSmall_143 rfl ?_
      refine lv_iload hx hb dX11_openSmall_144 (lv_at hl 2 rfl) ?_
      refine xi_imul hx hb dX11_openSmall_146 hf (fun v7 hf => ?_)
      refine lv_iload hx hb dX11_openSmall_147 (lv_at hl 3 rfl) ?_
      refine xi_iadd hx hb dX11_openSmall_149 hf (fun v8 hf => ?_)
      refine xi_iald hx hb hK hP 1 0 rfl rfl dX11_openSmall_150 hf (fun v9 hf => ?_)
      refine lv_istore (lv' := [(8, .int (Int32.ofInt v9)), (7, .int (Int32.ofInt v6)), (0, .ref q0), (5, .int (Int32.ofInt x5)), (6, .int (Int32.ofInt x6))]) hx hb dX11_openSmall_151 hl (by decide) rfl (fun ls hl => ?_)
      refine lv_aload_n hx hb dX11_openSmall_153 rfl (lv_at hl 2 rfl) ?_
      refine va_get (D := (dC, dI)) (ci := 11) (v := .ref q22) (C := RX11) (T := TX11) (N := 53) hx hb hz zi_X11 hown hK hP 0 rfl rfl 41 (by decide) (hz _ zw_1206) (fun _ h9 => h9) rfl dX11_openSmall_154 ?_
      refine lv_iconst (v := Int32.ofInt 5) hx hb dX11_openSmall_157 rfl ?_
      refine lv_iload hx hb dX11_openSmall_158 (lv_at hl 3 rfl) ?_
      refine xi_imul hx hb dX11_openSmall_160 hf (fun v10 hf => ?_)
      refine lv_iload hx hb dX11_openSmall_161 (lv_at hl 4 rfl) ?_
      refine xi_iadd hx hb dX11_openSmall_163 hf (fun v11 hf => ?_)
      refine lv_aload_n hx hb dX11_openSmall_164 rfl (lv_at hl 2 rfl) ?_
      refine va_get (D := (dC, dI)) (ci := 11) (v := .ref q22) (C := RX11) (T := TX11) (N := 53) hx hb hz zi_X11 hown hK hP 0 rfl rfl 41 (by decide) (hz _ zw_1206) (fun _ h9 => h9) rfl dX11_openSmall_165 ?_
      refine lv_iconst (v := Int32.ofInt 5) hx hb dX11_openSmall_168 rfl ?_
      refine lv_iload hx hb dX11_openSmall_169 (lv_at hl 3 rfl) ?_
      refine xi_imul hx hb dX11_openSmall_171 hf (fun v12 hf => ?_)
      refine lv_iload hx hb dX11_openSmall_172 (lv_at hl 1 rfl) ?_
      refine xi_iadd hx hb dX11_openSmall_174 hf (fun v13 hf => ?_)
      refine xi_iald hx hb hK hP 1 0 rfl rfl dX11_openSmall_175 hf (fun v14 hf => ?_)
      refine xi_iast hx hb hK hP hD hS 1 0 rfl rfl dX11_openSmall_176 hf (fun a15 H locs hP hD hS hf => ?_)
      have hP : va_P (dC, dI) vwCl (wd_HM_openSmall cA q0 q1 q2 q3 q4 q5 q6 q7 q8 q9 q10 q11 q12 q13 q14 q15 q16 q17 q18 q19 q20 q21 q22 q23 q24 q25 q26 q27 q28 q29 q30 q31 u0 u1 u2 u3 u4 u5 u6 u7 u8 u9 u10 u11 u12 u13 u14 u15 u16 u17 u18 u19 u20 u21 a15 i_tall) H := hP
      have hD : va_D A (wd_HM_openSmall cA q0 q1 q2 q3 q4 q5 q6 q7 q8 q9 q10 q11 q12 q13 q14 q15 q16 q17 q18 q19 q20 q21 q22 q23 q24 q25 q26 q27 q28 q29 q30 q31 u0 u1 u2 u3 u4 u5 u6 u7 u8 u9 u10 u11 u12 u13 u14 u15 u16 u17 u18 u19 u20 u21 a15 i_tall) := hD
      refine lv_aload_n hx hb dX11_openSmall_177 rfl (lv_at hl 2 rfl) ?_
      refine va_get (D := (dC, dI)) (ci := 11) (v := .ref q22) (C := RX11) (T := TX11) (N := 53) hx hb hz zi_X11 hown hK hP 0 rfl rfl 41 (by decide) (hz _ zw_1206) (fun _ h9 => h9) rfl dX11_openSmall_178 ?_
      refine lv_iconst (v := Int32.ofInt 5) hx hb dX11_openSmall_181 rfl ?_
      refine lv_iload hx hb dX11_openSmall_182 (lv_at hl 3 rfl) ?_
      refine xi_imul hx hb dX11_openSmall_184 hf (fun v16 hf => ?_)
      refine lv_iload hx hb dX11_openSmall_185 (lv_at hl 1 rfl) ?_
      refine xi_iadd hx hb dX11_openSmall_187 hf (fun v17 hf => ?_)
      refine lv_iload hx hb dX11_openSmall_188 (lv_at hl 0 rfl) ?_
      refine xi_iast hx hb hK hP hD hS 1 0 rfl rfl dX11_openSmall_190 hf (fun a18 H locs hP hD hS hf => ?_)
      have hP : va_P (dC, dI) vwCl (wd_HM_openSmall cA q0 q1 q2 q3 q4 q5 q6 q7 q8 q9 q10 q11 q12 q13 q14 q15 q16 q17 q18 q19 q20 q21 q22 q23 q24 q25 q26 q27 q28 q29 q30 q31 u0 u1 u2 u3 u4 u5 u6 u7 u8 u9 u10 u11 u12 u13 u14 u15 u16 u17 u18 u19 u20 u21 a18 i_tall) H := hP
      have hD : va_D A (wd_HM_openSmall cA q0 q1 q2 q3 q4 q5 q6 q7 q8 q9 q10 q11 q12 q13 q14 q15 q16 q17 q18 q19 q20 q21 q22 q23 q24 q25 q26 q27 q28 q29 q30 q31 u0 u1 u2 u3 u4 u5 u6 u7 u8 u9 u10 u11 u12 u13 u14 u15 u16 u17 u18 u19 u20 u21 a18 i_tall) := hD
      refine xi_iinc hx hb dX11_openSmall_191 hl (k := 4) rfl (by decide) hf (fun v19 ls hl hf => ?_)
      have hl : lv_has ls 9 [(6, .int (Int32.ofInt v19)), (8, .int (Int32.ofInt v9)), (7, .int (Int32.ofInt v6)), (0, .ref q0), (5, .int (Int32.ofInt x5))] := hl
      refine lv_goto (tgt := 111) hx hb dX11_openSmall_194 (by decide) ?_
      exact ih111 _ _ _ _ _ _ _ hf hP hD hS (lv_sub hl [3, 4, 0] rfl)
  have l_111 : ∀ (k102 : Int → (Nat → Int) → (Nat → Int) → Option ((Nat → Int) × (Nat → Int))) (_ : ∀ (x5 : Int) (i_small : Nat → Int) (i_tall : Nat → Int) (H : Heap) (locs : List Loc) (ls : Array Slot), k102 x5 i_small i_tall = some out → va_P (dC, dI) vwCl (wd_HM_openSmall cA q0 q1 q2 q3 q4 q5 q6 q7 q8 q9 q10 q11 q12 q13 q14 q15 q16 q17 q18 q19 q20 q21 q22 q23 q24 q25 q26 q27 q28 q29 q30 q31 u0 u1 u2 u3 u4 u5 u6 u7 u8 u9 u10 u11 u12 u13 u14 u15 u16 u17 u18 u19 u20 u21 i_small i_tall) H → va_D A (wd_HM_openSmall cA q0 q1 q2 q3 q4 q5 q6 q7 q8 q9 q10 q11 q12 q13 q14 q15 q16 q17 q18 q19 q20 q21 q22 q23 q24 q25 q26 q27 q28 q29 q30 q31 u0 u1 u2 u3 u4 u5 u6 u7 u8 u9 u10 u11 u12 u13 u14 u15 u16 u17 u18 u19 u20 u21 i_small i_tall) → va_S A s.heap H locs → lv_has ls 9 [(0, .ref q0), (5, .int (Int32.ofInt x5))] → W p l e rm_HM_openSmall s m args below meth c H locs 0 0 Q (F0 m 102 ls [])), ∀ (n : Nat), ∀ (x5 : Int) (x6 : Int) (i_small : Nat → Int) (i_tall : Nat → Int) (H : Heap) (locs : List Loc) (ls : Array Slot), f_HM_openSmall_111 k102 n x5 x6 i_small i_tall = some out → va_P (dC, dI) vwCl (wd_HM_openSmall cA q0 q1 q2 q3 q4 q5 q6 q7 q8 q9 q10 q11 q12 q13 q14 q15 q16 q17 q18 q19 q20 q21 q22 q23 q24 q25 q26 q27 q28 q29 q30 q31 u0 u1 u2 u3 u4 u5 u6 u7 u8 u9 u10 u11 u12 u13 u14 u15 u16 u17 u18 u19 u20 u21 i_small i_tall) H → va_D A (wd_HM_openSmall cA q0 q1 q2 q3 q4 q5 q6 q7 q8 q9 q10 q11 q12 q13 q14 q15 q16 q17 q18 q19 q20 q21 q22 q23 q24 q25 q26 q27 q28 q29 q30 q31 u0 u1 u2 u3 u4 u5 u6 u7 u8 u9 u10 u11 u12 u13 u14 u15 u16 u17 u18 u19 u20 u21 i_small i_tall) → va_S A s.heap H locs → lv_has ls 9 [(0, .ref q0), (5, .int (Int32.ofInt x5)), (6, .int (Int32.ofInt x6))] → W p l e rm_HM_openSmall s m args below meth c H locs 0 0 Q (F0 m 111 ls []) := by
    intro k102 ih102 n
    induction n with
    | zero => intro x5 x6 i_small i_tall H locs ls hf hP hD hS hl; exact nomatch hf
    | succ n ih => intro x5 x6 i_small i_tall H locs ls hf hP hD hS hl; exact b_111 k102 ih102 (f_HM_openSmall_111 k102 n) ih x5 x6 i_small i_tall H locs ls hf hP hD hS hl
  have b_102 : ∀ (k102 : Int → (Nat → Int) → (Nat → Int) → Option ((Nat → Int) × (Nat → Int))) (_ : ∀ (x5 : Int) (i_small : Nat → Int) (i_tall : Nat → Int) (H : Heap) (locs : List Loc) (ls : Array Slot), k102 x5 i_small i_tall = some out → va_P (dC, dI) vwCl (wd_HM_openSmall cA q0 q1 q2 q3 q4 q5 q6 q7 q8 q9 q10 q11 q12 q13 q14 q15 q16 q17 q18 q19 q20 q21 q22 q23 q24 q25 q26 q27 q28 q29 q30 q31 u0 u1 u2 u3 u4 u5 u6 u7 u8 u9 u10 u11 u12 u13 u14 u15 u16 u17 u18 u19 u20 u21 i_small i_tall) H → va_D A (wd_HM_openSmall cA q0 q1 q2 q3 q4 q5 q6 q7 q8 q9 q10 q11 q12 q13 q14 q15 q16 q17 q18 q19 q20 q21 q22 q23 q24 q25 q26 q27 q28 q29 q30 q31 u0 u1 u2 u3 u4 u5 u6 u7 u8 u9 u10 u11 u12 u13 u14 u15 u16 u17 u18 u19 u20 u21 i_small i_tall) → va_S A s.heap H locs → lv_has ls 9 [(0, .ref q0), (5, .int (Int32.ofInt x5))] → W p l e rm_HM_openSmall s m args below meth c H locs 0 0 Q (F0 m 102 ls [])), ∀ (x5 : Int) (i_small : Nat → Int) (i_tall : Nat → Int) (H : Heap) (locs : List Loc) (ls : Array Slot), f_HM_openSmall_102_b k102 x5 i_small i_tall = some out → va_P (dC, dI) vwCl (wd_HM_openSmall cA q0 q1 q2 q3 q4 q5 q6 q7 q8 q9 q10 q11 q12 q13 q14 q15 q16 q17 q18 q19 q20 q21 q22 q23 q24 q25 q26 q27 q28 q29 q30 q31 u0 u1 u2 u3 u4 u5 u6 u7 u8 u9 u10 u11 u12 u13 u14 u15 u16 u17 u18 u19 u20 u21 i_small i_tall) H → va_D A (wd_HM_openSmall cA q0 q1 q2 q3 q4 q5 q6 q7 q8 q9 q10 q11 q12 q13 q14 q15 q16 q17 q18 q19 q20 q21 q22 q23 q24 q25 q26 q27 q28 q29 q30 q31 u0 u1 u2 u3 u4 u5 u6 u7 u8 u9 u10 u11 u12 u13 u14 u15 u16 u17 u18 u19 u20 u21 i_small i_tall) → va_S A s.heap H locs → lv_has ls 9 [(0, .ref q0), (5, .int (Int32.ofInt x5))] → W p l e rm_HM_openSmall s m args below meth c H locs 0 0 Q (F0 m 102 ls []) := by
    intro k102 ih102 x5 i_small i_tall H locs ls hf hP hD hS hl
    unfold f_HM_openSmall_102_b at hf
    refine lv_iload hx hb dX11_openSmall_102 (lv_at hl 1 rfl) ?_
    refine lv_iconst (v := Int32.ofInt 4) hx hb dX11_openSmall_104 rfl ?_
    refine xi_icmp_ge (tgt := 203) hx hb dX11_openSmall_105 (by decide) hf (fun hf => ?_) (fun hf => ?_)
    · obtain rfl := Option.some.inj hf
      exact hret _ _ _ _ dX11_openSmall_203 hP hD hS
    · refine lv_iconst (v := Int32.ofInt 0) hx hb dX11_openSmall_108 rfl ?_
      refine lv_istore (lv' := [(6, .int (Int32.ofInt 0)), (0, .ref q0), (5, .int (Int32.ofInt x5))]) hx hb dX11_openSmall_109 hl (by decide) rfl (fun ls hl => ?_)
      exact l_111 _ ih102 _ _ _ _ _ _ _ _ hf hP hD hS (lv_sub hl [1, 2, 0] rfl)
  have l_102 : ∀ (n : Nat), ∀ (x5 : Int) (i_small : Nat → Int) (i_tall : Nat → Int) (H : Heap) (locs : List Loc) (ls : Array Slot), f_HM_openSmall_102 n x5 i_small i_tall = some out → va_P (dC, dI) vwCl (wd_HM_openSmall cA q0 q1 q2 q3 q4 q5 q6 q7 q8 q9 q10 q11 q12 q13 q14 q15 q16 q17 q18 q19 q20 q21 q22 q23 q24 q25 q26 q27 q28 q29 q30 q31 u0 u1 u2 u3 u4 u5 u6 u7 u8 u9 u10 u11 u12 u13 u14 u15 u16 u17 u18 u19 u20 u21 i_small i_tall) H → va_D A (wd_HM_openSmall cA q0 q1 q2 q3 q4 q5 q6 q7 q8 q9 q10 q11 q12 q13 q14 q15 q16 q17 q18 q19 q20 q21 q22 q23 q24 q25 q26 q27 q28 q29 q30 q31 u0 u1 u2 u3 u4 u5 u6 u7 u8 u9 u10 u11 u12 u13 u14 u15 u16 u17 u18 u19 u20 u21 i_small i_tall) → va_S A s.heap H locs → lv_has ls 9 [(0, .ref q0), (5, .int (Int32.ofInt x5))] → W p l e rm_HM_openSmall s m args below meth c H locs 0 0 Q (F0 m 102 ls []) := by
    intro n
    induction n with
    | zero => intro x5 i_small i_tall H locs ls hf hP hD hS hl; exact nomatch hf
    | succ n ih => intro x5 i_small i_tall H locs ls hf hP hD hS hl; exact b_102 (f_HM_openSmall_102 n) ih x5 i_small i_tall H locs ls hf hP hD hS hl
  have b_93 : ∀ (k31 : Int → Int → Int → Int → (Nat → Int) → (Nat → Int) → Option ((Nat → Int) × (Nat → Int))) (_ : ∀ (x2 : Int) (x3 : Int) (x4 : Int) (x5 : Int) (i_small : Nat → Int) (i_tall : Nat → Int) (H : Heap) (locs : List Loc) (ls : Array Slot), k31 x2 x3 x4 x5 i_small i_tall = some out → va_P (dC, dI) vwCl (wd_HM_openSmall cA q0 q1 q2 q3 q4 q5 q6 q7 q8 q9 q10 q11 q12 q13 q14 q15 q16 q17 q18 q19 q20 q21 q22 q23 q24 q25 q26 q27 q28 q29 q30 q31 u0 u1 u2 u3 u4 u5 u6 u7 u8 u9 u10 u11 u12 u13 u14 u15 u16 u17 u18 u19 u20 u21 i_small i_tall) H → va_D A (wd_HM_openSmall cA q0 q1 q2 q3 q4 q5 q6 q7 q8 q9 q10 q11 q12 q13 q14 q15 q16 q17 q18 q19 q20 q21 q22 q23 q24 q25 q26 q27 q28 q29 q30 q31 u0 u1 u2 u3 u4 u5 u6 u7 u8 u9 u10 u11 u12 u13 u14 u15 u16 u17 u18 u19 u20 u21 i_small i_tall) → va_S A s.heap H locs → lv_has ls 9 [(0, .ref q0), (2, .int (Int32.ofInt x2)), (3, .int (Int32.ofInt x3)), (4, .int (Int32.ofInt x4)), (5, .int (Int32.ofInt x5))] → W p l e rm_HM_openSmall s m args below meth c H locs 0 0 Q (F0 m 31 ls [])), ∀ (x2 : Int) (x3 : Int) (x4 : Int) (x5 : Int) (i_small : Nat → Int) (i_tall : Nat → Int) (H : Heap) (locs : List Loc) (ls : Array Slot), f_HM_openSmall_93 k31 x2 x3 x4 x5 i_small i_tall = some out → va_P (dC, dI) vwCl (wd_HM_openSmall cA q0 q1 q2 q3 q4 q5 q6 q7 q8 q9 q10 q11 q12 q13 q14 q15 q16 q17 q18 q19 q20 q21 q22 q23 q24 q25 q26 q27 q28 q29 q30 q31 u0 u1 u2 u3 u4 u5 u6 u7 u8 u9 u10 u11 u12 u13 u14 u15 u16 u17 u18 u19 u20 u21 i_small i_tall) H → va_D A (wd_HM_openSmall cA q0 q1 q2 q3 q4 q5 q6 q7 q8 q9 q10 q11 q12 q13 q14 q15 q16 q17 q18 q19 q20 q21 q22 q23 q24 q25 q26 q27 q28 q29 q30 q31 u0 u1 u2 u3 u4 u5 u6 u7 u8 u9 u10 u11 u12 u13 u14 u15 u16 u17 u18 u19 u20 u21 i_small i_tall) → va_S A s.heap H locs → lv_has ls 9 [(0, .ref q0), (2, .int (Int32.ofInt x2)), (3, .int (Int32.ofInt x3)), (4, .int (Int32.ofInt x4)), (5, .int (Int32.ofInt x5))] → W p l e rm_HM_openSmall s m args below meth c H locs 0 0 Q (F0 m 93 ls []) := by
    intro k31 ih31 x2 x3 x4 x5 i_small i_tall H locs ls hf hP hD hS hl
    unfold f_HM_openSmall_93 at hf
    refine xi_iinc hx hb dX11_openSmall_93 hl (k := 4) rfl (by decide) hf (fun v1 ls hl hf => ?_)
    have hl : lv_has ls 9 [(5, .int (Int32.ofInt v1)), (0, .ref q0), (2, .int (Int32.ofInt x2)), (3, .int (Int32.ofInt x3)), (4, .int (Int32.ofInt x4))] := hl
    refine lv_goto (tgt := 31) hx hb dX11_openSmall_96 (by decide) ?_
    exact ih31 _ _ _ _ _ _ _ _ _ hf hP hD hS (lv_sub hl [1, 2, 3, 4, 0] rfl)
  have b_31 : ∀ (k31 : Int → Int → Int → Int → (Nat → Int) → (Nat → Int) → Option ((Nat → Int) × (Nat → Int))) (_ : ∀ (x2 : Int) (x3 : Int) (x4 : Int) (x5 : Int) (i_small : Nat → Int) (i_tall : Nat → Int) (H : Heap) (locs : List Loc) (ls : Array Slot), k31 x2 x3 x4 x5 i_small i_tall = some out → va_P (dC, dI) vwCl (wd_HM_openSmall cA q0 q1 q2 q3 q4 q5 q6 q7 q8 q9 q10 q11 q12 q13 q14 q15 q16 q17 q18 q19 q20 q21 q22 q23 q24 q25 q26 q27 q28 q29 q30 q31 u0 u1 u2 u3 u4 u5 u6 u7 u8 u9 u10 u11 u12 u13 u14 u15 u16 u17 u18 u19 u20 u21 i_small i_tall) H → va_D A (wd_HM_openSmall cA q0 q1 q2 q3 q4 q5 q6 q7 q8 q9 q10 q11 q12 q13 q14 q15 q16 q17 q18 q19 q20 q21 q22 q23 q24 q25 q26 q27 q28 q29 q30 q31 u0 u1 u2 u3 u4 u5 u6 u7 u8 u9 u10 u11 u12 u13 u14 u15 u16 u17 u18 u19 u20 u21 i_small i_tall) → va_S A s.heap H locs → lv_has ls 9 [(0, .ref q0), (2, .int (Int32.ofInt x2)), (3, .int (Int32.ofInt x3)), (4, .int (Int32.ofInt x4)), (5, .int (Int32.ofInt x5))] → W p l e rm_HM_openSmall s m args below meth c H locs 0 0 Q (F0 m 31 ls [])), ∀ (x2 : Int) (x3 : Int) (x4 : Int) (x5 : Int) (i_small : Nat → Int) (i_tall : Nat → Int) (H : Heap) (locs : List Loc) (ls : Array Slot), f_HM_openSmall_31_b k31 x2 x3 x4 x5 i_small i_tall = some out → va_P (dC, dI) vwCl (wd_HM_openSmall cA q0 q1 q2 q3 q4 q5 q6 q7 q8 q9 q10 q11 q12 q13 q14 q15 q16 q17 q18 q19 q20 q21 q22 q23 q24 q25 q26 q27 q28 q29 q30 q31 u0 u1 u2 u3 u4 u5 u6 u7 u8 u9 u10 u11 u12 u13 u14 u15 u16 u17 u18 u19 u20 u21 i_small i_tall) H → va_D A (wd_HM_openSmall cA q0 q1 q2 q3 q4 q5 q6 q7 q8 q9 q10 q11 q12 q13 q14 q15 q16 q17 q18 q19 q20 q21 q22 q23 q24 q25 q26 q27 q28 q29 q30 q31 u0 u1 u2 u3 u4 u5 u6 u7 u8 u9 u10 u11 u12 u13 u14 u15 u16 u17 u18 u19 u20 u21 i_small i_tall) → va_S A s.heap H locs → lv_has ls 9 [(0, .ref q0), (2, .int (Int32.ofInt x2)), (3, .int (Int32.ofInt x3)), (4, .int (Int32.ofInt x4)), (5, .int (Int32.ofInt x5))] → W p l e rm_HM_openSmall s m args below meth c H locs 0 0 Q (F0 m 31 ls []) := by
    intro k31 ih31 x2 x3 x4 x5 i_small i_tall H locs ls hf hP hD hS hl
    unfold f_HM_openSmall_31_b at hf
    refine lv_iload hx hb dX11_openSmall_31 (lv_at hl 4 rfl) ?_
    refine lv_iload_n hx hb dX11_openSmall_33 rfl (lv_at hl 1 rfl) ?_
    refine lv_iconst (v := Int32.ofInt 3) hx hb dX11_openSmall_34 rfl ?_
    refine xi_iadd hx hb dX11_openSmall_35 hf (fun v1 hf => ?_)
    refine xi_icmp_ge (tgt := 99) hx hb dX11_openSmall_36 (by decide) hf (fun hf => ?_) (fun hf => ?_)
    · refine lv_iconst (v := Int32.ofInt 0) hx hb dX11_openSmall_99 rfl ?_
      refine lv_istore (lv' := [(5, .int (Int32.ofInt 0)), (0, .ref q0), (2, .int (Int32.ofInt x2)), (3, .int (Int32.ofInt x3)), (4, .int (Int32.ofInt x4))]) hx hb dX11_openSmall_100 hl (by decide) rfl (fun ls hl => ?_)
      exact l_102  _ _ _ _ _ _ _ hf hP hD hS (lv_sub hl [1, 0] rfl)
    · refine lv_iload_n hx hb dX11_openSmall_39 rfl (lv_at hl 2 rfl) ?_
      refine lv_bipush (v := Int32.ofInt 6) hx hb dX11_openSmall_40 (by decide) ?_
      refine xi_irem hx hb dX11_openSmall_42 hf (fun v2 hf => ?_)
      refine lv_istore (lv' := [(6, .int (Int32.ofInt v2)), (0, .ref q0), (2, .int (Int32.ofInt x2)), (3, .int (Int32.ofInt x3)), (4, .int (Int32.ofInt x4)), (5, .int (Int32.ofInt x5))]) hx hb dX11_openSmall_43 hl (by decide) rfl (fun ls hl => ?_)
      refine lv_iload_n hx hb dX11_openSmall_45 rfl (lv_at hl 3 rfl) ?_
      refine lv_bipush (v := Int32.ofInt 6) hx hb dX11_openSmall_46 (by decide) ?_
      refine xi_idiv hx hb dX11_openSmall_48 hf (fun v3 hf => ?_)
      refine lv_istore_n (lv' := [(3, .int (Int32.ofInt v3)), (6, .int (Int32.ofInt v2)), (0, .ref q0), (2, .int (Int32.ofInt x2)), (4, .int (Int32.ofInt x4)), (5, .int (Int32.ofInt x5))]) hx hb dX11_openSmall_49 rfl hl (by decide) rfl (fun ls hl => ?_)
      refine lv_iload hx hb dX11_openSmall_50 (lv_at hl 1 rfl) ?_
      refine xi_if_ne (tgt := 61) hx hb dX11_openSmall_52 (by decide) hf (fun hf => ?_) (fun hf => ?_)
      · refine lv_aload_n hx hb dX11_openSmall_61 rfl (lv_at hl 2 rfl) ?_
        refine va_get (D := (dC, dI)) (ci := 11) (v := .ref q22) (C := RX11) (T := TX11) (N := 53) hx hb hz zi_X11 hown hK hP 0 rfl rfl 41 (by decide) (hz _ zw_1206) (fun _ h9 => h9) rfl dX11_openSmall_62 ?_
        refine lv_iconst (v := Int32.ofInt 5) hx hb dX11_openSmall_65 rfl ?_
        refine lv_iload hx hb dX11_openSmall_66 (lv_at hl 4 rfl) ?_
        refine xi_imul hx hb dX11_openSmall_68 hf (fun v4 hf => ?_)
        refine lv_aload_n hx hb dX11_openSmall_69 rfl (lv_at hl 2 rfl) ?_
        refine va_get (D := (dC, dI)) (ci := 11) (v := .ref q23) (C := RX11) (T := TX11) (N := 53) hx hb hz zi_X11 hown hK hP 0 rfl rfl 42 (by decide) (hz _ zw_1207) (fun _ h9 => h9) rfl dX11_openSmall_70 ?_
        refine lv_iload hx hb dX11_openSmall_73 (lv_at hl 4 rfl) ?_
        refine xi_iald hx hb hK hP 2 0 rfl rfl dX11_openSmall_75 hf (fun v5 hf => ?_)
        refine xi_iadd hx hb dX11_openSmall_76 hf (fun v6 hf => ?_)
        refine lv_iload hx hb dX11_openSmall_77 (lv_at hl 1 rfl) ?_
        refine lv_iconst (v := Int32.ofInt 1) hx hb dX11_openSmall_79 rfl ?_
        refine xi_isub hx hb dX11_openSmall_80 hf (fun v7 hf => ?_)
        refine xi_iast hx hb hK hP hD hS 1 0 rfl rfl dX11_openSmall_81 hf (fun a8 H locs hP hD hS hf => ?_)
        have hP : va_P (dC, dI) vwCl (wd_HM_openSmall cA q0 q1 q2 q3 q4 q5 q6 q7 q8 q9 q10 q11 q12 q13 q14 q15 q16 q17 q18 q19 q20 q21 q22 q23 q24 q25 q26 q27 q28 q29 q30 q31 u0 u1 u2 u3 u4 u5 u6 u7 u8 u9 u10 u11 u12 u13 u14 u15 u16 u17 u18 u19 u20 u21 a8 i_tall) H := hP
        have hD : va_D A (wd_HM_openSmall cA q0 q1 q2 q3 q4 q5 q6 q7 q8 q9 q10 q11 q12 q13 q14 q15 q16 q17 q18 q19 q20 q21 q22 q23 q24 q25 q26 q27 q28 q29 q30 q31 u0 u1 u2 u3 u4 u5 u6 u7 u8 u9 u10 u11 u12 u13 u14 u15 u16 u17 u18 u19 u20 u21 a8 i_tall) := hD
        refine lv_aload_n hx hb dX11_openSmall_82 rfl (lv_at hl 2 rfl) ?_
        refine va_get (D := (dC, dI)) (ci := 11) (v := .ref q23) (C := RX11) (T := TX11) (N := 53) hx hb hz zi_X11 hown hK hP 0 rfl rfl 42 (by decide) (hz _ zw_1207) (fun _ h9 => h9) rfl dX11_openSmall_83 ?_
        refine lv_iload hx hb dX11_openSmall_86 (lv_at hl 4 rfl) ?_
        refine lv_dup2_11 hx hb dX11_openSmall_88 rfl rfl ?_
        refine xi_iald hx hb hK hP 2 0 rfl rfl dX11_openSmall_89 hf (fun v9 hf => ?_)
        refine lv_iconst (v := Int32.ofInt 1) hx hb dX11_openSmall_90 rfl ?_
        refine xi_iadd hx hb dX11_openSmall_91 hf (fun v10 hf => ?_)
        refine xi_iast hx hb hK hP hD hS 2 0 rfl rfl dX11_openSmall_92 hf (fun a11 H locs hP hD hS hf => ?_)
        have hP : va_P (dC, dI) vwCl (wd_HM_openSmall cA q0 q1 q2 q3 q4 q5 q6 q7 q8 q9 q10 q11 q12 q13 q14 q15 q16 q17 q18 q19 q20 q21 q22 q23 q24 q25 q26 q27 q28 q29 q30 q31 u0 u1 u2 u3 u4 u5 u6 u7 u8 u9 u10 u11 u12 u13 u14 u15 u16 u17 u18 u19 u20 u21 a8 a11) H := hP
        have hD : va_D A (wd_HM_openSmall cA q0 q1 q2 q3 q4 q5 q6 q7 q8 q9 q10 q11 q12 q13 q14 q15 q16 q17 q18 q19 q20 q21 q22 q23 q24 q25 q26 q27 q28 q29 q30 q31 u0 u1 u2 u3 u4 u5 u6 u7 u8 u9 u10 u11 u12 u13 u14 u15 u16 u17 u18 u19 u20 u21 a8 a11) := hD
        exact b_93 _ ih31 _ _ _ _ _ _ _ _ _ hf hP hD hS (lv_sub hl [2, 3, 0, 4, 5] rfl)
      · refine xi_iinc hx hb dX11_openSmall_55 hl (k := 4) rfl (by decide) hf (fun v12 ls hl hf => ?_)
        have hl : lv_has ls 9 [(4, .int (Int32.ofInt v12)), (3, .int (Int32.ofInt v3)), (6, .int (Int32.ofInt v2)), (0, .ref q0), (2, .int (Int32.ofInt x2)), (5, .int (Int32.ofInt x5))] := hl
        refine lv_goto (tgt := 93) hx hb dX11_openSmall_58 (by decide) ?_
        exact b_93 _ ih31 _ _ _ _ _ _ _ _ _ hf hP hD hS (lv_sub hl [3, 4, 1, 0, 5] rfl)
  have l_31 : ∀ (n : Nat), ∀ (x2 : Int) (x3 : Int) (x4 : Int) (x5 : Int) (i_small : Nat → Int) (i_tall : Nat → Int) (H : Heap) (locs : List Loc) (ls : Array Slot), f_HM_openSmall_31 n x2 x3 x4 x5 i_small i_tall = some out → va_P (dC, dI) vwCl (wd_HM_openSmall cA q0 q1 q2 q3 q4 q5 q6 q7 q8 q9 q10 q11 q12 q13 q14 q15 q16 q17 q18 q19 q20 q21 q22 q23 q24 q25 q26 q27 q28 q29 q30 q31 u0 u1 u2 u3 u4 u5 u6 u7 u8 u9 u10 u11 u12 u13 u14 u15 u16 u17 u18 u19 u20 u21 i_small i_tall) H → va_D A (wd_HM_openSmall cA q0 q1 q2 q3 q4 q5 q6 q7 q8 q9 q10 q11 q12 q13 q14 q15 q16 q17 q18 q19 q20 q21 q22 q23 q24 q25 q26 q27 q28 q29 q30 q31 u0 u1 u2 u3 u4 u5 u6 u7 u8 u9 u10 u11 u12 u13 u14 u15 u16 u17 u18 u19 u20 u21 i_small i_tall) → va_S A s.heap H locs → lv_has ls 9 [(0, .ref q0), (2, .int (Int32.ofInt x2)), (3, .int (Int32.ofInt x3)), (4, .int (Int32.ofInt x4)), (5, .int (Int32.ofInt x5))] → W p l e rm_HM_openSmall s m args below meth c H locs 0 0 Q (F0 m 31 ls []) := by
    intro n
    induction n with
    | zero => intro x2 x3 x4 x5 i_small i_tall H locs ls hf hP hD hS hl; exact nomatch hf
    | succ n ih => intro x2 x3 x4 x5 i_small i_tall H locs ls hf hP hD hS hl; exact b_31 (f_HM_openSmall_31 n) ih x2 x3 x4 x5 i_small i_tall H locs ls hf hP hD hS hl
  have b_8 : ∀ (k8 : Int → Int → Int → Int → (Nat → Int) → (Nat → Int) → Option ((Nat → Int) × (Nat → Int))) (_ : ∀ (x2 : Int) (x3 : Int) (x4 : Int) (x5 : Int) (i_small : Nat → Int) (i_tall : Nat → Int) (H : Heap) (locs : List Loc) (ls : Array Slot), k8 x2 x3 x4 x5 i_small i_tall = some out → va_P (dC, dI) vwCl (wd_HM_openSmall cA q0 q1 q2 q3 q4 q5 q6 q7 q8 q9 q10 q11 q12 q13 q14 q15 q16 q17 q18 q19 q20 q21 q22 q23 q24 q25 q26 q27 q28 q29 q30 q31 u0 u1 u2 u3 u4 u5 u6 u7 u8 u9 u10 u11 u12 u13 u14 u15 u16 u17 u18 u19 u20 u21 i_small i_tall) H → va_D A (wd_HM_openSmall cA q0 q1 q2 q3 q4 q5 q6 q7 q8 q9 q10 q11 q12 q13 q14 q15 q16 q17 q18 q19 q20 q21 q22 q23 q24 q25 q26 q27 q28 q29 q30 q31 u0 u1 u2 u3 u4 u5 u6 u7 u8 u9 u10 u11 u12 u13 u14 u15 u16 u17 u18 u19 u20 u21 i_small i_tall) → va_S A s.heap H locs → lv_has ls 9 [(0, .ref q0), (2, .int (Int32.ofInt x2)), (3, .int (Int32.ofInt x3)), (4, .int (Int32.ofInt x4)), (5, .int (Int32.ofInt x5))] → W p l e rm_HM_openSmall s m args below meth c H locs 0 0 Q (F0 m 8 ls [])), ∀ (x2 : Int) (x3 : Int) (x4 : Int) (x5 : Int) (i_small : Nat → Int) (i_tall : Nat → Int) (H : Heap) (locs : List Loc) (ls : Array Slot), f_HM_openSmall_8_b k8 x2 x3 x4 x5 i_small i_tall = some out → va_P (dC, dI) vwCl (wd_HM_openSmall cA q0 q1 q2 q3 q4 q5 q6 q7 q8 q9 q10 q11 q12 q13 q14 q15 q16 q17 q18 q19 q20 q21 q22 q23 q24 q25 q26 q27 q28 q29 q30 q31 u0 u1 u2 u3 u4 u5 u6 u7 u8 u9 u10 u11 u12 u13 u14 u15 u16 u17 u18 u19 u20 u21 i_small i_tall) H → va_D A (wd_HM_openSmall cA q0 q1 q2 q3 q4 q5 q6 q7 q8 q9 q10 q11 q12 q13 q14 q15 q16 q17 q18 q19 q20 q21 q22 q23 q24 q25 q26 q27 q28 q29 q30 q31 u0 u1 u2 u3 u4 u5 u6 u7 u8 u9 u10 u11 u12 u13 u14 u15 u16 u17 u18 u19 u20 u21 i_small i_tall) → va_S A s.heap H locs → lv_has ls 9 [(0, .ref q0), (2, .int (Int32.ofInt x2)), (3, .int (Int32.ofInt x3)), (4, .int (Int32.ofInt x4)), (5, .int (Int32.ofInt x5))] → W p l e rm_HM_openSmall s m args below meth c H locs 0 0 Q (F0 m 8 ls []) := by
    intro k8 ih8 x2 x3 x4 x5 i_small i_tall H locs ls hf hP hD hS hl
    unfold f_HM_openSmall_8_b at hf
    refine lv_iload hx hb dX11_openSmall_8 (lv_at hl 4 rfl) ?_
    refine lv_iconst (v := Int32.ofInt 4) hx hb dX11_openSmall_10 rfl ?_
    refine xi_icmp_ge (tgt := 28) hx hb dX11_openSmall_11 (by decide) hf (fun hf => ?_) (fun hf => ?_)
    · refine lv_iconst (v := Int32.ofInt 0) hx hb dX11_openSmall_28 rfl ?_
      refine lv_istore (lv' := [(5, .int (Int32.ofInt 0)), (0, .ref q0), (2, .int (Int32.ofInt x2)), (3, .int (Int32.ofInt x3)), (4, .int (Int32.ofInt x4))]) hx hb dX11_openSmall_29 hl (by decide) rfl (fun ls hl => ?_)
      exact l_31  _ _ _ _ _ _ _ _ _ _ hf hP hD hS (lv_sub hl [1, 2, 3, 4, 0] rfl)
    · refine lv_aload_n hx hb dX11_openSmall_14 rfl (lv_at hl 0 rfl) ?_
      refine va_get (D := (dC, dI)) (ci := 11) (v := .ref q23) (C := RX11) (T := TX11) (N := 53) hx hb hz zi_X11 hown hK hP 0 rfl rfl 42 (by decide) (hz _ zw_1207) (fun _ h9 => h9) rfl dX11_openSmall_15 ?_
      refine lv_iload hx hb dX11_openSmall_18 (lv_at hl 4 rfl) ?_
      refine lv_iconst (v := Int32.ofInt 0) hx hb dX11_openSmall_20 rfl ?_
      refine xi_iast hx hb hK hP hD hS 2 0 rfl rfl dX11_openSmall_21 hf (fun a1 H locs hP hD hS hf => ?_)
      have hP : va_P (dC, dI) vwCl (wd_HM_openSmall cA q0 q1 q2 q3 q4 q5 q6 q7 q8 q9 q10 q11 q12 q13 q14 q15 q16 q17 q18 q19 q20 q21 q22 q23 q24 q25 q26 q27 q28 q29 q30 q31 u0 u1 u2 u3 u4 u5 u6 u7 u8 u9 u10 u11 u12 u13 u14 u15 u16 u17 u18 u19 u20 u21 i_small a1) H := hP
      have hD : va_D A (wd_HM_openSmall cA q0 q1 q2 q3 q4 q5 q6 q7 q8 q9 q10 q11 q12 q13 q14 q15 q16 q17 q18 q19 q20 q21 q22 q23 q24 q25 q26 q27 q28 q29 q30 q31 u0 u1 u2 u3 u4 u5 u6 u7 u8 u9 u10 u11 u12 u13 u14 u15 u16 u17 u18 u19 u20 u21 i_small a1) := hD
      refine xi_iinc hx hb dX11_openSmall_22 hl (k := 4) rfl (by decide) hf (fun v2 ls hl hf => ?_)
      have hl : lv_has ls 9 [(5, .int (Int32.ofInt v2)), (0, .ref q0), (2, .int (Int32.ofInt x2)), (3, .int (Int32.ofInt x3)), (4, .int (Int32.ofInt x4))] := hl
      refine lv_goto (tgt := 8) hx hb dX11_openSmall_25 (by decide) ?_
      exact ih8 _ _ _ _ _ _ _ _ _ hf hP hD hS (lv_sub hl [1, 2, 3, 4, 0] rfl)
  have l_8 : ∀ (n : Nat), ∀ (x2 : Int) (x3 : Int) (x4 : Int) (x5 : Int) (i_small : Nat → Int) (i_tall : Nat → Int) (H : Heap) (locs : List Loc) (ls : Array Slot), f_HM_openSmall_8 n x2 x3 x4 x5 i_small i_tall = some out → va_P (dC, dI) vwCl (wd_HM_openSmall cA q0 q1 q2 q3 q4 q5 q6 q7 q8 q9 q10 q11 q12 q13 q14 q15 q16 q17 q18 q19 q20 q21 q22 q23 q24 q25 q26 q27 q28 q29 q30 q31 u0 u1 u2 u3 u4 u5 u6 u7 u8 u9 u10 u11 u12 u13 u14 u15 u16 u17 u18 u19 u20 u21 i_small i_tall) H → va_D A (wd_HM_openSmall cA q0 q1 q2 q3 q4 q5 q6 q7 q8 q9 q10 q11 q12 q13 q14 q15 q16 q17 q18 q19 q20 q21 q22 q23 q24 q25 q26 q27 q28 q29 q30 q31 u0 u1 u2 u3 u4 u5 u6 u7 u8 u9 u10 u11 u12 u13 u14 u15 u16 u17 u18 u19 u20 u21 i_small i_tall) → va_S A s.heap H locs → lv_has ls 9 [(0, .ref q0), (2, .int (Int32.ofInt x2)), (3, .int (Int32.ofInt x3)), (4, .int (Int32.ofInt x4)), (5, .int (Int32.ofInt x5))] → W p l e rm_HM_openSmall s m args below meth c H locs 0 0 Q (F0 m 8 ls []) := by
    intro n
    induction n with
    | zero => intro x2 x3 x4 x5 i_small i_tall H locs ls hf hP hD hS hl; exact nomatch hf
    | succ n ih => intro x2 x3 x4 x5 i_small i_tall H locs ls hf hP hD hS hl; exact b_8 (f_HM_openSmall_8 n) ih x2 x3 x4 x5 i_small i_tall H locs ls hf hP hD hS hl
  unfold f_HM_openSmall at hf
  refine lv_iload_n hx hb dX11_openSmall_0 rfl (lv_at hl 1 rfl) ?_
  refine lv_istore_n (lv' := [(3, .int (Int32.ofInt x1)), (0, .ref q0), (1, .int (Int32.ofInt x1)), (2, .int (Int32.ofInt x2))]) hx hb dX11_openSmall_1 rfl hl (by decide) rfl (fun ls hl => ?_)
  refine lv_iconst (v := Int32.ofInt 3) hx hb dX11_openSmall_2 rfl ?_
  refine lv_istore (lv' := [(4, .int (Int32.ofInt 3)), (3, .int (Int32.ofInt x1)), (0, .ref q0), (1, .int (Int32.ofInt x1)), (2, .int (Int32.ofInt x2))]) hx hb dX11_openSmall_3 hl (by decide) rfl (fun ls hl => ?_)
  refine lv_iconst (v := Int32.ofInt 0) hx hb dX11_openSmall_5 rfl ?_
  refine lv_istore (lv' := [(5, .int (Int32.ofInt 0)), (4, .int (Int32.ofInt 3)), (3, .int (Int32.ofInt x1)), (0, .ref q0), (1, .int (Int32.ofInt x1)), (2, .int (Int32.ofInt x2))]) hx hb dX11_openSmall_6 hl (by decide) rfl (fun ls hl => ?_)
  exact l_8  _ _ _ _ _ _ _ _ _ _ hf hP hD hS (lv_sub hl [3, 5, 2, 1, 0] rfl)
theorem dX11_price_0 : decode cX11_price 0 = .ok (.aload_n 0, 1) := by decide +kernel
theorem dX11_price_1 : decode cX11_price 1 = .ok (.aload_n 0, 1) := by decide +kernel
theorem dX11_price_2 : decode cX11_price 2 = .ok (.getfield 80, 3) := by decide +kernel
theorem dX11_price_5 : decode cX11_price 5 = .ok (.iload_n 2, 1) := by decide +kernel
theorem dX11_price_6 : decode cX11_price 6 = .ok (.iaload, 1) := by decide +kernel
theorem dX11_price_7 : decode cX11_price 7 = .ok (.iload 5, 2) := by decide +kernel
theorem dX11_price_9 : decode cX11_price 9 = .ok (.invokevirtual 406, 3) := by decide +kernel
theorem dX11_price_12 : decode cX11_price 12 = .ok (.iload_n 3, 1) := by decide +kernel
theorem dX11_price_13 : decode cX11_price 13 = .ok (.iconst 4, 1) := by decide +kernel
theorem dX11_price_14 : decode cX11_price 14 = .ok (.idiv, 1) := by decide +kernel
theorem dX11_price_15 : decode cX11_price 15 = .ok (.istore 6, 2) := by decide +kernel
theorem dX11_price_17 : decode cX11_price 17 = .ok (.aload_n 0, 1) := by decide +kernel
theorem dX11_price_18 : decode cX11_price 18 = .ok (.getfield 93, 3) := by decide +kernel
theorem dX11_price_21 : decode cX11_price 21 = .ok (.aload_n 0, 1) := by decide +kernel
theorem dX11_price_22 : decode cX11_price 22 = .ok (.iload 4, 2) := by decide +kernel
theorem dX11_price_24 : decode cX11_price 24 = .ok (.aload_n 0, 1) := by decide +kernel
theorem dX11_price_25 : decode cX11_price 25 = .ok (.iload 6, 2) := by decide +kernel
theorem dX11_price_27 : decode cX11_price 27 = .ok (.invokevirtual 415, 3) := by decide +kernel
theorem dX11_price_30 : decode cX11_price 30 = .ok (.iload_n 3, 1) := by decide +kernel
theorem dX11_price_31 : decode cX11_price 31 = .ok (.aload_n 0, 1) := by decide +kernel
theorem dX11_price_32 : decode cX11_price 32 = .ok (.getfield 99, 3) := by decide +kernel
theorem dX11_price_35 : decode cX11_price 35 = .ok (.iload 6, 2) := by decide +kernel
theorem dX11_price_37 : decode cX11_price 37 = .ok (.iaload, 1) := by decide +kernel
theorem dX11_price_38 : decode cX11_price 38 = .ok (.aload_n 0, 1) := by decide +kernel
theorem dX11_price_39 : decode cX11_price 39 = .ok (.getfield 99, 3) := by decide +kernel
theorem dX11_price_42 : decode cX11_price 42 = .ok (.iload_n 3, 1) := by decide +kernel
theorem dX11_price_43 : decode cX11_price 43 = .ok (.iconst 4, 1) := by decide +kernel
theorem dX11_price_44 : decode cX11_price 44 = .ok (.irem, 1) := by decide +kernel
theorem dX11_price_45 : decode cX11_price 45 = .ok (.iaload, 1) := by decide +kernel
theorem dX11_price_46 : decode cX11_price 46 = .ok (.invokevirtual 418, 3) := by decide +kernel
theorem dX11_price_49 : decode cX11_price 49 = .ok (.iaload, 1) := by decide +kernel
theorem dX11_price_50 : decode cX11_price 50 = .ok (.istore 7, 2) := by decide +kernel
theorem dX11_price_52 : decode cX11_price 52 = .ok (.iload 7, 2) := by decide +kernel
theorem dX11_price_54 : decode cX11_price 54 = .ok (.iconst (-1), 1) := by decide +kernel
theorem dX11_price_55 : decode cX11_price 55 = .ok (.if_icmp .ne 9, 3) := by decide +kernel
theorem dX11_price_58 : decode cX11_price 58 = .ok (.ldc2_w 422, 3) := by decide +kernel
theorem dX11_price_61 : decode cX11_price 61 = .ok (.goto 21, 3) := by decide +kernel
theorem dX11_price_64 : decode cX11_price 64 = .ok (.iload_n 1, 1) := by decide +kernel
theorem dX11_price_65 : decode cX11_price 65 = .ok (.iconst 2, 1) := by decide +kernel
theorem dX11_price_66 : decode cX11_price 66 = .ok (.if_icmp .ne 15, 3) := by decide +kernel
theorem dX11_price_69 : decode cX11_price 69 = .ok (.ldc2_w 424, 3) := by decide +kernel
theorem dX11_price_72 : decode cX11_price 72 = .ok (.iload 7, 2) := by decide +kernel
theorem dX11_price_74 : decode cX11_price 74 = .ok (.i2l, 1) := by decide +kernel
theorem dX11_price_75 : decode cX11_price 75 = .ok (.lmul, 1) := by decide +kernel
theorem dX11_price_76 : decode cX11_price 76 = .ok (.lconst 1, 1) := by decide +kernel
theorem dX11_price_77 : decode cX11_price 77 = .ok (.ladd, 1) := by decide +kernel
theorem dX11_price_78 : decode cX11_price 78 = .ok (.goto 4, 3) := by decide +kernel
theorem dX11_price_81 : decode cX11_price 81 = .ok (.lconst 1, 1) := by decide +kernel
theorem dX11_price_82 : decode cX11_price 82 = .ok (.lreturn, 1) := by decide +kernel
theorem zw_88 : (Jvm.Cond.selects "HillSchoolModel" ({ cls := "HillSchoolModel", name := "openSmall", desc := "(II)V" } : Jvm.MethodName) ({ cls := "HillSchoolModel", name := "openSmall", desc := "(II)V" } : Jvm.MethodName)) ∈ zall := zmemG (zmj_0 88 rfl) rfl
theorem zw_90 : (Jvm.Cond.selects "HillSchoolModel" ({ cls := "HillSchoolModel", name := "smallTop", desc := "(I)I" } : Jvm.MethodName) ({ cls := "HillSchoolModel", name := "smallTop", desc := "(I)I" } : Jvm.MethodName)) ∈ zall := zmemG (zmj_0 90 rfl) rfl
theorem zw_91 : (Jvm.Cond.selects "HillSchoolModel" ({ cls := "HillSchoolModel", name := "costAt", desc := "(IIIII)I" } : Jvm.MethodName) ({ cls := "HillSchoolModel", name := "costAt", desc := "(IIIII)I" } : Jvm.MethodName)) ∈ zall := zmemG (zmj_0 91 rfl) rfl
theorem zw_1200 : (Jvm.Cond.fieldLink "HillSchoolModel" (80 : Nat) "HillSchoolModel" "states" "[I") ∈ zall := zmemG (zmj_5 137 rfl) rfl
theorem zw_1205 : (Jvm.Cond.fieldLink "HillSchoolModel" (93 : Nat) "HillSchoolModel" "costs" "[I") ∈ zall := zmemG (zmj_5 142 rfl) rfl
theorem zw_1678 : (Jvm.Cond.methodLink "HillSchoolModel" (406 : Nat) ({ cls := "HillSchoolModel", name := "openSmall", desc := "(II)V" } : Jvm.MethodName)) ∈ zall := zmemG (zmj_7 135 rfl) rfl
theorem zw_1680 : (Jvm.Cond.instanceMethod ({ cls := "HillSchoolModel", name := "openSmall", desc := "(II)V" } : Jvm.MethodName)) ∈ zall := zmemG (zmj_7 137 rfl) rfl
theorem zw_1686 : (Jvm.Cond.methodLink "HillSchoolModel" (415 : Nat) ({ cls := "HillSchoolModel", name := "smallTop", desc := "(I)I" } : Jvm.MethodName)) ∈ zall := zmemG (zmj_7 143 rfl) rfl
theorem zw_1688 : (Jvm.Cond.instanceMethod ({ cls := "HillSchoolModel", name := "smallTop", desc := "(I)I" } : Jvm.MethodName)) ∈ zall := zmemG (zmj_7 145 rfl) rfl
theorem zw_1690 : (Jvm.Cond.methodLink "HillSchoolModel" (418 : Nat) ({ cls := "HillSchoolModel", name := "costAt", desc := "(IIIII)I" } : Jvm.MethodName)) ∈ zall := zmemG (zmj_7 147 rfl) rfl
theorem zw_1692 : (Jvm.Cond.instanceMethod ({ cls := "HillSchoolModel", name := "costAt", desc := "(IIIII)I" } : Jvm.MethodName)) ∈ zall := zmemG (zmj_7 149 rfl) rfl
theorem zw_1702 : (Jvm.Cond.constantLong "HillSchoolModel" (422 : Nat) (1000000000000000 : Int64)) ∈ zall := zmemG (zmj_7 159 rfl) rfl
theorem zw_1710 : (Jvm.Cond.code ({ cls := "HillSchoolModel", name := "price", desc := "(IIIII)J" } : Jvm.MethodName) prog_13_method_94_code (8 : Nat) (Option.some Jvm.ClassFile.FieldType.long)) ∈ zall := zmemG (zmj_7 167 rfl) rfl
theorem zw_1711 : (Jvm.Cond.constantLong "HillSchoolModel" (424 : Nat) (10000 : Int64)) ∈ zall := zmemG (zmj_7 168 rfl) rfl
abbrev w_HM_price : List Cond := .code yX11_price cX11_price 8 (some .long) :: zall
abbrev rm_HM_price : Room := { frames := 1, cells := 0, slots := 0, locals := 28 }
theorem hd_HM_price : yX11_price.cls = "HillSchoolModel" ∧ yX11_price.cls ≠ "java/lang/invoke/MethodHandle" ∧ yX11_price.cls ≠ "java/lang/invoke/VarHandle" ∧ (parseMethodDescriptor yX11_price.desc).map (fun d => d.parameters.length) = some 5 := by decide +kernel
def wd_HM_price (cA : Nat → ClassId) (q0 q1 q2 q3 q4 q5 q6 q7 q8 q9 q10 q11 q12 q13 q14 q15 q16 q17 q18 q19 q20 q21 q22 q23 q24 q25 q26 q27 q28 q29 q30 q31 : Nat) (u0 u1 u2 u3 u4 u5 u6 u7 u8 u9 u10 u11 u12 u13 u14 u15 u16 u17 u18 u19 u20 u21 : Int) (i_states : Nat → Int) (i_costs : Nat → Int) (i_small : Nat → Int) (i_tall : Nat → Int) : va_W := [(q0, .inr (11, [.int (Int32.ofInt u0), .int (Int32.ofInt u1), .ref q1, .ref q2, .ref q3, .ref q4, .int (Int32.ofInt u2), .ref q5, .int (Int32.ofInt u3), .int (Int32.ofInt u4), .int (Int32.ofInt u5), .int (Int32.ofInt u6), .long (Int64.ofInt u7), .int (Int32.ofInt u8), .int (Int32.ofInt u9), .int (Int32.ofInt u10), .ref q6, .int (Int32.ofInt u11), .ref q7, .ref q8, .int (Int32.ofInt u12), .ref q9, .ref q10, .int (Int32.ofInt u13), .int (Int32.ofInt u14), .ref q11, .int (Int32.ofInt u15), .ref q12, .ref q13, .int (Int32.ofInt u16), .long (Int64.ofInt u17), .long (Int64.ofInt u18), .ref q14, .ref q15, .ref q16, .ref q17, .ref q18, .int (Int32.ofInt u19), .ref q19, .ref q20, .ref q21, .ref q22, .ref q23, .ref q24, .ref q25, .ref q26, .ref q27, .ref q28, .ref q29, .ref q30, .long (Int64.ofInt u20), .ref q31, .int (Int32.ofInt u21)])), (q17, .inl (cA 0, 6720, .inl (za i_states))), (q21, .inl (cA 0, 12000, .inl (za i_costs))), (q22, .inl (cA 0, 20, .inl (za i_small))), (q23, .inl (cA 0, 4, .inl (za i_tall)))]
def wf_HM_price (cA : Nat → ClassId) (q0 q1 q2 q3 q4 q5 q6 q7 q8 q9 q10 q11 q12 q13 q14 q15 q16 q17 q18 q19 q20 q21 q22 q23 q24 q25 q26 q27 q28 q29 q30 q31 : Nat) (u0 u1 u2 u3 u4 u5 u6 u7 u8 u9 u10 u11 u12 u13 u14 u15 u16 u17 u18 u19 u20 u21 : Int) (i_states : Nat → Int) (i_costs : Nat → Int) (o : Int × (Nat → Int) × (Nat → Int)) : va_W := wd_HM_price cA q0 q1 q2 q3 q4 q5 q6 q7 q8 q9 q10 q11 q12 q13 q14 q15 q16 q17 q18 q19 q20 q21 q22 q23 q24 q25 q26 q27 q28 q29 q30 q31 u0 u1 u2 u3 u4 u5 u6 u7 u8 u9 u10 u11 u12 u13 u14 u15 u16 u17 u18 u19 u20 u21 i_states i_costs o.2.1 o.2.2
def f_HM_price (x1 : Int) (x2 : Int) (x3 : Int) (x4 : Int) (x5 : Int) (i_states : Nat → Int) (i_costs : Nat → Int) (i_small : Nat → Int) (i_tall : Nat → Int) : Option (Int × (Nat → Int) × (Nat → Int)) :=
  zg 6720 i_states x2 fun v1 =>
  zd2 (f_HM_openSmall v1 x5 i_small i_tall) fun a2 a3 =>
  if zi_w 4 = 0 then none else zn (zi_div x3 4) fun v4 =>
  zd1 (f_HM_smallTop v4 a2 a3) fun v5 =>
  zg 4 a3 v4 fun v6 =>
  if zi_w 4 = 0 then none else zn (zi_rem x3 4) fun v7 =>
  zg 4 a3 v7 fun v8 =>
  zd1 (f_HM_costAt x4 v5 x3 v6 v8) fun v9 =>
  zg 12000 i_costs v9 fun v10 =>
  if zi_w v10 ≠ zi_w (-1) then
    if zi_w x1 ≠ zi_w 2 then
      some (1, a2, a3)
    else
      zn (zi_w v10) fun v11 =>
      zn (10000 * v11) fun v12 =>
      zn (v12 + 1) fun v13 =>
      some (v13, a2, a3)
  else
    some (1000000000000000, a2, a3)
set_option maxHeartbeats 4000000 in
set_option maxRecDepth 100000 in
theorem c_HM_price (l : Launch) (ev : zEv) (dC : Nat → ClassId) (dI : Nat → Nat → Nat) (cA : Nat → ClassId) (q0 q1 q2 q3 q4 q5 q6 q7 q8 q9 q10 q11 q12 q13 q14 q15 q16 q17 q18 q19 q20 q21 q22 q23 q24 q25 q26 q27 q28 q29 q30 q31 : Nat) (u0 u1 u2 u3 u4 u5 u6 u7 u8 u9 u10 u11 u12 u13 u14 u15 u16 u17 u18 u19 u20 u21 : Int) {x1 x2 x3 x4 x5 : Int} {i_states : Nat → Int} {i_costs : Nat → Int} {i_small : Nat → Int} {i_tall : Nat → Int} {out : Int × (Nat → Int) × (Nat → Int)} (hf : f_HM_price x1 x2 x3 x4 x5 i_states i_costs i_small i_tall = some out) : xc_J l ev (dC, dI) vwCl (tyl cA) yX11_price w_HM_price rm_HM_price [.ref q0, .int (Int32.ofInt x1), .int (Int32.ofInt x2), .int (Int32.ofInt x3), .int (Int32.ofInt x4), .int (Int32.ofInt x5)] (wd_HM_price cA q0 q1 q2 q3 q4 q5 q6 q7 q8 q9 q10 q11 q12 q13 q14 q15 q16 q17 q18 q19 q20 q21 q22 q23 q24 q25 q26 q27 q28 q29 q30 q31 u0 u1 u2 u3 u4 u5 u6 u7 u8 u9 u10 u11 u12 u13 u14 u15 u16 u17 u18 u19 u20 u21 i_states i_costs i_small i_tall) (wf_HM_price cA q0 q1 q2 q3 q4 q5 q6 q7 q8 q9 q10 q11 q12 q13 q14 q15 q16 q17 q18 q19 q20 q21 q22 q23 q24 q25 q26 q27 q28 q29 q30 q31 u0 u1 u2 u3 u4 u5 u6 u7 u8 u9 u10 u11 u12 u13 u14 u15 u16 u17 u18 u19 u20 u21 i_states i_costs out) out.1 := by
  refine xv_startJ (cc := cX11_price) (maxL := 8) (by decide +kernel) rfl (Nat.le_of_ble_eq_true rfl) ?_
  intro p e s m args below meth c A Q H ls hx hb hml hts hown hK hA hP hD hS hl hE hret
  have hown : s.vm.findClass "HillSchoolModel" = some m.cls := hown
  have hz : ∀ w ∈ zall, w.before args s = true := fun w h => hts w (List.mem_cons_of_mem _ h)
  have hl : lv_has ls 8 [(0, .ref q0), (1, .int (Int32.ofInt x1)), (2, .int (Int32.ofInt x2)), (3, .int (Int32.ofInt x3)), (4, .int (Int32.ofInt x4)), (5, .int (Int32.ofInt x5))] := hl
  unfold f_HM_price at hf
  refine lv_aload_n hx hb dX11_price_0 rfl (lv_at hl 0 rfl) ?_
  refine lv_aload_n hx hb dX11_price_1 rfl (lv_at hl 0 rfl) ?_
  refine va_get (D := (dC, dI)) (ci := 11) (v := .ref q17) (C := RX11) (T := TX11) (N := 53) hx hb hz zi_X11 hown hK hP 0 rfl rfl 35 (by decide) (hz _ zw_1200) (fun _ h9 => h9) rfl dX11_price_2 ?_
  refine lv_iload_n hx hb dX11_price_5 rfl (lv_at hl 2 rfl) ?_
  refine xi_iald hx hb hK hP 1 0 rfl rfl dX11_price_6 hf (fun v1 hf => ?_)
  refine lv_iload hx hb dX11_price_7 (lv_at hl 5 rfl) ?_
  refine xe_d2 hf (fun a2 a3 hg hf => ?_)
  have hC : ([0, 3, 4] : List Nat).map (fun i => (wd_HM_price cA q0 q1 q2 q3 q4 q5 q6 q7 q8 q9 q10 q11 q12 q13 q14 q15 q16 q17 q18 q19 q20 q21 q22 q23 q24 q25 q26 q27 q28 q29 q30 q31 u0 u1 u2 u3 u4 u5 u6 u7 u8 u9 u10 u11 u12 u13 u14 u15 u16 u17 u18 u19 u20 u21 i_states i_costs i_small i_tall)[i]?) = (wd_HM_openSmall cA q0 q1 q2 q3 q4 q5 q6 q7 q8 q9 q10 q11 q12 q13 q14 q15 q16 q17 q18 q19 q20 q21 q22 q23 q24 q25 q26 q27 q28 q29 q30 q31 u0 u1 u2 u3 u4 u5 u6 u7 u8 u9 u10 u11 u12 u13 u14 u15 u16 u17 u18 u19 u20 u21 i_small i_tall).map some := rfl
  refine xv_afterV (ws' := (wd_HM_price cA q0 q1 q2 q3 q4 q5 q6 q7 q8 q9 q10 q11 q12 q13 q14 q15 q16 q17 q18 q19 q20 q21 q22 q23 q24 q25 q26 q27 q28 q29 q30 q31 u0 u1 u2 u3 u4 u5 u6 u7 u8 u9 u10 u11 u12 u13 u14 u15 u16 u17 u18 u19 u20 u21 i_states i_costs a2 a3)) (isC := [0, 3, 4]) (ps := [some 0, none, none, some 1, some 2]) (va_runV (As := [.int (Int32.ofInt v1), .int (Int32.ofInt x5)]) (rest := []) ⟨hx, hb, hml, hown, hts⟩ (c_HM_openSmall l ev dC dI cA q0 q1 q2 q3 q4 q5 q6 q7 q8 q9 q10 q11 q12 q13 q14 q15 q16 q17 q18 q19 q20 q21 q22 q23 q24 q25 q26 q27 q28 q29 q30 q31 u0 u1 u2 u3 u4 u5 u6 u7 u8 u9 u10 u11 u12 u13 u14 u15 u16 u17 u18 u19 u20 u21 hg H.size) (cwV 2 hts (zgV zw_1678 zw_1680 zw_88 zw_115 zw_1681) rfl rfl rfl hd_HM_openSmall ⟨Nat.le_of_ble_eq_true rfl, Nat.le_of_ble_eq_true rfl⟩) (xv_preV (T := TX11) (N := 53) hE hA hS hK hP hD (isC := [0, 3, 4]) (by decide +kernel) hC (q0 := 0) (ci := 11) rfl rfl) rfl rfl hl.1 rfl (lv_room (Nat.le_of_ble_eq_true rfl)) dX11_price_9 ⟨Nat.le_refl _, Nat.le_refl _⟩) hP hD hS hA (by decide +kernel) rfl hC rfl rfl (fun H locs hP hD hS => ?_)
  refine lv_iload_n hx hb dX11_price_12 rfl (lv_at hl 3 rfl) ?_
  refine lv_iconst (v := Int32.ofInt 4) hx hb dX11_price_13 rfl ?_
  refine xi_idiv hx hb dX11_price_14 hf (fun v4 hf => ?_)
  refine lv_istore (lv' := [(6, .int (Int32.ofInt v4)), (0, .ref q0), (1, .int (Int32.ofInt x1)), (2, .int (Int32.ofInt x2)), (3, .int (Int32.ofInt x3)), (4, .int (Int32.ofInt x4)), (5, .int (Int32.ofInt x5))]) hx hb dX11_price_15 hl (by decide) rfl (fun ls hl => ?_)
  refine lv_aload_n hx hb dX11_price_17 rfl (lv_at hl 1 rfl) ?_
  refine va_get (D := (dC, dI)) (ci := 11) (v := .ref q21) (C := RX11) (T := TX11) (N := 53) hx hb hz zi_X11 hown hK hP 0 rfl rfl 40 (by decide) (hz _ zw_1205) (fun _ h9 => h9) rfl dX11_price_18 ?_
  refine lv_aload_n hx hb dX11_price_21 rfl (lv_at hl 1 rfl) ?_
  refine lv_iload hx hb dX11_price_22 (lv_at hl 5 rfl) ?_
  refine lv_aload_n hx hb dX11_price_24 rfl (lv_at hl 1 rfl) ?_
  refine lv_iload hx hb dX11_price_25 (lv_at hl 0 rfl) ?_
  refine xe_d1 hf (fun v5 hg hf => ?_)
  have hC : ([0, 3, 4] : List Nat).map (fun i => (wd_HM_price cA q0 q1 q2 q3 q4 q5 q6 q7 q8 q9 q10 q11 q12 q13 q14 q15 q16 q17 q18 q19 q20 q21 q22 q23 q24 q25 q26 q27 q28 q29 q30 q31 u0 u1 u2 u3 u4 u5 u6 u7 u8 u9 u10 u11 u12 u13 u14 u15 u16 u17 u18 u19 u20 u21 i_states i_costs a2 a3)[i]?) = (wd_HM_smallTop cA q0 q1 q2 q3 q4 q5 q6 q7 q8 q9 q10 q11 q12 q13 q14 q15 q16 q17 q18 q19 q20 q21 q22 q23 q24 q25 q26 q27 q28 q29 q30 q31 u0 u1 u2 u3 u4 u5 u6 u7 u8 u9 u10 u11 u12 u13 u14 u15 u16 u17 u18 u19 u20 u21 a2 a3).map some := rfl
  refine xv_afterI (ws' := (wd_HM_price cA q0 q1 q2 q3 q4 q5 q6 q7 q8 q9 q10 q11 q12 q13 q14 q15 q16 q17 q18 q19 q20 q21 q22 q23 q24 q25 q26 q27 q28 q29 q30 q31 u0 u1 u2 u3 u4 u5 u6 u7 u8 u9 u10 u11 u12 u13 u14 u15 u16 u17 u18 u19 u20 u21 i_states i_costs a2 a3)) (isC := [0, 3, 4]) (ps := [some 0, none, none, some 1, some 2]) (va_runV (As := [.int (Int32.ofInt v4)]) (rest := [.int (Int32.ofInt x4), .ref q0, .ref q21]) ⟨hx, hb, hml, hown, hts⟩ (c_HM_smallTop l ev dC dI cA q0 q1 q2 q3 q4 q5 q6 q7 q8 q9 q10 q11 q12 q13 q14 q15 q16 q17 q18 q19 q20 q21 q22 q23 q24 q25 q26 q27 q28 q29 q30 q31 u0 u1 u2 u3 u4 u5 u6 u7 u8 u9 u10 u11 u12 u13 u14 u15 u16 u17 u18 u19 u20 u21 hg H.size) (cwV 1 hts (zgV zw_1686 zw_1688 zw_90 zw_115 zw_1689) rfl rfl rfl hd_HM_smallTop ⟨Nat.le_of_ble_eq_true rfl, Nat.le_of_ble_eq_true rfl⟩) (xv_preV (T := TX11) (N := 53) hE hA hS hK hP hD (isC := [0, 3, 4]) (by decide +kernel) hC (q0 := 0) (ci := 11) rfl rfl) rfl rfl hl.1 rfl (lv_room (Nat.le_of_ble_eq_true rfl)) dX11_price_27 ⟨Nat.le_refl _, Nat.le_refl _⟩) hP hD hS hA (by decide +kernel) rfl hC rfl rfl (fun H locs hP hD hS => ?_)
  refine lv_iload_n hx hb dX11_price_30 rfl (lv_at hl 4 rfl) ?_
  refine lv_aload_n hx hb dX11_price_31 rfl (lv_at hl 1 rfl) ?_
  refine va_get (D := (dC, dI)) (ci := 11) (v := .ref q23) (C := RX11) (T := TX11) (N := 53) hx hb hz zi_X11 hown hK hP 0 rfl rfl 42 (by decide) (hz _ zw_1207) (fun _ h9 => h9) rfl dX11_price_32 ?_
  refine lv_iload hx hb dX11_price_35 (lv_at hl 0 rfl) ?_
  refine xi_iald hx hb hK hP 4 0 rfl rfl dX11_price_37 hf (fun v6 hf => ?_)
  refine lv_aload_n hx hb dX11_price_38 rfl (lv_at hl 1 rfl) ?_
  refine va_get (D := (dC, dI)) (ci := 11) (v := .ref q23) (C := RX11) (T := TX11) (N := 53) hx hb hz zi_X11 hown hK hP 0 rfl rfl 42 (by decide) (hz _ zw_1207) (fun _ h9 => h9) rfl dX11_price_39 ?_
  refine lv_iload_n hx hb dX11_price_42 rfl (lv_at hl 4 rfl) ?_
  refine lv_iconst (v := Int32.ofInt 4) hx hb dX11_price_43 rfl ?_
  refine xi_irem hx hb dX11_price_44 hf (fun v7 hf => ?_)
  refine xi_iald hx hb hK hP 4 0 rfl rfl dX11_price_45 hf (fun v8 hf => ?_)
  refine xe_d1 hf (fun v9 hg hf => ?_)
  have hC : ([] : List Nat).map (fun i => (wd_HM_price cA q0 q1 q2 q3 q4 q5 q6 q7 q8 q9 q10 q11 q12 q13 q14 q15 q16 q17 q18 q19 q20 q21 q22 q23 q24 q25 q26 q27 q28 q29 q30 q31 u0 u1 u2 u3 u4 u5 u6 u7 u8 u9 u10 u11 u12 u13 u14 u15 u16 u17 u18 u19 u20 u21 i_states i_costs a2 a3)[i]?) = (wd_HM_costAt cA q0).map some := rfl
  refine xv_afterI (ws' := (wd_HM_price cA q0 q1 q2 q3 q4 q5 q6 q7 q8 q9 q10 q11 q12 q13 q14 q15 q16 q17 q18 q19 q20 q21 q22 q23 q24 q25 q26 q27 q28 q29 q30 q31 u0 u1 u2 u3 u4 u5 u6 u7 u8 u9 u10 u11 u12 u13 u14 u15 u16 u17 u18 u19 u20 u21 i_states i_costs a2 a3)) (isC := []) (ps := [none, none, none, none, none]) (va_runV (As := [.int (Int32.ofInt x4), .int (Int32.ofInt v5), .int (Int32.ofInt x3), .int (Int32.ofInt v6), .int (Int32.ofInt v8)]) (rest := [.ref q21]) ⟨hx, hb, hml, hown, hts⟩ (c_HM_costAt l ev dC dI cA q0 hg H.size) (cwV 5 hts (zgV zw_1690 zw_1692 zw_91 zw_115 zw_1693) rfl rfl rfl hd_HM_costAt ⟨Nat.le_of_ble_eq_true rfl, Nat.le_of_ble_eq_true rfl⟩) (xv_preV (T := TX11) (N := 53) hE hA hS hK hP hD (isC := []) (by decide +kernel) hC (q0 := 0) (ci := 11) rfl rfl) rfl rfl hl.1 rfl (lv_room (Nat.le_of_ble_eq_true rfl)) dX11_price_46 ⟨Nat.le_refl _, Nat.le_refl _⟩) hP hD hS hA (by decide +kernel) rfl hC rfl rfl (fun H locs hP hD hS => ?_)
  refine xi_iald hx hb hK hP 2 0 rfl rfl dX11_price_49 hf (fun v10 hf => ?_)
  refine lv_istore (lv' := [(7, .int (Int32.ofInt v10)), (6, .int (Int32.ofInt v4)), (0, .ref q0), (1, .int (Int32.ofInt x1)), (2, .int (Int32.ofInt x2)), (3, .int (Int32.ofInt x3)), (4, .int (Int32.ofInt x4)), (5, .int (Int32.ofInt x5))]) hx hb dX11_price_50 hl (by decide) rfl (fun ls hl => ?_)
  refine lv_iload hx hb dX11_price_52 (lv_at hl 0 rfl) ?_
  refine lv_iconst (v := Int32.ofInt (-1)) hx hb dX11_price_54 rfl ?_
  refine xi_icmp_ne (tgt := 64) hx hb dX11_price_55 (by decide) hf (fun hf => ?_) (fun hf => ?_)
  · refine lv_iload_n hx hb dX11_price_64 rfl (lv_at hl 3 rfl) ?_
    refine lv_iconst (v := Int32.ofInt 2) hx hb dX11_price_65 rfl ?_
    refine xi_icmp_ne (tgt := 81) hx hb dX11_price_66 (by decide) hf (fun hf => ?_) (fun hf => ?_)
    · refine lv_lconst (v := Int64.ofInt 1) hx hb dX11_price_81 (by decide) ?_
      obtain rfl := Option.some.inj hf
      exact hret _ _ _ _ dX11_price_82 hP hD hS
    · refine lv_ldc2 (v := Int64.ofInt 10000) hx hb hown (hz _ zw_1711) dX11_price_69 ?_
      refine lv_iload hx hb dX11_price_72 (lv_at hl 0 rfl) ?_
      refine xi_i2l hx hb dX11_price_74 hf (fun v11 hf => ?_)
      refine xl_lmul hx hb dX11_price_75 hf (fun v12 hf => ?_)
      refine lv_lconst (v := Int64.ofInt 1) hx hb dX11_price_76 (by decide) ?_
      refine xl_ladd hx hb dX11_price_77 hf (fun v13 hf => ?_)
      refine lv_goto (tgt := 82) hx hb dX11_price_78 (by decide) ?_
      obtain rfl := Option.some.inj hf
      exact hret _ _ _ _ dX11_price_82 hP hD hS
  · refine lv_ldc2 (v := Int64.ofInt 1000000000000000) hx hb hown (hz _ zw_1702) dX11_price_58 ?_
    refine lv_goto (tgt := 82) hx hb dX11_price_61 (by decide) ?_
    obtain rfl := Option.some.inj hf
    exact hret _ _ _ _ dX11_price_82 hP hD hS
theorem dX11_isOpen_0 : decode cX11_isOpen 0 = .ok (.aload_n 0, 1) := by decide +kernel
theorem dX11_isOpen_1 : decode cX11_isOpen 1 = .ok (.getfield 87, 3) := by decide +kernel
theorem dX11_isOpen_4 : decode cX11_isOpen 4 = .ok (.bipush 16, 2) := by decide +kernel
theorem dX11_isOpen_6 : decode cX11_isOpen 6 = .ok (.iload_n 2, 1) := by decide +kernel
theorem dX11_isOpen_7 : decode cX11_isOpen 7 = .ok (.imul, 1) := by decide +kernel
theorem dX11_isOpen_8 : decode cX11_isOpen 8 = .ok (.iload_n 3, 1) := by decide +kernel
theorem dX11_isOpen_9 : decode cX11_isOpen 9 = .ok (.iadd, 1) := by decide +kernel
theorem dX11_isOpen_10 : decode cX11_isOpen 10 = .ok (.iaload, 1) := by decide +kernel
theorem dX11_isOpen_11 : decode cX11_isOpen 11 = .ok (.istore 4, 2) := by decide +kernel
theorem dX11_isOpen_13 : decode cX11_isOpen 13 = .ok (.iload 4, 2) := by decide +kernel
theorem dX11_isOpen_15 : decode cX11_isOpen 15 = .ok (.iconst (-1), 1) := by decide +kernel
theorem dX11_isOpen_16 : decode cX11_isOpen 16 = .ok (.if_icmp .eq 22, 3) := by decide +kernel
theorem dX11_isOpen_19 : decode cX11_isOpen 19 = .ok (.iload_n 1, 1) := by decide +kernel
theorem dX11_isOpen_20 : decode cX11_isOpen 20 = .ok (.iconst 1, 1) := by decide +kernel
theorem dX11_isOpen_21 : decode cX11_isOpen 21 = .ok (.if_icmp .ne 13, 3) := by decide +kernel
theorem dX11_isOpen_24 : decode cX11_isOpen 24 = .ok (.aload_n 0, 1) := by decide +kernel
theorem dX11_isOpen_25 : decode cX11_isOpen 25 = .ok (.getfield 102, 3) := by decide +kernel
theorem dX11_isOpen_28 : decode cX11_isOpen 28 = .ok (.iload 4, 2) := by decide +kernel
theorem dX11_isOpen_30 : decode cX11_isOpen 30 = .ok (.baload, 1) := by decide +kernel
theorem dX11_isOpen_31 : decode cX11_isOpen 31 = .ok (.ifCond .eq 7, 3) := by decide +kernel
theorem dX11_isOpen_34 : decode cX11_isOpen 34 = .ok (.iconst 1, 1) := by decide +kernel
theorem dX11_isOpen_35 : decode cX11_isOpen 35 = .ok (.goto 4, 3) := by decide +kernel
theorem dX11_isOpen_38 : decode cX11_isOpen 38 = .ok (.iconst 0, 1) := by decide +kernel
theorem dX11_isOpen_39 : decode cX11_isOpen 39 = .ok (.ireturn, 1) := by decide +kernel
theorem zw_1203 : (Jvm.Cond.fieldLink "HillSchoolModel" (87 : Nat) "HillSchoolModel" "nexts" "[I") ∈ zall := zmemG (zmj_5 140 rfl) rfl
theorem zw_1208 : (Jvm.Cond.fieldLink "HillSchoolModel" (102 : Nat) "HillSchoolModel" "safes" "[Z") ∈ zall := zmemG (zmj_5 145 rfl) rfl
theorem zw_1715 : (Jvm.Cond.code ({ cls := "HillSchoolModel", name := "isOpen", desc := "(III)Z" } : Jvm.MethodName) prog_13_method_95_code (5 : Nat) (Option.some Jvm.ClassFile.FieldType.boolean)) ∈ zall := zmemG (zmj_7 172 rfl) rfl
abbrev w_HM_isOpen : List Cond := .code yX11_isOpen cX11_isOpen 5 (some .boolean) :: zall
abbrev rm_HM_isOpen : Room := { frames := 0, cells := 0, slots := 0, locals := 0 }
theorem hd_HM_isOpen : yX11_isOpen.cls = "HillSchoolModel" ∧ yX11_isOpen.cls ≠ "java/lang/invoke/MethodHandle" ∧ yX11_isOpen.cls ≠ "java/lang/invoke/VarHandle" ∧ (parseMethodDescriptor yX11_isOpen.desc).map (fun d => d.parameters.length) = some 3 := by decide +kernel
def wd_HM_isOpen (cA : Nat → ClassId) (q0 q1 q2 q3 q4 q5 q6 q7 q8 q9 q10 q11 q12 q13 q14 q15 q16 q17 q18 q19 q20 q21 q22 q23 q24 q25 q26 q27 q28 q29 q30 q31 : Nat) (u0 u1 u2 u3 u4 u5 u6 u7 u8 u9 u10 u11 u12 u13 u14 u15 u16 u17 u18 u19 u20 u21 : Int) (i_nexts : Nat → Int) (i_safes : Nat → Int)  : va_W := [(q0, .inr (11, [.int (Int32.ofInt u0), .int (Int32.ofInt u1), .ref q1, .ref q2, .ref q3, .ref q4, .int (Int32.ofInt u2), .ref q5, .int (Int32.ofInt u3), .int (Int32.ofInt u4), .int (Int32.ofInt u5), .int (Int32.ofInt u6), .long (Int64.ofInt u7), .int (Int32.ofInt u8), .int (Int32.ofInt u9), .int (Int32.ofInt u10), .ref q6, .int (Int32.ofInt u11), .ref q7, .ref q8, .int (Int32.ofInt u12), .ref q9, .ref q10, .int (Int32.ofInt u13), .int (Int32.ofInt u14), .ref q11, .int (Int32.ofInt u15), .ref q12, .ref q13, .int (Int32.ofInt u16), .long (Int64.ofInt u17), .long (Int64.ofInt u18), .ref q14, .ref q15, .ref q16, .ref q17, .ref q18, .int (Int32.ofInt u19), .ref q19, .ref q20, .ref q21, .ref q22, .ref q23, .ref q24, .ref q25, .ref q26, .ref q27, .ref q28, .ref q29, .ref q30, .long (Int64.ofInt u20), .ref q31, .int (Int32.ofInt u21)])), (q19, .inl (cA 0, 107520, .inl (za i_nexts))), (q24, .inl (cA 1, 6720, .inl (za i_safes)))]
def wf_HM_isOpen (cA : Nat → ClassId) (q0 q1 q2 q3 q4 q5 q6 q7 q8 q9 q10 q11 q12 q13 q14 q15 q16 q17 q18 q19 q20 q21 q22 q23 q24 q25 q26 q27 q28 q29 q30 q31 : Nat) (u0 u1 u2 u3 u4 u5 u6 u7 u8 u9 u10 u11 u12 u13 u14 u15 u16 u17 u18 u19 u20 u21 : Int) (i_nexts : Nat → Int) (i_safes : Nat → Int) (o : Int) : va_W := wd_HM_isOpen cA q0 q1 q2 q3 q4 q5 q6 q7 q8 q9 q10 q11 q12 q13 q14 q15 q16 q17 q18 q19 q20 q21 q22 q23 q24 q25 q26 q27 q28 q29 q30 q31 u0 u1 u2 u3 u4 u5 u6 u7 u8 u9 u10 u11 u12 u13 u14 u15 u16 u17 u18 u19 u20 u21 i_nexts i_safes
def f_HM_isOpen (x1 : Int) (x2 : Int) (x3 : Int) (i_nexts : Nat → Int) (i_safes : Nat → Int) : Option (Int) :=
  zn (16 * x2) fun v1 =>
  zn (v1 + x3) fun v2 =>
  zg 107520 i_nexts v2 fun v3 =>
  if zi_w v3 = zi_w (-1) then
    some 0
  else
    if zi_w x1 ≠ zi_w 1 then
      some 1
    else
      zg 6720 i_safes v3 fun v4 =>
      if zi_w v4 = 0 then
        some 0
      else
        some 1
set_option maxHeartbeats 4000000 in
set_option maxRecDepth 100000 in
theorem c_HM_isOpen (l : Launch) (ev : zEv) (dC : Nat → ClassId) (dI : Nat → Nat → Nat) (cA : Nat → ClassId) (q0 q1 q2 q3 q4 q5 q6 q7 q8 q9 q10 q11 q12 q13 q14 q15 q16 q17 q18 q19 q20 q21 q22 q23 q24 q25 q26 q27 q28 q29 q30 q31 : Nat) (u0 u1 u2 u3 u4 u5 u6 u7 u8 u9 u10 u11 u12 u13 u14 u15 u16 u17 u18 u19 u20 u21 : Int) {x1 x2 x3 : Int} {i_nexts : Nat → Int} {i_safes : Nat → Int} {out : Int} (hf : f_HM_isOpen x1 x2 x3 i_nexts i_safes = some out) : xc_I l ev (dC, dI) vwCl (tyl cA) yX11_isOpen w_HM_isOpen rm_HM_isOpen [.ref q0, .int (Int32.ofInt x1), .int (Int32.ofInt x2), .int (Int32.ofInt x3)] (wd_HM_isOpen cA q0 q1 q2 q3 q4 q5 q6 q7 q8 q9 q10 q11 q12 q13 q14 q15 q16 q17 q18 q19 q20 q21 q22 q23 q24 q25 q26 q27 q28 q29 q30 q31 u0 u1 u2 u3 u4 u5 u6 u7 u8 u9 u10 u11 u12 u13 u14 u15 u16 u17 u18 u19 u20 u21 i_nexts i_safes) (wf_HM_isOpen cA q0 q1 q2 q3 q4 q5 q6 q7 q8 q9 q10 q11 q12 q13 q14 q15 q16 q17 q18 q19 q20 q21 q22 q23 q24 q25 q26 q27 q28 q29 q30 q31 u0 u1 u2 u3 u4 u5 u6 u7 u8 u9 u10 u11 u12 u13 u14 u15 u16 u17 u18 u19 u20 u21 i_nexts i_safes out) out := by
  refine xv_startI (cc := cX11_isOpen) (maxL := 5) (rt := .boolean) (by decide +kernel) rfl (Nat.le_of_ble_eq_true rfl) ?_
  intro p e s m args below meth c A Q H ls hx hb hml hts hown hK hA hP hD hS hl hE hret
  have hown : s.vm.findClass "HillSchoolModel" = some m.cls := hown
  have hz : ∀ w ∈ zall, w.before args s = true := fun w h => hts w (List.mem_cons_of_mem _ h)
  have hl : lv_has ls 5 [(0, .ref q0), (1, .int (Int32.ofInt x1)), (2, .int (Int32.ofInt x2)), (3, .int (Int32.ofInt x3))] := hl
  unfold f_HM_isOpen at hf
  refine lv_aload_n hx hb dX11_isOpen_0 rfl (lv_at hl 0 rfl) ?_
  refine va_get (D := (dC, dI)) (ci := 11) (v := .ref q19) (C := RX11) (T := TX11) (N := 53) hx hb hz zi_X11 hown hK hP 0 rfl rfl 38 (by decide) (hz _ zw_1203) (fun _ h9 => h9) rfl dX11_isOpen_1 ?_
  refine lv_bipush (v := Int32.ofInt 16) hx hb dX11_isOpen_4 (by decide) ?_
  refine lv_iload_n hx hb dX11_isOpen_6 rfl (lv_at hl 2 rfl) ?_
  refine xi_imul hx hb dX11_isOpen_7 hf (fun v1 hf => ?_)
  refine lv_iload_n hx hb dX11_isOpen_8 rfl (lv_at hl 3 rfl) ?_
  refine xi_iadd hx hb dX11_isOpen_9 hf (fun v2 hf => ?_)
  refine xi_iald hx hb hK hP 1 0 rfl rfl dX11_isOpen_10 hf (fun v3 hf => ?_)
  refine lv_istore (lv' := [(4, .int (Int32.ofInt v3)), (0, .ref q0), (1, .int (Int32.ofInt x1)), (2, .int (Int32.ofInt x2)), (3, .int (Int32.ofInt x3))]) hx hb dX11_isOpen_11 hl (by decide) rfl (fun ls hl => ?_)
  refine lv_iload hx hb dX11_isOpen_13 (lv_at hl 0 rfl) ?_
  refine lv_iconst (v := Int32.ofInt (-1)) hx hb dX11_isOpen_15 rfl ?_
  refine xi_icmp_eq (tgt := 38) hx hb dX11_isOpen_16 (by decide) hf (fun hf => ?_) (fun hf => ?_)
  · refine lv_iconst (v := Int32.ofInt 0) hx hb dX11_isOpen_38 rfl ?_
    obtain rfl := Option.some.inj hf
    exact hret _ _ _ _ zz_b0 dX11_isOpen_39 hP hD hS
  · refine lv_iload_n hx hb dX11_isOpen_19 rfl (lv_at hl 2 rfl) ?_
    refine lv_iconst (v := Int32.ofInt 1) hx hb dX11_isOpen_20 rfl ?_
    refine xi_icmp_ne (tgt := 34) hx hb dX11_isOpen_21 (by decide) hf (fun hf => ?_) (fun hf => ?_)
    · refine lv_iconst (v := Int32.ofInt 1) hx hb dX11_isOpen_34 rfl ?_
      refine lv_goto (tgt := 39) hx hb dX11_isOpen_35 (by decide) ?_
      obtain rfl := Option.some.inj hf
      exact hret _ _ _ _ zz_b1 dX11_isOpen_39 hP hD hS
    · refine lv_aload_n hx hb dX11_isOpen_24 rfl (lv_at hl 1 rfl) ?_
      refine va_get (D := (dC, dI)) (ci := 11) (v := .ref q24) (C := RX11) (T := TX11) (N := 53) hx hb hz zi_X11 hown hK hP 0 rfl rfl 43 (by decide) (hz _ zw_1208) (fun _ h9 => h9) rfl dX11_isOpen_25 ?_
      refine lv_iload hx hb dX11_isOpen_28 (lv_at hl 0 rfl) ?_
      refine xi_zald hx hb hK hP 2 1 rfl rfl dX11_isOpen_30 hf (fun v4 hf => ?_)
      refine xi_if_eq (tgt := 38) hx hb dX11_isOpen_31 (by decide) hf (fun hf => ?_) (fun hf => ?_)
      · refine lv_iconst (v := Int32.ofInt 0) hx hb dX11_isOpen_38 rfl ?_
        obtain rfl := Option.some.inj hf
        exact hret _ _ _ _ zz_b0 dX11_isOpen_39 hP hD hS
      · refine lv_iconst (v := Int32.ofInt 1) hx hb dX11_isOpen_34 rfl ?_
        refine lv_goto (tgt := 39) hx hb dX11_isOpen_35 (by decide) ?_
        obtain rfl := Option.some.inj hf
        exact hret _ _ _ _ zz_b1 dX11_isOpen_39 hP hD hS
theorem dX11_firstMove_0 : decode cX11_firstMove 0 = .ok (.iconst 0, 1) := by decide +kernel
theorem dX11_firstMove_1 : decode cX11_firstMove 1 = .ok (.istore 4, 2) := by decide +kernel
theorem dX11_firstMove_3 : decode cX11_firstMove 3 = .ok (.iload 4, 2) := by decide +kernel
theorem dX11_firstMove_5 : decode cX11_firstMove 5 = .ok (.bipush 96, 2) := by decide +kernel
theorem dX11_firstMove_7 : decode cX11_firstMove 7 = .ok (.if_icmp .ge 98, 3) := by decide +kernel
theorem dX11_firstMove_10 : decode cX11_firstMove 10 = .ok (.iload 4, 2) := by decide +kernel
theorem dX11_firstMove_12 : decode cX11_firstMove 12 = .ok (.bipush 6, 2) := by decide +kernel
theorem dX11_firstMove_14 : decode cX11_firstMove 14 = .ok (.idiv, 1) := by decide +kernel
theorem dX11_firstMove_15 : decode cX11_firstMove 15 = .ok (.istore 5, 2) := by decide +kernel
theorem dX11_firstMove_17 : decode cX11_firstMove 17 = .ok (.iload 4, 2) := by decide +kernel
theorem dX11_firstMove_19 : decode cX11_firstMove 19 = .ok (.bipush 6, 2) := by decide +kernel
theorem dX11_firstMove_21 : decode cX11_firstMove 21 = .ok (.irem, 1) := by decide +kernel
theorem dX11_firstMove_22 : decode cX11_firstMove 22 = .ok (.aload_n 0, 1) := by decide +kernel
theorem dX11_firstMove_23 : decode cX11_firstMove 23 = .ok (.getfield 13, 3) := by decide +kernel
theorem dX11_firstMove_26 : decode cX11_firstMove 26 = .ok (.iconst 1, 1) := by decide +kernel
theorem dX11_firstMove_27 : decode cX11_firstMove 27 = .ok (.iaload, 1) := by decide +kernel
theorem dX11_firstMove_28 : decode cX11_firstMove 28 = .ok (.if_icmp .ge 18, 3) := by decide +kernel
theorem dX11_firstMove_31 : decode cX11_firstMove 31 = .ok (.aload_n 0, 1) := by decide +kernel
theorem dX11_firstMove_32 : decode cX11_firstMove 32 = .ok (.iload_n 1, 1) := by decide +kernel
theorem dX11_firstMove_33 : decode cX11_firstMove 33 = .ok (.iload_n 2, 1) := by decide +kernel
theorem dX11_firstMove_34 : decode cX11_firstMove 34 = .ok (.iload 5, 2) := by decide +kernel
theorem dX11_firstMove_36 : decode cX11_firstMove 36 = .ok (.invokevirtual 439, 3) := by decide +kernel
theorem dX11_firstMove_39 : decode cX11_firstMove 39 = .ok (.ifCond .eq 7, 3) := by decide +kernel
theorem dX11_firstMove_42 : decode cX11_firstMove 42 = .ok (.iconst 1, 1) := by decide +kernel
theorem dX11_firstMove_43 : decode cX11_firstMove 43 = .ok (.goto 4, 3) := by decide +kernel
theorem dX11_firstMove_46 : decode cX11_firstMove 46 = .ok (.iconst 0, 1) := by decide +kernel
theorem dX11_firstMove_47 : decode cX11_firstMove 47 = .ok (.istore 6, 2) := by decide +kernel
theorem dX11_firstMove_49 : decode cX11_firstMove 49 = .ok (.iload 6, 2) := by decide +kernel
theorem dX11_firstMove_51 : decode cX11_firstMove 51 = .ok (.ifCond .eq 48, 3) := by decide +kernel
theorem dX11_firstMove_54 : decode cX11_firstMove 54 = .ok (.aload_n 0, 1) := by decide +kernel
theorem dX11_firstMove_55 : decode cX11_firstMove 55 = .ok (.iload_n 1, 1) := by decide +kernel
theorem dX11_firstMove_56 : decode cX11_firstMove 56 = .ok (.iload_n 2, 1) := by decide +kernel
theorem dX11_firstMove_57 : decode cX11_firstMove 57 = .ok (.iload 5, 2) := by decide +kernel
theorem dX11_firstMove_59 : decode cX11_firstMove 59 = .ok (.iload 4, 2) := by decide +kernel
theorem dX11_firstMove_61 : decode cX11_firstMove 61 = .ok (.bipush 6, 2) := by decide +kernel
theorem dX11_firstMove_63 : decode cX11_firstMove 63 = .ok (.irem, 1) := by decide +kernel
theorem dX11_firstMove_64 : decode cX11_firstMove 64 = .ok (.iload_n 3, 1) := by decide +kernel
theorem dX11_firstMove_65 : decode cX11_firstMove 65 = .ok (.invokevirtual 435, 3) := by decide +kernel
theorem dX11_firstMove_68 : decode cX11_firstMove 68 = .ok (.aload_n 0, 1) := by decide +kernel
theorem dX11_firstMove_69 : decode cX11_firstMove 69 = .ok (.getfield 90, 3) := by decide +kernel
theorem dX11_firstMove_72 : decode cX11_firstMove 72 = .ok (.aload_n 0, 1) := by decide +kernel
theorem dX11_firstMove_73 : decode cX11_firstMove 73 = .ok (.getfield 87, 3) := by decide +kernel
theorem dX11_firstMove_76 : decode cX11_firstMove 76 = .ok (.bipush 16, 2) := by decide +kernel
theorem dX11_firstMove_78 : decode cX11_firstMove 78 = .ok (.iload_n 2, 1) := by decide +kernel
theorem dX11_firstMove_79 : decode cX11_firstMove 79 = .ok (.imul, 1) := by decide +kernel
theorem dX11_firstMove_80 : decode cX11_firstMove 80 = .ok (.iload 5, 2) := by decide +kernel
theorem dX11_firstMove_82 : decode cX11_firstMove 82 = .ok (.iadd, 1) := by decide +kernel
theorem dX11_firstMove_83 : decode cX11_firstMove 83 = .ok (.iaload, 1) := by decide +kernel
theorem dX11_firstMove_84 : decode cX11_firstMove 84 = .ok (.laload, 1) := by decide +kernel
theorem dX11_firstMove_85 : decode cX11_firstMove 85 = .ok (.ladd, 1) := by decide +kernel
theorem dX11_firstMove_86 : decode cX11_firstMove 86 = .ok (.aload_n 0, 1) := by decide +kernel
theorem dX11_firstMove_87 : decode cX11_firstMove 87 = .ok (.getfield 90, 3) := by decide +kernel
theorem dX11_firstMove_90 : decode cX11_firstMove 90 = .ok (.iload_n 2, 1) := by decide +kernel
theorem dX11_firstMove_91 : decode cX11_firstMove 91 = .ok (.laload, 1) := by decide +kernel
theorem dX11_firstMove_92 : decode cX11_firstMove 92 = .ok (.lcmp, 1) := by decide +kernel
theorem dX11_firstMove_93 : decode cX11_firstMove 93 = .ok (.ifCond .ne 6, 3) := by decide +kernel
theorem dX11_firstMove_96 : decode cX11_firstMove 96 = .ok (.iload 4, 2) := by decide +kernel
theorem dX11_firstMove_98 : decode cX11_firstMove 98 = .ok (.ireturn, 1) := by decide +kernel
theorem dX11_firstMove_99 : decode cX11_firstMove 99 = .ok (.iinc 4 1, 3) := by decide +kernel
theorem dX11_firstMove_102 : decode cX11_firstMove 102 = .ok (.goto (-99), 3) := by decide +kernel
theorem dX11_firstMove_105 : decode cX11_firstMove 105 = .ok (.iconst (-1), 1) := by decide +kernel
theorem dX11_firstMove_106 : decode cX11_firstMove 106 = .ok (.ireturn, 1) := by decide +kernel
theorem zw_95 : (Jvm.Cond.selects "HillSchoolModel" ({ cls := "HillSchoolModel", name := "price", desc := "(IIIII)J" } : Jvm.MethodName) ({ cls := "HillSchoolModel", name := "price", desc := "(IIIII)J" } : Jvm.MethodName)) ∈ zall := zmemG (zmj_0 95 rfl) rfl
theorem zw_96 : (Jvm.Cond.selects "HillSchoolModel" ({ cls := "HillSchoolModel", name := "isOpen", desc := "(III)Z" } : Jvm.MethodName) ({ cls := "HillSchoolModel", name := "isOpen", desc := "(III)Z" } : Jvm.MethodName)) ∈ zall := zmemG (zmj_0 96 rfl) rfl
theorem zw_1204 : (Jvm.Cond.fieldLink "HillSchoolModel" (90 : Nat) "HillSchoolModel" "left" "[J") ∈ zall := zmemG (zmj_5 141 rfl) rfl
theorem zw_1707 : (Jvm.Cond.methodLink "HillSchoolModel" (435 : Nat) ({ cls := "HillSchoolModel", name := "price", desc := "(IIIII)J" } : Jvm.MethodName)) ∈ zall := zmemG (zmj_7 164 rfl) rfl
theorem zw_1709 : (Jvm.Cond.instanceMethod ({ cls := "HillSchoolModel", name := "price", desc := "(IIIII)J" } : Jvm.MethodName)) ∈ zall := zmemG (zmj_7 166 rfl) rfl
theorem zw_1712 : (Jvm.Cond.methodLink "HillSchoolModel" (439 : Nat) ({ cls := "HillSchoolModel", name := "isOpen", desc := "(III)Z" } : Jvm.MethodName)) ∈ zall := zmemG (zmj_7 169 rfl) rfl
theorem zw_1714 : (Jvm.Cond.instanceMethod ({ cls := "HillSchoolModel", name := "isOpen", desc := "(III)Z" } : Jvm.MethodName)) ∈ zall := zmemG (zmj_7 171 rfl) rfl
theorem zw_1719 : (Jvm.Cond.code ({ cls := "HillSchoolModel", name := "firstMove", desc := "(III)I" } : Jvm.MethodName) prog_13_method_98_code (7 : Nat) (Option.some Jvm.ClassFile.FieldType.int)) ∈ zall := zmemG (zmj_7 176 rfl) rfl
abbrev w_HM_firstMove : List Cond := .code yX11_firstMove cX11_firstMove 7 (some .int) :: zall
abbrev rm_HM_firstMove : Room := { frames := 2, cells := 0, slots := 0, locals := 55 }
theorem hd_HM_firstMove : yX11_firstMove.cls = "HillSchoolModel" ∧ yX11_firstMove.cls ≠ "java/lang/invoke/MethodHandle" ∧ yX11_firstMove.cls ≠ "java/lang/invoke/VarHandle" ∧ (parseMethodDescriptor yX11_firstMove.desc).map (fun d => d.parameters.length) = some 3 := by decide +kernel
def wd_HM_firstMove (cA : Nat → ClassId) (q0 q1 q2 q3 q4 q5 q6 q7 q8 q9 q10 q11 q12 q13 q14 q15 q16 q17 q18 q19 q20 q21 q22 q23 q24 q25 q26 q27 q28 q29 q30 q31 : Nat) (u0 u1 u2 u3 u4 u5 u6 u7 u8 u9 u10 u11 u12 u13 u14 u15 u16 u17 u18 u19 u20 u21 : Int) (i_row : Nat → Int) (i_states : Nat → Int) (i_nexts : Nat → Int) (i_left : Nat → Int) (i_costs : Nat → Int) (i_safes : Nat → Int) (i_small : Nat → Int) (i_tall : Nat → Int) : va_W := [(q0, .inr (11, [.int (Int32.ofInt u0), .int (Int32.ofInt u1), .ref q1, .ref q2, .ref q3, .ref q4, .int (Int32.ofInt u2), .ref q5, .int (Int32.ofInt u3), .int (Int32.ofInt u4), .int (Int32.ofInt u5), .int (Int32.ofInt u6), .long (Int64.ofInt u7), .int (Int32.ofInt u8), .int (Int32.ofInt u9), .int (Int32.ofInt u10), .ref q6, .int (Int32.ofInt u11), .ref q7, .ref q8, .int (Int32.ofInt u12), .ref q9, .ref q10, .int (Int32.ofInt u13), .int (Int32.ofInt u14), .ref q11, .int (Int32.ofInt u15), .ref q12, .ref q13, .int (Int32.ofInt u16), .long (Int64.ofInt u17), .long (Int64.ofInt u18), .ref q14, .ref q15, .ref q16, .ref q17, .ref q18, .int (Int32.ofInt u19), .ref q19, .ref q20, .ref q21, .ref q22, .ref q23, .ref q24, .ref q25, .ref q26, .ref q27, .ref q28, .ref q29, .ref q30, .long (Int64.ofInt u20), .ref q31, .int (Int32.ofInt u21)])), (q2, .inl (cA 0, 5580, .inl (za i_row))), (q17, .inl (cA 0, 6720, .inl (za i_states))), (q19, .inl (cA 0, 107520, .inl (za i_nexts))), (q20, .inl (cA 2, 6720, .inr (.inl (zl i_left)))), (q21, .inl (cA 0, 12000, .inl (za i_costs))), (q22, .inl (cA 0, 20, .inl (za i_small))), (q23, .inl (cA 0, 4, .inl (za i_tall))), (q24, .inl (cA 1, 6720, .inl (za i_safes)))]
def wf_HM_firstMove (cA : Nat → ClassId) (q0 q1 q2 q3 q4 q5 q6 q7 q8 q9 q10 q11 q12 q13 q14 q15 q16 q17 q18 q19 q20 q21 q22 q23 q24 q25 q26 q27 q28 q29 q30 q31 : Nat) (u0 u1 u2 u3 u4 u5 u6 u7 u8 u9 u10 u11 u12 u13 u14 u15 u16 u17 u18 u19 u20 u21 : Int) (i_row : Nat → Int) (i_states : Nat → Int) (i_nexts : Nat → Int) (i_left : Nat → Int) (i_costs : Nat → Int) (i_safes : Nat → Int) (o : Int × (Nat → Int) × (Nat → Int)) : va_W := wd_HM_firstMove cA q0 q1 q2 q3 q4 q5 q6 q7 q8 q9 q10 q11 q12 q13 q14 q15 q16 q17 q18 q19 q20 q21 q22 q23 q24 q25 q26 q27 q28 q29 q30 q31 u0 u1 u2 u3 u4 u5 u6 u7 u8 u9 u10 u11 u12 u13 u14 u15 u16 u17 u18 u19 u20 u21 i_row i_states i_nexts i_left i_costs i_safes o.2.1 o.2.2
def f_HM_firstMove_99 (i_row : Nat → Int) (i_states : Nat → Int) (i_nexts : Nat → Int) (i_left : Nat → Int) (i_costs : Nat → Int) (i_safes : Nat → Int) (k3 : Int → Int → Int → Int → (Nat → Int) → (Nat → Int) → Option (Int × (Nat → Int) × (Nat → Int))) (x1 : Int) (x2 : Int) (x3 : Int) (x4 : Int) (i_small : Nat → Int) (i_tall : Nat → Int) : Option (Int × (Nat → Int) × (Nat → Int)) :=
  zn (x4 + 1) fun v1 =>
  k3 x1 x2 x3 v1 i_small i_tall
def f_HM_firstMove_47 (i_row : Nat → Int) (i_states : Nat → Int) (i_nexts : Nat → Int) (i_left : Nat → Int) (i_costs : Nat → Int) (i_safes : Nat → Int) (k3 : Int → Int → Int → Int → (Nat → Int) → (Nat → Int) → Option (Int × (Nat → Int) × (Nat → Int))) (x1 : Int) (x2 : Int) (x3 : Int) (x4 : Int) (x5 : Int) (s0 : Int) (i_small : Nat → Int) (i_tall : Nat → Int) : Option (Int × (Nat → Int) × (Nat → Int)) :=
  if zi_w s0 = 0 then
    f_HM_firstMove_99 i_row i_states i_nexts i_left i_costs i_safes k3 x1 x2 x3 x4 i_small i_tall
  else
    if zi_w 6 = 0 then none else zn (zi_rem x4 6) fun v1 =>
    zd3 (f_HM_price x1 x2 x5 v1 x3 i_states i_costs i_small i_tall) fun v2 a3 a4 =>
    zn (16 * x2) fun v5 =>
    zn (v5 + x5) fun v6 =>
    zg 107520 i_nexts v6 fun v7 =>
    zg 6720 i_left v7 fun v8 =>
    zn (v2 + v8) fun v9 =>
    zg 6720 i_left x2 fun v10 =>
    if zl_w v9 ≠ zl_w v10 then
      f_HM_firstMove_99 i_row i_states i_nexts i_left i_costs i_safes k3 x1 x2 x3 x4 a3 a4
    else
      some (x4, a3, a4)
def f_HM_firstMove_46 (i_row : Nat → Int) (i_states : Nat → Int) (i_nexts : Nat → Int) (i_left : Nat → Int) (i_costs : Nat → Int) (i_safes : Nat → Int) (k3 : Int → Int → Int → Int → (Nat → Int) → (Nat → Int) → Option (Int × (Nat → Int) × (Nat → Int))) (x1 : Int) (x2 : Int) (x3 : Int) (x4 : Int) (x5 : Int) (i_small : Nat → Int) (i_tall : Nat → Int) : Option (Int × (Nat → Int) × (Nat → Int)) :=
  f_HM_firstMove_47 i_row i_states i_nexts i_left i_costs i_safes k3 x1 x2 x3 x4 x5 0 i_small i_tall
def f_HM_firstMove_3_b (i_row : Nat → Int) (i_states : Nat → Int) (i_nexts : Nat → Int) (i_left : Nat → Int) (i_costs : Nat → Int) (i_safes : Nat → Int) (k3 : Int → Int → Int → Int → (Nat → Int) → (Nat → Int) → Option (Int × (Nat → Int) × (Nat → Int))) (x1 : Int) (x2 : Int) (x3 : Int) (x4 : Int) (i_small : Nat → Int) (i_tall : Nat → Int) : Option (Int × (Nat → Int) × (Nat → Int)) :=
  if zi_w 96 ≤ zi_w x4 then
    some ((-1), i_small, i_tall)
  else
    if zi_w 6 = 0 then none else zn (zi_div x4 6) fun v1 =>
    if zi_w 6 = 0 then none else zn (zi_rem x4 6) fun v2 =>
    zg 5580 i_row 1 fun v3 =>
    if zi_w v3 ≤ zi_w v2 then
      f_HM_firstMove_46 i_row i_states i_nexts i_left i_costs i_safes k3 x1 x2 x3 x4 v1 i_small i_tall
    else
      zd1 (f_HM_isOpen x1 x2 v1 i_nexts i_safes) fun v4 =>
      if zi_w v4 = 0 then
        f_HM_firstMove_46 i_row i_states i_nexts i_left i_costs i_safes k3 x1 x2 x3 x4 v1 i_small i_tall
      else
        f_HM_firstMove_47 i_row i_states i_nexts i_left i_costs i_safes k3 x1 x2 x3 x4 v1 1 i_small i_tall
def f_HM_firstMove_3 (i_row : Nat → Int) (i_states : Nat → Int) (i_nexts : Nat → Int) (i_left : Nat → Int) (i_costs : Nat → Int) (i_safes : Nat → Int) : Nat → Int → Int → Int → Int → (Nat → Int) → (Nat → Int) → Option (Int × (Nat → Int) × (Nat → Int))
  | 0 => fun _ _ _ _ _ _ => none
  | n + 1 => fun y0 y1 y2 y3 y4 y5 => f_HM_firstMove_3_b i_row i_states i_nexts i_left i_costs i_safes (f_HM_firstMove_3 i_row i_states i_nexts i_left i_costs i_safes n) y0 y1 y2 y3 y4 y5
def f_HM_firstMove (x1 : Int) (x2 : Int) (x3 : Int) (i_row : Nat → Int) (i_states : Nat → Int) (i_nexts : Nat → Int) (i_left : Nat → Int) (i_costs : Nat → Int) (i_safes : Nat → Int) (i_small : Nat → Int) (i_tall : Nat → Int) : Option (Int × (Nat → Int) × (Nat → Int)) :=
  f_HM_firstMove_3 i_row i_states i_nexts i_left i_costs i_safes zfu x1 x2 x3 0 i_small i_tall
set_option maxHeartbeats 4000000 in
set_option maxRecDepth 100000 in
theorem c_HM_firstMove (l : Launch) (ev : zEv) (dC : Nat → ClassId) (dI : Nat → Nat → Nat) (cA : Nat → ClassId) (q0 q1 q2 q3 q4 q5 q6 q7 q8 q9 q10 q11 q12 q13 q14 q15 q16 q17 q18 q19 q20 q21 q22 q23 q24 q25 q26 q27 q28 q29 q30 q31 : Nat) (u0 u1 u2 u3 u4 u5 u6 u7 u8 u9 u10 u11 u12 u13 u14 u15 u16 u17 u18 u19 u20 u21 : Int) {x1 x2 x3 : Int} {i_row : Nat → Int} {i_states : Nat → Int} {i_nexts : Nat → Int} {i_left : Nat → Int} {i_costs : Nat → Int} {i_safes : Nat → Int} {i_small : Nat → Int} {i_tall : Nat → Int} {out : Int × (Nat → Int) × (Nat → Int)} (hf : f_HM_firstMove x1 x2 x3 i_row i_states i_nexts i_left i_costs i_safes i_small i_tall = some out) : xc_I l ev (dC, dI) vwCl (tyl cA) yX11_firstMove w_HM_firstMove rm_HM_firstMove [.ref q0, .int (Int32.ofInt x1), .int (Int32.ofInt x2), .int (Int32.ofInt x3)] (wd_HM_firstMove cA q0 q1 q2 q3 q4 q5 q6 q7 q8 q9 q10 q11 q12 q13 q14 q15 q16 q17 q18 q19 q20 q21 q22 q23 q24 q25 q26 q27 q28 q29 q30 q31 u0 u1 u2 u3 u4 u5 u6 u7 u8 u9 u10 u11 u12 u13 u14 u15 u16 u17 u18 u19 u20 u21 i_row i_states i_nexts i_left i_costs i_safes i_small i_tall) (wf_HM_firstMove cA q0 q1 q2 q3 q4 q5 q6 q7 q8 q9 q10 q11 q12 q13 q14 q15 q16 q17 q18 q19 q20 q21 q22 q23 q24 q25 q26 q27 q28 q29 q30 q31 u0 u1 u2 u3 u4 u5 u6 u7 u8 u9 u10 u11 u12 u13 u14 u15 u16 u17 u18 u19 u20 u21 i_row i_states i_nexts i_left i_costs i_safes out) out.1 := by
  refine xv_startI (cc := cX11_firstMove) (maxL := 7) (rt := .int) (by decide +kernel) rfl (Nat.le_of_ble_eq_true rfl) ?_
  intro p e s m args below meth c A Q H ls hx hb hml hts hown hK hA hP hD hS hl hE hret
  have hown : s.vm.findClass "HillSchoolModel" = some m.cls := hown
  have hz : ∀ w ∈ zall, w.before args s = true := fun w h => hts w (List.mem_cons_of_mem _ h)
  have hl : lv_has ls 7 [(0, .ref q0), (1, .int (Int32.ofInt x1)), (2, .int (Int32.ofInt x2)), (3, .int (Int32.ofInt x3))] := hl
  have b_99 : ∀ (k3 : Int → Int → Int → Int → (Nat → Int) → (Nat → Int) → Option (Int × (Nat → Int) × (Nat → Int))) (_ : ∀ (x1 : Int) (x2 : Int) (x3 : Int) (x4 : Int) (i_small : Nat → Int) (i_tall : Nat → Int) (H : Heap) (locs : List Loc) (ls : Array Slot), k3 x1 x2 x3 x4 i_small i_tall = some out → va_P (dC, dI) vwCl (wd_HM_firstMove cA q0 q1 q2 q3 q4 q5 q6 q7 q8 q9 q10 q11 q12 q13 q14 q15 q16 q17 q18 q19 q20 q21 q22 q23 q24 q25 q26 q27 q28 q29 q30 q31 u0 u1 u2 u3 u4 u5 u6 u7 u8 u9 u10 u11 u12 u13 u14 u15 u16 u17 u18 u19 u20 u21 i_row i_states i_nexts i_left i_costs i_safes i_small i_tall) H → va_D A (wd_HM_firstMove cA q0 q1 q2 q3 q4 q5 q6 q7 q8 q9 q10 q11 q12 q13 q14 q15 q16 q17 q18 q19 q20 q21 q22 q23 q24 q25 q26 q27 q28 q29 q30 q31 u0 u1 u2 u3 u4 u5 u6 u7 u8 u9 u10 u11 u12 u13 u14 u15 u16 u17 u18 u19 u20 u21 i_row i_states i_nexts i_left i_costs i_safes i_small i_tall) → va_S A s.heap H locs → lv_has ls 7 [(0, .ref q0), (1, .int (Int32.ofInt x1)), (2, .int (Int32.ofInt x2)), (3, .int (Int32.ofInt x3)), (4, .int (Int32.ofInt x4))] → W p l e rm_HM_firstMove s m args below meth c H locs 0 0 Q (F0 m 3 ls [])), ∀ (x1 : Int) (x2 : Int) (x3 : Int) (x4 : Int) (i_small : Nat → Int) (i_tall : Nat → Int) (H : Heap) (locs : List Loc) (ls : Array Slot), f_HM_firstMove_99 i_row i_states i_nexts i_left i_costs i_safes k3 x1 x2 x3 x4 i_small i_tall = some out → va_P (dC, dI) vwCl (wd_HM_firstMove cA q0 q1 q2 q3 q4 q5 q6 q7 q8 q9 q10 q11 q12 q13 q14 q15 q16 q17 q18 q19 q20 q21 q22 q23 q24 q25 q26 q27 q28 q29 q30 q31 u0 u1 u2 u3 u4 u5 u6 u7 u8 u9 u10 u11 u12 u13 u14 u15 u16 u17 u18 u19 u20 u21 i_row i_states i_nexts i_left i_costs i_safes i_small i_tall) H → va_D A (wd_HM_firstMove cA q0 q1 q2 q3 q4 q5 q6 q7 q8 q9 q10 q11 q12 q13 q14 q15 q16 q17 q18 q19 q20 q21 q22 q23 q24 q25 q26 q27 q28 q29 q30 q31 u0 u1 u2 u3 u4 u5 u6 u7 u8 u9 u10 u11 u12 u13 u14 u15 u16 u17 u18 u19 u20 u21 i_row i_states i_nexts i_left i_costs i_safes i_small i_tall) → va_S A s.heap H locs → lv_has ls 7 [(0, .ref q0), (1, .int (Int32.ofInt x1)), (2, .int (Int32.ofInt x2)), (3, .int (Int32.ofInt x3)), (4, .int (Int32.ofInt x4))] → W p l e rm_HM_firstMove s m args below meth c H locs 0 0 Q (F0 m 99 ls []) := by
    intro k3 ih3 x1 x2 x3 x4 i_small i_tall H locs ls hf hP hD hS hl
    unfold f_HM_firstMove_99 at hf
    refine xi_iinc hx hb dX11_firstMove_99 hl (k := 4) rfl (by decide) hf (fun v1 ls hl hf => ?_)
    have hl : lv_has ls 7 [(4, .int (Int32.ofInt v1)), (0, .ref q0), (1, .int (Int32.ofInt x1)), (2, .int (Int32.ofInt x2)), (3, .int (Int32.ofInt x3))] := hl
    refine lv_goto (tgt := 3) hx hb dX11_firstMove_102 (by decide) ?_
    exact ih3 _ _ _ _ _ _ _ _ _ hf hP hD hS (lv_sub hl [1, 2, 3, 4, 0] rfl)
  have b_47 : ∀ (k3 : Int → Int → Int → Int → (Nat → Int) → (Nat → Int) → Option (Int × (Nat → Int) × (Nat → Int))) (_ : ∀ (x1 : Int) (x2 : Int) (x3 : Int) (x4 : Int) (i_small : Nat → Int) (i_tall : Nat → Int) (H : Heap) (locs : List Loc) (ls : Array Slot), k3 x1 x2 x3 x4 i_small i_tall = some out → va_P (dC, dI) vwCl (wd_HM_firstMove cA q0 q1 q2 q3 q4 q5 q6 q7 q8 q9 q10 q11 q12 q13 q14 q15 q16 q17 q18 q19 q20 q21 q22 q23 q24 q25 q26 q27 q28 q29 q30 q31 u0 u1 u2 u3 u4 u5 u6 u7 u8 u9 u10 u11 u12 u13 u14 u15 u16 u17 u18 u19 u20 u21 i_row i_states i_nexts i_left i_costs i_safes i_small i_tall) H → va_D A (wd_HM_firstMove cA q0 q1 q2 q3 q4 q5 q6 q7 q8 q9 q10 q11 q12 q13 q14 q15 q16 q17 q18 q19 q20 q21 q22 q23 q24 q25 q26 q27 q28 q29 q30 q31 u0 u1 u2 u3 u4 u5 u6 u7 u8 u9 u10 u11 u12 u13 u14 u15 u16 u17 u18 u19 u20 u21 i_row i_states i_nexts i_left i_costs i_safes i_small i_tall) → va_S A s.heap H locs → lv_has ls 7 [(0, .ref q0), (1, .int (Int32.ofInt x1)), (2, .int (Int32.ofInt x2)), (3, .int (Int32.ofInt x3)), (4, .int (Int32.ofInt x4))] → W p l e rm_HM_firstMove s m args below meth c H locs 0 0 Q (F0 m 3 ls [])), ∀ (x1 : Int) (x2 : Int) (x3 : Int) (x4 : Int) (x5 : Int) (s0 : Int) (i_small : Nat → Int) (i_tall : Nat → Int) (H : Heap) (locs : List Loc) (ls : Array Slot), f_HM_firstMove_47 i_row i_states i_nexts i_left i_costs i_safes k3 x1 x2 x3 x4 x5 s0 i_small i_tall = some out → va_P (dC, dI) vwCl (wd_HM_firstMove cA q0 q1 q2 q3 q4 q5 q6 q7 q8 q9 q10 q11 q12 q13 q14 q15 q16 q17 q18 q19 q20 q21 q22 q23 q24 q25 q26 q27 q28 q29 q30 q31 u0 u1 u2 u3 u4 u5 u6 u7 u8 u9 u10 u11 u12 u13 u14 u15 u16 u17 u18 u19 u20 u21 i_row i_states i_nexts i_left i_costs i_safes i_small i_tall) H → va_D A (wd_HM_firstMove cA q0 q1 q2 q3 q4 q5 q6 q7 q8 q9 q10 q11 q12 q13 q14 q15 q16 q17 q18 q19 q20 q21 q22 q23 q24 q25 q26 q27 q28 q29 q30 q31 u0 u1 u2 u3 u4 u5 u6 u7 u8 u9 u10 u11 u12 u13 u14 u15 u16 u17 u18 u19 u20 u21 i_row i_states i_nexts i_left i_costs i_safes i_small i_tall) → va_S A s.heap H locs → lv_has ls 7 [(0, .ref q0), (1, .int (Int32.ofInt x1)), (2, .int (Int32.ofInt x2)), (3, .int (Int32.ofInt x3)), (4, .int (Int32.ofInt x4)), (5, .int (Int32.ofInt x5))] → W p l e rm_HM_firstMove s m args below meth c H locs 0 0 Q (F0 m 47 ls [.int (Int32.ofInt s0)]) := by
    intro k3 ih3 x1 x2 x3 x4 x5 s0 i_small i_tall H locs ls hf hP hD hS hl
    unfold f_HM_firstMove_47 at hf
    refine lv_istore (lv' := [(6, .int (Int32.ofInt s0)), (0, .ref q0), (1, .int (Int32.ofInt x1)), (2, .int (Int32.ofInt x2)), (3, .int (Int32.ofInt x3)), (4, .int (Int32.ofInt x4)), (5, .int (Int32.ofInt x5))]) hx hb dX11_firstMove_47 hl (by decide) rfl (fun ls hl => ?_)
    refine lv_iload hx hb dX11_firstMove_49 (lv_at hl 0 rfl) ?_
    refine xi_if_eq (tgt := 99) hx hb dX11_firstMove_51 (by decide) hf (fun hf => ?_) (fun hf => ?_)
    · exact b_99 _ ih3 _ _ _ _ _ _ _ _ _ hf hP hD hS (lv_sub hl [1, 2, 3, 4, 5] rfl)
    · refine lv_aload_n hx hb dX11_firstMove_54 rfl (lv_at hl 1 rfl) ?_
      refine lv_iload_n hx hb dX11_firstMove_55 rfl (lv_at hl 2 rfl) ?_
      refine lv_iload_n hx hb dX11_firstMove_56 rfl (lv_at hl 3 rfl) ?_
      refine lv_iload hx hb dX11_firstMove_57 (lv_at hl 6 rfl) ?_
      refine lv_iload hx hb dX11_firstMove_59 (lv_at hl 5 rfl) ?_
      refine lv_bipush (v := Int32.ofInt 6) hx hb dX11_firstMove_61 (by decide) ?_
      refine xi_irem hx hb dX11_firstMove_63 hf (fun v1 hf => ?_)
      refine lv_iload_n hx hb dX11_firstMove_64 rfl (lv_at hl 4 rfl) ?_
      refine xe_d3 hf (fun v2 a3 a4 hg hf => ?_)
      have hC : ([0, 2, 5, 6, 7] : List Nat).map (fun i => (wd_HM_firstMove cA q0 q1 q2 q3 q4 q5 q6 q7 q8 q9 q10 q11 q12 q13 q14 q15 q16 q17 q18 q19 q20 q21 q22 q23 q24 q25 q26 q27 q28 q29 q30 q31 u0 u1 u2 u3 u4 u5 u6 u7 u8 u9 u10 u11 u12 u13 u14 u15 u16 u17 u18 u19 u20 u21 i_row i_states i_nexts i_left i_costs i_safes i_small i_tall)[i]?) = (wd_HM_price cA q0 q1 q2 q3 q4 q5 q6 q7 q8 q9 q10 q11 q12 q13 q14 q15 q16 q17 q18 q19 q20 q21 q22 q23 q24 q25 q26 q27 q28 q29 q30 q31 u0 u1 u2 u3 u4 u5 u6 u7 u8 u9 u10 u11 u12 u13 u14 u15 u16 u17 u18 u19 u20 u21 i_states i_costs i_small i_tall).map some := rfl
      refine xv_afterJ (ws' := (wd_HM_firstMove cA q0 q1 q2 q3 q4 q5 q6 q7 q8 q9 q10 q11 q12 q13 q14 q15 q16 q17 q18 q19 q20 q21 q22 q23 q24 q25 q26 q27 q28 q29 q30 q31 u0 u1 u2 u3 u4 u5 u6 u7 u8 u9 u10 u11 u12 u13 u14 u15 u16 u17 u18 u19 u20 u21 i_row i_states i_nexts i_left i_costs i_safes a3 a4)) (isC := [0, 2, 5, 6, 7]) (ps := [some 0, none, some 1, none, none, some 2, some 3, some 4, none]) (va_runV (As := [.int (Int32.ofInt x1), .int (Int32.ofInt x2), .int (Int32.ofInt x5), .int (Int32.ofInt v1), .int (Int32.ofInt x3)]) (rest := []) ⟨hx, hb, hml, hown, hts⟩ (c_HM_price l ev dC dI cA q0 q1 q2 q3 q4 q5 q6 q7 q8 q9 q10 q11 q12 q13 q14 q15 q16 q17 q18 q19 q20 q21 q22 q23 q24 q25 q26 q27 q28 q29 q30 q31 u0 u1 u2 u3 u4 u5 u6 u7 u8 u9 u10 u11 u12 u13 u14 u15 u16 u17 u18 u19 u20 u21 hg H.size) (cwV 5 hts (zgV zw_1707 zw_1709 zw_95 zw_115 zw_1710) rfl rfl rfl hd_HM_price ⟨Nat.le_of_ble_eq_true rfl, Nat.le_of_ble_eq_true rfl⟩) (xv_preV (T := TX11) (N := 53) hE hA hS hK hP hD (isC := [0, 2, 5, 6, 7]) (by decide +kernel) hC (q0 := 0) (ci := 11) rfl rfl) rfl rfl hl.1 rfl (lv_room (Nat.le_of_ble_eq_true rfl)) dX11_firstMove_65 ⟨Nat.le_refl _, Nat.le_refl _⟩) hP hD hS hA (by decide +kernel) rfl hC rfl rfl (fun H locs hP hD hS => ?_)
      refine lv_aload_n hx hb dX11_firstMove_68 rfl (lv_at hl 1 rfl) ?_
      refine va_get (D := (dC, dI)) (ci := 11) (v := .ref q20) (C := RX11) (T := TX11) (N := 53) hx hb hz zi_X11 hown hK hP 0 rfl rfl 39 (by decide) (hz _ zw_1204) (fun _ h9 => h9) rfl dX11_firstMove_69 ?_
      refine lv_aload_n hx hb dX11_firstMove_72 rfl (lv_at hl 1 rfl) ?_
      refine va_get (D := (dC, dI)) (ci := 11) (v := .ref q19) (C := RX11) (T := TX11) (N := 53) hx hb hz zi_X11 hown hK hP 0 rfl rfl 38 (by decide) (hz _ zw_1203) (fun _ h9 => h9) rfl dX11_firstMove_73 ?_
      refine lv_bipush (v := Int32.ofInt 16) hx hb dX11_firstMove_76 (by decide) ?_
      refine lv_iload_n hx hb dX11_firstMove_78 rfl (lv_at hl 3 rfl) ?_
      refine xi_imul hx hb dX11_firstMove_79 hf (fun v5 hf => ?_)
      refine lv_iload hx hb dX11_firstMove_80 (lv_at hl 6 rfl) ?_
      refine xi_iadd hx hb dX11_firstMove_82 hf (fun v6 hf => ?_)
      refine xi_iald hx hb hK hP 3 0 rfl rfl dX11_firstMove_83 hf (fun v7 hf => ?_)
      refine xl_lald hx hb hK hP 4 2 rfl rfl dX11_firstMove_84 hf (fun v8 hf => ?_)
      refine xl_ladd hx hb dX11_firstMove_85 hf (fun v9 hf => ?_)
      refine lv_aload_n hx hb dX11_firstMove_86 rfl (lv_at hl 1 rfl) ?_
      refine va_get (D := (dC, dI)) (ci := 11) (v := .ref q20) (C := RX11) (T := TX11) (N := 53) hx hb hz zi_X11 hown hK hP 0 rfl rfl 39 (by decide) (hz _ zw_1204) (fun _ h9 => h9) rfl dX11_firstMove_87 ?_
      refine lv_iload_n hx hb dX11_firstMove_90 rfl (lv_at hl 3 rfl) ?_
      refine xl_lald hx hb hK hP 4 2 rfl rfl dX11_firstMove_91 hf (fun v10 hf => ?_)
      refine xl_cmp_ne (tgt := 99) hx hb dX11_firstMove_92 dX11_firstMove_93 (by decide) hf (fun hf => ?_) (fun hf => ?_)
      · exact b_99 _ ih3 _ _ _ _ _ _ _ _ _ hf hP hD hS (lv_sub hl [1, 2, 3, 4, 5] rfl)
      · refine lv_iload hx hb dX11_firstMove_96 (lv_at hl 5 rfl) ?_
        obtain rfl := Option.some.inj hf
        exact hret _ _ _ _ rfl dX11_firstMove_98 hP hD hS
  have b_46 : ∀ (k3 : Int → Int → Int → Int → (Nat → Int) → (Nat → Int) → Option (Int × (Nat → Int) × (Nat → Int))) (_ : ∀ (x1 : Int) (x2 : Int) (x3 : Int) (x4 : Int) (i_small : Nat → Int) (i_tall : Nat → Int) (H : Heap) (locs : List Loc) (ls : Array Slot), k3 x1 x2 x3 x4 i_small i_tall = some out → va_P (dC, dI) vwCl (wd_HM_firstMove cA q0 q1 q2 q3 q4 q5 q6 q7 q8 q9 q10 q11 q12 q13 q14 q15 q16 q17 q18 q19 q20 q21 q22 q23 q24 q25 q26 q27 q28 q29 q30 q31 u0 u1 u2 u3 u4 u5 u6 u7 u8 u9 u10 u11 u12 u13 u14 u15 u16 u17 u18 u19 u20 u21 i_row i_states i_nexts i_left i_costs i_safes i_small i_tall) H → va_D A (wd_HM_firstMove cA q0 q1 q2 q3 q4 q5 q6 q7 q8 q9 q10 q11 q12 q13 q14 q15 q16 q17 q18 q19 q20 q21 q22 q23 q24 q25 q26 q27 q28 q29 q30 q31 u0 u1 u2 u3 u4 u5 u6 u7 u8 u9 u10 u11 u12 u13 u14 u15 u16 u17 u18 u19 u20 u21 i_row i_states i_nexts i_left i_costs i_safes i_small i_tall) → va_S A s.heap H locs → lv_has ls 7 [(0, .ref q0), (1, .int (Int32.ofInt x1)), (2, .int (Int32.ofInt x2)), (3, .int (Int32.ofInt x3)), (4, .int (Int32.ofInt x4))] → W p l e rm_HM_firstMove s m args below meth c H locs 0 0 Q (F0 m 3 ls [])), ∀ (x1 : Int) (x2 : Int) (x3 : Int) (x4 : Int) (x5 : Int) (i_small : Nat → Int) (i_tall : Nat → Int) (H : Heap) (locs : List Loc) (ls : Array Slot), f_HM_firstMove_46 i_row i_states i_nexts i_left i_costs i_safes k3 x1 x2 x3 x4 x5 i_small i_tall = some out → va_P (dC, dI) vwCl (wd_HM_firstMove cA q0 q1 q2 q3 q4 q5 q6 q7 q8 q9 q10 q11 q12 q13 q14 q15 q16 q17 q18 q19 q20 q21 q22 q23 q24 q25 q26 q27 q28 q29 q30 q31 u0 u1 u2 u3 u4 u5 u6 u7 u8 u9 u10 u11 u12 u13 u14 u15 u16 u17 u18 u19 u20 u21 i_row i_states i_nexts i_left i_costs i_safes i_small i_tall) H → va_D A (wd_HM_firstMove cA q0 q1 q2 q3 q4 q5 q6 q7 q8 q9 q10 q11 q12 q13 q14 q15 q16 q17 q18 q19 q20 q21 q22 q23 q24 q25 q26 q27 q28 q29 q30 q31 u0 u1 u2 u3 u4 u5 u6 u7 u8 u9 u10 u11 u12 u13 u14 u15 u16 u17 u18 u19 u20 u21 i_row i_states i_nexts i_left i_costs i_safes i_small i_tall) → va_S A s.heap H locs → lv_has ls 7 [(0, .ref q0), (1, .int (Int32.ofInt x1)), (2, .int (Int32.ofInt x2)), (3, .int (Int32.ofInt x3)), (4, .int (Int32.ofInt x4)), (5, .int (Int32.ofInt x5))] → W p l e rm_HM_firstMove s m args below meth c H locs 0 0 Q (F0 m 46 ls []) := by
    intro k3 ih3 x1 x2 x3 x4 x5 i_small i_tall H locs ls hf hP hD hS hl
    unfold f_HM_firstMove_46 at hf
    refine lv_iconst (v := Int32.ofInt 0) hx hb dX11_firstMove_46 rfl ?_
    exact b_47 _ ih3 _ _ _ _ _ _ _ _ _ _ _ hf hP hD hS (lv_sub hl [0, 1, 2, 3, 4, 5] rfl)
  have b_3 : ∀ (k3 : Int → Int → Int → Int → (Nat → Int) → (Nat → Int) → Option (Int × (Nat → Int) × (Nat → Int))) (_ : ∀ (x1 : Int) (x2 : Int) (x3 : Int) (x4 : Int) (i_small : Nat → Int) (i_tall : Nat → Int) (H : Heap) (locs : List Loc) (ls : Array Slot), k3 x1 x2 x3 x4 i_small i_tall = some out → va_P (dC, dI) vwCl (wd_HM_firstMove cA q0 q1 q2 q3 q4 q5 q6 q7 q8 q9 q10 q11 q12 q13 q14 q15 q16 q17 q18 q19 q20 q21 q22 q23 q24 q25 q26 q27 q28 q29 q30 q31 u0 u1 u2 u3 u4 u5 u6 u7 u8 u9 u10 u11 u12 u13 u14 u15 u16 u17 u18 u19 u20 u21 i_row i_states i_nexts i_left i_costs i_safes i_small i_tall) H → va_D A (wd_HM_firstMove cA q0 q1 q2 q3 q4 q5 q6 q7 q8 q9 q10 q11 q12 q13 q14 q15 q16 q17 q18 q19 q20 q21 q22 q23 q24 q25 q26 q27 q28 q29 q30 q31 u0 u1 u2 u3 u4 u5 u6 u7 u8 u9 u10 u11 u12 u13 u14 u15 u16 u17 u18 u19 u20 u21 i_row i_states i_nexts i_left i_costs i_safes i_small i_tall) → va_S A s.heap H locs → lv_has ls 7 [(0, .ref q0), (1, .int (Int32.ofInt x1)), (2, .int (Int32.ofInt x2)), (3, .int (Int32.ofInt x3)), (4, .int (Int32.ofInt x4))] → W p l e rm_HM_firstMove s m args below meth c H locs 0 0 Q (F0 m 3 ls [])), ∀ (x1 : Int) (x2 : Int) (x3 : Int) (x4 : Int) (i_small : Nat → Int) (i_tall : Nat → Int) (H : Heap) (locs : List Loc) (ls : Array Slot), f_HM_firstMove_3_b i_row i_states i_nexts i_left i_costs i_safes k3 x1 x2 x3 x4 i_small i_tall = some out → va_P (dC, dI) vwCl (wd_HM_firstMove cA q0 q1 q2 q3 q4 q5 q6 q7 q8 q9 q10 q11 q12 q13 q14 q15 q16 q17 q18 q19 q20 q21 q22 q23 q24 q25 q26 q27 q28 q29 q30 q31 u0 u1 u2 u3 u4 u5 u6 u7 u8 u9 u10 u11 u12 u13 u14 u15 u16 u17 u18 u19 u20 u21 i_row i_states i_nexts i_left i_costs i_safes i_small i_tall) H → va_D A (wd_HM_firstMove cA q0 q1 q2 q3 q4 q5 q6 q7 q8 q9 q10 q11 q12 q13 q14 q15 q16 q17 q18 q19 q20 q21 q22 q23 q24 q25 q26 q27 q28 q29 q30 q31 u0 u1 u2 u3 u4 u5 u6 u7 u8 u9 u10 u11 u12 u13 u14 u15 u16 u17 u18 u19 u20 u21 i_row i_states i_nexts i_left i_costs i_safes i_small i_tall) → va_S A s.heap H locs → lv_has ls 7 [(0, .ref q0), (1, .int (Int32.ofInt x1)), (2, .int (Int32.ofInt x2)), (3, .int (Int32.ofInt x3)), (4, .int (Int32.ofInt x4))] → W p l e rm_HM_firstMove s m args below meth c H locs 0 0 Q (F0 m 3 ls []) := by
    intro k3 ih3 x1 x2 x3 x4 i_small i_tall H locs ls hf hP hD hS hl
    unfold f_HM_firstMove_3_b at hf
    refine lv_iload hx hb dX11_firstMove_3 (lv_at hl 4 rfl) ?_
    refine lv_bipush (v := Int32.ofInt 96) hx hb dX11_firstMove_5 (by decide) ?_
    refine xi_icmp_ge (tgt := 105) hx hb dX11_firstMove_7 (by decide) hf (fun hf => ?_) (fun hf => ?_)
    · refine lv_iconst (v := Int32.ofInt (-1)) hx hb dX11_firstMove_105 rfl ?_
      obtain rfl := Option.some.inj hf
      exact hret _ _ _ _ rfl dX11_firstMove_106 hP hD hS
    · refine lv_iload hx hb dX11_firstMove_10 (lv_at hl 4 rfl) ?_
      refine lv_bipush (v := Int32.ofInt 6) hx hb dX11_firstMove_12 (by decide) ?_
      refine xi_idiv hx hb dX11_firstMove_14 hf (fun v1 hf => ?_)
      refine lv_istore (lv' := [(5, .int (Int32.ofInt v1)), (0, .ref q0), (1, .int (Int32.ofInt x1)), (2, .int (Int32.ofInt x2)), (3, .int (Int32.ofInt x3)), (4, .int (Int32.ofInt x4))]) hx hb dX11_firstMove_15 hl (by decide) rfl (fun ls hl => ?_)
      refine lv_iload hx hb dX11_firstMove_17 (lv_at hl 5 rfl) ?_
      refine lv_bipush (v := Int32.ofInt 6) hx hb dX11_firstMove_19 (by decide) ?_
      refine xi_irem hx hb dX11_firstMove_21 hf (fun v2 hf => ?_)
      refine lv_aload_n hx hb dX11_firstMove_22 rfl (lv_at hl 1 rfl) ?_
      refine va_get (D := (dC, dI)) (ci := 11) (v := .ref q2) (C := RX11) (T := TX11) (N := 53) hx hb hz zi_X11 hown hK hP 0 rfl rfl 3 (by decide) (hz _ zw_1168) (fun _ h9 => h9) rfl dX11_firstMove_23 ?_
      refine lv_iconst (v := Int32.ofInt 1) hx hb dX11_firstMove_26 rfl ?_
      refine xi_iald hx hb hK hP 1 0 rfl rfl dX11_firstMove_27 hf (fun v3 hf => ?_)
      refine xi_icmp_ge (tgt := 46) hx hb dX11_firstMove_28 (by decide) hf (fun hf => ?_) (fun hf => ?_)
      · exact b_46 _ ih3 _ _ _ _ _ _ _ _ _ _ hf hP hD hS (lv_sub hl [1, 2, 3, 4, 5, 0] rfl)
      · refine lv_aload_n hx hb dX11_firstMove_31 rfl (lv_at hl 1 rfl) ?_
        refine lv_iload_n hx hb dX11_firstMove_32 rfl (lv_at hl 2 rfl) ?_
        refine lv_iload_n hx hb dX11_firstMove_33 rfl (lv_at hl 3 rfl) ?_
        refine lv_iload hx hb dX11_firstMove_34 (lv_at hl 0 rfl) ?_
        refine xe_d1 hf (fun v4 hg hf => ?_)
        have hC : ([0, 3, 8] : List Nat).map (fun i => (wd_HM_firstMove cA q0 q1 q2 q3 q4 q5 q6 q7 q8 q9 q10 q11 q12 q13 q14 q15 q16 q17 q18 q19 q20 q21 q22 q23 q24 q25 q26 q27 q28 q29 q30 q31 u0 u1 u2 u3 u4 u5 u6 u7 u8 u9 u10 u11 u12 u13 u14 u15 u16 u17 u18 u19 u20 u21 i_row i_states i_nexts i_left i_costs i_safes i_small i_tall)[i]?) = (wd_HM_isOpen cA q0 q1 q2 q3 q4 q5 q6 q7 q8 q9 q10 q11 q12 q13 q14 q15 q16 q17 q18 q19 q20 q21 q22 q23 q24 q25 q26 q27 q28 q29 q30 q31 u0 u1 u2 u3 u4 u5 u6 u7 u8 u9 u10 u11 u12 u13 u14 u15 u16 u17 u18 u19 u20 u21 i_nexts i_safes).map some := rfl
        refine xv_afterI (ws' := (wd_HM_firstMove cA q0 q1 q2 q3 q4 q5 q6 q7 q8 q9 q10 q11 q12 q13 q14 q15 q16 q17 q18 q19 q20 q21 q22 q23 q24 q25 q26 q27 q28 q29 q30 q31 u0 u1 u2 u3 u4 u5 u6 u7 u8 u9 u10 u11 u12 u13 u14 u15 u16 u17 u18 u19 u20 u21 i_row i_states i_nexts i_left i_costs i_safes i_small i_tall)) (isC := [0, 3, 8]) (ps := [some 0, none, none, some 1, none, none, none, none, some 2]) (va_runV (As := [.int (Int32.ofInt x1), .int (Int32.ofInt x2), .int (Int32.ofInt v1)]) (rest := []) ⟨hx, hb, hml, hown, hts⟩ (c_HM_isOpen l ev dC dI cA q0 q1 q2 q3 q4 q5 q6 q7 q8 q9 q10 q11 q12 q13 q14 q15 q16 q17 q18 q19 q20 q21 q22 q23 q24 q25 q26 q27 q28 q29 q30 q31 u0 u1 u2 u3 u4 u5 u6 u7 u8 u9 u10 u11 u12 u13 u14 u15 u16 u17 u18 u19 u20 u21 hg H.size) (cwV 3 hts (zgV zw_1712 zw_1714 zw_96 zw_115 zw_1715) rfl rfl rfl hd_HM_isOpen ⟨Nat.le_of_ble_eq_true rfl, Nat.le_of_ble_eq_true rfl⟩) (xv_preV (T := TX11) (N := 53) hE hA hS hK hP hD (isC := [0, 3, 8]) (by decide +kernel) hC (q0 := 0) (ci := 11) rfl rfl) rfl rfl hl.1 rfl (lv_room (Nat.le_of_ble_eq_true rfl)) dX11_firstMove_36 ⟨Nat.le_refl _, Nat.le_refl _⟩) hP hD hS hA (by decide +kernel) rfl hC rfl rfl (fun H locs hP hD hS => ?_)
        refine xi_if_eq (tgt := 46) hx hb dX11_firstMove_39 (by decide) hf (fun hf => ?_) (fun hf => ?_)
        · exact b_46 _ ih3 _ _ _ _ _ _ _ _ _ _ hf hP hD hS (lv_sub hl [1, 2, 3, 4, 5, 0] rfl)
        · refine lv_iconst (v := Int32.ofInt 1) hx hb dX11_firstMove_42 rfl ?_
          refine lv_goto (tgt := 47) hx hb dX11_firstMove_43 (by decide) ?_
          exact b_47 _ ih3 _ _ _ _ _ _ _ _ _ _ _ hf hP hD hS (lv_sub hl [1, 2, 3, 4, 5, 0] rfl)
  have l_3 : ∀ (n : Nat), ∀ (x1 : Int) (x2 : Int) (x3 : Int) (x4 : Int) (i_small : Nat → Int) (i_tall : Nat → Int) (H : Heap) (locs : List Loc) (ls : Array Slot), f_HM_firstMove_3 i_row i_states i_nexts i_left i_costs i_safes n x1 x2 x3 x4 i_small i_tall = some out → va_P (dC, dI) vwCl (wd_HM_firstMove cA q0 q1 q2 q3 q4 q5 q6 q7 q8 q9 q10 q11 q12 q13 q14 q15 q16 q17 q18 q19 q20 q21 q22 q23 q24 q25 q26 q27 q28 q29 q30 q31 u0 u1 u2 u3 u4 u5 u6 u7 u8 u9 u10 u11 u12 u13 u14 u15 u16 u17 u18 u19 u20 u21 i_row i_states i_nexts i_left i_costs i_safes i_small i_tall) H → va_D A (wd_HM_firstMove cA q0 q1 q2 q3 q4 q5 q6 q7 q8 q9 q10 q11 q12 q13 q14 q15 q16 q17 q18 q19 q20 q21 q22 q23 q24 q25 q26 q27 q28 q29 q30 q31 u0 u1 u2 u3 u4 u5 u6 u7 u8 u9 u10 u11 u12 u13 u14 u15 u16 u17 u18 u19 u20 u21 i_row i_states i_nexts i_left i_costs i_safes i_small i_tall) → va_S A s.heap H locs → lv_has ls 7 [(0, .ref q0), (1, .int (Int32.ofInt x1)), (2, .int (Int32.ofInt x2)), (3, .int (Int32.ofInt x3)), (4, .int (Int32.ofInt x4))] → W p l e rm_HM_firstMove s m args below meth c H locs 0 0 Q (F0 m 3 ls []) := by
    intro n
    induction n with
    | zero => intro x1 x2 x3 x4 i_small i_tall H locs ls hf hP hD hS hl; exact nomatch hf
    | succ n ih => intro x1 x2 x3 x4 i_small i_tall H locs ls hf hP hD hS hl; exact b_3 (f_HM_firstMove_3 i_row i_states i_nexts i_left i_costs i_safes n) ih x1 x2 x3 x4 i_small i_tall H locs ls hf hP hD hS hl
  unfold f_HM_firstMove at hf
  refine lv_iconst (v := Int32.ofInt 0) hx hb dX11_firstMove_0 rfl ?_
  refine lv_istore (lv' := [(4, .int (Int32.ofInt 0)), (0, .ref q0), (1, .int (Int32.ofInt x1)), (2, .int (Int32.ofInt x2)), (3, .int (Int32.ofInt x3))]) hx hb dX11_firstMove_1 hl (by decide) rfl (fun ls hl => ?_)
  exact l_3  _ _ _ _ _ _ _ _ _ _ hf hP hD hS (lv_sub hl [1, 2, 3, 4, 0] rfl)
