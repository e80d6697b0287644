theorem dX5_pour_0 : decode cX5_pour 0 = .ok (.aload_n 0, 1) := by decide +kernel
theorem dX5_pour_1 : decode cX5_pour 1 = .ok (.getfield 10, 3) := by decide +kernel
theorem dX5_pour_4 : decode cX5_pour 4 = .ok (.aload_n 1, 1) := by decide +kernel
theorem dX5_pour_5 : decode cX5_pour 5 = .ok (.invokevirtual 16, 3) := by decide +kernel
theorem dX5_pour_8 : decode cX5_pour 8 = .ok (.aload_n 0, 1) := by decide +kernel
theorem dX5_pour_9 : decode cX5_pour 9 = .ok (.getfield 10, 3) := by decide +kernel
theorem dX5_pour_12 : decode cX5_pour 12 = .ok (.getfield 20, 3) := by decide +kernel
theorem dX5_pour_15 : decode cX5_pour 15 = .ok (.ifCond .ne 5, 3) := by decide +kernel
theorem dX5_pour_18 : decode cX5_pour 18 = .ok (.iconst 0, 1) := by decide +kernel
theorem dX5_pour_19 : decode cX5_pour 19 = .ok (.ireturn, 1) := by decide +kernel
theorem dX5_pour_20 : decode cX5_pour 20 = .ok (.iconst 0, 1) := by decide +kernel
theorem dX5_pour_21 : decode cX5_pour 21 = .ok (.istore 5, 2) := by decide +kernel
theorem dX5_pour_23 : decode cX5_pour 23 = .ok (.iload_n 3, 1) := by decide +kernel
theorem dX5_pour_24 : decode cX5_pour 24 = .ok (.istore 6, 2) := by decide +kernel
theorem dX5_pour_26 : decode cX5_pour 26 = .ok (.iconst 0, 1) := by decide +kernel
theorem dX5_pour_27 : decode cX5_pour 27 = .ok (.istore 7, 2) := by decide +kernel
theorem dX5_pour_29 : decode cX5_pour 29 = .ok (.iload 7, 2) := by decide +kernel
theorem dX5_pour_31 : decode cX5_pour 31 = .ok (.iload 4, 2) := by decide +kernel
theorem dX5_pour_33 : decode cX5_pour 33 = .ok (.if_icmp .ge 52, 3) := by decide +kernel
theorem dX5_pour_36 : decode cX5_pour 36 = .ok (.iload 6, 2) := by decide +kernel
theorem dX5_pour_38 : decode cX5_pour 38 = .ok (.sipush 1103, 3) := by decide +kernel
theorem dX5_pour_41 : decode cX5_pour 41 = .ok (.imul, 1) := by decide +kernel
theorem dX5_pour_42 : decode cX5_pour 42 = .ok (.sipush 12345, 3) := by decide +kernel
theorem dX5_pour_45 : decode cX5_pour 45 = .ok (.iadd, 1) := by decide +kernel
theorem dX5_pour_46 : decode cX5_pour 46 = .ok (.ldc 24, 2) := by decide +kernel
theorem dX5_pour_48 : decode cX5_pour 48 = .ok (.irem, 1) := by decide +kernel
theorem dX5_pour_49 : decode cX5_pour 49 = .ok (.istore 6, 2) := by decide +kernel
theorem dX5_pour_51 : decode cX5_pour 51 = .ok (.iload 5, 2) := by decide +kernel
theorem dX5_pour_53 : decode cX5_pour 53 = .ok (.aload_n 0, 1) := by decide +kernel
theorem dX5_pour_54 : decode cX5_pour 54 = .ok (.iload 6, 2) := by decide +kernel
theorem dX5_pour_56 : decode cX5_pour 56 = .ok (.aload_n 0, 1) := by decide +kernel
theorem dX5_pour_57 : decode cX5_pour 57 = .ok (.getfield 10, 3) := by decide +kernel
theorem dX5_pour_60 : decode cX5_pour 60 = .ok (.getfield 20, 3) := by decide +kernel
theorem dX5_pour_63 : decode cX5_pour 63 = .ok (.irem, 1) := by decide +kernel
theorem dX5_pour_64 : decode cX5_pour 64 = .ok (.invokevirtual 25, 3) := by decide +kernel
theorem dX5_pour_67 : decode cX5_pour 67 = .ok (.iadd, 1) := by decide +kernel
theorem dX5_pour_68 : decode cX5_pour 68 = .ok (.istore 5, 2) := by decide +kernel
theorem dX5_pour_70 : decode cX5_pour 70 = .ok (.aload_n 0, 1) := by decide +kernel
theorem dX5_pour_71 : decode cX5_pour 71 = .ok (.getfield 10, 3) := by decide +kernel
theorem dX5_pour_74 : decode cX5_pour 74 = .ok (.iload_n 2, 1) := by decide +kernel
theorem dX5_pour_75 : decode cX5_pour 75 = .ok (.invokevirtual 29, 3) := by decide +kernel
theorem dX5_pour_78 : decode cX5_pour 78 = .ok (.pop, 1) := by decide +kernel
theorem dX5_pour_79 : decode cX5_pour 79 = .ok (.iinc 7 1, 3) := by decide +kernel
theorem dX5_pour_82 : decode cX5_pour 82 = .ok (.goto (-53), 3) := by decide +kernel
theorem dX5_pour_85 : decode cX5_pour 85 = .ok (.iload 5, 2) := by decide +kernel
theorem dX5_pour_87 : decode cX5_pour 87 = .ok (.ireturn, 1) := by decide +kernel
theorem zw_39 : (Jvm.Cond.selects "HillSchool$Paper" ({ cls := "HillSchool$Paper", name := "wash", desc := "(I)I" } : Jvm.MethodName) ({ cls := "HillSchool$Paper", name := "wash", desc := "(I)I" } : Jvm.MethodName)) ∈ zall := zmemG (zmj_0 39 rfl) rfl
theorem zw_114 : (Jvm.Cond.initialized "HillSchool$Paper") ∈ zall := zmemG (zmj_1 11 rfl) rfl
theorem zw_145 : (Jvm.Cond.fieldLinkNest "HillSchool$Paper" (20 : Nat) "HillSchool$Columns" "many" "I" "HillSchool") ∈ znest := zmemH (zmj_1 42 rfl) rfl
theorem zw_1113 : (Jvm.Cond.code ({ cls := "HillSchool$Paper", name := "pour", desc := "(LHillSchool$Columns;III)I" } : Jvm.MethodName) prog_7_method_2_code (8 : Nat) (Option.some Jvm.ClassFile.FieldType.int)) ∈ zall := zmemG (zmj_5 50 rfl) rfl
theorem zw_1114 : (Jvm.Cond.methodLink "HillSchool$Paper" (16 : Nat) ({ cls := "HillSchool$Columns", name := "become", desc := "(LHillSchool$Columns;)V" } : Jvm.MethodName)) ∈ zall := zmemG (zmj_5 51 rfl) rfl
theorem zw_1115 : (Jvm.Cond.constant "HillSchool$Paper" (24 : Nat) (1000003 : Int32)) ∈ zall := zmemG (zmj_5 52 rfl) rfl
theorem zw_1116 : (Jvm.Cond.methodLink "HillSchool$Paper" (25 : Nat) ({ cls := "HillSchool$Paper", name := "wash", desc := "(I)I" } : Jvm.MethodName)) ∈ zall := zmemG (zmj_5 53 rfl) rfl
theorem zw_1118 : (Jvm.Cond.instanceMethod ({ cls := "HillSchool$Paper", name := "wash", desc := "(I)I" } : Jvm.MethodName)) ∈ zall := zmemG (zmj_5 55 rfl) rfl
theorem zw_1123 : (Jvm.Cond.methodLink "HillSchool$Paper" (29 : Nat) ({ cls := "HillSchool$Columns", name := "settle", desc := "(I)I" } : Jvm.MethodName)) ∈ zall := zmemG (zmj_5 60 rfl) rfl
abbrev w_Paper_pour : List Cond := .code yX5_pour cX5_pour 8 (some .int) :: zall
abbrev rm_Paper_pour : Room := { frames := 5, cells := 0, slots := 0, locals := 109 }
theorem hd_Paper_pour : yX5_pour.cls = "HillSchool$Paper" ∧ yX5_pour.cls ≠ "java/lang/invoke/MethodHandle" ∧ yX5_pour.cls ≠ "java/lang/invoke/VarHandle" ∧ (parseMethodDescriptor yX5_pour.desc).map (fun d => d.parameters.length) = some 4 := by decide +kernel
def wd_Paper_pour (cA : Nat → ClassId) (q0 q1 q2 q3 q4 q5 q6 : Nat) (i_a1_many : Int) (i_a1_heights : Nat → Int) (i_a1_weights : Nat → Int) (i_columns_many : Int) (i_columns_heights : Nat → Int) (i_columns_weights : Nat → Int) : va_W := [(q0, .inr (5, [.ref q1])), (q2, .inr (1, [.int (Int32.ofInt i_a1_many), .ref q3, .ref q4])), (q1, .inr (1, [.int (Int32.ofInt i_columns_many), .ref q5, .ref q6])), (q3, .inl (cA 0, 12, .inl (za i_a1_heights))), (q4, .inl (cA 0, 120, .inl (za i_a1_weights))), (q5, .inl (cA 0, 12, .inl (za i_columns_heights))), (q6, .inl (cA 0, 120, .inl (za i_columns_weights)))]
def wf_Paper_pour (cA : Nat → ClassId) (q0 q1 q2 q3 q4 q5 q6 : Nat) (i_a1_many : Int) (i_a1_heights : Nat → Int) (i_a1_weights : Nat → Int) (o : Int × Int × (Nat → Int) × (Nat → Int)) : va_W := wd_Paper_pour cA q0 q1 q2 q3 q4 q5 q6 i_a1_many i_a1_heights i_a1_weights o.2.1 o.2.2.1 o.2.2.2
def f_Paper_pour_29_b (i_a1_many : Int) (i_a1_heights : Nat → Int) (i_a1_weights : Nat → Int) (k29 : Int → Int → Int → Int → Int → Int → (Nat → Int) → (Nat → Int) → Option (Int × Int × (Nat → Int) × (Nat → Int))) (x2 : Int) (x4 : Int) (x5 : Int) (x6 : Int) (x7 : Int) (i_columns_many : Int) (i_columns_heights : Nat → Int) (i_columns_weights : Nat → Int) : Option (Int × Int × (Nat → Int) × (Nat → Int)) :=
  if zi_w x4 ≤ zi_w x7 then
    some (x5, i_columns_many, i_columns_heights, i_columns_weights)
  else
    zn (x6 * 1103) fun v1 =>
    zn (v1 + 12345) fun v2 =>
    if zi_w 1000003 = 0 then none else zn (zi_rem v2 1000003) fun v3 =>
    if zi_w i_columns_many = 0 then none else zn (zi_rem v3 i_columns_many) fun v4 =>
    zd3 (f_Paper_wash v4 i_columns_many i_columns_heights i_columns_weights) fun v5 a6 a7 =>
    zn (x5 + v5) fun v8 =>
    zd3 (f_Columns_settle x2 i_columns_many a6 a7) fun v9 a10 a11 =>
    zn (x7 + 1) fun v12 =>
    k29 x2 x4 v8 v3 v12 i_columns_many a10 a11
def f_Paper_pour_29 (i_a1_many : Int) (i_a1_heights : Nat → Int) (i_a1_weights : Nat → Int) : Nat → Int → Int → Int → Int → Int → Int → (Nat → Int) → (Nat → Int) → Option (Int × Int × (Nat → Int) × (Nat → Int))
  | 0 => fun _ _ _ _ _ _ _ _ => none
  | n + 1 => fun y0 y1 y2 y3 y4 y5 y6 y7 => f_Paper_pour_29_b i_a1_many i_a1_heights i_a1_weights (f_Paper_pour_29 i_a1_many i_a1_heights i_a1_weights n) y0 y1 y2 y3 y4 y5 y6 y7
def f_Paper_pour (x2 : Int) (x3 : Int) (x4 : Int) (i_a1_many : Int) (i_a1_heights : Nat → Int) (i_a1_weights : Nat → Int) (i_columns_many : Int) (i_columns_heights : Nat → Int) (i_columns_weights : Nat → Int) : Option (Int × Int × (Nat → Int) × (Nat → Int)) :=
  zd3 (f_Columns_become i_a1_many i_a1_heights i_a1_weights i_columns_many i_columns_heights i_columns_weights) fun v1 a2 a3 =>
  if zi_w v1 ≠ 0 then
    f_Paper_pour_29 i_a1_many i_a1_heights i_a1_weights zfu x2 x4 0 x3 0 v1 a2 a3
  else
    some (0, v1, a2, a3)
set_option maxHeartbeats 4000000 in
set_option maxRecDepth 100000 in
theorem c_Paper_pour (l : Launch) (ev : zEv) (dC : Nat → ClassId) (dI : Nat → Nat → Nat) (cA : Nat → ClassId) (q0 q1 q2 q3 q4 q5 q6 : Nat) {x2 x3 x4 : Int} {i_a1_many : Int} {i_a1_heights : Nat → Int} {i_a1_weights : Nat → Int} {i_columns_many : Int} {i_columns_heights : Nat → Int} {i_columns_weights : Nat → Int} {out : Int × Int × (Nat → Int) × (Nat → Int)} (hf : f_Paper_pour x2 x3 x4 i_a1_many i_a1_heights i_a1_weights i_columns_many i_columns_heights i_columns_weights = some out) : xc_I l ev (dC, dI) vwCl (tyl cA) yX5_pour w_Paper_pour rm_Paper_pour [.ref q0, .ref q2, .int (Int32.ofInt x2), .int (Int32.ofInt x3), .int (Int32.ofInt x4)] (wd_Paper_pour cA q0 q1 q2 q3 q4 q5 q6 i_a1_many i_a1_heights i_a1_weights i_columns_many i_columns_heights i_columns_weights) (wf_Paper_pour cA q0 q1 q2 q3 q4 q5 q6 i_a1_many i_a1_heights i_a1_weights out) out.1 := by
  refine xv_startI (cc := cX5_pour) (maxL := 8) (rt := .int) (by decide +kernel) rfl (Nat.le_of_ble_eq_true rfl) ?_
  intro p e s m args below meth c A Q H ls hx hb hml hts hown hK hA hP hD hS hl hE hret
  have hown : s.vm.findClass "HillSchool$Paper" = some m.cls := hown
  have hz : ∀ w ∈ zall, w.before args s = true := fun w h => hts w (List.mem_cons_of_mem _ h)
  have hl : lv_has ls 8 [(0, .ref q0), (1, .ref q2), (2, .int (Int32.ofInt x2)), (3, .int (Int32.ofInt x3)), (4, .int (Int32.ofInt x4))] := hl
  have b_29 : ∀ (k29 : Int → Int → Int → Int → Int → Int → (Nat → Int) → (Nat → Int) → Option (Int × Int × (Nat → Int) × (Nat → Int))) (_ : ∀ (x2 : Int) (x4 : Int) (x5 : Int) (x6 : Int) (x7 : Int) (i_columns_many : Int) (i_columns_heights : Nat → Int) (i_columns_weights : Nat → Int) (H : Heap) (locs : List Loc) (ls : Array Slot), k29 x2 x4 x5 x6 x7 i_columns_many i_columns_heights i_columns_weights = some out → va_P (dC, dI) vwCl (wd_Paper_pour cA q0 q1 q2 q3 q4 q5 q6 i_a1_many i_a1_heights i_a1_weights i_columns_many i_columns_heights i_columns_weights) H → va_D A (wd_Paper_pour cA q0 q1 q2 q3 q4 q5 q6 i_a1_many i_a1_heights i_a1_weights i_columns_many i_columns_heights i_columns_weights) → va_S A s.heap H locs → lv_has ls 8 [(0, .ref q0), (2, .int (Int32.ofInt x2)), (4, .int (Int32.ofInt x4)), (5, .int (Int32.ofInt x5)), (6, .int (Int32.ofInt x6)), (7, .int (Int32.ofInt x7))] → W p l e rm_Paper_pour s m args below meth c H locs 0 0 Q (F0 m 29 ls [])), ∀ (x2 : Int) (x4 : Int) (x5 : Int) (x6 : Int) (x7 : Int) (i_columns_many : Int) (i_columns_heights : Nat → Int) (i_columns_weights : Nat → Int) (H : Heap) (locs : List Loc) (ls : Array Slot), f_Paper_pour_29_b i_a1_many i_a1_heights i_a1_weights k29 x2 x4 x5 x6 x7 i_columns_many i_columns_heights i_columns_weights = some out → va_P (dC, dI) vwCl (wd_Paper_pour cA q0 q1 q2 q3 q4 q5 q6 i_a1_many i_a1_heights i_a1_weights i_columns_many i_columns_heights i_columns_weights) H → va_D A (wd_Paper_pour cA q0 q1 q2 q3 q4 q5 q6 i_a1_many i_a1_heights i_a1_weights i_columns_many i_columns_heights i_columns_weights) → va_S A s.heap H locs → lv_has ls 8 [(0, .ref q0), (2, .int (Int32.ofInt x2)), (4, .int (Int32.ofInt x4)), (5, .int (Int32.ofInt x5)), (6, .int (Int32.ofInt x6)), (7, .int (Int32.ofInt x7))] → W p l e rm_Paper_pour s m args below meth c H locs 0 0 Q (F0 m 29 ls []) := by
    intro k29 ih29 x2 x4 x5 x6 x7 i_columns_many i_columns_heights i_columns_weights H locs ls hf hP hD hS hl
    unfold f_Paper_pour_29_b at hf
    refine lv_iload hx hb dX5_pour_29 (lv_at hl 5 rfl) ?_
    refine lv_iload hx hb dX5_pour_31 (lv_at hl 2 rfl) ?_
    refine xi_icmp_ge (tgt := 85) hx hb dX5_pour_33 (by decide) hf (fun hf => ?_) (fun hf => ?_)
    · refine lv_iload hx hb dX5_pour_85 (lv_at hl 3 rfl) ?_
      obtain rfl := Option.some.inj hf
      exact hret _ _ _ _ rfl dX5_pour_87 hP hD hS
    · refine lv_iload hx hb dX5_pour_36 (lv_at hl 4 rfl) ?_
      refine lv_sipush (v := Int32.ofInt 1103) hx hb dX5_pour_38 (by decide) ?_
      refine xi_imul hx hb dX5_pour_41 hf (fun v1 hf => ?_)
      refine lv_sipush (v := Int32.ofInt 12345) hx hb dX5_pour_42 (by decide) ?_
      refine xi_iadd hx hb dX5_pour_45 hf (fun v2 hf => ?_)
      refine lv_ldc (v := Int32.ofInt 1000003) hx hb hown (hz _ zw_1115) dX5_pour_46 ?_
      refine xi_irem hx hb dX5_pour_48 hf (fun v3 hf => ?_)
      refine lv_istore (lv' := [(6, .int (Int32.ofInt v3)), (0, .ref q0), (2, .int (Int32.ofInt x2)), (4, .int (Int32.ofInt x4)), (5, .int (Int32.ofInt x5)), (7, .int (Int32.ofInt x7))]) hx hb dX5_pour_49 hl (by decide) rfl (fun ls hl => ?_)
      refine lv_iload hx hb dX5_pour_51 (lv_at hl 4 rfl) ?_
      refine lv_aload_n hx hb dX5_pour_53 rfl (lv_at hl 1 rfl) ?_
      refine lv_iload hx hb dX5_pour_54 (lv_at hl 0 rfl) ?_
      refine lv_aload_n hx hb dX5_pour_56 rfl (lv_at hl 1 rfl) ?_
      refine va_get (D := (dC, dI)) (ci := 5) (v := .ref q1) (C := RX5) (T := TX5) (N := 1) hx hb hz zi_X5 hown hK hP 0 rfl rfl 0 (by decide) (hz _ zw_472) (fun _ h9 => h9) rfl dX5_pour_57 ?_
      refine va_getN (D := (dC, dI)) (ci := 1) (v := .int (Int32.ofInt i_columns_many)) (C := RX1) (T := TX1) (N := 3) hx hb hz zi_X1 hown hK hP 2 rfl rfl 0 (by decide) (va_Nw.use rfl (hE.1.1 _ zw_145)) (fun _ h9 => h9) rfl dX5_pour_60 ?_
      refine xi_irem hx hb dX5_pour_63 hf (fun v4 hf => ?_)
      refine xe_d3 hf (fun v5 a6 a7 hg hf => ?_)
      have hC : ([0, 2, 5, 6] : List Nat).map (fun i => (wd_Paper_pour cA q0 q1 q2 q3 q4 q5 q6 i_a1_many i_a1_heights i_a1_weights i_columns_many i_columns_heights i_columns_weights)[i]?) = (wd_Paper_wash cA q0 q1 q5 q6 i_columns_many i_columns_heights i_columns_weights).map some := rfl
      refine xv_afterI (ws' := (wd_Paper_pour cA q0 q1 q2 q3 q4 q5 q6 i_a1_many i_a1_heights i_a1_weights i_columns_many a6 a7)) (isC := [0, 2, 5, 6]) (ps := [some 0, none, some 1, none, none, some 2, some 3]) (va_runV (As := [.int (Int32.ofInt v4)]) (rest := [.int (Int32.ofInt x5)]) ⟨hx, hb, hml, hown, hts⟩ (c_Paper_wash l ev dC dI cA q0 q1 q5 q6 hg H.size) (cwV 1 hts (zgV zw_1116 zw_1118 zw_39 zw_114 zw_1119) rfl rfl rfl hd_Paper_wash ⟨Nat.le_of_ble_eq_true rfl, Nat.le_of_ble_eq_true rfl⟩) (xv_preV (T := TX5) (N := 1) hE hA hS hK hP hD (isC := [0, 2, 5, 6]) (by decide +kernel) hC (q0 := 0) (ci := 5) rfl rfl) rfl rfl hl.1 rfl (lv_room (Nat.le_of_ble_eq_true rfl)) dX5_pour_64 ⟨Nat.le_refl _, Nat.le_refl _⟩) hP hD hS hA (by decide +kernel) rfl hC rfl rfl (fun H locs hP hD hS => ?_)
      refine xi_iadd hx hb dX5_pour_67 hf (fun v8 hf => ?_)
      refine lv_istore (lv' := [(5, .int (Int32.ofInt v8)), (6, .int (Int32.ofInt v3)), (0, .ref q0), (2, .int (Int32.ofInt x2)), (4, .int (Int32.ofInt x4)), (7, .int (Int32.ofInt x7))]) hx hb dX5_pour_68 hl (by decide) rfl (fun ls hl => ?_)
      refine lv_aload_n hx hb dX5_pour_70 rfl (lv_at hl 2 rfl) ?_
      refine va_get (D := (dC, dI)) (ci := 5) (v := .ref q1) (C := RX5) (T := TX5) (N := 1) hx hb hz zi_X5 hown hK hP 0 rfl rfl 0 (by decide) (hz _ zw_472) (fun _ h9 => h9) rfl dX5_pour_71 ?_
      refine lv_iload_n hx hb dX5_pour_74 rfl (lv_at hl 3 rfl) ?_
      refine xe_d3 hf (fun v9 a10 a11 hg hf => ?_)
      have hC : ([2, 5, 6] : List Nat).map (fun i => (wd_Paper_pour cA q0 q1 q2 q3 q4 q5 q6 i_a1_many i_a1_heights i_a1_weights i_columns_many a6 a7)[i]?) = (wd_Columns_settle cA q1 q5 q6 i_columns_many a6 a7).map some := rfl
      refine xv_afterI (ws' := (wd_Paper_pour cA q0 q1 q2 q3 q4 q5 q6 i_a1_many i_a1_heights i_a1_weights i_columns_many a10 a11)) (isC := [2, 5, 6]) (ps := [none, none, some 0, none, none, some 1, some 2]) (va_runV (As := [.int (Int32.ofInt x2)]) (rest := []) ⟨hx, hb, hml, hown, hts⟩ (c_Columns_settle l ev dC dI cA q1 q5 q6 hg H.size) (cwV 1 hts (zgV zw_1123 zw_877 zw_878 zw_106 zw_879) rfl rfl rfl hd_Columns_settle ⟨Nat.le_of_ble_eq_true rfl, Nat.le_of_ble_eq_true rfl⟩) (xv_preV (T := TX1) (N := 3) hE hA hS hK hP hD (isC := [2, 5, 6]) (by decide +kernel) hC (q0 := 2) (ci := 1) rfl rfl) rfl rfl hl.1 rfl (lv_room (Nat.le_of_ble_eq_true rfl)) dX5_pour_75 ⟨Nat.le_refl _, Nat.le_refl _⟩) hP hD hS hA (by decide +kernel) rfl hC rfl rfl (fun H locs hP hD hS => ?_)
      refine lv_pop hx hb dX5_pour_78 rfl ?_
      refine xi_iinc hx hb dX5_pour_79 hl (k := 5) rfl (by decide) hf (fun v12 ls hl hf => ?_)
      have hl : lv_has ls 8 [(7, .int (Int32.ofInt v12)), (5, .int (Int32.ofInt v8)), (6, .int (Int32.ofInt v3)), (0, .ref q0), (2, .int (Int32.ofInt x2)), (4, .int (Int32.ofInt x4))] := hl
      refine lv_goto (tgt := 29) hx hb dX5_pour_82 (by decide) ?_
      exact ih29 _ _ _ _ _ _ _ _ _ _ _ hf hP hD hS (lv_sub hl [3, 4, 5, 1, 2, 0] rfl)
  have l_29 : ∀ (n : Nat), ∀ (x2 : Int) (x4 : Int) (x5 : Int) (x6 : Int) (x7 : Int) (i_columns_many : Int) (i_columns_heights : Nat → Int) (i_columns_weights : Nat → Int) (H : Heap) (locs : List Loc) (ls : Array Slot), f_Paper_pour_29 i_a1_many i_a1_heights i_a1_weights n x2 x4 x5 x6 x7 i_columns_many i_columns_heights i_columns_weights = some out → va_P (dC, dI) vwCl (wd_Paper_pour cA q0 q1 q2 q3 q4 q5 q6 i_a1_many i_a1_heights i_a1_weights i_columns_many i_columns_heights i_columns_weights) H → va_D A (wd_Paper_pour cA q0 q1 q2 q3 q4 q5 q6 i_a1_many i_a1_heights i_a1_weights i_columns_many i_columns_heights i_columns_weights) → va_S A s.heap H locs → lv_has ls 8 [(0, .ref q0), (2, .int (Int32.ofInt x2)), (4, .int (Int32.ofInt x4)), (5, .int (Int32.ofInt x5)), (6, .int (Int32.ofInt x6)), (7, .int (Int32.ofInt x7))] → W p l e rm_Paper_pour s m args below meth c H locs 0 0 Q (F0 m 29 ls []) := by
    intro n
    induction n with
    | zero => intro x2 x4 x5 x6 x7 i_columns_many i_columns_heights i_columns_weights H locs ls hf hP hD hS hl; exact nomatch hf
    | succ n ih => intro x2 x4 x5 x6 x7 i_columns_many i_columns_heights i_columns_weights H locs ls hf hP hD hS hl; exact b_29 (f_Paper_pour_29 i_a1_many i_a1_heights i_a1_weights n) ih x2 x4 x5 x6 x7 i_columns_many i_columns_heights i_columns_weights H locs ls hf hP hD hS hl
  unfold f_Paper_pour at hf
  refine lv_aload_n hx hb dX5_pour_0 rfl (lv_at hl 0 rfl) ?_
  refine va_get (D := (dC, dI)) (ci := 5) (v := .ref q1) (C := RX5) (T := TX5) (N := 1) hx hb hz zi_X5 hown hK hP 0 rfl rfl 0 (by decide) (hz _ zw_472) (fun _ h9 => h9) rfl dX5_pour_1 ?_
  refine lv_aload_n hx hb dX5_pour_4 rfl (lv_at hl 1 rfl) ?_
  refine xe_d3 hf (fun v1 a2 a3 hg hf => ?_)
  have hC : ([2, 1, 5, 6, 3, 4] : List Nat).map (fun i => (wd_Paper_pour cA q0 q1 q2 q3 q4 q5 q6 i_a1_many i_a1_heights i_a1_weights i_columns_many i_columns_heights i_columns_weights)[i]?) = (wd_Columns_become cA q1 q5 q6 q2 q3 q4 i_a1_many i_a1_heights i_a1_weights i_columns_many i_columns_heights i_columns_weights).map some := rfl
  refine xv_afterV (ws' := (wd_Paper_pour cA q0 q1 q2 q3 q4 q5 q6 i_a1_many i_a1_heights i_a1_weights v1 a2 a3)) (isC := [2, 1, 5, 6, 3, 4]) (ps := [none, some 1, some 0, some 4, some 5, some 2, some 3]) (va_runV (As := [.ref q2]) (rest := []) ⟨hx, hb, hml, hown, hts⟩ (c_Columns_become l ev dC dI cA q1 q5 q6 q2 q3 q4 hg H.size) (cwV 1 hts (zgV zw_1114 zw_1080 zw_1081 zw_106 zw_1082) rfl rfl rfl hd_Columns_become ⟨Nat.le_of_ble_eq_true rfl, Nat.le_of_ble_eq_true rfl⟩) (xv_preV (T := TX1) (N := 3) hE hA hS hK hP hD (isC := [2, 1, 5, 6, 3, 4]) (by decide +kernel) hC (q0 := 2) (ci := 1) rfl rfl) rfl rfl hl.1 rfl (lv_room (Nat.le_of_ble_eq_true rfl)) dX5_pour_5 ⟨Nat.le_refl _, Nat.le_refl _⟩) hP hD hS hA (by decide +kernel) rfl hC rfl rfl (fun H locs hP hD hS => ?_)
  refine lv_aload_n hx hb dX5_pour_8 rfl (lv_at hl 0 rfl) ?_
  refine va_get (D := (dC, dI)) (ci := 5) (v := .ref q1) (C := RX5) (T := TX5) (N := 1) hx hb hz zi_X5 hown hK hP 0 rfl rfl 0 (by decide) (hz _ zw_472) (fun _ h9 => h9) rfl dX5_pour_9 ?_
  refine va_getN (D := (dC, dI)) (ci := 1) (v := .int (Int32.ofInt v1)) (C := RX1) (T := TX1) (N := 3) hx hb hz zi_X1 hown hK hP 2 rfl rfl 0 (by decide) (va_Nw.use rfl (hE.1.1 _ zw_145)) (fun _ h9 => h9) rfl dX5_pour_12 ?_
  refine xi_if_ne (tgt := 20) hx hb dX5_pour_15 (by decide) hf (fun hf => ?_) (fun hf => ?_)
  · refine lv_iconst (v := Int32.ofInt 0) hx hb dX5_pour_20 rfl ?_
    refine lv_istore (lv' := [(5, .int (Int32.ofInt 0)), (0, .ref q0), (1, .ref q2), (2, .int (Int32.ofInt x2)), (3, .int (Int32.ofInt x3)), (4, .int (Int32.ofInt x4))]) hx hb dX5_pour_21 hl (by decide) rfl (fun ls hl => ?_)
    refine lv_iload_n hx hb dX5_pour_23 rfl (lv_at hl 4 rfl) ?_
    refine lv_istore (lv' := [(6, .int (Int32.ofInt x3)), (5, .int (Int32.ofInt 0)), (0, .ref q0), (1, .ref q2), (2, .int (Int32.ofInt x2)), (3, .int (Int32.ofInt x3)), (4, .int (Int32.ofInt x4))]) hx hb dX5_pour_24 hl (by decide) rfl (fun ls hl => ?_)
    refine lv_iconst (v := Int32.ofInt 0) hx hb dX5_pour_26 rfl ?_
    refine lv_istore (lv' := [(7, .int (Int32.ofInt 0)), (6, .int (Int32.ofInt x3)), (5, .int (Int32.ofInt 0)), (0, .ref q0), (1, .ref q2), (2, .int (Int32.ofInt x2)), (3, .int (Int32.ofInt x3)), (4, .int (Int32.ofInt x4))]) hx hb dX5_pour_27 hl (by decide) rfl (fun ls hl => ?_)
    exact l_29  _ _ _ _ _ _ _ _ _ _ _ _ hf hP hD hS (lv_sub hl [3, 5, 7, 2, 1, 0] rfl)
  · refine lv_iconst (v := Int32.ofInt 0) hx hb dX5_pour_18 rfl ?_
    obtain rfl := Option.some.inj hf
    exact hret _ _ _ _ rfl dX5_pour_19 hP hD hS
theorem dX10_rain_0 : decode cX10_rain 0 = .ok (.iload_n 1, 1) := by decide +kernel
theorem dX10_rain_1 : decode cX10_rain 1 = .ok (.ifCond .lt 21, 3) := by decide +kernel
theorem dX10_rain_4 : decode cX10_rain 4 = .ok (.iload_n 1, 1) := by decide +kernel
theorem dX10_rain_5 : decode cX10_rain 5 = .ok (.ldc_w 271, 3) := by decide +kernel
theorem dX10_rain_8 : decode cX10_rain 8 = .ok (.if_icmp .gt 14, 3) := by decide +kernel
theorem dX10_rain_11 : decode cX10_rain 11 = .ok (.iload_n 2, 1) := by decide +kernel
theorem dX10_rain_12 : decode cX10_rain 12 = .ok (.iconst 1, 1) := by decide +kernel
theorem dX10_rain_13 : decode cX10_rain 13 = .ok (.if_icmp .lt 9, 3) := by decide +kernel
theorem dX10_rain_16 : decode cX10_rain 16 = .ok (.iload_n 2, 1) := by decide +kernel
theorem dX10_rain_17 : decode cX10_rain 17 = .ok (.bipush 40, 2) := by decide +kernel
theorem dX10_rain_19 : decode cX10_rain 19 = .ok (.if_icmp .le 9, 3) := by decide +kernel
theorem dX10_rain_22 : decode cX10_rain 22 = .ok (.aload_n 0, 1) := by decide +kernel
theorem dX10_rain_23 : decode cX10_rain 23 = .ok (.iconst (-1), 1) := by decide +kernel
theorem dX10_rain_24 : decode cX10_rain 24 = .ok (.invokevirtual 109, 3) := by decide +kernel
theorem dX10_rain_27 : decode cX10_rain 27 = .ok (.ireturn, 1) := by decide +kernel
theorem dX10_rain_28 : decode cX10_rain 28 = .ok (.aload_n 0, 1) := by decide +kernel
theorem dX10_rain_29 : decode cX10_rain 29 = .ok (.aload_n 0, 1) := by decide +kernel
theorem dX10_rain_30 : decode cX10_rain 30 = .ok (.getfield 95, 3) := by decide +kernel
theorem dX10_rain_33 : decode cX10_rain 33 = .ok (.aload_n 0, 1) := by decide +kernel
theorem dX10_rain_34 : decode cX10_rain 34 = .ok (.getfield 10, 3) := by decide +kernel
theorem dX10_rain_37 : decode cX10_rain 37 = .ok (.getfield 99, 3) := by decide +kernel
theorem dX10_rain_40 : decode cX10_rain 40 = .ok (.aload_n 0, 1) := by decide +kernel
theorem dX10_rain_41 : decode cX10_rain 41 = .ok (.getfield 10, 3) := by decide +kernel
theorem dX10_rain_44 : decode cX10_rain 44 = .ok (.getfield 176, 3) := by decide +kernel
theorem dX10_rain_47 : decode cX10_rain 47 = .ok (.iconst 2, 1) := by decide +kernel
theorem dX10_rain_48 : decode cX10_rain 48 = .ok (.iaload, 1) := by decide +kernel
theorem dX10_rain_49 : decode cX10_rain 49 = .ok (.iload_n 1, 1) := by decide +kernel
theorem dX10_rain_50 : decode cX10_rain 50 = .ok (.iload_n 2, 1) := by decide +kernel
theorem dX10_rain_51 : decode cX10_rain 51 = .ok (.invokevirtual 272, 3) := by decide +kernel
theorem dX10_rain_54 : decode cX10_rain 54 = .ok (.invokevirtual 119, 3) := by decide +kernel
theorem dX10_rain_57 : decode cX10_rain 57 = .ok (.ireturn, 1) := by decide +kernel
theorem zw_492 : (Jvm.Cond.fieldLink "HillSchool" (95 : Nat) "HillSchool" "paper" "LHillSchool$Paper;") ∈ zall := zmemG (zmj_2 149 rfl) rfl
theorem zw_1108 : (Jvm.Cond.code ({ cls := "HillSchool", name := "rain", desc := "(II)I" } : Jvm.MethodName) prog_1_method_34_code (3 : Nat) (Option.some Jvm.ClassFile.FieldType.int)) ∈ zall := zmemG (zmj_5 45 rfl) rfl
theorem zw_1109 : (Jvm.Cond.constant "HillSchool" (271 : Nat) (1000000 : Int32)) ∈ zall := zmemG (zmj_5 46 rfl) rfl
theorem zw_1110 : (Jvm.Cond.methodLink "HillSchool" (272 : Nat) ({ cls := "HillSchool$Paper", name := "pour", desc := "(LHillSchool$Columns;III)I" } : Jvm.MethodName)) ∈ zall := zmemG (zmj_5 47 rfl) rfl
theorem zw_1111 : (Jvm.Cond.instanceMethod ({ cls := "HillSchool$Paper", name := "pour", desc := "(LHillSchool$Columns;III)I" } : Jvm.MethodName)) ∈ zall := zmemG (zmj_5 48 rfl) rfl
theorem zw_1112 : (Jvm.Cond.selects "HillSchool$Paper" ({ cls := "HillSchool$Paper", name := "pour", desc := "(LHillSchool$Columns;III)I" } : Jvm.MethodName) ({ cls := "HillSchool$Paper", name := "pour", desc := "(LHillSchool$Columns;III)I" } : Jvm.MethodName)) ∈ zall := zmemG (zmj_5 49 rfl) rfl
abbrev w_HS_rain : List Cond := .code yX10_rain cX10_rain 3 (some .int) :: zall
abbrev rm_HS_rain : Room := { frames := 6, cells := 0, slots := 0, locals := 136 }
theorem hd_HS_rain : yX10_rain.cls = "HillSchool" ∧ yX10_rain.cls ≠ "java/lang/invoke/MethodHandle" ∧ yX10_rain.cls ≠ "java/lang/invoke/VarHandle" ∧ (parseMethodDescriptor yX10_rain.desc).map (fun d => d.parameters.length) = some 2 := by decide +kernel
def wd_HS_rain (cA : Nat → ClassId) (q0 q1 q2 q3 q4 q5 q6 q7 q8 q9 q10 q11 q12 q13 q14 q15 q16 q17 q18 q19 q20 q21 q22 q23 q24 q25 q26 : Nat) (u0 u1 u2 u3 u4 u5 u6 : Int) (i_hill_columns_many : Int) (i_hill_terms : Nat → Int) (i_hill_columns_heights : Nat → Int) (i_hill_columns_weights : Nat → Int) (i_latestStatus : Int) (i_hill_changes : Int) (i_refusals : Nat → Int) (i_paper_columns_many : Int) (i_paper_columns_heights : Nat → Int) (i_paper_columns_weights : Nat → Int) : va_W := [(q0, .inr (10, [.ref q1, .ref q2, .ref q3, .ref q4, .int (Int32.ofInt u0), .int (Int32.ofInt u1), .int (Int32.ofInt u2), .ref q5, .int (Int32.ofInt i_latestStatus), .ref q6, .ref q7, .ref q8, .ref q9, .ref q10, .ref q11, .ref q12])), (q1, .inr (2, [.ref q13, .int (Int32.ofInt u3), .ref q14, .ref q15, .ref q16, .int (Int32.ofInt u4), .ref q17, .ref q18, .ref q19, .int (Int32.ofInt u5), .ref q20, .ref q21, .int (Int32.ofInt u6), .int (Int32.ofInt i_hill_changes)])), (q5, .inl (cA 0, 7, .inl (za i_refusals))), (q12, .inr (5, [.ref q22])), (q13, .inr (1, [.int (Int32.ofInt i_hill_columns_many), .ref q23, .ref q24])), (q18, .inl (cA 0, 4, .inl (za i_hill_terms))), (q22, .inr (1, [.int (Int32.ofInt i_paper_columns_many), .ref q25, .ref q26])), (q23, .inl (cA 0, 12, .inl (za i_hill_columns_heights))), (q24, .inl (cA 0, 120, .inl (za i_hill_columns_weights))), (q25, .inl (cA 0, 12, .inl (za i_paper_columns_heights))), (q26, .inl (cA 0, 120, .inl (za i_paper_columns_weights)))]
def wf_HS_rain (cA : Nat → ClassId) (q0 q1 q2 q3 q4 q5 q6 q7 q8 q9 q10 q11 q12 q13 q14 q15 q16 q17 q18 q19 q20 q21 q22 q23 q24 q25 q26 : Nat) (u0 u1 u2 u3 u4 u5 u6 : Int) (i_hill_columns_many : Int) (i_hill_terms : Nat → Int) (i_hill_columns_heights : Nat → Int) (i_hill_columns_weights : Nat → Int) (o : Int × Int × Int × (Nat → Int) × Int × (Nat → Int) × (Nat → Int)) : va_W := wd_HS_rain cA q0 q1 q2 q3 q4 q5 q6 q7 q8 q9 q10 q11 q12 q13 q14 q15 q16 q17 q18 q19 q20 q21 q22 q23 q24 q25 q26 u0 u1 u2 u3 u4 u5 u6 i_hill_columns_many i_hill_terms i_hill_columns_heights i_hill_columns_weights o.2.1 o.2.2.1 o.2.2.2.1 o.2.2.2.2.1 o.2.2.2.2.2.1 o.2.2.2.2.2.2
def f_HS_rain_22 (i_hill_columns_many : Int) (i_hill_terms : Nat → Int) (i_hill_columns_heights : Nat → Int) (i_hill_columns_weights : Nat → Int) (i_latestStatus : Int) (i_hill_changes : Int) (i_refusals : Nat → Int) (i_paper_columns_many : Int) (i_paper_columns_heights : Nat → Int) (i_paper_columns_weights : Nat → Int) : Option (Int × Int × Int × (Nat → Int) × Int × (Nat → Int) × (Nat → Int)) :=
  zd3 (f_HS_refuse (-1) i_latestStatus i_refusals) fun v1 v2 a3 =>
  some (v1, v2, i_hill_changes, a3, i_paper_columns_many, i_paper_columns_heights, i_paper_columns_weights)
def f_HS_rain (x1 : Int) (x2 : Int) (i_hill_columns_many : Int) (i_hill_terms : Nat → Int) (i_hill_columns_heights : Nat → Int) (i_hill_columns_weights : Nat → Int) (i_latestStatus : Int) (i_hill_changes : Int) (i_refusals : Nat → Int) (i_paper_columns_many : Int) (i_paper_columns_heights : Nat → Int) (i_paper_columns_weights : Nat → Int) : Option (Int × Int × Int × (Nat → Int) × Int × (Nat → Int) × (Nat → Int)) :=
  if zi_w x1 < 0 then
    f_HS_rain_22 i_hill_columns_many i_hill_terms i_hill_columns_heights i_hill_columns_weights i_latestStatus i_hill_changes i_refusals i_paper_columns_many i_paper_columns_heights i_paper_columns_weights
  else
    if zi_w 1000000 < zi_w x1 then
      f_HS_rain_22 i_hill_columns_many i_hill_terms i_hill_columns_heights i_hill_columns_weights i_latestStatus i_hill_changes i_refusals i_paper_columns_many i_paper_columns_heights i_paper_columns_weights
    else
      if zi_w x2 < zi_w 1 then
        f_HS_rain_22 i_hill_columns_many i_hill_terms i_hill_columns_heights i_hill_columns_weights i_latestStatus i_hill_changes i_refusals i_paper_columns_many i_paper_columns_heights i_paper_columns_weights
      else
        if zi_w x2 ≤ zi_w 40 then
          zg 4 i_hill_terms 2 fun v1 =>
          zd4 (f_Paper_pour v1 x1 x2 i_hill_columns_many i_hill_columns_heights i_hill_columns_weights i_paper_columns_many i_paper_columns_heights i_paper_columns_weights) fun v2 v3 a4 a5 =>
          zd3 (f_HS_accept v2 i_latestStatus i_hill_changes) fun v6 v7 v8 =>
          some (v6, v7, v8, i_refusals, v3, a4, a5)
        else
          f_HS_rain_22 i_hill_columns_many i_hill_terms i_hill_columns_heights i_hill_columns_weights i_latestStatus i_hill_changes i_refusals i_paper_columns_many i_paper_columns_heights i_paper_columns_weights
set_option maxHeartbeats 4000000 in
set_option maxRecDepth 100000 in
theorem c_HS_rain (l : Launch) (ev : zEv) (dC : Nat → ClassId) (dI : Nat → Nat → Nat) (cA : Nat → ClassId) (q0 q1 q2 q3 q4 q5 q6 q7 q8 q9 q10 q11 q12 q13 q14 q15 q16 q17 q18 q19 q20 q21 q22 q23 q24 q25 q26 : Nat) (u0 u1 u2 u3 u4 u5 u6 : Int) {x1 x2 : Int} {i_hill_columns_many : Int} {i_hill_terms : Nat → Int} {i_hill_columns_heights : Nat → Int} {i_hill_columns_weights : Nat → Int} {i_latestStatus : Int} {i_hill_changes : Int} {i_refusals : Nat → Int} {i_paper_columns_many : Int} {i_paper_columns_heights : Nat → Int} {i_paper_columns_weights : Nat → Int} {out : Int × Int × Int × (Nat → Int) × Int × (Nat → Int) × (Nat → Int)} (hf : f_HS_rain x1 x2 i_hill_columns_many i_hill_terms i_hill_columns_heights i_hill_columns_weights i_latestStatus i_hill_changes i_refusals i_paper_columns_many i_paper_columns_heights i_paper_columns_weights = some out) : xc_I l ev (dC, dI) vwCl (tyl cA) yX10_rain w_HS_rain rm_HS_rain [.ref q0, .int (Int32.ofInt x1), .int (Int32.ofInt x2)] (wd_HS_rain cA q0 q1 q2 q3 q4 q5 q6 q7 q8 q9 q10 q11 q12 q13 q14 q15 q16 q17 q18 q19 q20 q21 q22 q23 q24 q25 q26 u0 u1 u2 u3 u4 u5 u6 i_hill_columns_many i_hill_terms i_hill_columns_heights i_hill_columns_weights i_latestStatus i_hill_changes i_refusals i_paper_columns_many i_paper_columns_heights i_paper_columns_weights) (wf_HS_rain cA q0 q1 q2 q3 q4 q5 q6 q7 q8 q9 q10 q11 q12 q13 q14 q15 q16 q17 q18 q19 q20 q21 q22 q23 q24 q25 q26 u0 u1 u2 u3 u4 u5 u6 i_hill_columns_many i_hill_terms i_hill_columns_heights i_hill_columns_weights out) out.1 := by
  refine xv_startI (cc := cX10_rain) (maxL := 3) (rt := .int) (by decide +kernel) rfl (Nat.le_of_ble_eq_true rfl) ?_
  intro p e s m args below meth c A Q H ls hx hb hml hts hown hK hA hP hD hS hl hE hret
  have hown : s.vm.findClass "HillSchool" = some m.cls := hown
  have hz : ∀ w ∈ zall, w.before args s = true := fun w h => hts w (List.mem_cons_of_mem _ h)
  have hl : lv_has ls 3 [(0, .ref q0), (1, .int (Int32.ofInt x1)), (2, .int (Int32.ofInt x2))] := hl
  have b_22 : ∀ (i_latestStatus : Int) (i_hill_changes : Int) (i_refusals : Nat → Int) (i_paper_columns_many : Int) (i_paper_columns_heights : Nat → Int) (i_paper_columns_weights : Nat → Int) (H : Heap) (locs : List Loc) (ls : Array Slot), f_HS_rain_22 i_hill_columns_many i_hill_terms i_hill_columns_heights i_hill_columns_weights i_latestStatus i_hill_changes i_refusals i_paper_columns_many i_paper_columns_heights i_paper_columns_weights = some out → va_P (dC, dI) vwCl (wd_HS_rain cA q0 q1 q2 q3 q4 q5 q6 q7 q8 q9 q10 q11 q12 q13 q14 q15 q16 q17 q18 q19 q20 q21 q22 q23 q24 q25 q26 u0 u1 u2 u3 u4 u5 u6 i_hill_columns_many i_hill_terms i_hill_columns_heights i_hill_columns_weights i_latestStatus i_hill_changes i_refusals i_paper_columns_many i_paper_columns_heights i_paper_columns_weights) H → va_D A (wd_HS_rain cA q0 q1 q2 q3 q4 q5 q6 q7 q8 q9 q10 q11 q12 q13 q14 q15 q16 q17 q18 q19 q20 q21 q22 q23 q24 q25 q26 u0 u1 u2 u3 u4 u5 u6 i_hill_columns_many i_hill_terms i_hill_columns_heights i_hill_columns_weights i_latestStatus i_hill_changes i_refusals i_paper_columns_many i_paper_columns_heights i_paper_columns_weights) → va_S A s.heap H locs → lv_has ls 3 [(0, .ref q0)] → W p l e rm_HS_rain s m args below meth c H locs 0 0 Q (F0 m 22 ls []) := by
    intro i_latestStatus i_hill_changes i_refusals i_paper_columns_many i_paper_columns_heights i_paper_columns_weights H locs ls hf hP hD hS hl
    unfold f_HS_rain_22 at hf
    refine lv_aload_n hx hb dX10_rain_22 rfl (lv_at hl 0 rfl) ?_
    refine lv_iconst (v := Int32.ofInt (-1)) hx hb dX10_rain_23 rfl ?_
    refine xe_d3 hf (fun v1 v2 a3 hg hf => ?_)
    have hC : ([0, 2] : List Nat).map (fun i => (wd_HS_rain cA q0 q1 q2 q3 q4 q5 q6 q7 q8 q9 q10 q11 q12 q13 q14 q15 q16 q17 q18 q19 q20 q21 q22 q23 q24 q25 q26 u0 u1 u2 u3 u4 u5 u6 i_hill_columns_many i_hill_terms i_hill_columns_heights i_hill_columns_weights i_latestStatus i_hill_changes i_refusals i_paper_columns_many i_paper_columns_heights i_paper_columns_weights)[i]?) = (wd_HS_refuse cA q0 q1 q2 q3 q4 q5 q6 q7 q8 q9 q10 q11 q12 u0 u1 u2 i_latestStatus i_refusals).map some := rfl
    refine xv_afterI (ws' := (wd_HS_rain cA q0 q1 q2 q3 q4 q5 q6 q7 q8 q9 q10 q11 q12 q13 q14 q15 q16 q17 q18 q19 q20 q21 q22 q23 q24 q25 q26 u0 u1 u2 u3 u4 u5 u6 i_hill_columns_many i_hill_terms i_hill_columns_heights i_hill_columns_weights v2 i_hill_changes a3 i_paper_columns_many i_paper_columns_heights i_paper_columns_weights)) (isC := [0, 2]) (ps := [some 0, none, some 1, none, none, none, none, none, none, none, none]) (va_runV (As := [.int (Int32.ofInt (-1))]) (rest := []) ⟨hx, hb, hml, hown, hts⟩ (c_HS_refuse l ev dC dI cA q0 q1 q2 q3 q4 q5 q6 q7 q8 q9 q10 q11 q12 u0 u1 u2 hg H.size) (cwV 1 hts (zgV zw_534 zw_536 zw_0 zw_104 zw_537) rfl rfl rfl hd_HS_refuse ⟨Nat.le_of_ble_eq_true rfl, Nat.le_of_ble_eq_true rfl⟩) (xv_preV (T := TX10) (N := 16) hE hA hS hK hP hD (isC := [0, 2]) (by decide +kernel) hC (q0 := 0) (ci := 10) rfl rfl) rfl rfl hl.1 rfl (lv_room (Nat.le_of_ble_eq_true rfl)) dX10_rain_24 ⟨Nat.le_refl _, Nat.le_refl _⟩) hP hD hS hA (by decide +kernel) rfl hC rfl rfl (fun H locs hP hD hS => ?_)
    obtain rfl := Option.some.inj hf
    exact hret _ _ _ _ rfl dX10_rain_27 hP hD hS
  unfold f_HS_rain at hf
  refine lv_iload_n hx hb dX10_rain_0 rfl (lv_at hl 1 rfl) ?_
  refine xi_if_lt (tgt := 22) hx hb dX10_rain_1 (by decide) hf (fun hf => ?_) (fun hf => ?_)
  · exact b_22  _ _ _ _ _ _ _ _ _ hf hP hD hS (lv_sub hl [0] rfl)
  · refine lv_iload_n hx hb dX10_rain_4 rfl (lv_at hl 1 rfl) ?_
    refine lv_ldcw (v := Int32.ofInt 1000000) hx hb hown (hz _ zw_1109) dX10_rain_5 ?_
    refine xi_icmp_gt (tgt := 22) hx hb dX10_rain_8 (by decide) hf (fun hf => ?_) (fun hf => ?_)
    · exact b_22  _ _ _ _ _ _ _ _ _ hf hP hD hS (lv_sub hl [0] rfl)
    · refine lv_iload_n hx hb dX10_rain_11 rfl (lv_at hl 2 rfl) ?_
      refine lv_iconst (v := Int32.ofInt 1) hx hb dX10_rain_12 rfl ?_
      refine xi_icmp_lt (tgt := 22) hx hb dX10_rain_13 (by decide) hf (fun hf => ?_) (fun hf => ?_)
      · exact b_22  _ _ _ _ _ _ _ _ _ hf hP hD hS (lv_sub hl [0] rfl)
      · refine lv_iload_n hx hb dX10_rain_16 rfl (lv_at hl 2 rfl) ?_
        refine lv_bipush (v := Int32.ofInt 40) hx hb dX10_rain_17 (by decide) ?_
        refine xi_icmp_le (tgt := 28) hx hb dX10_rain_19 (by decide) hf (fun hf => ?_) (fun hf => ?_)
        · refine lv_aload_n hx hb dX10_rain_28 rfl (lv_at hl 0 rfl) ?_
          refine lv_aload_n hx hb dX10_rain_29 rfl (lv_at hl 0 rfl) ?_
          refine va_get (D := (dC, dI)) (ci := 10) (v := .ref q12) (C := RX10) (T := TX10) (N := 16) hx hb hz zi_X10 hown hK hP 0 rfl rfl 15 (by decide) (hz _ zw_492) (fun _ h9 => h9) rfl dX10_rain_30 ?_
          refine lv_aload_n hx hb dX10_rain_33 rfl (lv_at hl 0 rfl) ?_
          refine va_get (D := (dC, dI)) (ci := 10) (v := .ref q1) (C := RX10) (T := TX10) (N := 16) hx hb hz zi_X10 hown hK hP 0 rfl rfl 0 (by decide) (hz _ zw_477) (fun _ h9 => h9) rfl dX10_rain_34 ?_
          refine va_getN (D := (dC, dI)) (ci := 2) (v := .ref q13) (C := RX2) (T := TX2) (N := 14) hx hb hz zi_X2 hown hK hP 1 rfl rfl 0 (by decide) (va_Nw.use rfl (hE.1.1 _ zw_169)) (fun _ h9 => h9) rfl dX10_rain_37 ?_
          refine lv_aload_n hx hb dX10_rain_40 rfl (lv_at hl 0 rfl) ?_
          refine va_get (D := (dC, dI)) (ci := 10) (v := .ref q1) (C := RX10) (T := TX10) (N := 16) hx hb hz zi_X10 hown hK hP 0 rfl rfl 0 (by decide) (hz _ zw_477) (fun _ h9 => h9) rfl dX10_rain_41 ?_
          refine va_getN (D := (dC, dI)) (ci := 2) (v := .ref q18) (C := RX2) (T := TX2) (N := 14) hx hb hz zi_X2 hown hK hP 1 rfl rfl 7 (by decide) (va_Nw.use rfl (hE.1.1 _ zw_191)) (fun _ h9 => h9) rfl dX10_rain_44 ?_
          refine lv_iconst (v := Int32.ofInt 2) hx hb dX10_rain_47 rfl ?_
          refine xi_iald hx hb hK hP 5 0 rfl rfl dX10_rain_48 hf (fun v1 hf => ?_)
          refine lv_iload_n hx hb dX10_rain_49 rfl (lv_at hl 1 rfl) ?_
          refine lv_iload_n hx hb dX10_rain_50 rfl (lv_at hl 2 rfl) ?_
          refine xe_d4 hf (fun v2 v3 a4 a5 hg hf => ?_)
          have hC : ([3, 4, 6, 7, 8, 9, 10] : List Nat).map (fun i => (wd_HS_rain cA q0 q1 q2 q3 q4 q5 q6 q7 q8 q9 q10 q11 q12 q13 q14 q15 q16 q17 q18 q19 q20 q21 q22 q23 q24 q25 q26 u0 u1 u2 u3 u4 u5 u6 i_hill_columns_many i_hill_terms i_hill_columns_heights i_hill_columns_weights i_latestStatus i_hill_changes i_refusals i_paper_columns_many i_paper_columns_heights i_paper_columns_weights)[i]?) = (wd_Paper_pour cA q12 q22 q13 q23 q24 q25 q26 i_hill_columns_many i_hill_columns_heights i_hill_columns_weights i_paper_columns_many i_paper_columns_heights i_paper_columns_weights).map some := rfl
          refine xv_afterI (ws' := (wd_HS_rain cA q0 q1 q2 q3 q4 q5 q6 q7 q8 q9 q10 q11 q12 q13 q14 q15 q16 q17 q18 q19 q20 q21 q22 q23 q24 q25 q26 u0 u1 u2 u3 u4 u5 u6 i_hill_columns_many i_hill_terms i_hill_columns_heights i_hill_columns_weights i_latestStatus i_hill_changes i_refusals v3 a4 a5)) (isC := [3, 4, 6, 7, 8, 9, 10]) (ps := [none, none, none, some 0, some 1, none, some 2, some 3, some 4, some 5, some 6]) (va_runV (As := [.ref q13, .int (Int32.ofInt v1), .int (Int32.ofInt x1), .int (Int32.ofInt x2)]) (rest := [.ref q0]) ⟨hx, hb, hml, hown, hts⟩ (c_Paper_pour l ev dC dI cA q12 q22 q13 q23 q24 q25 q26 hg H.size) (cwV 4 hts (zgV zw_1110 zw_1111 zw_1112 zw_114 zw_1113) rfl rfl rfl hd_Paper_pour ⟨Nat.le_of_ble_eq_true rfl, Nat.le_of_ble_eq_true rfl⟩) (xv_preV (T := TX5) (N := 1) hE hA hS hK hP hD (isC := [3, 4, 6, 7, 8, 9, 10]) (by decide +kernel) hC (q0 := 3) (ci := 5) rfl rfl) rfl rfl hl.1 rfl (lv_room (Nat.le_of_ble_eq_true rfl)) dX10_rain_51 ⟨Nat.le_refl _, Nat.le_refl _⟩) hP hD hS hA (by decide +kernel) rfl hC rfl rfl (fun H locs hP hD hS => ?_)
          refine xe_d3 hf (fun v6 v7 v8 hg hf => ?_)
          have hC : ([0, 1] : List Nat).map (fun i => (wd_HS_rain cA q0 q1 q2 q3 q4 q5 q6 q7 q8 q9 q10 q11 q12 q13 q14 q15 q16 q17 q18 q19 q20 q21 q22 q23 q24 q25 q26 u0 u1 u2 u3 u4 u5 u6 i_hill_columns_many i_hill_terms i_hill_columns_heights i_hill_columns_weights i_latestStatus i_hill_changes i_refusals v3 a4 a5)[i]?) = (wd_HS_accept cA q0 q1 q2 q3 q4 q5 q6 q7 q8 q9 q10 q11 q12 q13 q14 q15 q16 q17 q18 q19 q20 q21 u0 u1 u2 u3 u4 u5 u6 i_latestStatus i_hill_changes).map some := rfl
          refine xv_afterI (ws' := (wd_HS_rain cA q0 q1 q2 q3 q4 q5 q6 q7 q8 q9 q10 q11 q12 q13 q14 q15 q16 q17 q18 q19 q20 q21 q22 q23 q24 q25 q26 u0 u1 u2 u3 u4 u5 u6 i_hill_columns_many i_hill_terms i_hill_columns_heights i_hill_columns_weights v7 v8 i_refusals v3 a4 a5)) (isC := [0, 1]) (ps := [some 0, some 1, none, none, none, none, none, none, none, none, none]) (va_runV (As := [.int (Int32.ofInt v2)]) (rest := []) ⟨hx, hb, hml, hown, hts⟩ (c_HS_accept l ev dC dI cA q0 q1 q2 q3 q4 q5 q6 q7 q8 q9 q10 q11 q12 q13 q14 q15 q16 q17 q18 q19 q20 q21 u0 u1 u2 u3 u4 u5 u6 hg H.size) (cwV 1 hts (zgV zw_538 zw_540 zw_1 zw_104 zw_541) rfl rfl rfl hd_HS_accept ⟨Nat.le_of_ble_eq_true rfl, Nat.le_of_ble_eq_true rfl⟩) (xv_preV (T := TX10) (N := 16) hE hA hS hK hP hD (isC := [0, 1]) (by decide +kernel) hC (q0 := 0) (ci := 10) rfl rfl) rfl rfl hl.1 rfl (lv_room (Nat.le_of_ble_eq_true rfl)) dX10_rain_54 ⟨Nat.le_refl _, Nat.le_refl _⟩) hP hD hS hA (by decide +kernel) rfl hC rfl rfl (fun H locs hP hD hS => ?_)
          obtain rfl := Option.some.inj hf
          exact hret _ _ _ _ rfl dX10_rain_57 hP hD hS
        · exact b_22  _ _ _ _ _ _ _ _ _ hf hP hD hS (lv_sub hl [0] rfl)
theorem dX10_rained_0 : decode cX10_rained 0 = .ok (.aload_n 0, 1) := by decide +kernel
theorem dX10_rained_1 : decode cX10_rained 1 = .ok (.getfield 95, 3) := by decide +kernel
theorem dX10_rained_4 : decode cX10_rained 4 = .ok (.getfield 275, 3) := by decide +kernel
theorem dX10_rained_7 : decode cX10_rained 7 = .ok (.iload_n 1, 1) := by decide +kernel
theorem dX10_rained_8 : decode cX10_rained 8 = .ok (.invokevirtual 122, 3) := by decide +kernel
theorem dX10_rained_11 : decode cX10_rained 11 = .ok (.ifCond .eq 12, 3) := by decide +kernel
theorem dX10_rained_14 : decode cX10_rained 14 = .ok (.iload_n 2, 1) := by decide +kernel
theorem dX10_rained_15 : decode cX10_rained 15 = .ok (.ifCond .lt 8, 3) := by decide +kernel
theorem dX10_rained_18 : decode cX10_rained 18 = .ok (.iload_n 2, 1) := by decide +kernel
theorem dX10_rained_19 : decode cX10_rained 19 = .ok (.iconst 1, 1) := by decide +kernel
theorem dX10_rained_20 : decode cX10_rained 20 = .ok (.if_icmp .le 5, 3) := by decide +kernel
theorem dX10_rained_23 : decode cX10_rained 23 = .ok (.iconst (-1), 1) := by decide +kernel
theorem dX10_rained_24 : decode cX10_rained 24 = .ok (.ireturn, 1) := by decide +kernel
theorem dX10_rained_25 : decode cX10_rained 25 = .ok (.iload_n 2, 1) := by decide +kernel
theorem dX10_rained_26 : decode cX10_rained 26 = .ok (.ifCond .ne 17, 3) := by decide +kernel
theorem dX10_rained_29 : decode cX10_rained 29 = .ok (.aload_n 0, 1) := by decide +kernel
theorem dX10_rained_30 : decode cX10_rained 30 = .ok (.getfield 95, 3) := by decide +kernel
theorem dX10_rained_33 : decode cX10_rained 33 = .ok (.getfield 275, 3) := by decide +kernel
theorem dX10_rained_36 : decode cX10_rained 36 = .ok (.iload_n 1, 1) := by decide +kernel
theorem dX10_rained_37 : decode cX10_rained 37 = .ok (.invokevirtual 130, 3) := by decide +kernel
theorem dX10_rained_40 : decode cX10_rained 40 = .ok (.goto 14, 3) := by decide +kernel
theorem dX10_rained_43 : decode cX10_rained 43 = .ok (.aload_n 0, 1) := by decide +kernel
theorem dX10_rained_44 : decode cX10_rained 44 = .ok (.getfield 95, 3) := by decide +kernel
theorem dX10_rained_47 : decode cX10_rained 47 = .ok (.getfield 275, 3) := by decide +kernel
theorem dX10_rained_50 : decode cX10_rained 50 = .ok (.iload_n 1, 1) := by decide +kernel
theorem dX10_rained_51 : decode cX10_rained 51 = .ok (.invokevirtual 140, 3) := by decide +kernel
theorem dX10_rained_54 : decode cX10_rained 54 = .ok (.ireturn, 1) := by decide +kernel
theorem zw_473 : (Jvm.Cond.fieldLinkNest "HillSchool" (275 : Nat) "HillSchool$Paper" "columns" "LHillSchool$Columns;" "HillSchool") ∈ znest := zmemH (zmj_2 130 rfl) rfl
theorem zw_1127 : (Jvm.Cond.code ({ cls := "HillSchool", name := "rained", desc := "(II)I" } : Jvm.MethodName) prog_1_method_35_code (3 : Nat) (Option.some Jvm.ClassFile.FieldType.int)) ∈ zall := zmemG (zmj_5 64 rfl) rfl
abbrev w_HS_rained : List Cond := .code yX10_rained cX10_rained 3 (some .int) :: zall
abbrev rm_HS_rained : Room := { frames := 4, cells := 0, slots := 0, locals := 87 }
theorem hd_HS_rained : yX10_rained.cls = "HillSchool" ∧ yX10_rained.cls ≠ "java/lang/invoke/MethodHandle" ∧ yX10_rained.cls ≠ "java/lang/invoke/VarHandle" ∧ (parseMethodDescriptor yX10_rained.desc).map (fun d => d.parameters.length) = some 2 := by decide +kernel
def wd_HS_rained (cA : Nat → ClassId) (q0 q1 q2 q3 q4 q5 q6 q7 q8 q9 q10 q11 q12 q13 q14 q15 : Nat) (u0 u1 u2 u3 : Int) (i_paper_columns_many : Int) (i_paper_columns_heights : Nat → Int) (i_paper_columns_weights : Nat → Int)  : va_W := [(q0, .inr (10, [.ref q1, .ref q2, .ref q3, .ref q4, .int (Int32.ofInt u0), .int (Int32.ofInt u1), .int (Int32.ofInt u2), .ref q5, .int (Int32.ofInt u3), .ref q6, .ref q7, .ref q8, .ref q9, .ref q10, .ref q11, .ref q12])), (q12, .inr (5, [.ref q13])), (q13, .inr (1, [.int (Int32.ofInt i_paper_columns_many), .ref q14, .ref q15])), (q14, .inl (cA 0, 12, .inl (za i_paper_columns_heights))), (q15, .inl (cA 0, 120, .inl (za i_paper_columns_weights)))]
def wf_HS_rained (cA : Nat → ClassId) (q0 q1 q2 q3 q4 q5 q6 q7 q8 q9 q10 q11 q12 q13 q14 q15 : Nat) (u0 u1 u2 u3 : Int) (i_paper_columns_many : Int) (i_paper_columns_heights : Nat → Int) (i_paper_columns_weights : Nat → Int) (o : Int) : va_W := wd_HS_rained cA q0 q1 q2 q3 q4 q5 q6 q7 q8 q9 q10 q11 q12 q13 q14 q15 u0 u1 u2 u3 i_paper_columns_many i_paper_columns_heights i_paper_columns_weights
def f_HS_rained (x1 : Int) (x2 : Int) (i_paper_columns_many : Int) (i_paper_columns_heights : Nat → Int) (i_paper_columns_weights : Nat → Int) : Option (Int) :=
  zd1 (f_Columns_has x1 i_paper_columns_many) fun v1 =>
  if zi_w v1 = 0 then
    some (-1)
  else
    if zi_w x2 < 0 then
      some (-1)
    else
      if zi_w x2 ≤ zi_w 1 then
        if zi_w x2 ≠ 0 then
          zd1 (f_Columns_load x1 i_paper_columns_many i_paper_columns_heights i_paper_columns_weights) fun v2 =>
          some v2
        else
          zd1 (f_Columns_high x1 i_paper_columns_many i_paper_columns_heights) fun v3 =>
          some v3
      else
        some (-1)
set_option maxHeartbeats 4000000 in
set_option maxRecDepth 100000 in
theorem c_HS_rained (l : Launch) (ev : zEv) (dC : Nat → ClassId) (dI : Nat → Nat → Nat) (cA : Nat → ClassId) (q0 q1 q2 q3 q4 q5 q6 q7 q8 q9 q10 q11 q12 q13 q14 q15 : Nat) (u0 u1 u2 u3 : Int) {x1 x2 : Int} {i_paper_columns_many : Int} {i_paper_columns_heights : Nat → Int} {i_paper_columns_weights : Nat → Int} {out : Int} (hf : f_HS_rained x1 x2 i_paper_columns_many i_paper_columns_heights i_paper_columns_weights = some out) : xc_I l ev (dC, dI) vwCl (tyl cA) yX10_rained w_HS_rained rm_HS_rained [.ref q0, .int (Int32.ofInt x1), .int (Int32.ofInt x2)] (wd_HS_rained cA q0 q1 q2 q3 q4 q5 q6 q7 q8 q9 q10 q11 q12 q13 q14 q15 u0 u1 u2 u3 i_paper_columns_many i_paper_columns_heights i_paper_columns_weights) (wf_HS_rained cA q0 q1 q2 q3 q4 q5 q6 q7 q8 q9 q10 q11 q12 q13 q14 q15 u0 u1 u2 u3 i_paper_columns_many i_paper_columns_heights i_paper_columns_weights out) out := by
  refine xv_startI (cc := cX10_rained) (maxL := 3) (rt := .int) (by decide +kernel) rfl (Nat.le_of_ble_eq_true rfl) ?_
  intro p e s m args below meth c A Q H ls hx hb hml hts hown hK hA hP hD hS hl hE hret
  have hown : s.vm.findClass "HillSchool" = some m.cls := hown
  have hz : ∀ w ∈ zall, w.before args s = true := fun w h => hts w (List.mem_cons_of_mem _ h)
  have hl : lv_has ls 3 [(0, .ref q0), (1, .int (Int32.ofInt x1)), (2, .int (Int32.ofInt x2))] := hl
  unfold f_HS_rained at hf
  refine lv_aload_n hx hb dX10_rained_0 rfl (lv_at hl 0 rfl) ?_
  refine va_get (D := (dC, dI)) (ci := 10) (v := .ref q12) (C := RX10) (T := TX10) (N := 16) hx hb hz zi_X10 hown hK hP 0 rfl rfl 15 (by decide) (hz _ zw_492) (fun _ h9 => h9) rfl dX10_rained_1 ?_
  refine va_getN (D := (dC, dI)) (ci := 5) (v := .ref q13) (C := RX5) (T := TX5) (N := 1) hx hb hz zi_X5 hown hK hP 1 rfl rfl 0 (by decide) (va_Nw.use rfl (hE.1.1 _ zw_473)) (fun _ h9 => h9) rfl dX10_rained_4 ?_
  refine lv_iload_n hx hb dX10_rained_7 rfl (lv_at hl 1 rfl) ?_
  refine xe_d1 hf (fun v1 hg hf => ?_)
  have hC : ([2] : List Nat).map (fun i => (wd_HS_rained cA q0 q1 q2 q3 q4 q5 q6 q7 q8 q9 q10 q11 q12 q13 q14 q15 u0 u1 u2 u3 i_paper_columns_many i_paper_columns_heights i_paper_columns_weights)[i]?) = (wd_Columns_has cA q13 q14 q15 i_paper_columns_many).map some := rfl
  refine xv_afterI (ws' := (wd_HS_rained cA q0 q1 q2 q3 q4 q5 q6 q7 q8 q9 q10 q11 q12 q13 q14 q15 u0 u1 u2 u3 i_paper_columns_many i_paper_columns_heights i_paper_columns_weights)) (isC := [2]) (ps := [none, none, some 0, none, none]) (va_runV (As := [.int (Int32.ofInt x1)]) (rest := []) ⟨hx, hb, hml, hown, hts⟩ (c_Columns_has l ev dC dI cA q13 q14 q15 hg H.size) (cwV 1 hts (zgV zw_546 zw_547 zw_548 zw_106 zw_549) rfl rfl rfl hd_Columns_has ⟨Nat.le_of_ble_eq_true rfl, Nat.le_of_ble_eq_true rfl⟩) (xv_preV (T := TX1) (N := 3) hE hA hS hK hP hD (isC := [2]) (by decide +kernel) hC (q0 := 2) (ci := 1) rfl rfl) rfl rfl hl.1 rfl (lv_room (Nat.le_of_ble_eq_true rfl)) dX10_rained_8 ⟨Nat.le_refl _, Nat.le_refl _⟩) hP hD hS hA (by decide +kernel) rfl hC rfl rfl (fun H locs hP hD hS => ?_)
  refine xi_if_eq (tgt := 23) hx hb dX10_rained_11 (by decide) hf (fun hf => ?_) (fun hf => ?_)
  · refine lv_iconst (v := Int32.ofInt (-1)) hx hb dX10_rained_23 rfl ?_
    obtain rfl := Option.some.inj hf
    exact hret _ _ _ _ rfl dX10_rained_24 hP hD hS
  · refine lv_iload_n hx hb dX10_rained_14 rfl (lv_at hl 2 rfl) ?_
    refine xi_if_lt (tgt := 23) hx hb dX10_rained_15 (by decide) hf (fun hf => ?_) (fun hf => ?_)
    · refine lv_iconst (v := Int32.ofInt (-1)) hx hb dX10_rained_23 rfl ?_
      obtain rfl := Option.some.inj hf
      exact hret _ _ _ _ rfl dX10_rained_24 hP hD hS
    · refine lv_iload_n hx hb dX10_rained_18 rfl (lv_at hl 2 rfl) ?_
      refine lv_iconst (v := Int32.ofInt 1) hx hb dX10_rained_19 rfl ?_
      refine xi_icmp_le (tgt := 25) hx hb dX10_rained_20 (by decide) hf (fun hf => ?_) (fun hf => ?_)
      · refine lv_iload_n hx hb dX10_rained_25 rfl (lv_at hl 2 rfl) ?_
        refine xi_if_ne (tgt := 43) hx hb dX10_rained_26 (by decide) hf (fun hf => ?_) (fun hf => ?_)
        · refine lv_aload_n hx hb dX10_rained_43 rfl (lv_at hl 0 rfl) ?_
          refine va_get (D := (dC, dI)) (ci := 10) (v := .ref q12) (C := RX10) (T := TX10) (N := 16) hx hb hz zi_X10 hown hK hP 0 rfl rfl 15 (by decide) (hz _ zw_492) (fun _ h9 => h9) rfl dX10_rained_44 ?_
          refine va_getN (D := (dC, dI)) (ci := 5) (v := .ref q13) (C := RX5) (T := TX5) (N := 1) hx hb hz zi_X5 hown hK hP 1 rfl rfl 0 (by decide) (va_Nw.use rfl (hE.1.1 _ zw_473)) (fun _ h9 => h9) rfl dX10_rained_47 ?_
          refine lv_iload_n hx hb dX10_rained_50 rfl (lv_at hl 1 rfl) ?_
          refine xe_d1 hf (fun v2 hg hf => ?_)
          have hC : ([2, 3, 4] : List Nat).map (fun i => (wd_HS_rained cA q0 q1 q2 q3 q4 q5 q6 q7 q8 q9 q10 q11 q12 q13 q14 q15 u0 u1 u2 u3 i_paper_columns_many i_paper_columns_heights i_paper_columns_weights)[i]?) = (wd_Columns_load cA q13 q14 q15 i_paper_columns_many i_paper_columns_heights i_paper_columns_weights).map some := rfl
          refine xv_afterI (ws' := (wd_HS_rained cA q0 q1 q2 q3 q4 q5 q6 q7 q8 q9 q10 q11 q12 q13 q14 q15 u0 u1 u2 u3 i_paper_columns_many i_paper_columns_heights i_paper_columns_weights)) (isC := [2, 3, 4]) (ps := [none, none, some 0, some 1, some 2]) (va_runV (As := [.int (Int32.ofInt x1)]) (rest := []) ⟨hx, hb, hml, hown, hts⟩ (c_Columns_load l ev dC dI cA q13 q14 q15 hg H.size) (cwV 1 hts (zgV zw_584 zw_585 zw_586 zw_106 zw_587) rfl rfl rfl hd_Columns_load ⟨Nat.le_of_ble_eq_true rfl, Nat.le_of_ble_eq_true rfl⟩) (xv_preV (T := TX1) (N := 3) hE hA hS hK hP hD (isC := [2, 3, 4]) (by decide +kernel) hC (q0 := 2) (ci := 1) rfl rfl) rfl rfl hl.1 rfl (lv_room (Nat.le_of_ble_eq_true rfl)) dX10_rained_51 ⟨Nat.le_refl _, Nat.le_refl _⟩) hP hD hS hA (by decide +kernel) rfl hC rfl rfl (fun H locs hP hD hS => ?_)
          obtain rfl := Option.some.inj hf
          exact hret _ _ _ _ rfl dX10_rained_54 hP hD hS
        · refine lv_aload_n hx hb dX10_rained_29 rfl (lv_at hl 0 rfl) ?_
          refine va_get (D := (dC, dI)) (ci := 10) (v := .ref q12) (C := RX10) (T := TX10) (N := 16) hx hb hz zi_X10 hown hK hP 0 rfl rfl 15 (by decide) (hz _ zw_492) (fun _ h9 => h9) rfl dX10_rained_30 ?_
          refine va_getN (D := (dC, dI)) (ci := 5) (v := .ref q13) (C := RX5) (T := TX5) (N := 1) hx hb hz zi_X5 hown hK hP 1 rfl rfl 0 (by decide) (va_Nw.use rfl (hE.1.1 _ zw_473)) (fun _ h9 => h9) rfl dX10_rained_33 ?_
          refine lv_iload_n hx hb dX10_rained_36 rfl (lv_at hl 1 rfl) ?_
          refine xe_d1 hf (fun v3 hg hf => ?_)
          have hC : ([2, 3] : List Nat).map (fun i => (wd_HS_rained cA q0 q1 q2 q3 q4 q5 q6 q7 q8 q9 q10 q11 q12 q13 q14 q15 u0 u1 u2 u3 i_paper_columns_many i_paper_columns_heights i_paper_columns_weights)[i]?) = (wd_Columns_high cA q13 q14 q15 i_paper_columns_many i_paper_columns_heights).map some := rfl
          refine xv_afterI (ws' := (wd_HS_rained cA q0 q1 q2 q3 q4 q5 q6 q7 q8 q9 q10 q11 q12 q13 q14 q15 u0 u1 u2 u3 i_paper_columns_many i_paper_columns_heights i_paper_columns_weights)) (isC := [2, 3]) (ps := [none, none, some 0, some 1, none]) (va_runV (As := [.int (Int32.ofInt x1)]) (rest := []) ⟨hx, hb, hml, hown, hts⟩ (c_Columns_high l ev dC dI cA q13 q14 q15 hg H.size) (cwV 1 hts (zgV zw_555 zw_556 zw_557 zw_106 zw_558) rfl rfl rfl hd_Columns_high ⟨Nat.le_of_ble_eq_true rfl, Nat.le_of_ble_eq_true rfl⟩) (xv_preV (T := TX1) (N := 3) hE hA hS hK hP hD (isC := [2, 3]) (by decide +kernel) hC (q0 := 2) (ci := 1) rfl rfl) rfl rfl hl.1 rfl (lv_room (Nat.le_of_ble_eq_true rfl)) dX10_rained_37 ⟨Nat.le_refl _, Nat.le_refl _⟩) hP hD hS hA (by decide +kernel) rfl hC rfl rfl (fun H locs hP hD hS => ?_)
          refine lv_goto (tgt := 54) hx hb dX10_rained_40 (by decide) ?_
          obtain rfl := Option.some.inj hf
          exact hret _ _ _ _ rfl dX10_rained_54 hP hD hS
      · refine lv_iconst (v := Int32.ofInt (-1)) hx hb dX10_rained_23 rfl ?_
        obtain rfl := Option.some.inj hf
        exact hret _ _ _ _ rfl dX10_rained_24 hP hD hS
theorem dX2_become_0 : decode cX2_become 0 = .ok (.aload_n 0, 1) := by decide +kernel
theorem dX2_become_1 : decode cX2_become 1 = .ok (.getfield 12, 3) := by decide +kernel
theorem dX2_become_4 : decode cX2_become 4 = .ok (.aload_n 1, 1) := by decide +kernel
theorem dX2_become_5 : decode cX2_become 5 = .ok (.getfield 12, 3) := by decide +kernel
theorem dX2_become_8 : decode cX2_become 8 = .ok (.invokevirtual 93, 3) := by decide +kernel
theorem dX2_become_11 : decode cX2_become 11 = .ok (.aload_n 0, 1) := by decide +kernel
theorem dX2_become_12 : decode cX2_become 12 = .ok (.aload_n 1, 1) := by decide +kernel
theorem dX2_become_13 : decode cX2_become 13 = .ok (.getfield 18, 3) := by decide +kernel
theorem dX2_become_16 : decode cX2_become 16 = .ok (.putfield 18, 3) := by decide +kernel
theorem dX2_become_19 : decode cX2_become 19 = .ok (.aload_n 1, 1) := by decide +kernel
theorem dX2_become_20 : decode cX2_become 20 = .ok (.getfield 22, 3) := by decide +kernel
theorem dX2_become_23 : decode cX2_become 23 = .ok (.iconst 0, 1) := by decide +kernel
theorem dX2_become_24 : decode cX2_become 24 = .ok (.aload_n 0, 1) := by decide +kernel
theorem dX2_become_25 : decode cX2_become 25 = .ok (.getfield 22, 3) := by decide +kernel
theorem dX2_become_28 : decode cX2_become 28 = .ok (.iconst 0, 1) := by decide +kernel
theorem dX2_become_29 : decode cX2_become 29 = .ok (.aload_n 0, 1) := by decide +kernel
theorem dX2_become_30 : decode cX2_become 30 = .ok (.getfield 22, 3) := by decide +kernel
theorem dX2_become_33 : decode cX2_become 33 = .ok (.arraylength, 1) := by decide +kernel
theorem dX2_become_34 : decode cX2_become 34 = .ok (.invokestatic 72, 3) := by decide +kernel
theorem dX2_become_37 : decode cX2_become 37 = .ok (.aload_n 1, 1) := by decide +kernel
theorem dX2_become_38 : decode cX2_become 38 = .ok (.getfield 26, 3) := by decide +kernel
theorem dX2_become_41 : decode cX2_become 41 = .ok (.iconst 0, 1) := by decide +kernel
theorem dX2_become_42 : decode cX2_become 42 = .ok (.aload_n 0, 1) := by decide +kernel
theorem dX2_become_43 : decode cX2_become 43 = .ok (.getfield 26, 3) := by decide +kernel
theorem dX2_become_46 : decode cX2_become 46 = .ok (.iconst 0, 1) := by decide +kernel
theorem dX2_become_47 : decode cX2_become 47 = .ok (.aload_n 0, 1) := by decide +kernel
theorem dX2_become_48 : decode cX2_become 48 = .ok (.getfield 26, 3) := by decide +kernel
theorem dX2_become_51 : decode cX2_become 51 = .ok (.arraylength, 1) := by decide +kernel
theorem dX2_become_52 : decode cX2_become 52 = .ok (.invokestatic 72, 3) := by decide +kernel
theorem dX2_become_55 : decode cX2_become 55 = .ok (.aload_n 1, 1) := by decide +kernel
theorem dX2_become_56 : decode cX2_become 56 = .ok (.getfield 29, 3) := by decide +kernel
theorem dX2_become_59 : decode cX2_become 59 = .ok (.iconst 0, 1) := by decide +kernel
theorem dX2_become_60 : decode cX2_become 60 = .ok (.aload_n 0, 1) := by decide +kernel
theorem dX2_become_61 : decode cX2_become 61 = .ok (.getfield 29, 3) := by decide +kernel
theorem dX2_become_64 : decode cX2_become 64 = .ok (.iconst 0, 1) := by decide +kernel
theorem dX2_become_65 : decode cX2_become 65 = .ok (.aload_n 0, 1) := by decide +kernel
theorem dX2_become_66 : decode cX2_become 66 = .ok (.getfield 29, 3) := by decide +kernel
theorem dX2_become_69 : decode cX2_become 69 = .ok (.arraylength, 1) := by decide +kernel
theorem dX2_become_70 : decode cX2_become 70 = .ok (.invokestatic 72, 3) := by decide +kernel
theorem dX2_become_73 : decode cX2_become 73 = .ok (.aload_n 0, 1) := by decide +kernel
theorem dX2_become_74 : decode cX2_become 74 = .ok (.aload_n 1, 1) := by decide +kernel
theorem dX2_become_75 : decode cX2_become 75 = .ok (.getfield 32, 3) := by decide +kernel
theorem dX2_become_78 : decode cX2_become 78 = .ok (.putfield 32, 3) := by decide +kernel
theorem dX2_become_81 : decode cX2_become 81 = .ok (.aload_n 1, 1) := by decide +kernel
theorem dX2_become_82 : decode cX2_become 82 = .ok (.getfield 35, 3) := by decide +kernel
theorem dX2_become_85 : decode cX2_become 85 = .ok (.iconst 0, 1) := by decide +kernel
theorem dX2_become_86 : decode cX2_become 86 = .ok (.aload_n 0, 1) := by decide +kernel
theorem dX2_become_87 : decode cX2_become 87 = .ok (.getfield 35, 3) := by decide +kernel
theorem dX2_become_90 : decode cX2_become 90 = .ok (.iconst 0, 1) := by decide +kernel
theorem dX2_become_91 : decode cX2_become 91 = .ok (.aload_n 0, 1) := by decide +kernel
theorem dX2_become_92 : decode cX2_become 92 = .ok (.getfield 35, 3) := by decide +kernel
theorem dX2_become_95 : decode cX2_become 95 = .ok (.arraylength, 1) := by decide +kernel
theorem dX2_become_96 : decode cX2_become 96 = .ok (.invokestatic 72, 3) := by decide +kernel
theorem dX2_become_99 : decode cX2_become 99 = .ok (.aload_n 1, 1) := by decide +kernel
theorem dX2_become_100 : decode cX2_become 100 = .ok (.getfield 46, 3) := by decide +kernel
theorem dX2_become_103 : decode cX2_become 103 = .ok (.iconst 0, 1) := by decide +kernel
theorem dX2_become_104 : decode cX2_become 104 = .ok (.aload_n 0, 1) := by decide +kernel
theorem dX2_become_105 : decode cX2_become 105 = .ok (.getfield 46, 3) := by decide +kernel
theorem dX2_become_108 : decode cX2_become 108 = .ok (.iconst 0, 1) := by decide +kernel
theorem dX2_become_109 : decode cX2_become 109 = .ok (.aload_n 0, 1) := by decide +kernel
theorem dX2_become_110 : decode cX2_become 110 = .ok (.getfield 46, 3) := by decide +kernel
theorem dX2_become_113 : decode cX2_become 113 = .ok (.arraylength, 1) := by decide +kernel
theorem dX2_become_114 : decode cX2_become 114 = .ok (.invokestatic 72, 3) := by decide +kernel
theorem dX2_become_117 : decode cX2_become 117 = .ok (.aload_n 1, 1) := by decide +kernel
theorem dX2_become_118 : decode cX2_become 118 = .ok (.getfield 49, 3) := by decide +kernel
theorem dX2_become_121 : decode cX2_become 121 = .ok (.iconst 0, 1) := by decide +kernel
theorem dX2_become_122 : decode cX2_become 122 = .ok (.aload_n 0, 1) := by decide +kernel
theorem dX2_become_123 : decode cX2_become 123 = .ok (.getfield 49, 3) := by decide +kernel
theorem dX2_become_126 : decode cX2_become 126 = .ok (.iconst 0, 1) := by decide +kernel
theorem dX2_become_127 : decode cX2_become 127 = .ok (.aload_n 0, 1) := by decide +kernel
theorem dX2_become_128 : decode cX2_become 128 = .ok (.getfield 49, 3) := by decide +kernel
theorem dX2_become_131 : decode cX2_become 131 = .ok (.arraylength, 1) := by decide +kernel
theorem dX2_become_132 : decode cX2_become 132 = .ok (.invokestatic 72, 3) := by decide +kernel
theorem dX2_become_135 : decode cX2_become 135 = .ok (.aload_n 0, 1) := by decide +kernel
theorem dX2_become_136 : decode cX2_become 136 = .ok (.aload_n 1, 1) := by decide +kernel
theorem dX2_become_137 : decode cX2_become 137 = .ok (.getfield 52, 3) := by decide +kernel
theorem dX2_become_140 : decode cX2_become 140 = .ok (.putfield 52, 3) := by decide +kernel
theorem dX2_become_143 : decode cX2_become 143 = .ok (.aload_n 1, 1) := by decide +kernel
theorem dX2_become_144 : decode cX2_become 144 = .ok (.getfield 57, 3) := by decide +kernel
theorem dX2_become_147 : decode cX2_become 147 = .ok (.iconst 0, 1) := by decide +kernel
theorem dX2_become_148 : decode cX2_become 148 = .ok (.aload_n 0, 1) := by decide +kernel
theorem dX2_become_149 : decode cX2_become 149 = .ok (.getfield 57, 3) := by decide +kernel
theorem dX2_become_152 : decode cX2_become 152 = .ok (.iconst 0, 1) := by decide +kernel
theorem dX2_become_153 : decode cX2_become 153 = .ok (.aload_n 0, 1) := by decide +kernel
theorem dX2_become_154 : decode cX2_become 154 = .ok (.getfield 57, 3) := by decide +kernel
theorem dX2_become_157 : decode cX2_become 157 = .ok (.arraylength, 1) := by decide +kernel
theorem dX2_become_158 : decode cX2_become 158 = .ok (.invokestatic 72, 3) := by decide +kernel
theorem dX2_become_161 : decode cX2_become 161 = .ok (.aload_n 1, 1) := by decide +kernel
theorem dX2_become_162 : decode cX2_become 162 = .ok (.getfield 60, 3) := by decide +kernel
theorem dX2_become_165 : decode cX2_become 165 = .ok (.iconst 0, 1) := by decide +kernel
theorem dX2_become_166 : decode cX2_become 166 = .ok (.aload_n 0, 1) := by decide +kernel
theorem dX2_become_167 : decode cX2_become 167 = .ok (.getfield 60, 3) := by decide +kernel
theorem dX2_become_170 : decode cX2_become 170 = .ok (.iconst 0, 1) := by decide +kernel
theorem dX2_become_171 : decode cX2_become 171 = .ok (.aload_n 0, 1) := by decide +kernel
theorem dX2_become_172 : decode cX2_become 172 = .ok (.getfield 60, 3) := by decide +kernel
theorem dX2_become_175 : decode cX2_become 175 = .ok (.arraylength, 1) := by decide +kernel
theorem dX2_become_176 : decode cX2_become 176 = .ok (.invokestatic 72, 3) := by decide +kernel
theorem dX2_become_179 : decode cX2_become 179 = .ok (.aload_n 0, 1) := by decide +kernel
theorem dX2_become_180 : decode cX2_become 180 = .ok (.aload_n 1, 1) := by decide +kernel
theorem dX2_become_181 : decode cX2_become 181 = .ok (.getfield 63, 3) := by decide +kernel
theorem dX2_become_184 : decode cX2_become 184 = .ok (.putfield 63, 3) := by decide +kernel
theorem dX2_become_187 : decode cX2_become 187 = .ok (.return_, 1) := by decide +kernel
theorem zw_168 : (Jvm.Cond.fieldLink "HillSchool$Hill" (12 : Nat) "HillSchool$Hill" "columns" "LHillSchool$Columns;") ∈ zall := zmemG (zmj_1 65 rfl) rfl
theorem zw_193 : (Jvm.Cond.fieldLink "HillSchool$Hill" (49 : Nat) "HillSchool$Hill" "goals" "[I") ∈ zall := zmemG (zmj_1 90 rfl) rfl
theorem zw_203 : (Jvm.Cond.fieldLink "HillSchool$Hill" (63 : Nat) "HillSchool$Hill" "inForce" "I") ∈ zall := zmemG (zmj_1 100 rfl) rfl
theorem zw_1135 : (Jvm.Cond.code ({ cls := "HillSchool$Hill", name := "become", desc := "(LHillSchool$Hill;)V" } : Jvm.MethodName) prog_4_method_9_code (2 : Nat) (Option.none : Option Jvm.ClassFile.FieldType)) ∈ zall := zmemG (zmj_5 72 rfl) rfl
theorem zw_1136 : (Jvm.Cond.methodLink "HillSchool$Hill" (93 : Nat) ({ cls := "HillSchool$Columns", name := "become", desc := "(LHillSchool$Columns;)V" } : Jvm.MethodName)) ∈ zall := zmemG (zmj_5 73 rfl) rfl
abbrev w_Hill_become : List Cond := .code yX2_become cX2_become 2 none :: zall
abbrev rm_Hill_become : Room := { frames := 3, cells := 0, slots := 0, locals := 81 }
theorem hd_Hill_become : yX2_become.cls = "HillSchool$Hill" ∧ yX2_become.cls ≠ "java/lang/invoke/MethodHandle" ∧ yX2_become.cls ≠ "java/lang/invoke/VarHandle" ∧ (parseMethodDescriptor yX2_become.desc).map (fun d => d.parameters.length) = some 1 := by decide +kernel
def wd_Hill_become (cA : Nat → ClassId) (q0 q1 q2 q3 q4 q5 q6 q7 q8 q9 q10 q11 q12 q13 q14 q15 q16 q17 q18 q19 q20 q21 q22 q23 : Nat) (u0 u1 : Int) (i_a1_children : Int) (i_a1_parishes : Int) (i_a1_laws : Int) (i_a1_inForce : Int) (i_a1_columns_many : Int) (i_a1_strengths : Nat → Int) (i_a1_expelled : Nat → Int) (i_a1_trips : Nat → Int) (i_a1_places : Nat → Int) (i_a1_terms : Nat → Int) (i_a1_goals : Nat → Int) (i_a1_orders : Nat → Int) (i_a1_ordered : Nat → Int) (i_a1_columns_heights : Nat → Int) (i_a1_columns_weights : Nat → Int) (i_children : Int) (i_parishes : Int) (i_laws : Int) (i_inForce : Int) (i_columns_many : Int) (i_strengths : Nat → Int) (i_expelled : Nat → Int) (i_trips : Nat → Int) (i_places : Nat → Int) (i_terms : Nat → Int) (i_goals : Nat → Int) (i_orders : Nat → Int) (i_ordered : Nat → Int) (i_columns_heights : Nat → Int) (i_columns_weights : Nat → Int) : va_W := [(q0, .inr (2, [.ref q1, .int (Int32.ofInt i_children), .ref q2, .ref q3, .ref q4, .int (Int32.ofInt i_parishes), .ref q5, .ref q6, .ref q7, .int (Int32.ofInt i_laws), .ref q8, .ref q9, .int (Int32.ofInt i_inForce), .int (Int32.ofInt u0)])), (q10, .inr (2, [.ref q11, .int (Int32.ofInt i_a1_children), .ref q12, .ref q13, .ref q14, .int (Int32.ofInt i_a1_parishes), .ref q15, .ref q16, .ref q17, .int (Int32.ofInt i_a1_laws), .ref q18, .ref q19, .int (Int32.ofInt i_a1_inForce), .int (Int32.ofInt u1)])), (q1, .inr (1, [.int (Int32.ofInt i_columns_many), .ref q20, .ref q21])), (q2, .inl (cA 0, 6, .inl (za i_strengths))), (q3, .inl (cA 0, 6, .inl (za i_expelled))), (q4, .inl (cA 0, 6, .inl (za i_trips))), (q5, .inl (cA 0, 6, .inl (za i_places))), (q6, .inl (cA 0, 4, .inl (za i_terms))), (q7, .inl (cA 0, 12, .inl (za i_goals))), (q8, .inl (cA 0, 2544, .inl (za i_orders))), (q9, .inl (cA 0, 6, .inl (za i_ordered))), (q11, .inr (1, [.int (Int32.ofInt i_a1_columns_many), .ref q22, .ref q23])), (q12, .inl (cA 0, 6, .inl (za i_a1_strengths))), (q13, .inl (cA 0, 6, .inl (za i_a1_expelled))), (q14, .inl (cA 0, 6, .inl (za i_a1_trips))), (q15, .inl (cA 0, 6, .inl (za i_a1_places))), (q16, .inl (cA 0, 4, .inl (za i_a1_terms))), (q17, .inl (cA 0, 12, .inl (za i_a1_goals))), (q18, .inl (cA 0, 2544, .inl (za i_a1_orders))), (q19, .inl (cA 0, 6, .inl (za i_a1_ordered))), (q20, .inl (cA 0, 12, .inl (za i_columns_heights))), (q21, .inl (cA 0, 120, .inl (za i_columns_weights))), (q22, .inl (cA 0, 12, .inl (za i_a1_columns_heights))), (q23, .inl (cA 0, 120, .inl (za i_a1_columns_weights)))]
def wf_Hill_become (cA : Nat → ClassId) (q0 q1 q2 q3 q4 q5 q6 q7 q8 q9 q10 q11 q12 q13 q14 q15 q16 q17 q18 q19 q20 q21 q22 q23 : Nat) (u0 u1 : Int) (i_a1_children : Int) (i_a1_parishes : Int) (i_a1_laws : Int) (i_a1_inForce : Int) (i_a1_columns_many : Int) (i_a1_strengths : Nat → Int) (i_a1_expelled : Nat → Int) (i_a1_trips : Nat → Int) (i_a1_places : Nat → Int) (i_a1_terms : Nat → Int) (i_a1_goals : Nat → Int) (i_a1_orders : Nat → Int) (i_a1_ordered : Nat → Int) (i_a1_columns_heights : Nat → Int) (i_a1_columns_weights : Nat → Int) (o : Int × Int × Int × Int × Int × (Nat → Int) × (Nat → Int) × (Nat → Int) × (Nat → Int) × (Nat → Int) × (Nat → Int) × (Nat → Int) × (Nat → Int) × (Nat → Int) × (Nat → Int)) : va_W := wd_Hill_become cA q0 q1 q2 q3 q4 q5 q6 q7 q8 q9 q10 q11 q12 q13 q14 q15 q16 q17 q18 q19 q20 q21 q22 q23 u0 u1 i_a1_children i_a1_parishes i_a1_laws i_a1_inForce i_a1_columns_many i_a1_strengths i_a1_expelled i_a1_trips i_a1_places i_a1_terms i_a1_goals i_a1_orders i_a1_ordered i_a1_columns_heights i_a1_columns_weights o.1 o.2.1 o.2.2.1 o.2.2.2.1 o.2.2.2.2.1 o.2.2.2.2.2.1 o.2.2.2.2.2.2.1 o.2.2.2.2.2.2.2.1 o.2.2.2.2.2.2.2.2.1 o.2.2.2.2.2.2.2.2.2.1 o.2.2.2.2.2.2.2.2.2.2.1 o.2.2.2.2.2.2.2.2.2.2.2.1 o.2.2.2.2.2.2.2.2.2.2.2.2.1 o.2.2.2.2.2.2.2.2.2.2.2.2.2.1 o.2.2.2.2.2.2.2.2.2.2.2.2.2.2
def f_Hill_become (i_a1_children : Int) (i_a1_parishes : Int) (i_a1_laws : Int) (i_a1_inForce : Int) (i_a1_columns_many : Int) (i_a1_strengths : Nat → Int) (i_a1_expelled : Nat → Int) (i_a1_trips : Nat → Int) (i_a1_places : Nat → Int) (i_a1_terms : Nat → Int) (i_a1_goals : Nat → Int) (i_a1_orders : Nat → Int) (i_a1_ordered : Nat → Int) (i_a1_columns_heights : Nat → Int) (i_a1_columns_weights : Nat → Int) (i_children : Int) (i_parishes : Int) (i_laws : Int) (i_inForce : Int) (i_columns_many : Int) (i_strengths : Nat → Int) (i_expelled : Nat → Int) (i_trips : Nat → Int) (i_places : Nat → Int) (i_terms : Nat → Int) (i_goals : Nat → Int) (i_orders : Nat → Int) (i_ordered : Nat → Int) (i_columns_heights : Nat → Int) (i_columns_weights : Nat → Int) : Option (Int × Int × Int × Int × Int × (Nat → Int) × (Nat → Int) × (Nat → Int) × (Nat → Int) × (Nat → Int) × (Nat → Int) × (Nat → Int) × (Nat → Int) × (Nat → Int) × (Nat → Int)) :=
  zd3 (f_Columns_become i_a1_columns_many i_a1_columns_heights i_a1_columns_weights i_columns_many i_columns_heights i_columns_weights) fun v1 a2 a3 =>
  zcp 6 i_a1_strengths 0 6 i_strengths 0 6 fun a4 =>
  zcp 6 i_a1_expelled 0 6 i_expelled 0 6 fun a5 =>
  zcp 6 i_a1_trips 0 6 i_trips 0 6 fun a6 =>
  zcp 6 i_a1_places 0 6 i_places 0 6 fun a7 =>
  zcp 4 i_a1_terms 0 4 i_terms 0 4 fun a8 =>
  zcp 12 i_a1_goals 0 12 i_goals 0 12 fun a9 =>
  zcp 2544 i_a1_orders 0 2544 i_orders 0 2544 fun a10 =>
  zcp 6 i_a1_ordered 0 6 i_ordered 0 6 fun a11 =>
  some (i_a1_children, i_a1_parishes, i_a1_laws, i_a1_inForce, v1, a4, a5, a6, a7, a8, a9, a10, a11, a2, a3)
set_option maxHeartbeats 4000000 in
set_option maxRecDepth 100000 in
theorem c_Hill_become (l : Launch) (ev : zEv) (dC : Nat → ClassId) (dI : Nat → Nat → Nat) (cA : Nat → ClassId) (q0 q1 q2 q3 q4 q5 q6 q7 q8 q9 q10 q11 q12 q13 q14 q15 q16 q17 q18 q19 q20 q21 q22 q23 : Nat) (u0 u1 : Int) {i_a1_children : Int} {i_a1_parishes : Int} {i_a1_laws : Int} {i_a1_inForce : Int} {i_a1_columns_many : Int} {i_a1_strengths : Nat → Int} {i_a1_expelled : Nat → Int} {i_a1_trips : Nat → Int} {i_a1_places : Nat → Int} {i_a1_terms : Nat → Int} {i_a1_goals : Nat → Int} {i_a1_orders : Nat → Int} {i_a1_ordered : Nat → Int} {i_a1_columns_heights : Nat → Int} {i_a1_columns_weights : Nat → Int} {i_children : Int} {i_parishes : Int} {i_laws : Int} {i_inForce : Int} {i_columns_many : Int} {i_strengths : Nat → Int} {i_expelled : Nat → Int} {i_trips : Nat → Int} {i_places : Nat → Int} {i_terms : Nat → Int} {i_goals : Nat → Int} {i_orders : Nat → Int} {i_ordered : Nat → Int} {i_columns_heights : Nat → Int} {i_columns_weights : Nat → Int} {out : Int × Int × Int × Int × Int × (Nat → Int) × (Nat → Int) × (Nat → Int) × (Nat → Int) × (Nat → Int) × (Nat → Int) × (Nat → Int) × (Nat → Int) × (Nat → Int) × (Nat → Int)} (hf : f_Hill_become i_a1_children i_a1_parishes i_a1_laws i_a1_inForce i_a1_columns_many i_a1_strengths i_a1_expelled i_a1_trips i_a1_places i_a1_terms i_a1_goals i_a1_orders i_a1_ordered i_a1_columns_heights i_a1_columns_weights i_children i_parishes i_laws i_inForce i_columns_many i_strengths i_expelled i_trips i_places i_terms i_goals i_orders i_ordered i_columns_heights i_columns_weights = some out) : xc_V l ev (dC, dI) vwCl (tyl cA) yX2_become w_Hill_become rm_Hill_become [.ref q0, .ref q10] (wd_Hill_become cA q0 q1 q2 q3 q4 q5 q6 q7 q8 q9 q10 q11 q12 q13 q14 q15 q16 q17 q18 q19 q20 q21 q22 q23 u0 u1 i_a1_children i_a1_parishes i_a1_laws i_a1_inForce i_a1_columns_many i_a1_strengths i_a1_expelled i_a1_trips i_a1_places i_a1_terms i_a1_goals i_a1_orders i_a1_ordered i_a1_columns_heights i_a1_columns_weights i_children i_parishes i_laws i_inForce i_columns_many i_strengths i_expelled i_trips i_places i_terms i_goals i_orders i_ordered i_columns_heights i_columns_weights) (wf_Hill_become cA q0 q1 q2 q3 q4 q5 q6 q7 q8 q9 q10 q11 q12 q13 q14 q15 q16 q17 q18 q19 q20 q21 q22 q23 u0 u1 i_a1_children i_a1_parishes i_a1_laws i_a1_inForce i_a1_columns_many i_a1_strengths i_a1_expelled i_a1_trips i_a1_places i_a1_terms i_a1_goals i_a1_orders i_a1_ordered i_a1_columns_heights i_a1_columns_weights out) := by
  refine xv_startV (cc := cX2_become) (maxL := 2) (by decide +kernel) rfl (Nat.le_of_ble_eq_true rfl) ?_
  intro p e s m args below meth c A Q H ls hx hb hml hts hown hK hA hP hD hS hl hE hret
  have hown : s.vm.findClass "HillSchool$Hill" = some m.cls := hown
  have hz : ∀ w ∈ zall, w.before args s = true := fun w h => hts w (List.mem_cons_of_mem _ h)
  have hl : lv_has ls 2 [(0, .ref q0), (1, .ref q10)] := hl
  unfold f_Hill_become at hf
  refine lv_aload_n hx hb dX2_become_0 rfl (lv_at hl 0 rfl) ?_
  refine va_get (D := (dC, dI)) (ci := 2) (v := .ref q1) (C := RX2) (T := TX2) (N := 14) hx hb hz zi_X2 hown hK hP 0 rfl rfl 0 (by decide) (hz _ zw_168) (fun _ h9 => h9) rfl dX2_become_1 ?_
  refine lv_aload_n hx hb dX2_become_4 rfl (lv_at hl 1 rfl) ?_
  refine va_get (D := (dC, dI)) (ci := 2) (v := .ref q11) (C := RX2) (T := TX2) (N := 14) hx hb hz zi_X2 hown hK hP 1 rfl rfl 0 (by decide) (hz _ zw_168) (fun _ h9 => h9) rfl dX2_become_5 ?_
  refine xe_d3 hf (fun v1 a2 a3 hg hf => ?_)
  have hC : ([2, 11, 20, 21, 22, 23] : List Nat).map (fun i => (wd_Hill_become cA q0 q1 q2 q3 q4 q5 q6 q7 q8 q9 q10 q11 q12 q13 q14 q15 q16 q17 q18 q19 q20 q21 q22 q23 u0 u1 i_a1_children i_a1_parishes i_a1_laws i_a1_inForce i_a1_columns_many i_a1_strengths i_a1_expelled i_a1_trips i_a1_places i_a1_terms i_a1_goals i_a1_orders i_a1_ordered i_a1_columns_heights i_a1_columns_weights i_children i_parishes i_laws i_inForce i_columns_many i_strengths i_expelled i_trips i_places i_terms i_goals i_orders i_ordered i_columns_heights i_columns_weights)[i]?) = (wd_Columns_become cA q1 q20 q21 q11 q22 q23 i_a1_columns_many i_a1_columns_heights i_a1_columns_weights i_columns_many i_columns_heights i_columns_weights).map some := rfl
  refine xv_afterV (ws' := (wd_Hill_become cA q0 q1 q2 q3 q4 q5 q6 q7 q8 q9 q10 q11 q12 q13 q14 q15 q16 q17 q18 q19 q20 q21 q22 q23 u0 u1 i_a1_children i_a1_parishes i_a1_laws i_a1_inForce i_a1_columns_many i_a1_strengths i_a1_expelled i_a1_trips i_a1_places i_a1_terms i_a1_goals i_a1_orders i_a1_ordered i_a1_columns_heights i_a1_columns_weights i_children i_parishes i_laws i_inForce v1 i_strengths i_expelled i_trips i_places i_terms i_goals i_orders i_ordered a2 a3)) (isC := [2, 11, 20, 21, 22, 23]) (ps := [none, none, some 0, none, none, none, none, none, none, none, none, some 1, none, none, none, none, none, none, none, none, some 2, some 3, some 4, some 5]) (va_runV (As := [.ref q11]) (rest := []) ⟨hx, hb, hml, hown, hts⟩ (c_Columns_become l ev dC dI cA q1 q20 q21 q11 q22 q23 hg H.size) (cwV 1 hts (zgV zw_1136 zw_1080 zw_1081 zw_106 zw_1082) rfl rfl rfl hd_Columns_become ⟨Nat.le_of_ble_eq_true rfl, Nat.le_of_ble_eq_true rfl⟩) (xv_preV (T := TX1) (N := 3) hE hA hS hK hP hD (isC := [2, 11, 20, 21, 22, 23]) (by decide +kernel) hC (q0 := 2) (ci := 1) rfl rfl) rfl rfl hl.1 rfl (lv_room (Nat.le_of_ble_eq_true rfl)) dX2_become_8 ⟨Nat.le_refl _, Nat.le_refl _⟩) hP hD hS hA (by decide +kernel) rfl hC rfl rfl (fun H locs hP hD hS => ?_)
  refine lv_aload_n hx hb dX2_become_11 rfl (lv_at hl 0 rfl) ?_
  refine lv_aload_n hx hb dX2_become_12 rfl (lv_at hl 1 rfl) ?_
  refine va_get (D := (dC, dI)) (ci := 2) (v := .int (Int32.ofInt i_a1_children)) (C := RX2) (T := TX2) (N := 14) hx hb hz zi_X2 hown hK hP 1 rfl rfl 1 (by decide) (hz _ zw_173) (fun _ h9 => h9) rfl dX2_become_13 ?_
  refine va_put (D := (dC, dI)) (ci := 2) (v := .int (Int32.ofInt i_a1_children)) (ty := .int) (C := RX2) (T := TX2) (N := 14) hx hb hz zi_X2 tyX2 tyX2_ok nmX2 hown hK hP hD hS 0 rfl rfl 1 (by decide) (hz _ zw_173) (fun _ h9 => h9) rfl (by decide +kernel) rfl rfl (Nat.le_of_ble_eq_true rfl) dX2_become_16 (fun H locs hP hD hS => ?_)
  have hP : va_P (dC, dI) vwCl (wd_Hill_become cA q0 q1 q2 q3 q4 q5 q6 q7 q8 q9 q10 q11 q12 q13 q14 q15 q16 q17 q18 q19 q20 q21 q22 q23 u0 u1 i_a1_children i_a1_parishes i_a1_laws i_a1_inForce i_a1_columns_many i_a1_strengths i_a1_expelled i_a1_trips i_a1_places i_a1_terms i_a1_goals i_a1_orders i_a1_ordered i_a1_columns_heights i_a1_columns_weights i_a1_children i_parishes i_laws i_inForce v1 i_strengths i_expelled i_trips i_places i_terms i_goals i_orders i_ordered a2 a3) H := hP
  have hD : va_D A (wd_Hill_become cA q0 q1 q2 q3 q4 q5 q6 q7 q8 q9 q10 q11 q12 q13 q14 q15 q16 q17 q18 q19 q20 q21 q22 q23 u0 u1 i_a1_children i_a1_parishes i_a1_laws i_a1_inForce i_a1_columns_many i_a1_strengths i_a1_expelled i_a1_trips i_a1_places i_a1_terms i_a1_goals i_a1_orders i_a1_ordered i_a1_columns_heights i_a1_columns_weights i_a1_children i_parishes i_laws i_inForce v1 i_strengths i_expelled i_trips i_places i_terms i_goals i_orders i_ordered a2 a3) := hD
  refine lv_aload_n hx hb dX2_become_19 rfl (lv_at hl 1 rfl) ?_
  refine va_get (D := (dC, dI)) (ci := 2) (v := .ref q12) (C := RX2) (T := TX2) (N := 14) hx hb hz zi_X2 hown hK hP 1 rfl rfl 2 (by decide) (hz _ zw_177) (fun _ h9 => h9) rfl dX2_become_20 ?_
  refine lv_iconst (v := Int32.ofInt 0) hx hb dX2_become_23 rfl ?_
  refine lv_aload_n hx hb dX2_become_24 rfl (lv_at hl 0 rfl) ?_
  refine va_get (D := (dC, dI)) (ci := 2) (v := .ref q2) (C := RX2) (T := TX2) (N := 14) hx hb hz zi_X2 hown hK hP 0 rfl rfl 2 (by decide) (hz _ zw_177) (fun _ h9 => h9) rfl dX2_become_25 ?_
  refine lv_iconst (v := Int32.ofInt 0) hx hb dX2_become_28 rfl ?_
  refine lv_aload_n hx hb dX2_become_29 rfl (lv_at hl 0 rfl) ?_
  refine va_get (D := (dC, dI)) (ci := 2) (v := .ref q2) (C := RX2) (T := TX2) (N := 14) hx hb hz zi_X2 hown hK hP 0 rfl rfl 2 (by decide) (hz _ zw_177) (fun _ h9 => h9) rfl dX2_become_30 ?_
  refine va_alen (v := Int32.ofInt 6) hx hb hK hP 3 0 rfl rfl (show Int32.ofNat 6 = Int32.ofInt 6 by decide +kernel) dX2_become_33 ?_
  refine xi_copy hx hb (hml.trans hl.1.symm) hown (hz _ zw_783) (hz _ zw_785) (hz _ zw_784) (hz _ zw_121) hK hP hD hS 12 3 0 0 rfl rfl rfl rfl (Nat.le_of_ble_eq_true rfl) (by decide +kernel) dX2_become_34 hf (fun a4 H locs hP hD hS hf => ?_)
  have hP : va_P (dC, dI) vwCl (wd_Hill_become cA q0 q1 q2 q3 q4 q5 q6 q7 q8 q9 q10 q11 q12 q13 q14 q15 q16 q17 q18 q19 q20 q21 q22 q23 u0 u1 i_a1_children i_a1_parishes i_a1_laws i_a1_inForce i_a1_columns_many i_a1_strengths i_a1_expelled i_a1_trips i_a1_places i_a1_terms i_a1_goals i_a1_orders i_a1_ordered i_a1_columns_heights i_a1_columns_weights i_a1_children i_parishes i_laws i_inForce v1 a4 i_expelled i_trips i_places i_terms i_goals i_orders i_ordered a2 a3) H := hP
  have hD : va_D A (wd_Hill_become cA q0 q1 q2 q3 q4 q5 q6 q7 q8 q9 q10 q11 q12 q13 q14 q15 q16 q17 q18 q19 q20 q21 q22 q23 u0 u1 i_a1_children i_a1_parishes i_a1_laws i_a1_inForce i_a1_columns_many i_a1_strengths i_a1_expelled i_a1_trips i_a1_places i_a1_terms i_a1_goals i_a1_orders i_a1_ordered i_a1_columns_heights i_a1_columns_weights i_a1_children i_parishes i_laws i_inForce v1 a4 i_expelled i_trips i_places i_terms i_goals i_orders i_ordered a2 a3) := hD
  refine lv_aload_n hx hb dX2_become_37 rfl (lv_at hl 1 rfl) ?_
  refine va_get (D := (dC, dI)) (ci := 2) (v := .ref q13) (C := RX2) (T := TX2) (N := 14) hx hb hz zi_X2 hown hK hP 1 rfl rfl 3 (by decide) (hz _ zw_180) (fun _ h9 => h9) rfl dX2_become_38 ?_
  refine lv_iconst (v := Int32.ofInt 0) hx hb dX2_become_41 rfl ?_
  refine lv_aload_n hx hb dX2_become_42 rfl (lv_at hl 0 rfl) ?_
  refine va_get (D := (dC, dI)) (ci := 2) (v := .ref q3) (C := RX2) (T := TX2) (N := 14) hx hb hz zi_X2 hown hK hP 0 rfl rfl 3 (by decide) (hz _ zw_180) (fun _ h9 => h9) rfl dX2_become_43 ?_
  refine lv_iconst (v := Int32.ofInt 0) hx hb dX2_become_46 rfl ?_
  refine lv_aload_n hx hb dX2_become_47 rfl (lv_at hl 0 rfl) ?_
  refine va_get (D := (dC, dI)) (ci := 2) (v := .ref q3) (C := RX2) (T := TX2) (N := 14) hx hb hz zi_X2 hown hK hP 0 rfl rfl 3 (by decide) (hz _ zw_180) (fun _ h9 => h9) rfl dX2_become_48 ?_
  refine va_alen (v := Int32.ofInt 6) hx hb hK hP 4 0 rfl rfl (show Int32.ofNat 6 = Int32.ofInt 6 by decide +kernel) dX2_become_51 ?_
  refine xi_copy hx hb (hml.trans hl.1.symm) hown (hz _ zw_783) (hz _ zw_785) (hz _ zw_784) (hz _ zw_121) hK hP hD hS 13 4 0 0 rfl rfl rfl rfl (Nat.le_of_ble_eq_true rfl) (by decide +kernel) dX2_become_52 hf (fun a5 H locs hP hD hS hf => ?_)
  have hP : va_P (dC, dI) vwCl (wd_Hill_become cA q0 q1 q2 q3 q4 q5 q6 q7 q8 q9 q10 q11 q12 q13 q14 q15 q16 q17 q18 q19 q20 q21 q22 q23 u0 u1 i_a1_children i_a1_parishes i_a1_laws i_a1_inForce i_a1_columns_many i_a1_strengths i_a1_expelled i_a1_trips i_a1_places i_a1_terms i_a1_goals i_a1_orders i_a1_ordered i_a1_columns_heights i_a1_columns_weights i_a1_children i_parishes i_laws i_inForce v1 a4 a5 i_trips i_places i_terms i_goals i_orders i_ordered a2 a3) H := hP
  have hD : va_D A (wd_Hill_become cA q0 q1 q2 q3 q4 q5 q6 q7 q8 q9 q10 q11 q12 q13 q14 q15 q16 q17 q18 q19 q20 q21 q22 q23 u0 u1 i_a1_children i_a1_parishes i_a1_laws i_a1_inForce i_a1_columns_many i_a1_strengths i_a1_expelled i_a1_trips i_a1_places i_a1_terms i_a1_goals i_a1_orders i_a1_ordered i_a1_columns_heights i_a1_columns_weights i_a1_children i_parishes i_laws i_inForce v1 a4 a5 i_trips i_places i_terms i_goals i_orders i_ordered a2 a3) := hD
  refine lv_aload_n hx hb dX2_become_55 rfl (lv_at hl 1 rfl) ?_
  refine va_get (D := (dC, dI)) (ci := 2) (v := .ref q14) (C := RX2) (T := TX2) (N := 14) hx hb hz zi_X2 hown hK hP 1 rfl rfl 4 (by decide) (hz _ zw_182) (fun _ h9 => h9) rfl dX2_become_56 ?_
  refine lv_iconst (v := Int32.ofInt 0) hx hb dX2_become_59 rfl ?_
  refine lv_aload_n hx hb dX2_become_60 rfl (lv_at hl 0 rfl) ?_
  refine va_get (D := (dC, dI)) (ci := 2) (v := .ref q4) (C := RX2) (T := TX2) (N := 14) hx hb hz zi_X2 hown hK hP 0 rfl rfl 4 (by decide) (hz _ zw_182) (fun _ h9 => h9) rfl dX2_become_61 ?_
  refine lv_iconst (v := Int32.ofInt 0) hx hb dX2_become_64 rfl ?_
  refine lv_aload_n hx hb dX2_become_65 rfl (lv_at hl 0 rfl) ?_
  refine va_get (D := (dC, dI)) (ci := 2) (v := .ref q4) (C := RX2) (T := TX2) (N := 14) hx hb hz zi_X2 hown hK hP 0 rfl rfl 4 (by decide) (hz _ zw_182) (fun _ h9 => h9) rfl dX2_become_66 ?_
  refine va_alen (v := Int32.ofInt 6) hx hb hK hP 5 0 rfl rfl (show Int32.ofNat 6 = Int32.ofInt 6 by decide +kernel) dX2_become_69 ?_
  refine xi_copy hx hb (hml.trans hl.1.symm) hown (hz _ zw_783) (hz _ zw_785) (hz _ zw_784) (hz _ zw_121) hK hP hD hS 14 5 0 0 rfl rfl rfl rfl (Nat.le_of_ble_eq_true rfl) (by decide +kernel) dX2_become_70 hf (fun a6 H locs hP hD hS hf => ?_)
  have hP : va_P (dC, dI) vwCl (wd_Hill_become cA q0 q1 q2 q3 q4 q5 q6 q7 q8 q9 q10 q11 q12 q13 q14 q15 q16 q17 q18 q19 q20 q21 q22 q23 u0 u1 i_a1_children i_a1_parishes i_a1_laws i_a1_inForce i_a1_columns_many i_a1_strengths i_a1_expelled i_a1_trips i_a1_places i_a1_terms i_a1_goals i_a1_orders i_a1_ordered i_a1_columns_heights i_a1_columns_weights i_a1_children i_parishes i_laws i_inForce v1 a4 a5 a6 i_places i_terms i_goals i_orders i_ordered a2 a3) H := hP
  have hD : va_D A (wd_Hill_become cA q0 q1 q2 q3 q4 q5 q6 q7 q8 q9 q10 q11 q12 q13 q14 q15 q16 q17 q18 q19 q20 q21 q22 q23 u0 u1 i_a1_children i_a1_parishes i_a1_laws i_a1_inForce i_a1_columns_many i_a1_strengths i_a1_expelled i_a1_trips i_a1_places i_a1_terms i_a1_goals i_a1_orders i_a1_ordered i_a1_columns_heights i_a1_columns_weights i_a1_children i_parishes i_laws i_inForce v1 a4 a5 a6 i_places i_terms i_goals i_orders i_ordered a2 a3) := hD
  refine lv_aload_n hx hb dX2_become_73 rfl (lv_at hl 0 rfl) ?_
  refine lv_aload_n hx hb dX2_become_74 rfl (lv_at hl 1 rfl) ?_
  refine va_get (D := (dC, dI)) (ci := 2) (v := .int (Int32.ofInt i_a1_parishes)) (C := RX2) (T := TX2) (N := 14) hx hb hz zi_X2 hown hK hP 1 rfl rfl 5 (by decide) (hz _ zw_185) (fun _ h9 => h9) rfl dX2_become_75 ?_
  refine va_put (D := (dC, dI)) (ci := 2) (v := .int (Int32.ofInt i_a1_parishes)) (ty := .int) (C := RX2) (T := TX2) (N := 14) hx hb hz zi_X2 tyX2 tyX2_ok nmX2 hown hK hP hD hS 0 rfl rfl 5 (by decide) (hz _ zw_185) (fun _ h9 => h9) rfl (by decide +kernel) rfl rfl (Nat.le_of_ble_eq_true rfl) dX2_become_78 (fun H locs hP hD hS => ?_)
  have hP : va_P (dC, dI) vwCl (wd_Hill_become cA q0 q1 q2 q3 q4 q5 q6 q7 q8 q9 q10 q11 q12 q13 q14 q15 q16 q17 q18 q19 q20 q21 q22 q23 u0 u1 i_a1_children i_a1_parishes i_a1_laws i_a1_inForce i_a1_columns_many i_a1_strengths i_a1_expelled i_a1_trips i_a1_places i_a1_terms i_a1_goals i_a1_orders i_a1_ordered i_a1_columns_heights i_a1_columns_weights i_a1_children i_a1_parishes i_laws i_inForce v1 a4 a5 a6 i_places i_terms i_goals i_orders i_ordered a2 a3) H := hP
  have hD : va_D A (wd_Hill_become cA q0 q1 q2 q3 q4 q5 q6 q7 q8 q9 q10 q11 q12 q13 q14 q15 q16 q17 q18 q19 q20 q21 q22 q23 u0 u1 i_a1_children i_a1_parishes i_a1_laws i_a1_inForce i_a1_columns_many i_a1_strengths i_a1_expelled i_a1_trips i_a1_places i_a1_terms i_a1_goals i_a1_orders i_a1_ordered i_a1_columns_heights i_a1_columns_weights i_a1_children i_a1_parishes i_laws i_inForce v1 a4 a5 a6 i_places i_terms i_goals i_orders i_ordered a2 a3) := hD
  refine lv_aload_n hx hb dX2_become_81 rfl (lv_at hl 1 rfl) ?_
  refine va_get (D := (dC, dI)) (ci := 2) (v := .ref q15) (C := RX2) (T := TX2) (N := 14) hx hb hz zi_X2 hown hK hP 1 rfl rfl 6 (by decide) (hz _ zw_187) (fun _ h9 => h9) rfl dX2_become_82 ?_
  refine lv_iconst (v := Int32.ofInt 0) hx hb dX2_become_85 rfl ?_
  refine lv_aload_n hx hb dX2_become_86 rfl (lv_at hl 0 rfl) ?_
  refine va_get (D := (dC, dI)) (ci := 2) (v := .ref q5) (C := RX2) (T := TX2) (N := 14) hx hb hz zi_X2 hown hK hP 0 rfl rfl 6 (by decide) (hz _ zw_187) (fun _ h9 => h9) rfl dX2_become_87 ?_
  refine lv_iconst (v := Int32.ofInt 0) hx hb dX2_become_90 rfl ?_
  refine lv_aload_n hx hb dX2_become_91 rfl (lv_at hl 0 rfl) ?_
  refine va_get (D := (dC, dI)) (ci := 2) (v := .ref q5) (C := RX2) (T := TX2) (N := 14) hx hb hz zi_X2 hown hK hP 0 rfl rfl 6 (by decide) (hz _ zw_187) (fun _ h9 => h9) rfl dX2_become_92 ?_
  refine va_alen (v := Int32.ofInt 6) hx hb hK hP 6 0 rfl rfl (show Int32.ofNat 6 = Int32.ofInt 6 by decide +kernel) dX2_become_95 ?_
  refine xi_copy hx hb (hml.trans hl.1.symm) hown (hz _ zw_783) (hz _ zw_785) (hz _ zw_784) (hz _ zw_121) hK hP hD hS 15 6 0 0 rfl rfl rfl rfl (Nat.le_of_ble_eq_true rfl) (by decide +kernel) dX2_become_96 hf (fun a7 H locs hP hD hS hf => ?_)
  have hP : va_P (dC, dI) vwCl (wd_Hill_become cA q0 q1 q2 q3 q4 q5 q6 q7 q8 q9 q10 q11 q12 q13 q14 q15 q16 q17 q18 q19 q20 q21 q22 q23 u0 u1 i_a1_children i_a1_parishes i_a1_laws i_a1_inForce i_a1_columns_many i_a1_strengths i_a1_expelled i_a1_trips i_a1_places i_a1_terms i_a1_goals i_a1_orders i_a1_ordered i_a1_columns_heights i_a1_columns_weights i_a1_children i_a1_parishes i_laws i_inForce v1 a4 a5 a6 a7 i_terms i_goals i_orders i_ordered a2 a3) H := hP
  have hD : va_D A (wd_Hill_become cA q0 q1 q2 q3 q4 q5 q6 q7 q8 q9 q10 q11 q12 q13 q14 q15 q16 q17 q18 q19 q20 q21 q22 q23 u0 u1 i_a1_children i_a1_parishes i_a1_laws i_a1_inForce i_a1_columns_many i_a1_strengths i_a1_expelled i_a1_trips i_a1_places i_a1_terms i_a1_goals i_a1_orders i_a1_ordered i_a1_columns_heights i_a1_columns_weights i_a1_children i_a1_parishes i_laws i_inForce v1 a4 a5 a6 a7 i_terms i_goals i_orders i_ordered a2 a3) := hD
  refine lv_aload_n hx hb dX2_become_99 rfl (lv_at hl 1 rfl) ?_
  refine va_get (D := (dC, dI)) (ci := 2) (v := .ref q16) (C := RX2) (T := TX2) (N := 14) hx hb hz zi_X2 hown hK hP 1 rfl rfl 7 (by decide) (hz _ zw_189) (fun _ h9 => h9) rfl dX2_become_100 ?_
  refine lv_iconst (v := Int32.ofInt 0) hx hb dX2_become_103 rfl ?_
  refine lv_aload_n hx hb dX2_become_104 rfl (lv_at hl 0 rfl) ?_
  refine va_get (D := (dC, dI)) (ci := 2) (v := .ref q6) (C := RX2) (T := TX2) (N := 14) hx hb hz zi_X2 hown hK hP 0 rfl rfl 7 (by decide) (hz _ zw_189) (fun _ h9 => h9) rfl dX2_become_105 ?_
  refine lv_iconst (v := Int32.ofInt 0) hx hb dX2_become_108 rfl ?_
  refine lv_aload_n hx hb dX2_become_109 rfl (lv_at hl 0 rfl) ?_
  refine va_get (D := (dC, dI)) (ci := 2) (v := .ref q6) (C := RX2) (T := TX2) (N := 14) hx hb hz zi_X2 hown hK hP 0 rfl rfl 7 (by decide) (hz _ zw_189) (fun _ h9 => h9) rfl dX2_become_110 ?_
  refine va_alen (v := Int32.ofInt 4) hx hb hK hP 7 0 rfl rfl (show Int32.ofNat 4 = Int32.ofInt 4 by decide +kernel) dX2_become_113 ?_
  refine xi_copy hx hb (hml.trans hl.1.symm) hown (hz _ zw_783) (hz _ zw_785) (hz _ zw_784) (hz _ zw_121) hK hP hD hS 16 7 0 0 rfl rfl rfl rfl (Nat.le_of_ble_eq_true rfl) (by decide +kernel) dX2_become_114 hf (fun a8 H locs hP hD hS hf => ?_)
  have hP : va_P (dC, dI) vwCl (wd_Hill_become cA q0 q1 q2 q3 q4 q5 q6 q7 q8 q9 q10 q11 q12 q13 q14 q15 q16 q17 q18 q19 q20 q21 q22 q23 u0 u1 i_a1_children i_a1_parishes i_a1_laws i_a1_inForce i_a1_columns_many i_a1_strengths i_a1_expelled i_a1_trips i_a1_places i_a1_terms i_a1_goals i_a1_orders i_a1_ordered i_a1_columns_heights i_a1_columns_weights i_a1_children i_a1_parishes i_laws i_inForce v1 a4 a5 a6 a7 a8 i_goals i_orders i_ordered a2 a3) H := hP
  have hD : va_D A (wd_Hill_become cA q0 q1 q2 q3 q4 q5 q6 q7 q8 q9 q10 q11 q12 q13 q14 q15 q16 q17 q18 q19 q20 q21 q22 q23 u0 u1 i_a1_children i_a1_parishes i_a1_laws i_a1_inForce i_a1_columns_many i_a1_strengths i_a1_expelled i_a1_trips i_a1_places i_a1_terms i_a1_goals i_a1_orders i_a1_ordered i_a1_columns_heights i_a1_columns_weights i_a1_children i_a1_parishes i_laws i_inForce v1 a4 a5 a6 a7 a8 i_goals i_orders i_ordered a2 a3) := hD
  refine lv_aload_n hx hb dX2_become_117 rfl (lv_at hl 1 rfl) ?_
  refine va_get (D := (dC, dI)) (ci := 2) (v := .ref q17) (C := RX2) (T := TX2) (N := 14) hx hb hz zi_X2 hown hK hP 1 rfl rfl 8 (by decide) (hz _ zw_193) (fun _ h9 => h9) rfl dX2_become_118 ?_
  refine lv_iconst (v := Int32.ofInt 0) hx hb dX2_become_121 rfl ?_
  refine lv_aload_n hx hb dX2_become_122 rfl (lv_at hl 0 rfl) ?_
  refine va_get (D := (dC, dI)) (ci := 2) (v := .ref q7) (C := RX2) (T := TX2) (N := 14) hx hb hz zi_X2 hown hK hP 0 rfl rfl 8 (by decide) (hz _ zw_193) (fun _ h9 => h9) rfl dX2_become_123 ?_
  refine lv_iconst (v := Int32.ofInt 0) hx hb dX2_become_126 rfl ?_
  refine lv_aload_n hx hb dX2_become_127 rfl (lv_at hl 0 rfl) ?_
  refine va_get (D := (dC, dI)) (ci := 2) (v := .ref q7) (C := RX2) (T := TX2) (N := 14) hx hb hz zi_X2 hown hK hP 0 rfl rfl 8 (by decide) (hz _ zw_193) (fun _ h9 => h9) rfl dX2_become_128 ?_
  refine va_alen (v := Int32.ofInt 12) hx hb hK hP 8 0 rfl rfl (show Int32.ofNat 12 = Int32.ofInt 12 by decide +kernel) dX2_become_131 ?_
  refine xi_copy hx hb (hml.trans hl.1.symm) hown (hz _ zw_783) (hz _ zw_785) (hz _ zw_784) (hz _ zw_121) hK hP hD hS 17 8 0 0 rfl rfl rfl rfl (Nat.le_of_ble_eq_true rfl) (by decide +kernel) dX2_become_132 hf (fun a9 H locs hP hD hS hf => ?_)
  have hP : va_P (dC, dI) vwCl (wd_Hill_become cA q0 q1 q2 q3 q4 q5 q6 q7 q8 q9 q10 q11 q12 q13 q14 q15 q16 q17 q18 q19 q20 q21 q22 q23 u0 u1 i_a1_children i_a1_parishes i_a1_laws i_a1_inForce i_a1_columns_many i_a1_strengths i_a1_expelled i_a1_trips i_a1_places i_a1_terms i_a1_goals i_a1_orders i_a1_ordered i_a1_columns_heights i_a1_columns_weights i_a1_children i_a1_parishes i_laws i_inForce v1 a4 a5 a6 a7 a8 a9 i_orders i_ordered a2 a3) H := hP
  have hD : va_D A (wd_Hill_become cA q0 q1 q2 q3 q4 q5 q6 q7 q8 q9 q10 q11 q12 q13 q14 q15 q16 q17 q18 q19 q20 q21 q22 q23 u0 u1 i_a1_children i_a1_parishes i_a1_laws i_a1_inForce i_a1_columns_many i_a1_strengths i_a1_expelled i_a1_trips i_a1_places i_a1_terms i_a1_goals i_a1_orders i_a1_ordered i_a1_columns_heights i_a1_columns_weights i_a1_children i_a1_parishes i_laws i_inForce v1 a4 a5 a6 a7 a8 a9 i_orders i_ordered a2 a3) := hD
  refine lv_aload_n hx hb dX2_become_135 rfl (lv_at hl 0 rfl) ?_
  refine lv_aload_n hx hb dX2_become_136 rfl (lv_at hl 1 rfl) ?_
  refine va_get (D := (dC, dI)) (ci := 2) (v := .int (Int32.ofInt i_a1_laws)) (C := RX2) (T := TX2) (N := 14) hx hb hz zi_X2 hown hK hP 1 rfl rfl 9 (by decide) (hz _ zw_196) (fun _ h9 => h9) rfl dX2_become_137 ?_
  refine va_put (D := (dC, dI)) (ci := 2) (v := .int (Int32.ofInt i_a1_laws)) (ty := .int) (C := RX2) (T := TX2) (N := 14) hx hb hz zi_X2 tyX2 tyX2_ok nmX2 hown hK hP hD hS 0 rfl rfl 9 (by decide) (hz _ zw_196) (fun _ h9 => h9) rfl (by decide +kernel) rfl rfl (Nat.le_of_ble_eq_true rfl) dX2_become_140 (fun H locs hP hD hS => ?_)
  have hP : va_P (dC, dI) vwCl (wd_Hill_become cA q0 q1 q2 q3 q4 q5 q6 q7 q8 q9 q10 q11 q12 q13 q14 q15 q16 q17 q18 q19 q20 q21 q22 q23 u0 u1 i_a1_children i_a1_parishes i_a1_laws i_a1_inForce i_a1_columns_many i_a1_strengths i_a1_expelled i_a1_trips i_a1_places i_a1_terms i_a1_goals i_a1_orders i_a1_ordered i_a1_columns_heights i_a1_columns_weights i_a1_children i_a1_parishes i_a1_laws i_inForce v1 a4 a5 a6 a7 a8 a9 i_orders i_ordered a2 a3) H := hP
  have hD : va_D A (wd_Hill_become cA q0 q1 q2 q3 q4 q5 q6 q7 q8 q9 q10 q11 q12 q13 q14 q15 q16 q17 q18 q19 q20 q21 q22 q23 u0 u1 i_a1_children i_a1_parishes i_a1_laws i_a1_inForce i_a1_columns_many i_a1_strengths i_a1_expelled i_a1_trips i_a1_places i_a1_terms i_a1_goals i_a1_orders i_a1_ordered i_a1_columns_heights i_a1_columns_weights i_a1_children i_a1_parishes i_a1_laws i_inForce v1 a4 a5 a6 a7 a8 a9 i_orders i_ordered a2 a3) := hD
  refine lv_aload_n hx hb dX2_become_143 rfl (lv_at hl 1 rfl) ?_
  refine va_get (D := (dC, dI)) (ci := 2) (v := .ref q18) (C := RX2) (T := TX2) (N := 14) hx hb hz zi_X2 hown hK hP 1 rfl rfl 10 (by decide) (hz _ zw_199) (fun _ h9 => h9) rfl dX2_become_144 ?_
  refine lv_iconst (v := Int32.ofInt 0) hx hb dX2_become_147 rfl ?_
  refine lv_aload_n hx hb dX2_become_148 rfl (lv_at hl 0 rfl) ?_
  refine va_get (D := (dC, dI)) (ci := 2) (v := .ref q8) (C := RX2) (T := TX2) (N := 14) hx hb hz zi_X2 hown hK hP 0 rfl rfl 10 (by decide) (hz _ zw_199) (fun _ h9 => h9) rfl dX2_become_149 ?_
  refine lv_iconst (v := Int32.ofInt 0) hx hb dX2_become_152 rfl ?_
  refine lv_aload_n hx hb dX2_become_153 rfl (lv_at hl 0 rfl) ?_
  refine va_get (D := (dC, dI)) (ci := 2) (v := .ref q8) (C := RX2) (T := TX2) (N := 14) hx hb hz zi_X2 hown hK hP 0 rfl rfl 10 (by decide) (hz _ zw_199) (fun _ h9 => h9) rfl dX2_become_154 ?_
  refine va_alen (v := Int32.ofInt 2544) hx hb hK hP 9 0 rfl rfl (show Int32.ofNat 2544 = Int32.ofInt 2544 by decide +kernel) dX2_become_157 ?_
  refine xi_copy hx hb (hml.trans hl.1.symm) hown (hz _ zw_783) (hz _ zw_785) (hz _ zw_784) (hz _ zw_121) hK hP hD hS 18 9 0 0 rfl rfl rfl rfl (Nat.le_of_ble_eq_true rfl) (by decide +kernel) dX2_become_158 hf (fun a10 H locs hP hD hS hf => ?_)
  have hP : va_P (dC, dI) vwCl (wd_Hill_become cA q0 q1 q2 q3 q4 q5 q6 q7 q8 q9 q10 q11 q12 q13 q14 q15 q16 q17 q18 q19 q20 q21 q22 q23 u0 u1 i_a1_children i_a1_parishes i_a1_laws i_a1_inForce i_a1_columns_many i_a1_strengths i_a1_expelled i_a1_trips i_a1_places i_a1_terms i_a1_goals i_a1_orders i_a1_ordered i_a1_columns_heights i_a1_columns_weights i_a1_children i_a1_parishes i_a1_laws i_inForce v1 a4 a5 a6 a7 a8 a9 a10 i_ordered a2 a3) H := hP
  have hD : va_D A (wd_Hill_become cA q0 q1 q2 q3 q4 q5 q6 q7 q8 q9 q10 q11 q12 q13 q14 q15 q16 q17 q18 q19 q20 q21 q22 q23 u0 u1 i_a1_children i_a1_parishes i_a1_laws i_a1_inForce i_a1_columns_many i_a1_strengths i_a1_expelled i_a1_trips i_a1_places i_a1_terms i_a1_goals i_a1_orders i_a1_ordered i_a1_columns_heights i_a1_columns_weights i_a1_children i_a1_parishes i_a1_laws i_inForce v1 a4 a5 a6 a7 a8 a9 a10 i_ordered a2 a3) := hD
  refine lv_aload_n hx hb dX2_become_161 rfl (lv_at hl 1 rfl) ?_
  refine va_get (D := (dC, dI)) (ci := 2) (v := .ref q19) (C := RX2) (T := TX2) (N := 14) hx hb hz zi_X2 hown hK hP 1 rfl rfl 11 (by decide) (hz _ zw_201) (fun _ h9 => h9) rfl dX2_become_162 ?_
  refine lv_iconst (v := Int32.ofInt 0) hx hb dX2_become_165 rfl ?_
  refine lv_aload_n hx hb dX2_become_166 rfl (lv_at hl 0 rfl) ?_
  refine va_get (D := (dC, dI)) (ci := 2) (v := .ref q9) (C := RX2) (T := TX2) (N := 14) hx hb hz zi_X2 hown hK hP 0 rfl rfl 11 (by decide) (hz _ zw_201) (fun _ h9 => h9) rfl dX2_become_167 ?_
  refine lv_iconst (v := Int32.ofInt 0) hx hb dX2_become_170 rfl ?_
  refine lv_aload_n hx hb dX2_become_171 rfl (lv_at hl 0 rfl) ?_
  refine va_get (D := (dC, dI)) (ci := 2) (v := .ref q9) (C := RX2) (T := TX2) (N := 14) hx hb hz zi_X2 hown hK hP 0 rfl rfl 11 (by decide) (hz _ zw_201) (fun _ h9 => h9) rfl dX2_become_172 ?_
  refine va_alen (v := Int32.ofInt 6) hx hb hK hP 10 0 rfl rfl (show Int32.ofNat 6 = Int32.ofInt 6 by decide +kernel) dX2_become_175 ?_
  refine xi_copy hx hb (hml.trans hl.1.symm) hown (hz _ zw_783) (hz _ zw_785) (hz _ zw_784) (hz _ zw_121) hK hP hD hS 19 10 0 0 rfl rfl rfl rfl (Nat.le_of_ble_eq_true rfl) (by decide +kernel) dX2_become_176 hf (fun a11 H locs hP hD hS hf => ?_)
  have hP : va_P (dC, dI) vwCl (wd_Hill_become cA q0 q1 q2 q3 q4 q5 q6 q7 q8 q9 q10 q11 q12 q13 q14 q15 q16 q17 q18 q19 q20 q21 q22 q23 u0 u1 i_a1_children i_a1_parishes i_a1_laws i_a1_inForce i_a1_columns_many i_a1_strengths i_a1_expelled i_a1_trips i_a1_places i_a1_terms i_a1_goals i_a1_orders i_a1_ordered i_a1_columns_heights i_a1_columns_weights i_a1_children i_a1_parishes i_a1_laws i_inForce v1 a4 a5 a6 a7 a8 a9 a10 a11 a2 a3) H := hP
  have hD : va_D A (wd_Hill_become cA q0 q1 q2 q3 q4 q5 q6 q7 q8 q9 q10 q11 q12 q13 q14 q15 q16 q17 q18 q19 q20 q21 q22 q23 u0 u1 i_a1_children i_a1_parishes i_a1_laws i_a1_inForce i_a1_columns_many i_a1_strengths i_a1_expelled i_a1_trips i_a1_places i_a1_terms i_a1_goals i_a1_orders i_a1_ordered i_a1_columns_heights i_a1_columns_weights i_a1_children i_a1_parishes i_a1_laws i_inForce v1 a4 a5 a6 a7 a8 a9 a10 a11 a2 a3) := hD
  refine lv_aload_n hx hb dX2_become_179 rfl (lv_at hl 0 rfl) ?_
  refine lv_aload_n hx hb dX2_become_180 rfl (lv_at hl 1 rfl) ?_
  refine va_get (D := (dC, dI)) (ci := 2) (v := .int (Int32.ofInt i_a1_inForce)) (C := RX2) (T := TX2) (N := 14) hx hb hz zi_X2 hown hK hP 1 rfl rfl 12 (by decide) (hz _ zw_203) (fun _ h9 => h9) rfl dX2_become_181 ?_
  refine va_put (D := (dC, dI)) (ci := 2) (v := .int (Int32.ofInt i_a1_inForce)) (ty := .int) (C := RX2) (T := TX2) (N := 14) hx hb hz zi_X2 tyX2 tyX2_ok nmX2 hown hK hP hD hS 0 rfl rfl 12 (by decide) (hz _ zw_203) (fun _ h9 => h9) rfl (by decide +kernel) rfl rfl (Nat.le_of_ble_eq_true rfl) dX2_become_184 (fun H locs hP hD hS => ?_)
  have hP : va_P (dC, dI) vwCl (wd_Hill_become cA q0 q1 q2 q3 q4 q5 q6 q7 q8 q9 q10 q11 q12 q13 q14 q15 q16 q17 q18 q19 q20 q21 q22 q23 u0 u1 i_a1_children i_a1_parishes i_a1_laws i_a1_inForce i_a1_columns_many i_a1_strengths i_a1_expelled i_a1_trips i_a1_places i_a1_terms i_a1_goals i_a1_orders i_a1_ordered i_a1_columns_heights i_a1_columns_weights i_a1_children i_a1_parishes i_a1_laws i_a1_inForce v1 a4 a5 a6 a7 a8 a9 a10 a11 a2 a3) H := hP
  have hD : va_D A (wd_Hill_become cA q0 q1 q2 q3 q4 q5 q6 q7 q8 q9 q10 q11 q12 q13 q14 q15 q16 q17 q18 q19 q20 q21 q22 q23 u0 u1 i_a1_children i_a1_parishes i_a1_laws i_a1_inForce i_a1_columns_many i_a1_strengths i_a1_expelled i_a1_trips i_a1_places i_a1_terms i_a1_goals i_a1_orders i_a1_ordered i_a1_columns_heights i_a1_columns_weights i_a1_children i_a1_parishes i_a1_laws i_a1_inForce v1 a4 a5 a6 a7 a8 a9 a10 a11 a2 a3) := hD
  obtain rfl := Option.some.inj hf
  exact hret _ _ _ _ dX2_become_187 hP hD hS
theorem dX10_image_0 : decode cX10_image 0 = .ok (.iload_n 1, 1) := by decide +kernel
theorem dX10_image_1 : decode cX10_image 1 = .ok (.ifCond .lt 8, 3) := by decide +kernel
theorem dX10_image_4 : decode cX10_image 4 = .ok (.iload_n 1, 1) := by decide +kernel
theorem dX10_image_5 : decode cX10_image 5 = .ok (.iconst 2, 1) := by decide +kernel
theorem dX10_image_6 : decode cX10_image 6 = .ok (.if_icmp .lt 9, 3) := by decide +kernel
theorem dX10_image_9 : decode cX10_image 9 = .ok (.aload_n 0, 1) := by decide +kernel
theorem dX10_image_10 : decode cX10_image 10 = .ok (.iconst (-1), 1) := by decide +kernel
theorem dX10_image_11 : decode cX10_image 11 = .ok (.invokevirtual 109, 3) := by decide +kernel
theorem dX10_image_14 : decode cX10_image 14 = .ok (.ireturn, 1) := by decide +kernel
theorem dX10_image_15 : decode cX10_image 15 = .ok (.aload_n 0, 1) := by decide +kernel
theorem dX10_image_16 : decode cX10_image 16 = .ok (.getfield 16, 3) := by decide +kernel
theorem dX10_image_19 : decode cX10_image 19 = .ok (.iload_n 1, 1) := by decide +kernel
theorem dX10_image_20 : decode cX10_image 20 = .ok (.aaload, 1) := by decide +kernel
theorem dX10_image_21 : decode cX10_image 21 = .ok (.aload_n 0, 1) := by decide +kernel
theorem dX10_image_22 : decode cX10_image 22 = .ok (.getfield 10, 3) := by decide +kernel
theorem dX10_image_25 : decode cX10_image 25 = .ok (.invokevirtual 276, 3) := by decide +kernel
theorem dX10_image_28 : decode cX10_image 28 = .ok (.aload_n 0, 1) := by decide +kernel
theorem dX10_image_29 : decode cX10_image 29 = .ok (.getfield 20, 3) := by decide +kernel
theorem dX10_image_32 : decode cX10_image 32 = .ok (.iload_n 1, 1) := by decide +kernel
theorem dX10_image_33 : decode cX10_image 33 = .ok (.iconst 1, 1) := by decide +kernel
theorem dX10_image_34 : decode cX10_image 34 = .ok (.bastore, 1) := by decide +kernel
theorem dX10_image_35 : decode cX10_image 35 = .ok (.aload_n 0, 1) := by decide +kernel
theorem dX10_image_36 : decode cX10_image 36 = .ok (.iconst 0, 1) := by decide +kernel
theorem dX10_image_37 : decode cX10_image 37 = .ok (.invokevirtual 119, 3) := by decide +kernel
theorem dX10_image_40 : decode cX10_image 40 = .ok (.ireturn, 1) := by decide +kernel
theorem zw_478 : (Jvm.Cond.fieldLink "HillSchool" (16 : Nat) "HillSchool" "images" "[LHillSchool$Hill;") ∈ zall := zmemG (zmj_2 135 rfl) rfl
theorem zw_479 : (Jvm.Cond.fieldLink "HillSchool" (20 : Nat) "HillSchool" "kept" "[Z") ∈ zall := zmemG (zmj_2 136 rfl) rfl
theorem zw_1131 : (Jvm.Cond.code ({ cls := "HillSchool", name := "image", desc := "(I)I" } : Jvm.MethodName) prog_1_method_36_code (2 : Nat) (Option.some Jvm.ClassFile.FieldType.int)) ∈ zall := zmemG (zmj_5 68 rfl) rfl
theorem zw_1132 : (Jvm.Cond.methodLink "HillSchool" (276 : Nat) ({ cls := "HillSchool$Hill", name := "become", desc := "(LHillSchool$Hill;)V" } : Jvm.MethodName)) ∈ zall := zmemG (zmj_5 69 rfl) rfl
theorem zw_1133 : (Jvm.Cond.instanceMethod ({ cls := "HillSchool$Hill", name := "become", desc := "(LHillSchool$Hill;)V" } : Jvm.MethodName)) ∈ zall := zmemG (zmj_5 70 rfl) rfl
theorem zw_1134 : (Jvm.Cond.selects "HillSchool$Hill" ({ cls := "HillSchool$Hill", name := "become", desc := "(LHillSchool$Hill;)V" } : Jvm.MethodName) ({ cls := "HillSchool$Hill", name := "become", desc := "(LHillSchool$Hill;)V" } : Jvm.MethodName)) ∈ zall := zmemG (zmj_5 71 rfl) rfl
abbrev w_HS_image : List Cond := .code yX10_image cX10_image 2 (some .int) :: zall
abbrev rm_HS_image : Room := { frames := 4, cells := 0, slots := 0, locals := 102 }
theorem hd_HS_image : yX10_image.cls = "HillSchool" ∧ yX10_image.cls ≠ "java/lang/invoke/MethodHandle" ∧ yX10_image.cls ≠ "java/lang/invoke/VarHandle" ∧ (parseMethodDescriptor yX10_image.desc).map (fun d => d.parameters.length) = some 1 := by decide +kernel
def wd_HS_image (cA : Nat → ClassId) (q0 q1 q2 q3 q4 q5 q6 q7 q8 q9 q10 q11 q12 q13 q14 q15 q16 q17 q18 q19 q20 q21 q22 q23 q24 q25 q26 q27 q28 q29 q30 q31 q32 q33 q34 q35 q36 q37 q38 q39 q40 q41 q42 q43 q44 q45 q46 q47 : Nat) (u0 u1 u2 u3 u4 : Int) (i_hill_children : Int) (i_hill_parishes : Int) (i_hill_laws : Int) (i_hill_inForce : Int) (i_hill_columns_many : Int) (i_hill_strengths : Nat → Int) (i_hill_expelled : Nat → Int) (i_hill_trips : Nat → Int) (i_hill_places : Nat → Int) (i_hill_terms : Nat → Int) (i_hill_goals : Nat → Int) (i_hill_orders : Nat → Int) (i_hill_ordered : Nat → Int) (i_hill_columns_heights : Nat → Int) (i_hill_columns_weights : Nat → Int) (i_latestStatus : Int) (i_hill_changes : Int) (i_kept : Nat → Int) (i_refusals : Nat → Int) (i_images_0_children : Int) (i_images_0_parishes : Int) (i_images_0_laws : Int) (i_images_0_inForce : Int) (i_images_1_children : Int) (i_images_1_parishes : Int) (i_images_1_laws : Int) (i_images_1_inForce : Int) (i_images_0_columns_many : Int) (i_images_0_strengths : Nat → Int) (i_images_0_expelled : Nat → Int) (i_images_0_trips : Nat → Int) (i_images_0_places : Nat → Int) (i_images_0_terms : Nat → Int) (i_images_0_goals : Nat → Int) (i_images_0_orders : Nat → Int) (i_images_0_ordered : Nat → Int) (i_images_1_columns_many : Int) (i_images_1_strengths : Nat → Int) (i_images_1_expelled : Nat → Int) (i_images_1_trips : Nat → Int) (i_images_1_places : Nat → Int) (i_images_1_terms : Nat → Int) (i_images_1_goals : Nat → Int) (i_images_1_orders : Nat → Int) (i_images_1_ordered : Nat → Int) (i_images_0_columns_heights : Nat → Int) (i_images_0_columns_weights : Nat → Int) (i_images_1_columns_heights : Nat → Int) (i_images_1_columns_weights : Nat → Int) : va_W := [(q0, .inr (10, [.ref q1, .ref q2, .ref q3, .ref q4, .int (Int32.ofInt u0), .int (Int32.ofInt u1), .int (Int32.ofInt u2), .ref q5, .int (Int32.ofInt i_latestStatus), .ref q6, .ref q7, .ref q8, .ref q9, .ref q10, .ref q11, .ref q12])), (q1, .inr (2, [.ref q13, .int (Int32.ofInt i_hill_children), .ref q14, .ref q15, .ref q16, .int (Int32.ofInt i_hill_parishes), .ref q17, .ref q18, .ref q19, .int (Int32.ofInt i_hill_laws), .ref q20, .ref q21, .int (Int32.ofInt i_hill_inForce), .int (Int32.ofInt i_hill_changes)])), (q2, .inl (cA 3, 2, .inr (.inr (.inr (.inr (zr [q22, q23])))))), (q3, .inl (cA 1, 2, .inl (za i_kept))), (q5, .inl (cA 0, 7, .inl (za i_refusals))), (q13, .inr (1, [.int (Int32.ofInt i_hill_columns_many), .ref q24, .ref q25])), (q14, .inl (cA 0, 6, .inl (za i_hill_strengths))), (q15, .inl (cA 0, 6, .inl (za i_hill_expelled))), (q16, .inl (cA 0, 6, .inl (za i_hill_trips))), (q17, .inl (cA 0, 6, .inl (za i_hill_places))), (q18, .inl (cA 0, 4, .inl (za i_hill_terms))), (q19, .inl (cA 0, 12, .inl (za i_hill_goals))), (q20, .inl (cA 0, 2544, .inl (za i_hill_orders))), (q21, .inl (cA 0, 6, .inl (za i_hill_ordered))), (q22, .inr (2, [.ref q26, .int (Int32.ofInt i_images_0_children), .ref q27, .ref q28, .ref q29, .int (Int32.ofInt i_images_0_parishes), .ref q30, .ref q31, .ref q32, .int (Int32.ofInt i_images_0_laws), .ref q33, .ref q34, .int (Int32.ofInt i_images_0_inForce), .int (Int32.ofInt u3)])), (q23, .inr (2, [.ref q35, .int (Int32.ofInt i_images_1_children), .ref q36, .ref q37, .ref q38, .int (Int32.ofInt i_images_1_parishes), .ref q39, .ref q40, .ref q41, .int (Int32.ofInt i_images_1_laws), .ref q42, .ref q43, .int (Int32.ofInt i_images_1_inForce), .int (Int32.ofInt u4)])), (q24, .inl (cA 0, 12, .inl (za i_hill_columns_heights))), (q25, .inl (cA 0, 120, .inl (za i_hill_columns_weights))), (q26, .inr (1, [.int (Int32.ofInt i_images_0_columns_many), .ref q44, .ref q45])), (q27, .inl (cA 0, 6, .inl (za i_images_0_strengths))), (q28, .inl (cA 0, 6, .inl (za i_images_0_expelled))), (q29, .inl (cA 0, 6, .inl (za i_images_0_trips))), (q30, .inl (cA 0, 6, .inl (za i_images_0_places))), (q31, .inl (cA 0, 4, .inl (za i_images_0_terms))), (q32, .inl (cA 0, 12, .inl (za i_images_0_goals))), (q33, .inl (cA 0, 2544, .inl (za i_images_0_orders))), (q34, .inl (cA 0, 6, .inl (za i_images_0_ordered))), (q35, .inr (1, [.int (Int32.ofInt i_images_1_columns_many), .ref q46, .ref q47])), (q36, .inl (cA 0, 6, .inl (za i_images_1_strengths))), (q37, .inl (cA 0, 6, .inl (za i_images_1_expelled))), (q38, .inl (cA 0, 6, .inl (za i_images_1_trips))), (q39, .inl (cA 0, 6, .inl (za i_images_1_places))), (q40, .inl (cA 0, 4, .inl (za i_images_1_terms))), (q41, .inl (cA 0, 12, .inl (za i_images_1_goals))), (q42, .inl (cA 0, 2544, .inl (za i_images_1_orders))), (q43, .inl (cA 0, 6, .inl (za i_images_1_ordered))), (q44, .inl (cA 0, 12, .inl (za i_images_0_columns_heights))), (q45, .inl (cA 0, 120, .inl (za i_images_0_columns_weights))), (q46, .inl (cA 0, 12, .inl (za i_images_1_columns_heights))), (q47, .inl (cA 0, 120, .inl (za i_images_1_columns_weights)))]
def wf_HS_image (cA : Nat → ClassId) (q0 q1 q2 q3 q4 q5 q6 q7 q8 q9 q10 q11 q12 q13 q14 q15 q16 q17 q18 q19 q20 q21 q22 q23 q24 q25 q26 q27 q28 q29 q30 q31 q32 q33 q34 q35 q36 q37 q38 q39 q40 q41 q42 q43 q44 q45 q46 q47 : Nat) (u0 u1 u2 u3 u4 : Int) (i_hill_children : Int) (i_hill_parishes : Int) (i_hill_laws : Int) (i_hill_inForce : Int) (i_hill_columns_many : Int) (i_hill_strengths : Nat → Int) (i_hill_expelled : Nat → Int) (i_hill_trips : Nat → Int) (i_hill_places : Nat → Int) (i_hill_terms : Nat → Int) (i_hill_goals : Nat → Int) (i_hill_orders : Nat → Int) (i_hill_ordered : Nat → Int) (i_hill_columns_heights : Nat → Int) (i_hill_columns_weights : Nat → Int) (o : Int × Int × Int × (Nat → Int) × (Nat → Int) × Int × Int × Int × Int × Int × Int × Int × Int × Int × (Nat → Int) × (Nat → Int) × (Nat → Int) × (Nat → Int) × (Nat → Int) × (Nat → Int) × (Nat → Int) × (Nat → Int) × Int × (Nat → Int) × (Nat → Int) × (Nat → Int) × (Nat → Int) × (Nat → Int) × (Nat → Int) × (Nat → Int) × (Nat → Int) × (Nat → Int) × (Nat → Int) × (Nat → Int) × (Nat → Int)) : va_W := wd_HS_image cA q0 q1 q2 q3 q4 q5 q6 q7 q8 q9 q10 q11 q12 q13 q14 q15 q16 q17 q18 q19 q20 q21 q22 q23 q24 q25 q26 q27 q28 q29 q30 q31 q32 q33 q34 q35 q36 q37 q38 q39 q40 q41 q42 q43 q44 q45 q46 q47 u0 u1 u2 u3 u4 i_hill_children i_hill_parishes i_hill_laws i_hill_inForce i_hill_columns_many i_hill_strengths i_hill_expelled i_hill_trips i_hill_places i_hill_terms i_hill_goals i_hill_orders i_hill_ordered i_hill_columns_heights i_hill_columns_weights o.2.1 o.2.2.1 o.2.2.2.1 o.2.2.2.2.1 o.2.2.2.2.2.1 o.2.2.2.2.2.2.1 o.2.2.2.2.2.2.2.1 o.2.2.2.2.2.2.2.2.1 o.2.2.2.2.2.2.2.2.2.1 o.2.2.2.2.2.2.2.2.2.2.1 o.2.2.2.2.2.2.2.2.2.2.2.1 o.2.2.2.2.2.2.2.2.2.2.2.2.1 o.2.2.2.2.2.2.2.2.2.2.2.2.2.1 o.2.2.2.2.2.2.2.2.2.2.2.2.2.2.1 o.2.2.2.2.2.2.2.2.2.2.2.2.2.2.2.1 o.2.2.2.2.2.2.2.2.2.2.2.2.2.2.2.2.1 o.2.2.2.2.2.2.2.2.2.2.2.2.2.2.2.2.2.1 o.2.2.2.2.2.2.2.2.2.2.2.2.2.2.2.2.2.2.1 o.2.2.2.2.2.2.2.2.2.2.2.2.2.2.2.2.2.2.2.1 o.2.2.2.2.2.2.2.2.2.2.2.2.2.2.2.2.2.2.2.2.1 o.2.2.2.2.2.2.2.2.2.2.2.2.2.2.2.2.2.2.2.2.2.1 o.2.2.2.2.2.2.2.2.2.2.2.2.2.2.2.2.2.2.2.2.2.2.1 o.2.2.2.2.2.2.2.2.2.2.2.2.2.2.2.2.2.2.2.2.2.2.2.1 o.2.2.2.2.2.2.2.2.2.2.2.2.2.2.2.2.2.2.2.2.2.2.2.2.1 o.2.2.2.2.2.2.2.2.2.2.2.2.2.2.2.2.2.2.2.2.2.2.2.2.2.1 o.2.2.2.2.2.2.2.2.2.2.2.2.2.2.2.2.2.2.2.2.2.2.2.2.2.2.1 o.2.2.2.2.2.2.2.2.2.2.2.2.2.2.2.2.2.2.2.2.2.2.2.2.2.2.2.1 o.2.2.2.2.2.2.2.2.2.2.2.2.2.2.2.2.2.2.2.2.2.2.2.2.2.2.2.2.1 o.2.2.2.2.2.2.2.2.2.2.2.2.2.2.2.2.2.2.2.2.2.2.2.2.2.2.2.2.2.1 o.2.2.2.2.2.2.2.2.2.2.2.2.2.2.2.2.2.2.2.2.2.2.2.2.2.2.2.2.2.2.1 o.2.2.2.2.2.2.2.2.2.2.2.2.2.2.2.2.2.2.2.2.2.2.2.2.2.2.2.2.2.2.2.1 o.2.2.2.2.2.2.2.2.2.2.2.2.2.2.2.2.2.2.2.2.2.2.2.2.2.2.2.2.2.2.2.2.1 o.2.2.2.2.2.2.2.2.2.2.2.2.2.2.2.2.2.2.2.2.2.2.2.2.2.2.2.2.2.2.2.2.2.1 o.2.2.2.2.2.2.2.2.2.2.2.2.2.2.2.2.2.2.2.2.2.2.2.2.2.2.2.2.2.2.2.2.2.2
def f_HS_image_9 (i_hill_children : Int) (i_hill_parishes : Int) (i_hill_laws : Int) (i_hill_inForce : Int) (i_hill_columns_many : Int) (i_hill_strengths : Nat → Int) (i_hill_expelled : Nat → Int) (i_hill_trips : Nat → Int) (i_hill_places : Nat → Int) (i_hill_terms : Nat → Int) (i_hill_goals : Nat → Int) (i_hill_orders : Nat → Int) (i_hill_ordered : Nat → Int) (i_hill_columns_heights : Nat → Int) (i_hill_columns_weights : Nat → Int) (i_latestStatus : Int) (i_hill_changes : Int) (i_kept : Nat → Int) (i_refusals : Nat → Int) (i_images_0_children : Int) (i_images_0_parishes : Int) (i_images_0_laws : Int) (i_images_0_inForce : Int) (i_images_1_children : Int) (i_images_1_parishes : Int) (i_images_1_laws : Int) (i_images_1_inForce : Int) (i_images_0_columns_many : Int) (i_images_0_strengths : Nat → Int) (i_images_0_expelled : Nat → Int) (i_images_0_trips : Nat → Int) (i_images_0_places : Nat → Int) (i_images_0_terms : Nat → Int) (i_images_0_goals : Nat → Int) (i_images_0_orders : Nat → Int) (i_images_0_ordered : Nat → Int) (i_images_1_columns_many : Int) (i_images_1_strengths : Nat → Int) (i_images_1_expelled : Nat → Int) (i_images_1_trips : Nat → Int) (i_images_1_places : Nat → Int) (i_images_1_terms : Nat → Int) (i_images_1_goals : Nat → Int) (i_images_1_orders : Nat → Int) (i_images_1_ordered : Nat → Int) (i_images_0_columns_heights : Nat → Int) (i_images_0_columns_weights : Nat → Int) (i_images_1_columns_heights : Nat → Int) (i_images_1_columns_weights : Nat → Int) : Option (Int × Int × Int × (Nat → Int) × (Nat → Int) × Int × Int × Int × Int × Int × Int × Int × Int × Int × (Nat → Int) × (Nat → Int) × (Nat → Int) × (Nat → Int) × (Nat → Int) × (Nat → Int) × (Nat → Int) × (Nat → Int) × Int × (Nat → Int) × (Nat → Int) × (Nat → Int) × (Nat → Int) × (Nat → Int) × (Nat → Int) × (Nat → Int) × (Nat → Int) × (Nat → Int) × (Nat → Int) × (Nat → Int) × (Nat → Int)) :=
  zd3 (f_HS_refuse (-1) i_latestStatus i_refusals) fun v1 v2 a3 =>
  some (v1, v2, i_hill_changes, i_kept, a3, i_images_0_children, i_images_0_parishes, i_images_0_laws, i_images_0_inForce, i_images_1_children, i_images_1_parishes, i_images_1_laws, i_images_1_inForce, i_images_0_columns_many, i_images_0_strengths, i_images_0_expelled, i_images_0_trips, i_images_0_places, i_images_0_terms, i_images_0_goals, i_images_0_orders, i_images_0_ordered, i_images_1_columns_many, i_images_1_strengths, i_images_1_expelled, i_images_1_trips, i_images_1_places, i_images_1_terms, i_images_1_goals, i_images_1_orders, i_images_1_ordered, i_images_0_columns_heights, i_images_0_columns_weights, i_images_1_columns_heights, i_images_1_columns_weights)
def f_HS_image_28 (i_hill_children : Int) (i_hill_parishes : Int) (i_hill_laws : Int) (i_hill_inForce : Int) (i_hill_columns_many : Int) (i_hill_strengths : Nat → Int) (i_hill_expelled : Nat → Int) (i_hill_trips : Nat → Int) (i_hill_places : Nat → Int) (i_hill_terms : Nat → Int) (i_hill_goals : Nat → Int) (i_hill_orders : Nat → Int) (i_hill_ordered : Nat → Int) (i_hill_columns_heights : Nat → Int) (i_hill_columns_weights : Nat → Int) (x1 : Int) (i_latestStatus : Int) (i_hill_changes : Int) (i_kept : Nat → Int) (i_refusals : Nat → Int) (i_images_0_children : Int) (i_images_0_parishes : Int) (i_images_0_laws : Int) (i_images_0_inForce : Int) (i_images_1_children : Int) (i_images_1_parishes : Int) (i_images_1_laws : Int) (i_images_1_inForce : Int) (i_images_0_columns_many : Int) (i_images_0_strengths : Nat → Int) (i_images_0_expelled : Nat → Int) (i_images_0_trips : Nat → Int) (i_images_0_places : Nat → Int) (i_images_0_terms : Nat → Int) (i_images_0_goals : Nat → Int) (i_images_0_orders : Nat → Int) (i_images_0_ordered : Nat → Int) (i_images_1_columns_many : Int) (i_images_1_strengths : Nat → Int) (i_images_1_expelled : Nat → Int) (i_images_1_trips : Nat → Int) (i_images_1_places : Nat → Int) (i_images_1_terms : Nat → Int) (i_images_1_goals : Nat → Int) (i_images_1_orders : Nat → Int) (i_images_1_ordered : Nat → Int) (i_images_0_columns_heights : Nat → Int) (i_images_0_columns_weights : Nat → Int) (i_images_1_columns_heights : Nat → Int) (i_images_1_columns_weights : Nat → Int) : Option (Int × Int × Int × (Nat → Int) × (Nat → Int) × Int × Int × Int × Int × Int × Int × Int × Int × Int × (Nat → Int) × (Nat → Int) × (Nat → Int) × (Nat → Int) × (Nat → Int) × (Nat → Int) × (Nat → Int) × (Nat → Int) × Int × (Nat → Int) × (Nat → Int) × (Nat → Int) × (Nat → Int) × (Nat → Int) × (Nat → Int) × (Nat → Int) × (Nat → Int) × (Nat → Int) × (Nat → Int) × (Nat → Int) × (Nat → Int)) :=
  if ¬ (zi_w 1 = 0 ∨ zi_w 1 = 1) then none else zs 2 i_kept x1 1 fun a1 =>
  zd3 (f_HS_accept 0 i_latestStatus i_hill_changes) fun v2 v3 v4 =>
  some (v2, v3, v4, a1, i_refusals, i_images_0_children, i_images_0_parishes, i_images_0_laws, i_images_0_inForce, i_images_1_children, i_images_1_parishes, i_images_1_laws, i_images_1_inForce, i_images_0_columns_many, i_images_0_strengths, i_images_0_expelled, i_images_0_trips, i_images_0_places, i_images_0_terms, i_images_0_goals, i_images_0_orders, i_images_0_ordered, i_images_1_columns_many, i_images_1_strengths, i_images_1_expelled, i_images_1_trips, i_images_1_places, i_images_1_terms, i_images_1_goals, i_images_1_orders, i_images_1_ordered, i_images_0_columns_heights, i_images_0_columns_weights, i_images_1_columns_heights, i_images_1_columns_weights)
def f_HS_image (x1 : Int) (i_hill_children : Int) (i_hill_parishes : Int) (i_hill_laws : Int) (i_hill_inForce : Int) (i_hill_columns_many : Int) (i_hill_strengths : Nat → Int) (i_hill_expelled : Nat → Int) (i_hill_trips : Nat → Int) (i_hill_places : Nat → Int) (i_hill_terms : Nat → Int) (i_hill_goals : Nat → Int) (i_hill_orders : Nat → Int) (i_hill_ordered : Nat → Int) (i_hill_columns_heights : Nat → Int) (i_hill_columns_weights : Nat → Int) (i_latestStatus : Int) (i_hill_changes : Int) (i_kept : Nat → Int) (i_refusals : Nat → Int) (i_images_0_children : Int) (i_images_0_parishes : Int) (i_images_0_laws : Int) (i_images_0_inForce : Int) (i_images_1_children : Int) (i_images_1_parishes : Int) (i_images_1_laws : Int) (i_images_1_inForce : Int) (i_images_0_columns_many : Int) (i_images_0_strengths : Nat → Int) (i_images_0_expelled : Nat → Int) (i_images_0_trips : Nat → Int) (i_images_0_places : Nat → Int) (i_images_0_terms : Nat → Int) (i_images_0_goals : Nat → Int) (i_images_0_orders : Nat → Int) (i_images_0_ordered : Nat → Int) (i_images_1_columns_many : Int) (i_images_1_strengths : Nat → Int) (i_images_1_expelled : Nat → Int) (i_images_1_trips : Nat → Int) (i_images_1_places : Nat → Int) (i_images_1_terms : Nat → Int) (i_images_1_goals : Nat → Int) (i_images_1_orders : Nat → Int) (i_images_1_ordered : Nat → Int) (i_images_0_columns_heights : Nat → Int) (i_images_0_columns_weights : Nat → Int) (i_images_1_columns_heights : Nat → Int) (i_images_1_columns_weights : Nat → Int) : Option (Int × Int × Int × (Nat → Int) × (Nat → Int) × Int × Int × Int × Int × Int × Int × Int × Int × Int × (Nat → Int) × (Nat → Int) × (Nat → Int) × (Nat → Int) × (Nat → Int) × (Nat → Int) × (Nat → Int) × (Nat → Int) × Int × (Nat → Int) × (Nat → Int) × (Nat → Int) × (Nat → Int) × (Nat → Int) × (Nat → Int) × (Nat → Int) × (Nat → Int) × (Nat → Int) × (Nat → Int) × (Nat → Int) × (Nat → Int)) :=
  if zi_w x1 < 0 then
    f_HS_image_9 i_hill_children i_hill_parishes i_hill_laws i_hill_inForce i_hill_columns_many i_hill_strengths i_hill_expelled i_hill_trips i_hill_places i_hill_terms i_hill_goals i_hill_orders i_hill_ordered i_hill_columns_heights i_hill_columns_weights i_latestStatus i_hill_changes i_kept i_refusals i_images_0_children i_images_0_parishes i_images_0_laws i_images_0_inForce i_images_1_children i_images_1_parishes i_images_1_laws i_images_1_inForce i_images_0_columns_many i_images_0_strengths i_images_0_expelled i_images_0_trips i_images_0_places i_images_0_terms i_images_0_goals i_images_0_orders i_images_0_ordered i_images_1_columns_many i_images_1_strengths i_images_1_expelled i_images_1_trips i_images_1_places i_images_1_terms i_images_1_goals i_images_1_orders i_images_1_ordered i_images_0_columns_heights i_images_0_columns_weights i_images_1_columns_heights i_images_1_columns_weights
  else
    if zi_w x1 < zi_w 2 then
      if zi_w x1 = 0 then
        zd15 (f_Hill_become i_hill_children i_hill_parishes i_hill_laws i_hill_inForce i_hill_columns_many i_hill_strengths i_hill_expelled i_hill_trips i_hill_places i_hill_terms i_hill_goals i_hill_orders i_hill_ordered i_hill_columns_heights i_hill_columns_weights i_images_0_children i_images_0_parishes i_images_0_laws i_images_0_inForce i_images_0_columns_many i_images_0_strengths i_images_0_expelled i_images_0_trips i_images_0_places i_images_0_terms i_images_0_goals i_images_0_orders i_images_0_ordered i_images_0_columns_heights i_images_0_columns_weights) fun v1 v2 v3 v4 v5 a6 a7 a8 a9 a10 a11 a12 a13 a14 a15 =>
        f_HS_image_28 i_hill_children i_hill_parishes i_hill_laws i_hill_inForce i_hill_columns_many i_hill_strengths i_hill_expelled i_hill_trips i_hill_places i_hill_terms i_hill_goals i_hill_orders i_hill_ordered i_hill_columns_heights i_hill_columns_weights x1 i_latestStatus i_hill_changes i_kept i_refusals v1 v2 v3 v4 i_images_1_children i_images_1_parishes i_images_1_laws i_images_1_inForce v5 a6 a7 a8 a9 a10 a11 a12 a13 i_images_1_columns_many i_images_1_strengths i_images_1_expelled i_images_1_trips i_images_1_places i_images_1_terms i_images_1_goals i_images_1_orders i_images_1_ordered a14 a15 i_images_1_columns_heights i_images_1_columns_weights
      else if zi_w x1 = 1 then
        zd15 (f_Hill_become i_hill_children i_hill_parishes i_hill_laws i_hill_inForce i_hill_columns_many i_hill_strengths i_hill_expelled i_hill_trips i_hill_places i_hill_terms i_hill_goals i_hill_orders i_hill_ordered i_hill_columns_heights i_hill_columns_weights i_images_1_children i_images_1_parishes i_images_1_laws i_images_1_inForce i_images_1_columns_many i_images_1_strengths i_images_1_expelled i_images_1_trips i_images_1_places i_images_1_terms i_images_1_goals i_images_1_orders i_images_1_ordered i_images_1_columns_heights i_images_1_columns_weights) fun v16 v17 v18 v19 v20 a21 a22 a23 a24 a25 a26 a27 a28 a29 a30 =>
        f_HS_image_28 i_hill_children i_hill_parishes i_hill_laws i_hill_inForce i_hill_columns_many i_hill_strengths i_hill_expelled i_hill_trips i_hill_places i_hill_terms i_hill_goals i_hill_orders i_hill_ordered i_hill_columns_heights i_hill_columns_weights x1 i_latestStatus i_hill_changes i_kept i_refusals i_images_0_children i_images_0_parishes i_images_0_laws i_images_0_inForce v16 v17 v18 v19 i_images_0_columns_many i_images_0_strengths i_images_0_expelled i_images_0_trips i_images_0_places i_images_0_terms i_images_0_goals i_images_0_orders i_images_0_ordered v20 a21 a22 a23 a24 a25 a26 a27 a28 i_images_0_columns_heights i_images_0_columns_weights a29 a30
      else none
    else
      f_HS_image_9 i_hill_children i_hill_parishes i_hill_laws i_hill_inForce i_hill_columns_many i_hill_strengths i_hill_expelled i_hill_trips i_hill_places i_hill_terms i_hill_goals i_hill_orders i_hill_ordered i_hill_columns_heights i_hill_columns_weights i_latestStatus i_hill_changes i_kept i_refusals i_images_0_children i_images_0_parishes i_images_0_laws i_images_0_inForce i_images_1_children i_images_1_parishes i_images_1_laws i_images_1_inForce i_images_0_columns_many i_images_0_strengths i_images_0_expelled i_images_0_trips i_images_0_places i_images_0_terms i_images_0_goals i_images_0_orders i_images_0_ordered i_images_1_columns_many i_images_1_strengths i_images_1_expelled i_images_1_trips i_images_1_places i_images_1_terms i_images_1_goals i_images_1_orders i_images_1_ordered i_images_0_columns_heights i_images_0_columns_weights i_images_1_columns_heights i_images_1_columns_weights
set_option maxHeartbeats 4000000 in
set_option maxRecDepth 100000 in
theorem c_HS_image (l : Launch) (ev : zEv) (dC : Nat → ClassId) (dI : Nat → Nat → Nat) (cA : Nat → ClassId) (q0 q1 q2 q3 q4 q5 q6 q7 q8 q9 q10 q11 q12 q13 q14 q15 q16 q17 q18 q19 q20 q21 q22 q23 q24 q25 q26 q27 q28 q29 q30 q31 q32 q33 q34 q35 q36 q37 q38 q39 q40 q41 q42 q43 q44 q45 q46 q47 : Nat) (u0 u1 u2 u3 u4 : Int) {x1 : Int} {i_hill_children : Int} {i_hill_parishes : Int} {i_hill_laws : Int} {i_hill_inForce : Int} {i_hill_columns_many : Int} {i_hill_strengths : Nat → Int} {i_hill_expelled : Nat → Int} {i_hill_trips : Nat → Int} {i_hill_places : Nat → Int} {i_hill_terms : Nat → Int} {i_hill_goals : Nat → Int} {i_hill_orders : Nat → Int} {i_hill_ordered : Nat → Int} {i_hill_columns_heights : Nat → Int} {i_hill_columns_weights : Nat → Int} {i_latestStatus : Int} {i_hill_changes : Int} {i_kept : Nat → Int} {i_refusals : Nat → Int} {i_images_0_children : Int} {i_images_0_parishes : Int} {i_images_0_laws : Int} {i_images_0_inForce : Int} {i_images_1_children : Int} {i_images_1_parishes : Int} {i_images_1_laws : Int} {i_images_1_inForce : Int} {i_images_0_columns_many : Int} {i_images_0_strengths : Nat → Int} {i_images_0_expelled : Nat → Int} {i_images_0_trips : Nat → Int} {i_images_0_places : Nat → Int} {i_images_0_terms : Nat → Int} {i_images_0_goals : Nat → Int} {i_images_0_orders : Nat → Int} {i_images_0_ordered : Nat → Int} {i_images_1_columns_many : Int} {i_images_1_strengths : Nat → Int} {i_images_1_expelled : Nat → Int} {i_images_1_trips : Nat → Int} {i_images_1_places : Nat → Int} {i_images_1_terms : Nat → Int} {i_images_1_goals : Nat → Int} {i_images_1_orders : Nat → Int} {i_images_1_ordered : Nat → Int} {i_images_0_columns_heights : Nat → Int} {i_images_0_columns_weights : Nat → Int} {i_images_1_columns_heights : Nat → Int} {i_images_1_columns_weights : Nat → Int} {out : Int × Int × Int × (Nat → Int) × (Nat → Int) × Int × Int × Int × Int × Int × Int × Int × Int × Int × (Nat → Int) × (Nat → Int) × (Nat → Int) × (Nat → Int) × (Nat → Int) × (Nat → Int) × (Nat → Int) × (Nat → Int) × Int × (Nat → Int) × (Nat → Int) × (Nat → Int) × (Nat → Int) × (Nat → Int) × (Nat → Int) × (Nat → Int) × (Nat → Int) × (Nat → Int) × (Nat → Int) × (Nat → Int) × (Nat → Int)} (hf : f_HS_image x1 i_hill_children i_hill_parishes i_hill_laws i_hill_inForce i_hill_columns_many i_hill_strengths i_hill_expelled i_hill_trips i_hill_places i_hill_terms i_hill_goals i_hill_orders i_hill_ordered i_hill_columns_heights i_hill_columns_weights i_latestStatus i_hill_changes i_kept i_refusals i_images_0_children i_images_0_parishes i_images_0_laws i_images_0_inForce i_images_1_children i_images_1_parishes i_images_1_laws i_images_1_inForce i_images_0_columns_many i_images_0_strengths i_images_0_expelled i_images_0_trips i_images_0_places i_images_0_terms i_images_0_goals i_images_0_orders i_images_0_ordered i_images_1_columns_many i_images_1_strengths i_images_1_expelled i_images_1_trips i_images_1_places i_images_1_terms i_images_1_goals i_images_1_orders i_images_1_ordered i_images_0_columns_heights i_images_0_columns_weights i_images_1_columns_heights i_images_1_columns_weights = some out) : xc_I l ev (dC, dI) vwCl (tyl cA) yX10_image w_HS_image rm_HS_image [.ref q0, .int (Int32.ofInt x1)] (wd_HS_image cA q0 q1 q2 q3 q4 q5 q6 q7 q8 q9 q10 q11 q12 q13 q14 q15 q16 q17 q18 q19 q20 q21 q22 q23 q24 q25 q26 q27 q28 q29 q30 q31 q32 q33 q34 q35 q36 q37 q38 q39 q40 q41 q42 q43 q44 q45 q46 q47 u0 u1 u2 u3 u4 i_hill_children i_hill_parishes i_hill_laws i_hill_inForce i_hill_columns_many i_hill_strengths i_hill_expelled i_hill_trips i_hill_places i_hill_terms i_hill_goals i_hill_orders i_hill_ordered i_hill_columns_heights i_hill_columns_weights i_latestStatus i_hill_changes i_kept i_refusals i_images_0_children i_images_0_parishes i_images_0_laws i_images_0_inForce i_images_1_children i_images_1_parishes i_images_1_laws i_images_1_inForce i_images_0_columns_many i_images_0_strengths i_images_0_expelled i_images_0_trips i_images_0_places i_images_0_terms i_images_0_goals i_images_0_orders i_images_0_ordered i_images_1_columns_many i_images_1_strengths i_images_1_expelled i_images_1_trips i_images_1_places i_images_1_terms i_images_1_goals i_images_1_orders i_images_1_ordered i_images_0_columns_heights i_images_0_columns_weights i_images_1_columns_heights i_images_1_columns_weights) (wf_HS_image cA q0 q1 q2 q3 q4 q5 q6 q7 q8 q9 q10 q11 q12 q13 q14 q15 q16 q17 q18 q19 q20 q21 q22 q23 q24 q25 q26 q27 q28 q29 q30 q31 q32 q33 q34 q35 q36 q37 q38 q39 q40 q41 q42 q43 q44 q45 q46 q47 u0 u1 u2 u3 u4 i_hill_children i_hill_parishes i_hill_laws i_hill_inForce i_hill_columns_many i_hill_strengths i_hill_expelled i_hill_trips i_hill_places i_hill_terms i_hill_goals i_hill_orders i_hill_ordered i_hill_columns_heights i_hill_columns_weights out) out.1 := by
  refine xv_startI (cc := cX10_image) (maxL := 2) (rt := .int) (by decide +kernel) rfl (Nat.le_of_ble_eq_true rfl) ?_
  intro p e s m args below meth c A Q H ls hx hb hml hts hown hK hA hP hD hS hl hE hret
  have hown : s.vm.findClass "HillSchool" = some m.cls := hown
  have hz : ∀ w ∈ zall, w.before args s = true := fun w h => hts w (List.mem_cons_of_mem _ h)
  have hl : lv_has ls 2 [(0, .ref q0), (1, .int (Int32.ofInt x1))] := hl
  have b_9 : ∀ (i_latestStatus : Int) (i_hill_changes : Int) (i_kept : Nat → Int) (i_refusals : Nat → Int) (i_images_0_children : Int) (i_images_0_parishes : Int) (i_images_0_laws : Int) (i_images_0_inForce : Int) (i_images_1_children : Int) (i_images_1_parishes : Int) (i_images_1_laws : Int) (i_images_1_inForce : Int) (i_images_0_columns_many : Int) (i_images_0_strengths : Nat → Int) (i_images_0_expelled : Nat → Int) (i_images_0_trips : Nat → Int) (i_images_0_places : Nat → Int) (i_images_0_terms : Nat → Int) (i_images_0_goals : Nat → Int) (i_images_0_orders : Nat → Int) (i_images_0_ordered : Nat → Int) (i_images_1_columns_many : Int) (i_images_1_strengths : Nat → Int) (i_images_1_expelled : Nat → Int) (i_images_1_trips : Nat → Int) (i_images_1_places : Nat → Int) (i_images_1_terms : Nat → Int) (i_images_1_goals : Nat → Int) (i_images_1_orders : Nat → Int) (i_images_1_ordered : Nat → Int) (i_images_0_columns_heights : Nat → Int) (i_images_0_columns_weights : Nat → Int) (i_images_1_columns_heights : Nat → Int) (i_images_1_columns_weights : Nat → Int) (H : Heap) (locs : List Loc) (ls : Array Slot), f_HS_image_9 i_hill_children i_hill_parishes i_hill_laws i_hill_inForce i_hill_columns_many i_hill_strengths i_hill_expelled i_hill_trips i_hill_places i_hill_terms i_hill_goals i_hill_orders i_hill_ordered i_hill_columns_heights i_hill_columns_weights i_latestStatus i_hill_changes i_kept i_refusals i_images_0_children i_images_0_parishes i_images_0_laws i_images_0_inForce i_images_1_children i_images_1_parishes i_images_1_laws i_images_1_inForce i_images_0_columns_many i_images_0_strengths i_images_0_expelled i_images_0_trips i_images_0_places i_images_0_terms i_images_0_goals i_images_0_orders i_images_0_ordered i_images_1_columns_many i_images_1_strengths i_images_1_expelled i_images_1_trips i_images_1_places i_images_1_terms i_images_1_goals i_images_1_orders i_images_1_ordered i_images_0_columns_heights i_images_0_columns_weights i_images_1_columns_heights i_images_1_columns_weights = some out → va_P (dC, dI) vwCl (wd_HS_image cA q0 q1 q2 q3 q4 q5 q6 q7 q8 q9 q10 q11 q12 q13 q14 q15 q16 q17 q18 q19 q20 q21 q22 q23 q24 q25 q26 q27 q28 q29 q30 q31 q32 q33 q34 q35 q36 q37 q38 q39 q40 q41 q42 q43 q44 q45 q46 q47 u0 u1 u2 u3 u4 i_hill_children i_hill_parishes i_hill_laws i_hill_inForce i_hill_columns_many i_hill_strengths i_hill_expelled i_hill_trips i_hill_places i_hill_terms i_hill_goals i_hill_orders i_hill_ordered i_hill_columns_heights i_hill_columns_weights i_latestStatus i_hill_changes i_kept i_refusals i_images_0_children i_images_0_parishes i_images_0_laws i_images_0_inForce i_images_1_children i_images_1_parishes i_images_1_laws i_images_1_inForce i_images_0_columns_many i_images_0_strengths i_images_0_expelled i_images_0_trips i_images_0_places i_images_0_terms i_images_0_goals i_images_0_orders i_images_0_ordered i_images_1_columns_many i_images_1_strengths i_images_1_expelled i_images_1_trips i_images_1_places i_images_1_terms i_images_1_goals i_images_1_orders i_images_1_ordered i_images_0_columns_heights i_images_0_columns_weights i_images_1_columns_heights i_images_1_columns_weights) H → va_D A (wd_HS_image cA q0 q1 q2 q3 q4 q5 q6 q7 q8 q9 q10 q11 q12 q13 q14 q15 q16 q17 q18 q19 q20 q21 q22 q23 q24 q25 q26 q27 q28 q29 q30 q31 q32 q33 q34 q35 q36 q37 q38 q39 q40 q41 q42 q43 q44 q45 q46 q47 u0 u1 u2 u3 u4 i_hill_children i_hill_parishes i_hill_laws i_hill_inForce i_hill_columns_many i_hill_strengths i_hill_expelled i_hill_trips i_hill_places i_hill_terms i_hill_goals i_hill_orders i_hill_ordered i_hill_columns_heights i_hill_columns_weights i_latestStatus i_hill_changes i_kept i_refusals i_images_0_children i_images_0_parishes i_images_0_laws i_images_0_inForce i_images_1_children i_images_1_parishes i_images_1_laws i_images_1_inForce i_images_0_columns_many i_images_0_strengths i_images_0_expelled i_images_0_trips i_images_0_places i_images_0_terms i_images_0_goals i_images_0_orders i_images_0_ordered i_images_1_columns_many i_images_1_strengths i_images_1_expelled i_images_1_trips i_images_1_places i_images_1_terms i_images_1_goals i_images_1_orders i_images_1_ordered i_images_0_columns_heights i_images_0_columns_weights i_images_1_columns_heights i_images_1_columns_weights) → va_S A s.heap H locs → lv_has ls 2 [(0, .ref q0)] → W p l e rm_HS_image s m args below meth c H locs 0 0 Q (F0 m 9 ls []) := by
    intro i_latestStatus i_hill_changes i_kept i_refusals i_images_0_children i_images_0_parishes i_images_0_laws i_images_0_inForce i_images_1_children i_images_1_parishes i_images_1_laws i_images_1_inForce i_images_0_columns_many i_images_0_strengths i_images_0_expelled i_images_0_trips i_images_0_places i_images_0_terms i_images_0_goals i_images_0_orders i_images_0_ordered i_images_1_columns_many i_images_1_strengths i_images_1_expelled i_images_1_trips i_images_1_places i_images_1_terms i_images_1_goals i_images_1_orders i_images_1_ordered i_images_0_columns_heights i_images_0_columns_weights i_images_1_columns_heights i_images_1_columns_weights H locs ls hf hP hD hS hl
    unfold f_HS_image_9 at hf
    refine lv_aload_n hx hb dX10_image_9 rfl (lv_at hl 0 rfl) ?_
    refine lv_iconst (v := Int32.ofInt (-1)) hx hb dX10_image_10 rfl ?_
    refine xe_d3 hf (fun v1 v2 a3 hg hf => ?_)
    have hC : ([0, 4] : List Nat).map (fun i => (wd_HS_image cA q0 q1 q2 q3 q4 q5 q6 q7 q8 q9 q10 q11 q12 q13 q14 q15 q16 q17 q18 q19 q20 q21 q22 q23 q24 q25 q26 q27 q28 q29 q30 q31 q32 q33 q34 q35 q36 q37 q38 q39 q40 q41 q42 q43 q44 q45 q46 q47 u0 u1 u2 u3 u4 i_hill_children i_hill_parishes i_hill_laws i_hill_inForce i_hill_columns_many i_hill_strengths i_hill_expelled i_hill_trips i_hill_places i_hill_terms i_hill_goals i_hill_orders i_hill_ordered i_hill_columns_heights i_hill_columns_weights i_latestStatus i_hill_changes i_kept i_refusals i_images_0_children i_images_0_parishes i_images_0_laws i_images_0_inForce i_images_1_children i_images_1_parishes i_images_1_laws i_images_1_inForce i_images_0_columns_many i_images_0_strengths i_images_0_expelled i_images_0_trips i_images_0_places i_images_0_terms i_images_0_goals i_images_0_orders i_images_0_ordered i_images_1_columns_many i_images_1_strengths i_images_1_expelled i_images_1_trips i_images_1_places i_images_1_terms i_images_1_goals i_images_1_orders i_images_1_ordered i_images_0_columns_heights i_images_0_columns_weights i_images_1_columns_heights i_images_1_columns_weights)[i]?) = (wd_HS_refuse cA q0 q1 q2 q3 q4 q5 q6 q7 q8 q9 q10 q11 q12 u0 u1 u2 i_latestStatus i_refusals).map some := rfl
    refine xv_afterI (ws' := (wd_HS_image cA q0 q1 q2 q3 q4 q5 q6 q7 q8 q9 q10 q11 q12 q13 q14 q15 q16 q17 q18 q19 q20 q21 q22 q23 q24 q25 q26 q27 q28 q29 q30 q31 q32 q33 q34 q35 q36 q37 q38 q39 q40 q41 q42 q43 q44 q45 q46 q47 u0 u1 u2 u3 u4 i_hill_children i_hill_parishes i_hill_laws i_hill_inForce i_hill_columns_many i_hill_strengths i_hill_expelled i_hill_trips i_hill_places i_hill_terms i_hill_goals i_hill_orders i_hill_ordered i_hill_columns_heights i_hill_columns_weights v2 i_hill_changes i_kept a3 i_images_0_children i_images_0_parishes i_images_0_laws i_images_0_inForce i_images_1_children i_images_1_parishes i_images_1_laws i_images_1_inForce i_images_0_columns_many i_images_0_strengths i_images_0_expelled i_images_0_trips i_images_0_places i_images_0_terms i_images_0_goals i_images_0_orders i_images_0_ordered i_images_1_columns_many i_images_1_strengths i_images_1_expelled i_images_1_trips i_images_1_places i_images_1_terms i_images_1_goals i_images_1_orders i_images_1_ordered i_images_0_columns_heights i_images_0_columns_weights i_images_1_columns_heights i_images_1_columns_weights)) (isC := [0, 4]) (ps := [some 0, none, none, none, some 1, none, none, none, none, none, none, none, none, none, none, none, none, none, none, none, none, none, none, none, none, none, none, none, none, none, none, none, none, none, none, none, none, none, none, none]) (va_runV (As := [.int (Int32.ofInt (-1))]) (rest := []) ⟨hx, hb, hml, hown, hts⟩ (c_HS_refuse l ev dC dI cA q0 q1 q2 q3 q4 q5 q6 q7 q8 q9 q10 q11 q12 u0 u1 u2 hg H.size) (cwV 1 hts (zgV zw_534 zw_536 zw_0 zw_104 zw_537) rfl rfl rfl hd_HS_refuse ⟨Nat.le_of_ble_eq_true rfl, Nat.le_of_ble_eq_true rfl⟩) (xv_preV (T := TX10) (N := 16) hE hA hS hK hP hD (isC := [0, 4]) (by decide +kernel) hC (q0 := 0) (ci := 10) rfl rfl) rfl rfl hl.1 rfl (lv_room (Nat.le_of_ble_eq_true rfl)) dX10_image_11 ⟨Nat.le_refl _, Nat.le_refl _⟩) hP hD hS hA (by decide +kernel) rfl hC rfl rfl (fun H locs hP hD hS => ?_)
    obtain rfl := Option.some.inj hf
    exact hret _ _ _ _ rfl dX10_image_14 hP hD hS
  have b_28 : ∀ (x1 : Int) (i_latestStatus : Int) (i_hill_changes : Int) (i_kept : Nat → Int) (i_refusals : Nat → Int) (i_images_0_children : Int) (i_images_0_parishes : Int) (i_images_0_laws : Int) (i_images_0_inForce : Int) (i_images_1_children : Int) (i_images_1_parishes : Int) (i_images_1_laws : Int) (i_images_1_inForce : Int) (i_images_0_columns_many : Int) (i_images_0_strengths : Nat → Int) (i_images_0_expelled : Nat → Int) (i_images_0_trips : Nat → Int) (i_images_0_places : Nat → Int) (i_images_0_terms : Nat → Int) (i_images_0_goals : Nat → Int) (i_images_0_orders : Nat → Int) (i_images_0_ordered : Nat → Int) (i_images_1_columns_many : Int) (i_images_1_strengths : Nat → Int) (i_images_1_expelled : Nat → Int) (i_images_1_trips : Nat → Int) (i_images_1_places : Nat → Int) (i_images_1_terms : Nat → Int) (i_images_1_goals : Nat → Int) (i_images_1_orders : Nat → Int) (i_images_1_ordered : Nat → Int) (i_images_0_columns_heights : Nat → Int) (i_images_0_columns_weights : Nat → Int) (i_images_1_columns_heights : Nat → Int) (i_images_1_columns_weights : Nat → Int) (H : Heap) (locs : List Loc) (ls : Array Slot), f_HS_image_28 i_hill_children i_hill_parishes i_hill_laws i_hill_inForce i_hill_columns_many i_hill_strengths i_hill_expelled i_hill_trips i_hill_places i_hill_terms i_hill_goals i_hill_orders i_hill_ordered i_hill_columns_heights i_hill_columns_weights x1 i_latestStatus i_hill_changes i_kept i_refusals i_images_0_children i_images_0_parishes i_images_0_laws i_images_0_inForce i_images_1_children i_images_1_parishes i_images_1_laws i_images_1_inForce i_images_0_columns_many i_images_0_strengths i_images_0_expelled i_images_0_trips i_images_0_places i_images_0_terms i_images_0_goals i_images_0_orders i_images_0_ordered i_images_1_columns_many i_images_1_strengths i_images_1_expelled i_images_1_trips i_images_1_places i_images_1_terms i_images_1_goals i_images_1_orders i_images_1_ordered i_images_0_columns_heights i_images_0_columns_weights i_images_1_columns_heights i_images_1_columns_weights = some out → va_P (dC, dI) vwCl (wd_HS_image cA q0 q1 q2 q3 q4 q5 q6 q7 q8 q9 q10 q11 q12 q13 q14 q15 q16 q17 q18 q19 q20 q21 q22 q23 q24 q25 q26 q27 q28 q29 q30 q31 q32 q33 q34 q35 q36 q37 q38 q39 q40 q41 q42 q43 q44 q45 q46 q47 u0 u1 u2 u3 u4 i_hill_children i_hill_parishes i_hill_laws i_hill_inForce i_hill_columns_many i_hill_strengths i_hill_expelled i_hill_trips i_hill_places i_hill_terms i_hill_goals i_hill_orders i_hill_ordered i_hill_columns_heights i_hill_columns_weights i_latestStatus i_hill_changes i_kept i_refusals i_images_0_children i_images_0_parishes i_images_0_laws i_images_0_inForce i_images_1_children i_images_1_parishes i_images_1_laws i_images_1_inForce i_images_0_columns_many i_images_0_strengths i_images_0_expelled i_images_0_trips i_images_0_places i_images_0_terms i_images_0_goals i_images_0_orders i_images_0_ordered i_images_1_columns_many i_images_1_strengths i_images_1_expelled i_images_1_trips i_images_1_places i_images_1_terms i_images_1_goals i_images_1_orders i_images_1_ordered i_images_0_columns_heights i_images_0_columns_weights i_images_1_columns_heights i_images_1_columns_weights) H → va_D A (wd_HS_image cA q0 q1 q2 q3 q4 q5 q6 q7 q8 q9 q10 q11 q12 q13 q14 q15 q16 q17 q18 q19 q20 q21 q22 q23 q24 q25 q26 q27 q28 q29 q30 q31 q32 q33 q34 q35 q36 q37 q38 q39 q40 q41 q42 q43 q44 q45 q46 q47 u0 u1 u2 u3 u4 i_hill_children i_hill_parishes i_hill_laws i_hill_inForce i_hill_columns_many i_hill_strengths i_hill_expelled i_hill_trips i_hill_places i_hill_terms i_hill_goals i_hill_orders i_hill_ordered i_hill_columns_heights i_hill_columns_weights i_latestStatus i_hill_changes i_kept i_refusals i_images_0_children i_images_0_parishes i_images_0_laws i_images_0_inForce i_images_1_children i_images_1_parishes i_images_1_laws i_images_1_inForce i_images_0_columns_many i_images_0_strengths i_images_0_expelled i_images_0_trips i_images_0_places i_images_0_terms i_images_0_goals i_images_0_orders i_images_0_ordered i_images_1_columns_many i_images_1_strengths i_images_1_expelled i_images_1_trips i_images_1_places i_images_1_terms i_images_1_goals i_images_1_orders i_images_1_ordered i_images_0_columns_heights i_images_0_columns_weights i_images_1_columns_heights i_images_1_columns_weights) → va_S A s.heap H locs → lv_has ls 2 [(0, .ref q0), (1, .int (Int32.ofInt x1))] → W p l e rm_HS_image s m args below meth c H locs 0 0 Q (F0 m 28 ls []) := by
    intro x1 i_latestStatus i_hill_changes i_kept i_refusals i_images_0_children i_images_0_parishes i_images_0_laws i_images_0_inForce i_images_1_children i_images_1_parishes i_images_1_laws i_images_1_inForce i_images_0_columns_many i_images_0_strengths i_images_0_expelled i_images_0_trips i_images_0_places i_images_0_terms i_images_0_goals i_images_0_orders i_images_0_ordered i_images_1_columns_many i_images_1_strengths i_images_1_expelled i_images_1_trips i_images_1_places i_images_1_terms i_images_1_goals i_images_1_orders i_images_1_ordered i_images_0_columns_heights i_images_0_columns_weights i_images_1_columns_heights i_images_1_columns_weights H locs ls hf hP hD hS hl
    unfold f_HS_image_28 at hf
    refine lv_aload_n hx hb dX10_image_28 rfl (lv_at hl 0 rfl) ?_
    refine va_get (D := (dC, dI)) (ci := 10) (v := .ref q3) (C := RX10) (T := TX10) (N := 16) hx hb hz zi_X10 hown hK hP 0 rfl rfl 2 (by decide) (hz _ zw_479) (fun _ h9 => h9) rfl dX10_image_29 ?_
    refine lv_iload_n hx hb dX10_image_32 rfl (lv_at hl 1 rfl) ?_
    refine lv_iconst (v := Int32.ofInt 1) hx hb dX10_image_33 rfl ?_
    refine xi_zast hx hb hK hP hD hS 3 1 rfl rfl dX10_image_34 hf (fun a1 H locs hP hD hS hf => ?_)
    have hP : va_P (dC, dI) vwCl (wd_HS_image cA q0 q1 q2 q3 q4 q5 q6 q7 q8 q9 q10 q11 q12 q13 q14 q15 q16 q17 q18 q19 q20 q21 q22 q23 q24 q25 q26 q27 q28 q29 q30 q31 q32 q33 q34 q35 q36 q37 q38 q39 q40 q41 q42 q43 q44 q45 q46 q47 u0 u1 u2 u3 u4 i_hill_children i_hill_parishes i_hill_laws i_hill_inForce i_hill_columns_many i_hill_strengths i_hill_expelled i_hill_trips i_hill_places i_hill_terms i_hill_goals i_hill_orders i_hill_ordered i_hill_columns_heights i_hill_columns_weights i_latestStatus i_hill_changes a1 i_refusals i_images_0_children i_images_0_parishes i_images_0_laws i_images_0_inForce i_images_1_children i_images_1_parishes i_images_1_laws i_images_1_inForce i_images_0_columns_many i_images_0_strengths i_images_0_expelled i_images_0_trips i_images_0_places i_images_0_terms i_images_0_goals i_images_0_orders i_images_0_ordered i_images_1_columns_many i_images_1_strengths i_images_1_expelled i_images_1_trips i_images_1_places i_images_1_terms i_images_1_goals i_images_1_orders i_images_1_ordered i_images_0_columns_heights i_images_0_columns_weights i_images_1_columns_heights i_images_1_columns_weights) H := hP
    have hD : va_D A (wd_HS_image cA q0 q1 q2 q3 q4 q5 q6 q7 q8 q9 q10 q11 q12 q13 q14 q15 q16 q17 q18 q19 q20 q21 q22 q23 q24 q25 q26 q27 q28 q29 q30 q31 q32 q33 q34 q35 q36 q37 q38 q39 q40 q41 q42 q43 q44 q45 q46 q47 u0 u1 u2 u3 u4 i_hill_children i_hill_parishes i_hill_laws i_hill_inForce i_hill_columns_many i_hill_strengths i_hill_expelled i_hill_trips i_hill_places i_hill_terms i_hill_goals i_hill_orders i_hill_ordered i_hill_columns_heights i_hill_columns_weights i_latestStatus i_hill_changes a1 i_refusals i_images_0_children i_images_0_parishes i_images_0_laws i_images_0_inForce i_images_1_children i_images_1_parishes i_images_1_laws i_images_1_inForce i_images_0_columns_many i_images_0_strengths i_images_0_expelled i_images_0_trips i_images_0_places i_images_0_terms i_images_0_goals i_images_0_orders i_images_0_ordered i_images_1_columns_many i_images_1_strengths i_images_1_expelled i_images_1_trips i_images_1_places i_images_1_terms i_images_1_goals i_images_1_orders i_images_1_ordered i_images_0_columns_heights i_images_0_columns_weights i_images_1_columns_heights i_images_1_columns_weights) := hD
    refine lv_aload_n hx hb dX10_image_35 rfl (lv_at hl 0 rfl) ?_
    refine lv_iconst (v := Int32.ofInt 0) hx hb dX10_image_36 rfl ?_
    refine xe_d3 hf (fun v2 v3 v4 hg hf => ?_)
    have hC : ([0, 1] : List Nat).map (fun i => (wd_HS_image cA q0 q1 q2 q3 q4 q5 q6 q7 q8 q9 q10 q11 q12 q13 q14 q15 q16 q17 q18 q19 q20 q21 q22 q23 q24 q25 q26 q27 q28 q29 q30 q31 q32 q33 q34 q35 q36 q37 q38 q39 q40 q41 q42 q43 q44 q45 q46 q47 u0 u1 u2 u3 u4 i_hill_children i_hill_parishes i_hill_laws i_hill_inForce i_hill_columns_many i_hill_strengths i_hill_expelled i_hill_trips i_hill_places i_hill_terms i_hill_goals i_hill_orders i_hill_ordered i_hill_columns_heights i_hill_columns_weights i_latestStatus i_hill_changes a1 i_refusals i_images_0_children i_images_0_parishes i_images_0_laws i_images_0_inForce i_images_1_children i_images_1_parishes i_images_1_laws i_images_1_inForce i_images_0_columns_many i_images_0_strengths i_images_0_expelled i_images_0_trips i_images_0_places i_images_0_terms i_images_0_goals i_images_0_orders i_images_0_ordered i_images_1_columns_many i_images_1_strengths i_images_1_expelled i_images_1_trips i_images_1_places i_images_1_terms i_images_1_goals i_images_1_orders i_images_1_ordered i_images_0_columns_heights i_images_0_columns_weights i_images_1_columns_heights i_images_1_columns_weights)[i]?) = (wd_HS_accept cA q0 q1 q2 q3 q4 q5 q6 q7 q8 q9 q10 q11 q12 q13 q14 q15 q16 q17 q18 q19 q20 q21 u0 u1 u2 i_hill_children i_hill_parishes i_hill_laws i_hill_inForce i_latestStatus i_hill_changes).map some := rfl
    refine xv_afterI (ws' := (wd_HS_image cA q0 q1 q2 q3 q4 q5 q6 q7 q8 q9 q10 q11 q12 q13 q14 q15 q16 q17 q18 q19 q20 q21 q22 q23 q24 q25 q26 q27 q28 q29 q30 q31 q32 q33 q34 q35 q36 q37 q38 q39 q40 q41 q42 q43 q44 q45 q46 q47 u0 u1 u2 u3 u4 i_hill_children i_hill_parishes i_hill_laws i_hill_inForce i_hill_columns_many i_hill_strengths i_hill_expelled i_hill_trips i_hill_places i_hill_terms i_hill_goals i_hill_orders i_hill_ordered i_hill_columns_heights i_hill_columns_weights v3 v4 a1 i_refusals i_images_0_children i_images_0_parishes i_images_0_laws i_images_0_inForce i_images_1_children i_images_1_parishes i_images_1_laws i_images_1_inForce i_images_0_columns_many i_images_0_strengths i_images_0_expelled i_images_0_trips i_images_0_places i_images_0_terms i_images_0_goals i_images_0_orders i_images_0_ordered i_images_1_columns_many i_images_1_strengths i_images_1_expelled i_images_1_trips i_images_1_places i_images_1_terms i_images_1_goals i_images_1_orders i_images_1_ordered i_images_0_columns_heights i_images_0_columns_weights i_images_1_columns_heights i_images_1_columns_weights)) (isC := [0, 1]) (ps := [some 0, some 1, none, none, none, none, none, none, none, none, none, none, none, none, none, none, none, none, none, none, none, none, none, none, none, none, none, none, none, none, none, none, none, none, none, none, none, none, none, none]) (va_runV (As := [.int (Int32.ofInt 0)]) (rest := []) ⟨hx, hb, hml, hown, hts⟩ (c_HS_accept l ev dC dI cA q0 q1 q2 q3 q4 q5 q6 q7 q8 q9 q10 q11 q12 q13 q14 q15 q16 q17 q18 q19 q20 q21 u0 u1 u2 i_hill_children i_hill_parishes i_hill_laws i_hill_inForce hg H.size) (cwV 1 hts (zgV zw_538 zw_540 zw_1 zw_104 zw_541) rfl rfl rfl hd_HS_accept ⟨Nat.le_of_ble_eq_true rfl, Nat.le_of_ble_eq_true rfl⟩) (xv_preV (T := TX10) (N := 16) hE hA hS hK hP hD (isC := [0, 1]) (by decide +kernel) hC (q0 := 0) (ci := 10) rfl rfl) rfl rfl hl.1 rfl (lv_room (Nat.le_of_ble_eq_true rfl)) dX10_image_37 ⟨Nat.le_refl _, Nat.le_refl _⟩) hP hD hS hA (by decide +kernel) rfl hC rfl rfl (fun H locs hP hD hS => ?_)
    obtain rfl := Option.some.inj hf
    exact hret _ _ _ _ rfl dX10_image_40 hP hD hS
  unfold f_HS_image at hf
  refine lv_iload_n hx hb dX10_image_0 rfl (lv_at hl 1 rfl) ?_
  refine xi_if_lt (tgt := 9) hx hb dX10_image_1 (by decide) hf (fun hf => ?_) (fun hf => ?_)
  · exact b_9  _ _ _ _ _ _ _ _ _ _ _ _ _ _ _ _ _ _ _ _ _ _ _ _ _ _ _ _ _ _ _ _ _ _ _ _ _ hf hP hD hS (lv_sub hl [0] rfl)
  · refine lv_iload_n hx hb dX10_image_4 rfl (lv_at hl 1 rfl) ?_
    refine lv_iconst (v := Int32.ofInt 2) hx hb dX10_image_5 rfl ?_
    refine xi_icmp_lt (tgt := 15) hx hb dX10_image_6 (by decide) hf (fun hf => ?_) (fun hf => ?_)
    · refine lv_aload_n hx hb dX10_image_15 rfl (lv_at hl 0 rfl) ?_
      refine va_get (D := (dC, dI)) (ci := 10) (v := .ref q2) (C := RX10) (T := TX10) (N := 16) hx hb hz zi_X10 hown hK hP 0 rfl rfl 1 (by decide) (hz _ zw_478) (fun _ h9 => h9) rfl dX10_image_16 ?_
      refine lv_iload_n hx hb dX10_image_19 rfl (lv_at hl 1 rfl) ?_
      refine xz_if hf (fun hc hf => ?_) (fun hn0 hf => ?_)
      · refine xi_aald hx hb hK hP 2 3 rfl rfl (j := 0) hc (by decide) rfl dX10_image_20 ?_
        refine lv_aload_n hx hb dX10_image_21 rfl (lv_at hl 0 rfl) ?_
        refine va_get (D := (dC, dI)) (ci := 10) (v := .ref q1) (C := RX10) (T := TX10) (N := 16) hx hb hz zi_X10 hown hK hP 0 rfl rfl 0 (by decide) (hz _ zw_477) (fun _ h9 => h9) rfl dX10_image_22 ?_
        refine xe_d15 hf (fun v1 v2 v3 v4 v5 a6 a7 a8 a9 a10 a11 a12 a13 a14 a15 hg hf => ?_)
        have hC : ([14, 1, 18, 19, 20, 21, 22, 23, 24, 25, 26, 5, 6, 7, 8, 9, 10, 11, 12, 13, 36, 37, 16, 17] : List Nat).map (fun i => (wd_HS_image cA q0 q1 q2 q3 q4 q5 q6 q7 q8 q9 q10 q11 q12 q13 q14 q15 q16 q17 q18 q19 q20 q21 q22 q23 q24 q25 q26 q27 q28 q29 q30 q31 q32 q33 q34 q35 q36 q37 q38 q39 q40 q41 q42 q43 q44 q45 q46 q47 u0 u1 u2 u3 u4 i_hill_children i_hill_parishes i_hill_laws i_hill_inForce i_hill_columns_many i_hill_strengths i_hill_expelled i_hill_trips i_hill_places i_hill_terms i_hill_goals i_hill_orders i_hill_ordered i_hill_columns_heights i_hill_columns_weights i_latestStatus i_hill_changes i_kept i_refusals i_images_0_children i_images_0_parishes i_images_0_laws i_images_0_inForce i_images_1_children i_images_1_parishes i_images_1_laws i_images_1_inForce i_images_0_columns_many i_images_0_strengths i_images_0_expelled i_images_0_trips i_images_0_places i_images_0_terms i_images_0_goals i_images_0_orders i_images_0_ordered i_images_1_columns_many i_images_1_strengths i_images_1_expelled i_images_1_trips i_images_1_places i_images_1_terms i_images_1_goals i_images_1_orders i_images_1_ordered i_images_0_columns_heights i_images_0_columns_weights i_images_1_columns_heights i_images_1_columns_weights)[i]?) = (wd_Hill_become cA q22 q26 q27 q28 q29 q30 q31 q32 q33 q34 q1 q13 q14 q15 q16 q17 q18 q19 q20 q21 q44 q45 q24 q25 u3 i_hill_changes i_hill_children i_hill_parishes i_hill_laws i_hill_inForce i_hill_columns_many i_hill_strengths i_hill_expelled i_hill_trips i_hill_places i_hill_terms i_hill_goals i_hill_orders i_hill_ordered i_hill_columns_heights i_hill_columns_weights i_images_0_children i_images_0_parishes i_images_0_laws i_images_0_inForce i_images_0_columns_many i_images_0_strengths i_images_0_expelled i_images_0_trips i_images_0_places i_images_0_terms i_images_0_goals i_images_0_orders i_images_0_ordered i_images_0_columns_heights i_images_0_columns_weights).map some := rfl
        refine xv_afterV (ws' := (wd_HS_image cA q0 q1 q2 q3 q4 q5 q6 q7 q8 q9 q10 q11 q12 q13 q14 q15 q16 q17 q18 q19 q20 q21 q22 q23 q24 q25 q26 q27 q28 q29 q30 q31 q32 q33 q34 q35 q36 q37 q38 q39 q40 q41 q42 q43 q44 q45 q46 q47 u0 u1 u2 u3 u4 i_hill_children i_hill_parishes i_hill_laws i_hill_inForce i_hill_columns_many i_hill_strengths i_hill_expelled i_hill_trips i_hill_places i_hill_terms i_hill_goals i_hill_orders i_hill_ordered i_hill_columns_heights i_hill_columns_weights i_latestStatus i_hill_changes i_kept i_refusals v1 v2 v3 v4 i_images_1_children i_images_1_parishes i_images_1_laws i_images_1_inForce v5 a6 a7 a8 a9 a10 a11 a12 a13 i_images_1_columns_many i_images_1_strengths i_images_1_expelled i_images_1_trips i_images_1_places i_images_1_terms i_images_1_goals i_images_1_orders i_images_1_ordered a14 a15 i_images_1_columns_heights i_images_1_columns_weights)) (isC := [14, 1, 18, 19, 20, 21, 22, 23, 24, 25, 26, 5, 6, 7, 8, 9, 10, 11, 12, 13, 36, 37, 16, 17]) (ps := [none, some 1, none, none, none, some 11, some 12, some 13, some 14, some 15, some 16, some 17, some 18, some 19, some 0, none, some 22, some 23, some 2, some 3, some 4, some 5, some 6, some 7, some 8, some 9, some 10, none, none, none, none, none, none, none, none, none, some 20, some 21, none, none]) (va_runV (As := [.ref q1]) (rest := []) ⟨hx, hb, hml, hown, hts⟩ (c_Hill_become l ev dC dI cA q22 q26 q27 q28 q29 q30 q31 q32 q33 q34 q1 q13 q14 q15 q16 q17 q18 q19 q20 q21 q44 q45 q24 q25 u3 i_hill_changes hg H.size) (cwV 1 hts (zgV zw_1132 zw_1133 zw_1134 zw_105 zw_1135) rfl rfl rfl hd_Hill_become ⟨Nat.le_of_ble_eq_true rfl, Nat.le_of_ble_eq_true rfl⟩) (xv_preV (T := TX2) (N := 14) hE hA hS hK hP hD (isC := [14, 1, 18, 19, 20, 21, 22, 23, 24, 25, 26, 5, 6, 7, 8, 9, 10, 11, 12, 13, 36, 37, 16, 17]) (by decide +kernel) hC (q0 := 14) (ci := 2) rfl rfl) rfl rfl hl.1 rfl (lv_room (Nat.le_of_ble_eq_true rfl)) dX10_image_25 ⟨Nat.le_refl _, Nat.le_refl _⟩) hP hD hS hA (by decide +kernel) rfl hC rfl rfl (fun H locs hP hD hS => ?_)
        exact b_28  _ _ _ _ _ _ _ _ _ _ _ _ _ _ _ _ _ _ _ _ _ _ _ _ _ _ _ _ _ _ _ _ _ _ _ _ _ _ hf hP hD hS (lv_sub hl [0, 1] rfl)
      refine xz_if hf (fun hc hf => ?_) (fun hn1 hf => ?_)
      · refine xi_aald hx hb hK hP 2 3 rfl rfl (j := 1) hc (by decide) rfl dX10_image_20 ?_
        refine lv_aload_n hx hb dX10_image_21 rfl (lv_at hl 0 rfl) ?_
        refine va_get (D := (dC, dI)) (ci := 10) (v := .ref q1) (C := RX10) (T := TX10) (N := 16) hx hb hz zi_X10 hown hK hP 0 rfl rfl 0 (by decide) (hz _ zw_477) (fun _ h9 => h9) rfl dX10_image_22 ?_
        refine xe_d15 hf (fun v16 v17 v18 v19 v20 a21 a22 a23 a24 a25 a26 a27 a28 a29 a30 hg hf => ?_)
        have hC : ([15, 1, 27, 28, 29, 30, 31, 32, 33, 34, 35, 5, 6, 7, 8, 9, 10, 11, 12, 13, 38, 39, 16, 17] : List Nat).map (fun i => (wd_HS_image cA q0 q1 q2 q3 q4 q5 q6 q7 q8 q9 q10 q11 q12 q13 q14 q15 q16 q17 q18 q19 q20 q21 q22 q23 q24 q25 q26 q27 q28 q29 q30 q31 q32 q33 q34 q35 q36 q37 q38 q39 q40 q41 q42 q43 q44 q45 q46 q47 u0 u1 u2 u3 u4 i_hill_children i_hill_parishes i_hill_laws i_hill_inForce i_hill_columns_many i_hill_strengths i_hill_expelled i_hill_trips i_hill_places i_hill_terms i_hill_goals i_hill_orders i_hill_ordered i_hill_columns_heights i_hill_columns_weights i_latestStatus i_hill_changes i_kept i_refusals i_images_0_children i_images_0_parishes i_images_0_laws i_images_0_inForce i_images_1_children i_images_1_parishes i_images_1_laws i_images_1_inForce i_images_0_columns_many i_images_0_strengths i_images_0_expelled i_images_0_trips i_images_0_places i_images_0_terms i_images_0_goals i_images_0_orders i_images_0_ordered i_images_1_columns_many i_images_1_strengths i_images_1_expelled i_images_1_trips i_images_1_places i_images_1_terms i_images_1_goals i_images_1_orders i_images_1_ordered i_images_0_columns_heights i_images_0_columns_weights i_images_1_columns_heights i_images_1_columns_weights)[i]?) = (wd_Hill_become cA q23 q35 q36 q37 q38 q39 q40 q41 q42 q43 q1 q13 q14 q15 q16 q17 q18 q19 q20 q21 q46 q47 q24 q25 u4 i_hill_changes i_hill_children i_hill_parishes i_hill_laws i_hill_inForce i_hill_columns_many i_hill_strengths i_hill_expelled i_hill_trips i_hill_places i_hill_terms i_hill_goals i_hill_orders i_hill_ordered i_hill_columns_heights i_hill_columns_weights i_images_1_children i_images_1_parishes i_images_1_laws i_images_1_inForce i_images_1_columns_many i_images_1_strengths i_images_1_expelled i_images_1_trips i_images_1_places i_images_1_terms i_images_1_goals i_images_1_orders i_images_1_ordered i_images_1_columns_heights i_images_1_columns_weights).map some := rfl
        refine xv_afterV (ws' := (wd_HS_image cA q0 q1 q2 q3 q4 q5 q6 q7 q8 q9 q10 q11 q12 q13 q14 q15 q16 q17 q18 q19 q20 q21 q22 q23 q24 q25 q26 q27 q28 q29 q30 q31 q32 q33 q34 q35 q36 q37 q38 q39 q40 q41 q42 q43 q44 q45 q46 q47 u0 u1 u2 u3 u4 i_hill_children i_hill_parishes i_hill_laws i_hill_inForce i_hill_columns_many i_hill_strengths i_hill_expelled i_hill_trips i_hill_places i_hill_terms i_hill_goals i_hill_orders i_hill_ordered i_hill_columns_heights i_hill_columns_weights i_latestStatus i_hill_changes i_kept i_refusals i_images_0_children i_images_0_parishes i_images_0_laws i_images_0_inForce v16 v17 v18 v19 i_images_0_columns_many i_images_0_strengths i_images_0_expelled i_images_0_trips i_images_0_places i_images_0_terms i_images_0_goals i_images_0_orders i_images_0_ordered v20 a21 a22 a23 a24 a25 a26 a27 a28 i_images_0_columns_heights i_images_0_columns_weights a29 a30)) (isC := [15, 1, 27, 28, 29, 30, 31, 32, 33, 34, 35, 5, 6, 7, 8, 9, 10, 11, 12, 13, 38, 39, 16, 17]) (ps := [none, some 1, none, none, none, some 11, some 12, some 13, some 14, some 15, some 16, some 17, some 18, some 19, none, some 0, some 22, some 23, none, none, none, none, none, none, none, none, none, some 2, some 3, some 4, some 5, some 6, some 7, some 8, some 9, some 10, none, none, some 20, some 21]) (va_runV (As := [.ref q1]) (rest := []) ⟨hx, hb, hml, hown, hts⟩ (c_Hill_become l ev dC dI cA q23 q35 q36 q37 q38 q39 q40 q41 q42 q43 q1 q13 q14 q15 q16 q17 q18 q19 q20 q21 q46 q47 q24 q25 u4 i_hill_changes hg H.size) (cwV 1 hts (zgV zw_1132 zw_1133 zw_1134 zw_105 zw_1135) rfl rfl rfl hd_Hill_become ⟨Nat.le_of_ble_eq_true rfl, Nat.le_of_ble_eq_true rfl⟩) (xv_preV (T := TX2) (N := 14) hE hA hS hK hP hD (isC := [15, 1, 27, 28, 29, 30, 31, 32, 33, 34, 35, 5, 6, 7, 8, 9, 10, 11, 12, 13, 38, 39, 16, 17]) (by decide +kernel) hC (q0 := 15) (ci := 2) rfl rfl) rfl rfl hl.1 rfl (lv_room (Nat.le_of_ble_eq_true rfl)) dX10_image_25 ⟨Nat.le_refl _, Nat.le_refl _⟩) hP hD hS hA (by decide +kernel) rfl hC rfl rfl (fun H locs hP hD hS => ?_)
        exact b_28  _ _ _ _ _ _ _ _ _ _ _ _ _ _ _ _ _ _ _ _ _ _ _ _ _ _ _ _ _ _ _ _ _ _ _ _ _ _ hf hP hD hS (lv_sub hl [0, 1] rfl)
      exact nomatch hf
    · exact b_9  _ _ _ _ _ _ _ _ _ _ _ _ _ _ _ _ _ _ _ _ _ _ _ _ _ _ _ _ _ _ _ _ _ _ _ _ _ hf hP hD hS (lv_sub hl [0] rfl)
theorem dX10_back_0 : decode cX10_back 0 = .ok (.iload_n 1, 1) := by decide +kernel
theorem dX10_back_1 : decode cX10_back 1 = .ok (.ifCond .lt 8, 3) := by decide +kernel
theorem dX10_back_4 : decode cX10_back 4 = .ok (.iload_n 1, 1) := by decide +kernel
theorem dX10_back_5 : decode cX10_back 5 = .ok (.iconst 2, 1) := by decide +kernel
theorem dX10_back_6 : decode cX10_back 6 = .ok (.if_icmp .lt 9, 3) := by decide +kernel
theorem dX10_back_9 : decode cX10_back 9 = .ok (.aload_n 0, 1) := by decide +kernel
theorem dX10_back_10 : decode cX10_back 10 = .ok (.iconst (-1), 1) := by decide +kernel
theorem dX10_back_11 : decode cX10_back 11 = .ok (.invokevirtual 109, 3) := by decide +kernel
theorem dX10_back_14 : decode cX10_back 14 = .ok (.ireturn, 1) := by decide +kernel
theorem dX10_back_15 : decode cX10_back 15 = .ok (.aload_n 0, 1) := by decide +kernel
theorem dX10_back_16 : decode cX10_back 16 = .ok (.getfield 20, 3) := by decide +kernel
theorem dX10_back_19 : decode cX10_back 19 = .ok (.iload_n 1, 1) := by decide +kernel
theorem dX10_back_20 : decode cX10_back 20 = .ok (.baload, 1) := by decide +kernel
theorem dX10_back_21 : decode cX10_back 21 = .ok (.ifCond .ne 10, 3) := by decide +kernel
theorem dX10_back_24 : decode cX10_back 24 = .ok (.aload_n 0, 1) := by decide +kernel
theorem dX10_back_25 : decode cX10_back 25 = .ok (.bipush (-2), 2) := by decide +kernel
theorem dX10_back_27 : decode cX10_back 27 = .ok (.invokevirtual 109, 3) := by decide +kernel
theorem dX10_back_30 : decode cX10_back 30 = .ok (.ireturn, 1) := by decide +kernel
theorem dX10_back_31 : decode cX10_back 31 = .ok (.aload_n 0, 1) := by decide +kernel
theorem dX10_back_32 : decode cX10_back 32 = .ok (.getfield 10, 3) := by decide +kernel
theorem dX10_back_35 : decode cX10_back 35 = .ok (.aload_n 0, 1) := by decide +kernel
theorem dX10_back_36 : decode cX10_back 36 = .ok (.getfield 16, 3) := by decide +kernel
theorem dX10_back_39 : decode cX10_back 39 = .ok (.iload_n 1, 1) := by decide +kernel
theorem dX10_back_40 : decode cX10_back 40 = .ok (.aaload, 1) := by decide +kernel
theorem dX10_back_41 : decode cX10_back 41 = .ok (.invokevirtual 276, 3) := by decide +kernel
theorem dX10_back_44 : decode cX10_back 44 = .ok (.aload_n 0, 1) := by decide +kernel
theorem dX10_back_45 : decode cX10_back 45 = .ok (.iconst 0, 1) := by decide +kernel
theorem dX10_back_46 : decode cX10_back 46 = .ok (.invokevirtual 119, 3) := by decide +kernel
theorem dX10_back_49 : decode cX10_back 49 = .ok (.ireturn, 1) := by decide +kernel
theorem zw_1140 : (Jvm.Cond.code ({ cls := "HillSchool", name := "back", desc := "(I)I" } : Jvm.MethodName) prog_1_method_37_code (2 : Nat) (Option.some Jvm.ClassFile.FieldType.int)) ∈ zall := zmemG (zmj_5 77 rfl) rfl
abbrev w_HS_back : List Cond := .code yX10_back cX10_back 2 (some .int) :: zall
abbrev rm_HS_back : Room := { frames := 4, cells := 0, slots := 0, locals := 102 }
theorem hd_HS_back : yX10_back.cls = "HillSchool" ∧ yX10_back.cls ≠ "java/lang/invoke/MethodHandle" ∧ yX10_back.cls ≠ "java/lang/invoke/VarHandle" ∧ (parseMethodDescriptor yX10_back.desc).map (fun d => d.parameters.length) = some 1 := by decide +kernel
def wd_HS_back (cA : Nat → ClassId) (q0 q1 q2 q3 q4 q5 q6 q7 q8 q9 q10 q11 q12 q13 q14 q15 q16 q17 q18 q19 q20 q21 q22 q23 q24 q25 q26 q27 q28 q29 q30 q31 q32 q33 q34 q35 q36 q37 q38 q39 q40 q41 q42 q43 q44 q45 q46 q47 : Nat) (u0 u1 u2 u3 u4 : Int) (i_kept : Nat → Int) (i_images_0_children : Int) (i_images_0_parishes : Int) (i_images_0_laws : Int) (i_images_0_inForce : Int) (i_images_1_children : Int) (i_images_1_parishes : Int) (i_images_1_laws : Int) (i_images_1_inForce : Int) (i_images_0_columns_many : Int) (i_images_0_strengths : Nat → Int) (i_images_0_expelled : Nat → Int) (i_images_0_trips : Nat → Int) (i_images_0_places : Nat → Int) (i_images_0_terms : Nat → Int) (i_images_0_goals : Nat → Int) (i_images_0_orders : Nat → Int) (i_images_0_ordered : Nat → Int) (i_images_1_columns_many : Int) (i_images_1_strengths : Nat → Int) (i_images_1_expelled : Nat → Int) (i_images_1_trips : Nat → Int) (i_images_1_places : Nat → Int) (i_images_1_terms : Nat → Int) (i_images_1_goals : Nat → Int) (i_images_1_orders : Nat → Int) (i_images_1_ordered : Nat → Int) (i_images_0_columns_heights : Nat → Int) (i_images_0_columns_weights : Nat → Int) (i_images_1_columns_heights : Nat → Int) (i_images_1_columns_weights : Nat → Int) (i_latestStatus : Int) (i_hill_children : Int) (i_hill_parishes : Int) (i_hill_laws : Int) (i_hill_inForce : Int) (i_hill_changes : Int) (i_refusals : Nat → Int) (i_hill_columns_many : Int) (i_hill_strengths : Nat → Int) (i_hill_expelled : Nat → Int) (i_hill_trips : Nat → Int) (i_hill_places : Nat → Int) (i_hill_terms : Nat → Int) (i_hill_goals : Nat → Int) (i_hill_orders : Nat → Int) (i_hill_ordered : Nat → Int) (i_hill_columns_heights : Nat → Int) (i_hill_columns_weights : Nat → Int) : va_W := [(q0, .inr (10, [.ref q1, .ref q2, .ref q3, .ref q4, .int (Int32.ofInt u0), .int (Int32.ofInt u1), .int (Int32.ofInt u2), .ref q5, .int (Int32.ofInt i_latestStatus), .ref q6, .ref q7, .ref q8, .ref q9, .ref q10, .ref q11, .ref q12])), (q1, .inr (2, [.ref q13, .int (Int32.ofInt i_hill_children), .ref q14, .ref q15, .ref q16, .int (Int32.ofInt i_hill_parishes), .ref q17, .ref q18, .ref q19, .int (Int32.ofInt i_hill_laws), .ref q20, .ref q21, .int (Int32.ofInt i_hill_inForce), .int (Int32.ofInt i_hill_changes)])), (q2, .inl (cA 3, 2, .inr (.inr (.inr (.inr (zr [q22, q23])))))), (q3, .inl (cA 1, 2, .inl (za i_kept))), (q5, .inl (cA 0, 7, .inl (za i_refusals))), (q13, .inr (1, [.int (Int32.ofInt i_hill_columns_many), .ref q24, .ref q25])), (q14, .inl (cA 0, 6, .inl (za i_hill_strengths))), (q15, .inl (cA 0, 6, .inl (za i_hill_expelled))), (q16, .inl (cA 0, 6, .inl (za i_hill_trips))), (q17, .inl (cA 0, 6, .inl (za i_hill_places))), (q18, .inl (cA 0, 4, .inl (za i_hill_terms))), (q19, .inl (cA 0, 12, .inl (za i_hill_goals))), (q20, .inl (cA 0, 2544, .inl (za i_hill_orders))), (q21, .inl (cA 0, 6, .inl (za i_hill_ordered))), (q22, .inr (2, [.ref q26, .int (Int32.ofInt i_images_0_children), .ref q27, .ref q28, .ref q29, .int (Int32.ofInt i_images_0_parishes), .ref q30, .ref q31, .ref q32, .int (Int32.ofInt i_images_0_laws), .ref q33, .ref q34, .int (Int32.ofInt i_images_0_inForce), .int (Int32.ofInt u3)])), (q23, .inr (2, [.ref q35, .int (Int32.ofInt i_images_1_children), .ref q36, .ref q37, .ref q38, .int (Int32.ofInt i_images_1_parishes), .ref q39, .ref q40, .ref q41, .int (Int32.ofInt i_images_1_laws), .ref q42, .ref q43, .int (Int32.ofInt i_images_1_inForce), .int (Int32.ofInt u4)])), (q24, .inl (cA 0, 12, .inl (za i_hill_columns_heights))), (q25, .inl (cA 0, 120, .inl (za i_hill_columns_weights))), (q26, .inr (1, [.int (Int32.ofInt i_images_0_columns_many), .ref q44, .ref q45])), (q27, .inl (cA 0, 6, .inl (za i_images_0_strengths))), (q28, .inl (cA 0, 6, .inl (za i_images_0_expelled))), (q29, .inl (cA 0, 6, .inl (za i_images_0_trips))), (q30, .inl (cA 0, 6, .inl (za i_images_0_places))), (q31, .inl (cA 0, 4, .inl (za i_images_0_terms))), (q32, .inl (cA 0, 12, .inl (za i_images_0_goals))), (q33, .inl (cA 0, 2544, .inl (za i_images_0_orders))), (q34, .inl (cA 0, 6, .inl (za i_images_0_ordered))), (q35, .inr (1, [.int (Int32.ofInt i_images_1_columns_many), .ref q46, .ref q47])), (q36, .inl (cA 0, 6, .inl (za i_images_1_strengths))), (q37, .inl (cA 0, 6, .inl (za i_images_1_expelled))), (q38, .inl (cA 0, 6, .inl (za i_images_1_trips))), (q39, .inl (cA 0, 6, .inl (za i_images_1_places))), (q40, .inl (cA 0, 4, .inl (za i_images_1_terms))), (q41, .inl (cA 0, 12, .inl (za i_images_1_goals))), (q42, .inl (cA 0, 2544, .inl (za i_images_1_orders))), (q43, .inl (cA 0, 6, .inl (za i_images_1_ordered))), (q44, .inl (cA 0, 12, .inl (za i_images_0_columns_heights))), (q45, .inl (cA 0, 120, .inl (za i_images_0_columns_weights))), (q46, .inl (cA 0, 12, .inl (za i_images_1_columns_heights))), (q47, .inl (cA 0, 120, .inl (za i_images_1_columns_weights)))]
def wf_HS_back (cA : Nat → ClassId) (q0 q1 q2 q3 q4 q5 q6 q7 q8 q9 q10 q11 q12 q13 q14 q15 q16 q17 q18 q19 q20 q21 q22 q23 q24 q25 q26 q27 q28 q29 q30 q31 q32 q33 q34 q35 q36 q37 q38 q39 q40 q41 q42 q43 q44 q45 q46 q47 : Nat) (u0 u1 u2 u3 u4 : Int) (i_kept : Nat → Int) (i_images_0_children : Int) (i_images_0_parishes : Int) (i_images_0_laws : Int) (i_images_0_inForce : Int) (i_images_1_children : Int) (i_images_1_parishes : Int) (i_images_1_laws : Int) (i_images_1_inForce : Int) (i_images_0_columns_many : Int) (i_images_0_strengths : Nat → Int) (i_images_0_expelled : Nat → Int) (i_images_0_trips : Nat → Int) (i_images_0_places : Nat → Int) (i_images_0_terms : Nat → Int) (i_images_0_goals : Nat → Int) (i_images_0_orders : Nat → Int) (i_images_0_ordered : Nat → Int) (i_images_1_columns_many : Int) (i_images_1_strengths : Nat → Int) (i_images_1_expelled : Nat → Int) (i_images_1_trips : Nat → Int) (i_images_1_places : Nat → Int) (i_images_1_terms : Nat → Int) (i_images_1_goals : Nat → Int) (i_images_1_orders : Nat → Int) (i_images_1_ordered : Nat → Int) (i_images_0_columns_heights : Nat → Int) (i_images_0_columns_weights : Nat → Int) (i_images_1_columns_heights : Nat → Int) (i_images_1_columns_weights : Nat → Int) (o : Int × Int × Int × Int × Int × Int × Int × (Nat → Int) × Int × (Nat → Int) × (Nat → Int) × (Nat → Int) × (Nat → Int) × (Nat → Int) × (Nat → Int) × (Nat → Int) × (Nat → Int) × (Nat → Int) × (Nat → Int)) : va_W := wd_HS_back cA q0 q1 q2 q3 q4 q5 q6 q7 q8 q9 q10 q11 q12 q13 q14 q15 q16 q17 q18 q19 q20 q21 q22 q23 q24 q25 q26 q27 q28 q29 q30 q31 q32 q33 q34 q35 q36 q37 q38 q39 q40 q41 q42 q43 q44 q45 q46 q47 u0 u1 u2 u3 u4 i_kept i_images_0_children i_images_0_parishes i_images_0_laws i_images_0_inForce i_images_1_children i_images_1_parishes i_images_1_laws i_images_1_inForce i_images_0_columns_many i_images_0_strengths i_images_0_expelled i_images_0_trips i_images_0_places i_images_0_terms i_images_0_goals i_images_0_orders i_images_0_ordered i_images_1_columns_many i_images_1_strengths i_images_1_expelled i_images_1_trips i_images_1_places i_images_1_terms i_images_1_goals i_images_1_orders i_images_1_ordered i_images_0_columns_heights i_images_0_columns_weights i_images_1_columns_heights i_images_1_columns_weights o.2.1 o.2.2.1 o.2.2.2.1 o.2.2.2.2.1 o.2.2.2.2.2.1 o.2.2.2.2.2.2.1 o.2.2.2.2.2.2.2.1 o.2.2.2.2.2.2.2.2.1 o.2.2.2.2.2.2.2.2.2.1 o.2.2.2.2.2.2.2.2.2.2.1 o.2.2.2.2.2.2.2.2.2.2.2.1 o.2.2.2.2.2.2.2.2.2.2.2.2.1 o.2.2.2.2.2.2.2.2.2.2.2.2.2.1 o.2.2.2.2.2.2.2.2.2.2.2.2.2.2.1 o.2.2.2.2.2.2.2.2.2.2.2.2.2.2.2.1 o.2.2.2.2.2.2.2.2.2.2.2.2.2.2.2.2.1 o.2.2.2.2.2.2.2.2.2.2.2.2.2.2.2.2.2.1 o.2.2.2.2.2.2.2.2.2.2.2.2.2.2.2.2.2.2
def f_HS_back_9 (i_kept : Nat → Int) (i_images_0_children : Int) (i_images_0_parishes : Int) (i_images_0_laws : Int) (i_images_0_inForce : Int) (i_images_1_children : Int) (i_images_1_parishes : Int) (i_images_1_laws : Int) (i_images_1_inForce : Int) (i_images_0_columns_many : Int) (i_images_0_strengths : Nat → Int) (i_images_0_expelled : Nat → Int) (i_images_0_trips : Nat → Int) (i_images_0_places : Nat → Int) (i_images_0_terms : Nat → Int) (i_images_0_goals : Nat → Int) (i_images_0_orders : Nat → Int) (i_images_0_ordered : Nat → Int) (i_images_1_columns_many : Int) (i_images_1_strengths : Nat → Int) (i_images_1_expelled : Nat → Int) (i_images_1_trips : Nat → Int) (i_images_1_places : Nat → Int) (i_images_1_terms : Nat → Int) (i_images_1_goals : Nat → Int) (i_images_1_orders : Nat → Int) (i_images_1_ordered : Nat → Int) (i_images_0_columns_heights : Nat → Int) (i_images_0_columns_weights : Nat → Int) (i_images_1_columns_heights : Nat → Int) (i_images_1_columns_weights : Nat → Int) (i_latestStatus : Int) (i_hill_children : Int) (i_hill_parishes : Int) (i_hill_laws : Int) (i_hill_inForce : Int) (i_hill_changes : Int) (i_refusals : Nat → Int) (i_hill_columns_many : Int) (i_hill_strengths : Nat → Int) (i_hill_expelled : Nat → Int) (i_hill_trips : Nat → Int) (i_hill_places : Nat → Int) (i_hill_terms : Nat → Int) (i_hill_goals : Nat → Int) (i_hill_orders : Nat → Int) (i_hill_ordered : Nat → Int) (i_hill_columns_heights : Nat → Int) (i_hill_columns_weights : Nat → Int) : Option (Int × Int × Int × Int × Int × Int × Int × (Nat → Int) × Int × (Nat → Int) × (Nat → Int) × (Nat → Int) × (Nat → Int) × (Nat → Int) × (Nat → Int) × (Nat → Int) × (Nat → Int) × (Nat → Int) × (Nat → Int)) :=
  zd3 (f_HS_refuse (-1) i_latestStatus i_refusals) fun v1 v2 a3 =>
  some (v1, v2, i_hill_children, i_hill_parishes, i_hill_laws, i_hill_inForce, i_hill_changes, a3, i_hill_columns_many, i_hill_strengths, i_hill_expelled, i_hill_trips, i_hill_places, i_hill_terms, i_hill_goals, i_hill_orders, i_hill_ordered, i_hill_columns_heights, i_hill_columns_weights)
def f_HS_back_44 (i_kept : Nat → Int) (i_images_0_children : Int) (i_images_0_parishes : Int) (i_images_0_laws : Int) (i_images_0_inForce : Int) (i_images_1_children : Int) (i_images_1_parishes : Int) (i_images_1_laws : Int) (i_images_1_inForce : Int) (i_images_0_columns_many : Int) (i_images_0_strengths : Nat → Int) (i_images_0_expelled : Nat → Int) (i_images_0_trips : Nat → Int) (i_images_0_places : Nat → Int) (i_images_0_terms : Nat → Int) (i_images_0_goals : Nat → Int) (i_images_0_orders : Nat → Int) (i_images_0_ordered : Nat → Int) (i_images_1_columns_many : Int) (i_images_1_strengths : Nat → Int) (i_images_1_expelled : Nat → Int) (i_images_1_trips : Nat → Int) (i_images_1_places : Nat → Int) (i_images_1_terms : Nat → Int) (i_images_1_goals : Nat → Int) (i_images_1_orders : Nat → Int) (i_images_1_ordered : Nat → Int) (i_images_0_columns_heights : Nat → Int) (i_images_0_columns_weights : Nat → Int) (i_images_1_columns_heights : Nat → Int) (i_images_1_columns_weights : Nat → Int) (i_latestStatus : Int) (i_hill_children : Int) (i_hill_parishes : Int) (i_hill_laws : Int) (i_hill_inForce : Int) (i_hill_changes : Int) (i_refusals : Nat → Int) (i_hill_columns_many : Int) (i_hill_strengths : Nat → Int) (i_hill_expelled : Nat → Int) (i_hill_trips : Nat → Int) (i_hill_places : Nat → Int) (i_hill_terms : Nat → Int) (i_hill_goals : Nat → Int) (i_hill_orders : Nat → Int) (i_hill_ordered : Nat → Int) (i_hill_columns_heights : Nat → Int) (i_hill_columns_weights : Nat → Int) : Option (Int × Int × Int × Int × Int × Int × Int × (Nat → Int) × Int × (Nat → Int) × (Nat → Int) × (Nat → Int) × (Nat → Int) × (Nat → Int) × (Nat → Int) × (Nat → Int) × (Nat → Int) × (Nat → Int) × (Nat → Int)) :=
  zd3 (f_HS_accept 0 i_latestStatus i_hill_changes) fun v1 v2 v3 =>
  some (v1, v2, i_hill_children, i_hill_parishes, i_hill_laws, i_hill_inForce, v3, i_refusals, i_hill_columns_many, i_hill_strengths, i_hill_expelled, i_hill_trips, i_hill_places, i_hill_terms, i_hill_goals, i_hill_orders, i_hill_ordered, i_hill_columns_heights, i_hill_columns_weights)
def f_HS_back (x1 : Int) (i_kept : Nat → Int) (i_images_0_children : Int) (i_images_0_parishes : Int) (i_images_0_laws : Int) (i_images_0_inForce : Int) (i_images_1_children : Int) (i_images_1_parishes : Int) (i_images_1_laws : Int) (i_images_1_inForce : Int) (i_images_0_columns_many : Int) (i_images_0_strengths : Nat → Int) (i_images_0_expelled : Nat → Int) (i_images_0_trips : Nat → Int) (i_images_0_places : Nat → Int) (i_images_0_terms : Nat → Int) (i_images_0_goals : Nat → Int) (i_images_0_orders : Nat → Int) (i_images_0_ordered : Nat → Int) (i_images_1_columns_many : Int) (i_images_1_strengths : Nat → Int) (i_images_1_expelled : Nat → Int) (i_images_1_trips : Nat → Int) (i_images_1_places : Nat → Int) (i_images_1_terms : Nat → Int) (i_images_1_goals : Nat → Int) (i_images_1_orders : Nat → Int) (i_images_1_ordered : Nat → Int) (i_images_0_columns_heights : Nat → Int) (i_images_0_columns_weights : Nat → Int) (i_images_1_columns_heights : Nat → Int) (i_images_1_columns_weights : Nat → Int) (i_latestStatus : Int) (i_hill_children : Int) (i_hill_parishes : Int) (i_hill_laws : Int) (i_hill_inForce : Int) (i_hill_changes : Int) (i_refusals : Nat → Int) (i_hill_columns_many : Int) (i_hill_strengths : Nat → Int) (i_hill_expelled : Nat → Int) (i_hill_trips : Nat → Int) (i_hill_places : Nat → Int) (i_hill_terms : Nat → Int) (i_hill_goals : Nat → Int) (i_hill_orders : Nat → Int) (i_hill_ordered : Nat → Int) (i_hill_columns_heights : Nat → Int) (i_hill_columns_weights : Nat → Int) : Option (Int × Int × Int × Int × Int × Int × Int × (Nat → Int) × Int × (Nat → Int) × (Nat → Int) × (Nat → Int) × (Nat → Int) × (Nat → Int) × (Nat → Int) × (Nat → Int) × (Nat → Int) × (Nat → Int) × (Nat → Int)) :=
  if zi_w x1 < 0 then
    f_HS_back_9 i_kept i_images_0_children i_images_0_parishes i_images_0_laws i_images_0_inForce i_images_1_children i_images_1_parishes i_images_1_laws i_images_1_inForce i_images_0_columns_many i_images_0_strengths i_images_0_expelled i_images_0_trips i_images_0_places i_images_0_terms i_images_0_goals i_images_0_orders i_images_0_ordered i_images_1_columns_many i_images_1_strengths i_images_1_expelled i_images_1_trips i_images_1_places i_images_1_terms i_images_1_goals i_images_1_orders i_images_1_ordered i_images_0_columns_heights i_images_0_columns_weights i_images_1_columns_heights i_images_1_columns_weights i_latestStatus i_hill_children i_hill_parishes i_hill_laws i_hill_inForce i_hill_changes i_refusals i_hill_columns_many i_hill_strengths i_hill_expelled i_hill_trips i_hill_places i_hill_terms i_hill_goals i_hill_orders i_hill_ordered i_hill_columns_heights i_hill_columns_weights
  else
    if zi_w x1 < zi_w 2 then
      zg 2 i_kept x1 fun v1 =>
      if zi_w v1 ≠ 0 then
        if zi_w x1 = 0 then
          zd15 (f_Hill_become i_images_0_children i_images_0_parishes i_images_0_laws i_images_0_inForce i_images_0_columns_many i_images_0_strengths i_images_0_expelled i_images_0_trips i_images_0_places i_images_0_terms i_images_0_goals i_images_0_orders i_images_0_ordered i_images_0_columns_heights i_images_0_columns_weights i_hill_children i_hill_parishes i_hill_laws i_hill_inForce i_hill_columns_many i_hill_strengths i_hill_expelled i_hill_trips i_hill_places i_hill_terms i_hill_goals i_hill_orders i_hill_ordered i_hill_columns_heights i_hill_columns_weights) fun v2 v3 v4 v5 v6 a7 a8 a9 a10 a11 a12 a13 a14 a15 a16 =>
          f_HS_back_44 i_kept i_images_0_children i_images_0_parishes i_images_0_laws i_images_0_inForce i_images_1_children i_images_1_parishes i_images_1_laws i_images_1_inForce i_images_0_columns_many i_images_0_strengths i_images_0_expelled i_images_0_trips i_images_0_places i_images_0_terms i_images_0_goals i_images_0_orders i_images_0_ordered i_images_1_columns_many i_images_1_strengths i_images_1_expelled i_images_1_trips i_images_1_places i_images_1_terms i_images_1_goals i_images_1_orders i_images_1_ordered i_images_0_columns_heights i_images_0_columns_weights i_images_1_columns_heights i_images_1_columns_weights i_latestStatus v2 v3 v4 v5 i_hill_changes i_refusals v6 a7 a8 a9 a10 a11 a12 a13 a14 a15 a16
        else if zi_w x1 = 1 then
          zd15 (f_Hill_become i_images_1_children i_images_1_parishes i_images_1_laws i_images_1_inForce i_images_1_columns_many i_images_1_strengths i_images_1_expelled i_images_1_trips i_images_1_places i_images_1_terms i_images_1_goals i_images_1_orders i_images_1_ordered i_images_1_columns_heights i_images_1_columns_weights i_hill_children i_hill_parishes i_hill_laws i_hill_inForce i_hill_columns_many i_hill_strengths i_hill_expelled i_hill_trips i_hill_places i_hill_terms i_hill_goals i_hill_orders i_hill_ordered i_hill_columns_heights i_hill_columns_weights) fun v17 v18 v19 v20 v21 a22 a23 a24 a25 a26 a27 a28 a29 a30 a31 =>
          f_HS_back_44 i_kept i_images_0_children i_images_0_parishes i_images_0_laws i_images_0_inForce i_images_1_children i_images_1_parishes i_images_1_laws i_images_1_inForce i_images_0_columns_many i_images_0_strengths i_images_0_expelled i_images_0_trips i_images_0_places i_images_0_terms i_images_0_goals i_images_0_orders i_images_0_ordered i_images_1_columns_many i_images_1_strengths i_images_1_expelled i_images_1_trips i_images_1_places i_images_1_terms i_images_1_goals i_images_1_orders i_images_1_ordered i_images_0_columns_heights i_images_0_columns_weights i_images_1_columns_heights i_images_1_columns_weights i_latestStatus v17 v18 v19 v20 i_hill_changes i_refusals v21 a22 a23 a24 a25 a26 a27 a28 a29 a30 a31
        else none
      else
        zd3 (f_HS_refuse (-2) i_latestStatus i_refusals) fun v32 v33 a34 =>
        some (v32, v33, i_hill_children, i_hill_parishes, i_hill_laws, i_hill_inForce, i_hill_changes, a34, i_hill_columns_many, i_hill_strengths, i_hill_expelled, i_hill_trips, i_hill_places, i_hill_terms, i_hill_goals, i_hill_orders, i_hill_ordered, i_hill_columns_heights, i_hill_columns_weights)
    else
      f_HS_back_9 i_kept i_images_0_children i_images_0_parishes i_images_0_laws i_images_0_inForce i_images_1_children i_images_1_parishes i_images_1_laws i_images_1_inForce i_images_0_columns_many i_images_0_strengths i_images_0_expelled i_images_0_trips i_images_0_places i_images_0_terms i_images_0_goals i_images_0_orders i_images_0_ordered i_images_1_columns_many i_images_1_strengths i_images_1_expelled i_images_1_trips i_images_1_places i_images_1_terms i_images_1_goals i_images_1_orders i_images_1_ordered i_images_0_columns_heights i_images_0_columns_weights i_images_1_columns_heights i_images_1_columns_weights i_latestStatus i_hill_children i_hill_parishes i_hill_laws i_hill_inForce i_hill_changes i_refusals i_hill_columns_many i_hill_strengths i_hill_expelled i_hill_trips i_hill_places i_hill_terms i_hill_goals i_hill_orders i_hill_ordered i_hill_columns_heights i_hill_columns_weights
set_option maxHeartbeats 4000000 in
set_option maxRecDepth 100000 in
theorem c_HS_back (l : Launch) (ev : zEv) (dC : Nat → ClassId) (dI : Nat → Nat → Nat) (cA : Nat → ClassId) (q0 q1 q2 q3 q4 q5 q6 q7 q8 q9 q10 q11 q12 q13 q14 q15 q16 q17 q18 q19 q20 q21 q22 q23 q24 q25 q26 q27 q28 q29 q30 q31 q32 q33 q34 q35 q36 q37 q38 q39 q40 q41 q42 q43 q44 q45 q46 q47 : Nat) (u0 u1 u2 u3 u4 : Int) {x1 : Int} {i_kept : Nat → Int} {i_images_0_children : Int} {i_images_0_parishes : Int} {i_images_0_laws : Int} {i_images_0_inForce : Int} {i_images_1_children : Int} {i_images_1_parishes : Int} {i_images_1_laws : Int} {i_images_1_inForce : Int} {i_images_0_columns_many : Int} {i_images_0_strengths : Nat → Int} {i_images_0_expelled : Nat → Int} {i_images_0_trips : Nat → Int} {i_images_0_places : Nat → Int} {i_images_0_terms : Nat → Int} {i_images_0_goals : Nat → Int} {i_images_0_orders : Nat → Int} {i_images_0_ordered : Nat → Int} {i_images_1_columns_many : Int} {i_images_1_strengths : Nat → Int} {i_images_1_expelled : Nat → Int} {i_images_1_trips : Nat → Int} {i_images_1_places : Nat → Int} {i_images_1_terms : Nat → Int} {i_images_1_goals : Nat → Int} {i_images_1_orders : Nat → Int} {i_images_1_ordered : Nat → Int} {i_images_0_columns_heights : Nat → Int} {i_images_0_columns_weights : Nat → Int} {i_images_1_columns_heights : Nat → Int} {i_images_1_columns_weights : Nat → Int} {i_latestStatus : Int} {i_hill_children : Int} {i_hill_parishes : Int} {i_hill_laws : Int} {i_hill_inForce : Int} {i_hill_changes : Int} {i_refusals : Nat → Int} {i_hill_columns_many : Int} {i_hill_strengths : Nat → Int} {i_hill_expelled : Nat → Int} {i_hill_trips : Nat → Int} {i_hill_places : Nat → Int} {i_hill_terms : Nat → Int} {i_hill_goals : Nat → Int} {i_hill_orders : Nat → Int} {i_hill_ordered : Nat → Int} {i_hill_columns_heights : Nat → Int} {i_hill_columns_weights : Nat → Int} {out : Int × Int × Int × Int × Int × Int × Int × (Nat → Int) × Int × (Nat → Int) × (Nat → Int) × (Nat → Int) × (Nat → Int) × (Nat → Int) × (Nat → Int) × (Nat → Int) × (Nat → Int) × (Nat → Int) × (Nat → Int)} (hf : f_HS_back x1 i_kept i_images_0_children i_images_0_parishes i_images_0_laws i_images_0_inForce i_images_1_children i_images_1_parishes i_images_1_laws i_images_1_inForce i_images_0_columns_many i_images_0_strengths i_images_0_expelled i_images_0_trips i_images_0_places i_images_0_terms i_images_0_goals i_images_0_orders i_images_0_ordered i_images_1_columns_many i_images_1_strengths i_images_1_expelled i_images_1_trips i_images_1_places i_images_1_terms i_images_1_goals i_images_1_orders i_images_1_ordered i_images_0_columns_heights i_images_0_columns_weights i_images_1_columns_heights i_images_1_columns_weights i_latestStatus i_hill_children i_hill_parishes i_hill_laws i_hill_inForce i_hill_changes i_refusals i_hill_columns_many i_hill_strengths i_hill_expelled i_hill_trips i_hill_places i_hill_terms i_hill_goals i_hill_orders i_hill_ordered i_hill_columns_heights i_hill_columns_weights = some out) : xc_I l ev (dC, dI) vwCl (tyl cA) yX10_back w_HS_back rm_HS_back [.ref q0, .int (Int32.ofInt x1)] (wd_HS_back cA q0 q1 q2 q3 q4 q5 q6 q7 q8 q9 q10 q11 q12 q13 q14 q15 q16 q17 q18 q19 q20 q21 q22 q23 q24 q25 q26 q27 q28 q29 q30 q31 q32 q33 q34 q35 q36 q37 q38 q39 q40 q41 q42 q43 q44 q45 q46 q47 u0 u1 u2 u3 u4 i_kept i_images_0_children i_images_0_parishes i_images_0_laws i_images_0_inForce i_images_1_children i_images_1_parishes i_images_1_laws i_images_1_inForce i_images_0_columns_many i_images_0_strengths i_images_0_expelled i_images_0_trips i_images_0_places i_images_0_terms i_images_0_goals i_images_0_orders i_images_0_ordered i_images_1_columns_many i_images_1_strengths i_images_1_expelled i_images_1_trips i_images_1_places i_images_1_terms i_images_1_goals i_images_1_orders i_images_1_ordered i_images_0_columns_heights i_images_0_columns_weights i_images_1_columns_heights i_images_1_columns_weights i_latestStatus i_hill_children i_hill_parishes i_hill_laws i_hill_inForce i_hill_changes i_refusals i_hill_columns_many i_hill_strengths i_hill_expelled i_hill_trips i_hill_places i_hill_terms i_hill_goals i_hill_orders i_hill_ordered i_hill_columns_heights i_hill_columns_weights) (wf_HS_back cA q0 q1 q2 q3 q4 q5 q6 q7 q8 q9 q10 q11 q12 q13 q14 q15 q16 q17 q18 q19 q20 q21 q22 q23 q24 q25 q26 q27 q28 q29 q30 q31 q32 q33 q34 q35 q36 q37 q38 q39 q40 q41 q42 q43 q44 q45 q46 q47 u0 u1 u2 u3 u4 i_kept i_images_0_children i_images_0_parishes i_images_0_laws i_images_0_inForce i_images_1_children i_images_1_parishes i_images_1_laws i_images_1_inForce i_images_0_columns_many i_images_0_strengths i_images_0_expelled i_images_0_trips i_images_0_places i_images_0_terms i_images_0_goals i_images_0_orders i_images_0_ordered i_images_1_columns_many i_images_1_strengths i_images_1_expelled i_images_1_trips i_images_1_places i_images_1_terms i_images_1_goals i_images_1_orders i_images_1_ordered i_images_0_columns_heights i_images_0_columns_weights i_images_1_columns_heights i_images_1_columns_weights out) out.1 := by
  refine xv_startI (cc := cX10_back) (maxL := 2) (rt := .int) (by decide +kernel) rfl (Nat.le_of_ble_eq_true rfl) ?_
  intro p e s m args below meth c A Q H ls hx hb hml hts hown hK hA hP hD hS hl hE hret
  have hown : s.vm.findClass "HillSchool" = some m.cls := hown
  have hz : ∀ w ∈ zall, w.before args s = true := fun w h => hts w (List.mem_cons_of_mem _ h)
  have hl : lv_has ls 2 [(0, .ref q0), (1, .int (Int32.ofInt x1))] := hl
  have b_9 : ∀ (i_latestStatus : Int) (i_hill_children : Int) (i_hill_parishes : Int) (i_hill_laws : Int) (i_hill_inForce : Int) (i_hill_changes : Int) (i_refusals : Nat → Int) (i_hill_columns_many : Int) (i_hill_strengths : Nat → Int) (i_hill_expelled : Nat → Int) (i_hill_trips : Nat → Int) (i_hill_places : Nat → Int) (i_hill_terms : Nat → Int) (i_hill_goals : Nat → Int) (i_hill_orders : Nat → Int) (i_hill_ordered : Nat → Int) (i_hill_columns_heights : Nat → Int) (i_hill_columns_weights : Nat → Int) (H : Heap) (locs : List Loc) (ls : Array Slot), f_HS_back_9 i_kept i_images_0_children i_images_0_parishes i_images_0_laws i_images_0_inForce i_images_1_children i_images_1_parishes i_images_1_laws i_images_1_inForce i_images_0_columns_many i_images_0_strengths i_images_0_expelled i_images_0_trips i_images_0_places i_images_0_terms i_images_0_goals i_images_0_orders i_images_0_ordered i_images_1_columns_many i_images_1_strengths i_images_1_expelled i_images_1_trips i_images_1_places i_images_1_terms i_images_1_goals i_images_1_orders i_images_1_ordered i_images_0_columns_heights i_images_0_columns_weights i_images_1_columns_heights i_images_1_columns_weights i_latestStatus i_hill_children i_hill_parishes i_hill_laws i_hill_inForce i_hill_changes i_refusals i_hill_columns_many i_hill_strengths i_hill_expelled i_hill_trips i_hill_places i_hill_terms i_hill_goals i_hill_orders i_hill_ordered i_hill_columns_heights i_hill_columns_weights = some out → va_P (dC, dI) vwCl (wd_HS_back cA q0 q1 q2 q3 q4 q5 q6 q7 q8 q9 q10 q11 q12 q13 q14 q15 q16 q17 q18 q19 q20 q21 q22 q23 q24 q25 q26 q27 q28 q29 q30 q31 q32 q33 q34 q35 q36 q37 q38 q39 q40 q41 q42 q43 q44 q45 q46 q47 u0 u1 u2 u3 u4 i_kept i_images_0_children i_images_0_parishes i_images_0_laws i_images_0_inForce i_images_1_children i_images_1_parishes i_images_1_laws i_images_1_inForce i_images_0_columns_many i_images_0_strengths i_images_0_expelled i_images_0_trips i_images_0_places i_images_0_terms i_images_0_goals i_images_0_orders i_images_0_ordered i_images_1_columns_many i_images_1_strengths i_images_1_expelled i_images_1_trips i_images_1_places i_images_1_terms i_images_1_goals i_images_1_orders i_images_1_ordered i_images_0_columns_heights i_images_0_columns_weights i_images_1_columns_heights i_images_1_columns_weights i_latestStatus i_hill_children i_hill_parishes i_hill_laws i_hill_inForce i_hill_changes i_refusals i_hill_columns_many i_hill_strengths i_hill_expelled i_hill_trips i_hill_places i_hill_terms i_hill_goals i_hill_orders i_hill_ordered i_hill_columns_heights i_hill_columns_weights) H → va_D A (wd_HS_back cA q0 q1 q2 q3 q4 q5 q6 q7 q8 q9 q10 q11 q12 q13 q14 q15 q16 q17 q18 q19 q20 q21 q22 q23 q24 q25 q26 q27 q28 q29 q30 q31 q32 q33 q34 q35 q36 q37 q38 q39 q40 q41 q42 q43 q44 q45 q46 q47 u0 u1 u2 u3 u4 i_kept i_images_0_children i_images_0_parishes i_images_0_laws i_images_0_inForce i_images_1_children i_images_1_parishes i_images_1_laws i_images_1_inForce i_images_0_columns_many i_images_0_strengths i_images_0_expelled i_images_0_trips i_images_0_places i_images_0_terms i_images_0_goals i_images_0_orders i_images_0_ordered i_images_1_columns_many i_images_1_strengths i_images_1_expelled i_images_1_trips i_images_1_places i_images_1_terms i_images_1_goals i_images_1_orders i_images_1_ordered i_images_0_columns_heights i_images_0_columns_weights i_images_1_columns_heights i_images_1_columns_weights i_latestStatus i_hill_children i_hill_parishes i_hill_laws i_hill_inForce i_hill_changes i_refusals i_hill_columns_many i_hill_strengths i_hill_expelled i_hill_trips i_hill_places i_hill_terms i_hill_goals i_hill_orders i_hill_ordered i_hill_columns_heights i_hill_columns_weights) → va_S A s.heap H locs → lv_has ls 2 [(0, .ref q0)] → W p l e rm_HS_back s m args below meth c H locs 0 0 Q (F0 m 9 ls []) := by
    intro i_latestStatus i_hill_children i_hill_parishes i_hill_laws i_hill_inForce i_hill_changes i_refusals i_hill_columns_many i_hill_strengths i_hill_expelled i_hill_trips i_hill_places i_hill_terms i_hill_goals i_hill_orders i_hill_ordered i_hill_columns_heights i_hill_columns_weights H locs ls hf hP hD hS hl
    unfold f_HS_back_9 at hf
    refine lv_aload_n hx hb dX10_back_9 rfl (lv_at hl 0 rfl) ?_
    refine lv_iconst (v := Int32.ofInt (-1)) hx hb dX10_back_10 rfl ?_
    refine xe_d3 hf (fun v1 v2 a3 hg hf => ?_)
    have hC : ([0, 4] : List Nat).map (fun i => (wd_HS_back cA q0 q1 q2 q3 q4 q5 q6 q7 q8 q9 q10 q11 q12 q13 q14 q15 q16 q17 q18 q19 q20 q21 q22 q23 q24 q25 q26 q27 q28 q29 q30 q31 q32 q33 q34 q35 q36 q37 q38 q39 q40 q41 q42 q43 q44 q45 q46 q47 u0 u1 u2 u3 u4 i_kept i_images_0_children i_images_0_parishes i_images_0_laws i_images_0_inForce i_images_1_children i_images_1_parishes i_images_1_laws i_images_1_inForce i_images_0_columns_many i_images_0_strengths i_images_0_expelled i_images_0_trips i_images_0_places i_images_0_terms i_images_0_goals i_images_0_orders i_images_0_ordered i_images_1_columns_many i_images_1_strengths i_images_1_expelled i_images_1_trips i_images_1_places i_images_1_terms i_images_1_goals i_images_1_orders i_images_1_ordered i_images_0_columns_heights i_images_0_columns_weights i_images_1_columns_heights i_images_1_columns_weights i_latestStatus i_hill_children i_hill_parishes i_hill_laws i_hill_inForce i_hill_changes i_refusals i_hill_columns_many i_hill_strengths i_hill_expelled i_hill_trips i_hill_places i_hill_terms i_hill_goals i_hill_orders i_hill_ordered i_hill_columns_heights i_hill_columns_weights)[i]?) = (wd_HS_refuse cA q0 q1 q2 q3 q4 q5 q6 q7 q8 q9 q10 q11 q12 u0 u1 u2 i_latestStatus i_refusals).map some := rfl
    refine xv_afterI (ws' := (wd_HS_back cA q0 q1 q2 q3 q4 q5 q6 q7 q8 q9 q10 q11 q12 q13 q14 q15 q16 q17 q18 q19 q20 q21 q22 q23 q24 q25 q26 q27 q28 q29 q30 q31 q32 q33 q34 q35 q36 q37 q38 q39 q40 q41 q42 q43 q44 q45 q46 q47 u0 u1 u2 u3 u4 i_kept i_images_0_children i_images_0_parishes i_images_0_laws i_images_0_inForce i_images_1_children i_images_1_parishes i_images_1_laws i_images_1_inForce i_images_0_columns_many i_images_0_strengths i_images_0_expelled i_images_0_trips i_images_0_places i_images_0_terms i_images_0_goals i_images_0_orders i_images_0_ordered i_images_1_columns_many i_images_1_strengths i_images_1_expelled i_images_1_trips i_images_1_places i_images_1_terms i_images_1_goals i_images_1_orders i_images_1_ordered i_images_0_columns_heights i_images_0_columns_weights i_images_1_columns_heights i_images_1_columns_weights v2 i_hill_children i_hill_parishes i_hill_laws i_hill_inForce i_hill_changes a3 i_hill_columns_many i_hill_strengths i_hill_expelled i_hill_trips i_hill_places i_hill_terms i_hill_goals i_hill_orders i_hill_ordered i_hill_columns_heights i_hill_columns_weights)) (isC := [0, 4]) (ps := [some 0, none, none, none, some 1, none, none, none, none, none, none, none, none, none, none, none, none, none, none, none, none, none, none, none, none, none, none, none, none, none, none, none, none, none, none, none, none, none, none, none]) (va_runV (As := [.int (Int32.ofInt (-1))]) (rest := []) ⟨hx, hb, hml, hown, hts⟩ (c_HS_refuse l ev dC dI cA q0 q1 q2 q3 q4 q5 q6 q7 q8 q9 q10 q11 q12 u0 u1 u2 hg H.size) (cwV 1 hts (zgV zw_534 zw_536 zw_0 zw_104 zw_537) rfl rfl rfl hd_HS_refuse ⟨Nat.le_of_ble_eq_true rfl, Nat.le_of_ble_eq_true rfl⟩) (xv_preV (T := TX10) (N := 16) hE hA hS hK hP hD (isC := [0, 4]) (by decide +kernel) hC (q0 := 0) (ci := 10) rfl rfl) rfl rfl hl.1 rfl (lv_room (Nat.le_of_ble_eq_true rfl)) dX10_back_11 ⟨Nat.le_refl _, Nat.le_refl _⟩) hP hD hS hA (by decide +kernel) rfl hC rfl rfl (fun H locs hP hD hS => ?_)
    obtain rfl := Option.some.inj hf
    exact hret _ _ _ _ rfl dX10_back_14 hP hD hS
  have b_44 : ∀ (i_latestStatus : Int) (i_hill_children : Int) (i_hill_parishes : Int) (i_hill_laws : Int) (i_hill_inForce : Int) (i_hill_changes : Int) (i_refusals : Nat → Int) (i_hill_columns_many : Int) (i_hill_strengths : Nat → Int) (i_hill_expelled : Nat → Int) (i_hill_trips : Nat → Int) (i_hill_places : Nat → Int) (i_hill_terms : Nat → Int) (i_hill_goals : Nat → Int) (i_hill_orders : Nat → Int) (i_hill_ordered : Nat → Int) (i_hill_columns_heights : Nat → Int) (i_hill_columns_weights : Nat → Int) (H : Heap) (locs : List Loc) (ls : Array Slot), f_HS_back_44 i_kept i_images_0_children i_images_0_parishes i_images_0_laws i_images_0_inForce i_images_1_children i_images_1_parishes i_images_1_laws i_images_1_inForce i_images_0_columns_many i_images_0_strengths i_images_0_expelled i_images_0_trips i_images_0_places i_images_0_terms i_images_0_goals i_images_0_orders i_images_0_ordered i_images_1_columns_many i_images_1_strengths i_images_1_expelled i_images_1_trips i_images_1_places i_images_1_terms i_images_1_goals i_images_1_orders i_images_1_ordered i_images_0_columns_heights i_images_0_columns_weights i_images_1_columns_heights i_images_1_columns_weights i_latestStatus i_hill_children i_hill_parishes i_hill_laws i_hill_inForce i_hill_changes i_refusals i_hill_columns_many i_hill_strengths i_hill_expelled i_hill_trips i_hill_places i_hill_terms i_hill_goals i_hill_orders i_hill_ordered i_hill_columns_heights i_hill_columns_weights = some out → va_P (dC, dI) vwCl (wd_HS_back cA q0 q1 q2 q3 q4 q5 q6 q7 q8 q9 q10 q11 q12 q13 q14 q15 q16 q17 q18 q19 q20 q21 q22 q23 q24 q25 q26 q27 q28 q29 q30 q31 q32 q33 q34 q35 q36 q37 q38 q39 q40 q41 q42 q43 q44 q45 q46 q47 u0 u1 u2 u3 u4 i_kept i_images_0_children i_images_0_parishes i_images_0_laws i_images_0_inForce i_images_1_children i_images_1_parishes i_images_1_laws i_images_1_inForce i_images_0_columns_many i_images_0_strengths i_images_0_expelled i_images_0_trips i_images_0_places i_images_0_terms i_images_0_goals i_images_0_orders i_images_0_ordered i_images_1_columns_many i_images_1_strengths i_images_1_expelled i_images_1_trips i_images_1_places i_images_1_terms i_images_1_goals i_images_1_orders i_images_1_ordered i_images_0_columns_heights i_images_0_columns_weights i_images_1_columns_heights i_images_1_columns_weights i_latestStatus i_hill_children i_hill_parishes i_hill_laws i_hill_inForce i_hill_changes i_refusals i_hill_columns_many i_hill_strengths i_hill_expelled i_hill_trips i_hill_places i_hill_terms i_hill_goals i_hill_orders i_hill_ordered i_hill_columns_heights i_hill_columns_weights) H → va_D A (wd_HS_back cA q0 q1 q2 q3 q4 q5 q6 q7 q8 q9 q10 q11 q12 q13 q14 q15 q16 q17 q18 q19 q20 q21 q22 q23 q24 q25 q26 q27 q28 q29 q30 q31 q32 q33 q34 q35 q36 q37 q38 q39 q40 q41 q42 q43 q44 q45 q46 q47 u0 u1 u2 u3 u4 i_kept i_images_0_children i_images_0_parishes i_images_0_laws i_images_0_inForce i_images_1_children i_images_1_parishes i_images_1_laws i_images_1_inForce i_images_0_columns_many i_images_0_strengths i_images_0_expelled i_images_0_trips i_images_0_places i_images_0_terms i_images_0_goals i_images_0_orders i_images_0_ordered i_images_1_columns_many i_images_1_strengths i_images_1_expelled i_images_1_trips i_images_1_places i_images_1_terms i_images_1_goals i_images_1_orders i_images_1_ordered i_images_0_columns_heights i_images_0_columns_weights i_images_1_columns_heights i_images_1_columns_weights i_latestStatus i_hill_children i_hill_parishes i_hill_laws i_hill_inForce i_hill_changes i_refusals i_hill_columns_many i_hill_strengths i_hill_expelled i_hill_trips i_hill_places i_hill_terms i_hill_goals i_hill_orders i_hill_ordered i_hill_columns_heights i_hill_columns_weights) → va_S A s.heap H locs → lv_has ls 2 [(0, .ref q0)] → W p l e rm_HS_back s m args below meth c H locs 0 0 Q (F0 m 44 ls []) := by
    intro i_latestStatus i_hill_children i_hill_parishes i_hill_laws i_hill_inForce i_hill_changes i_refusals i_hill_columns_many i_hill_strengths i_hill_expelled i_hill_trips i_hill_places i_hill_terms i_hill_goals i_hill_orders i_hill_ordered i_hill_columns_heights i_hill_columns_weights H locs ls hf hP hD hS hl
    unfold f_HS_back_44 at hf
    refine lv_aload_n hx hb dX10_back_44 rfl (lv_at hl 0 rfl) ?_
    refine lv_iconst (v := Int32.ofInt 0) hx hb dX10_back_45 rfl ?_
    refine xe_d3 hf (fun v1 v2 v3 hg hf => ?_)
    have hC : ([0, 1] : List Nat).map (fun i => (wd_HS_back cA q0 q1 q2 q3 q4 q5 q6 q7 q8 q9 q10 q11 q12 q13 q14 q15 q16 q17 q18 q19 q20 q21 q22 q23 q24 q25 q26 q27 q28 q29 q30 q31 q32 q33 q34 q35 q36 q37 q38 q39 q40 q41 q42 q43 q44 q45 q46 q47 u0 u1 u2 u3 u4 i_kept i_images_0_children i_images_0_parishes i_images_0_laws i_images_0_inForce i_images_1_children i_images_1_parishes i_images_1_laws i_images_1_inForce i_images_0_columns_many i_images_0_strengths i_images_0_expelled i_images_0_trips i_images_0_places i_images_0_terms i_images_0_goals i_images_0_orders i_images_0_ordered i_images_1_columns_many i_images_1_strengths i_images_1_expelled i_images_1_trips i_images_1_places i_images_1_terms i_images_1_goals i_images_1_orders i_images_1_ordered i_images_0_columns_heights i_images_0_columns_weights i_images_1_columns_heights i_images_1_columns_weights i_latestStatus i_hill_children i_hill_parishes i_hill_laws i_hill_inForce i_hill_changes i_refusals i_hill_columns_many i_hill_strengths i_hill_expelled i_hill_trips i_hill_places i_hill_terms i_hill_goals i_hill_orders i_hill_ordered i_hill_columns_heights i_hill_columns_weights)[i]?) = (wd_HS_accept cA q0 q1 q2 q3 q4 q5 q6 q7 q8 q9 q10 q11 q12 q13 q14 q15 q16 q17 q18 q19 q20 q21 u0 u1 u2 i_hill_children i_hill_parishes i_hill_laws i_hill_inForce i_latestStatus i_hill_changes).map some := rfl
    refine xv_afterI (ws' := (wd_HS_back cA q0 q1 q2 q3 q4 q5 q6 q7 q8 q9 q10 q11 q12 q13 q14 q15 q16 q17 q18 q19 q20 q21 q22 q23 q24 q25 q26 q27 q28 q29 q30 q31 q32 q33 q34 q35 q36 q37 q38 q39 q40 q41 q42 q43 q44 q45 q46 q47 u0 u1 u2 u3 u4 i_kept i_images_0_children i_images_0_parishes i_images_0_laws i_images_0_inForce i_images_1_children i_images_1_parishes i_images_1_laws i_images_1_inForce i_images_0_columns_many i_images_0_strengths i_images_0_expelled i_images_0_trips i_images_0_places i_images_0_terms i_images_0_goals i_images_0_orders i_images_0_ordered i_images_1_columns_many i_images_1_strengths i_images_1_expelled i_images_1_trips i_images_1_places i_images_1_terms i_images_1_goals i_images_1_orders i_images_1_ordered i_images_0_columns_heights i_images_0_columns_weights i_images_1_columns_heights i_images_1_columns_weights v2 i_hill_children i_hill_parishes i_hill_laws i_hill_inForce v3 i_refusals i_hill_columns_many i_hill_strengths i_hill_expelled i_hill_trips i_hill_places i_hill_terms i_hill_goals i_hill_orders i_hill_ordered i_hill_columns_heights i_hill_columns_weights)) (isC := [0, 1]) (ps := [some 0, some 1, none, none, none, none, none, none, none, none, none, none, none, none, none, none, none, none, none, none, none, none, none, none, none, none, none, none, none, none, none, none, none, none, none, none, none, none, none, none]) (va_runV (As := [.int (Int32.ofInt 0)]) (rest := []) ⟨hx, hb, hml, hown, hts⟩ (c_HS_accept l ev dC dI cA q0 q1 q2 q3 q4 q5 q6 q7 q8 q9 q10 q11 q12 q13 q14 q15 q16 q17 q18 q19 q20 q21 u0 u1 u2 i_hill_children i_hill_parishes i_hill_laws i_hill_inForce hg H.size) (cwV 1 hts (zgV zw_538 zw_540 zw_1 zw_104 zw_541) rfl rfl rfl hd_HS_accept ⟨Nat.le_of_ble_eq_true rfl, Nat.le_of_ble_eq_true rfl⟩) (xv_preV (T := TX10) (N := 16) hE hA hS hK hP hD (isC := [0, 1]) (by decide +kernel) hC (q0 := 0) (ci := 10) rfl rfl) rfl rfl hl.1 rfl (lv_room (Nat.le_of_ble_eq_true rfl)) dX10_back_46 ⟨Nat.le_refl _, Nat.le_refl _⟩) hP hD hS hA (by decide +kernel) rfl hC rfl rfl (fun H locs hP hD hS => ?_)
    obtain rfl := Option.some.inj hf
    exact hret _ _ _ _ rfl dX10_back_49 hP hD hS
  unfold f_HS_back at hf
  refine lv_iload_n hx hb dX10_back_0 rfl (lv_at hl 1 rfl) ?_
  refine xi_if_lt (tgt := 9) hx hb dX10_back_1 (by decide) hf (fun hf => ?_) (fun hf => ?_)
  · exact b_9  _ _ _ _ _ _ _ _ _ _ _ _ _ _ _ _ _ _ _ _ _ hf hP hD hS (lv_sub hl [0] rfl)
  · refine lv_iload_n hx hb dX10_back_4 rfl (lv_at hl 1 rfl) ?_
    refine lv_iconst (v := Int32.ofInt 2) hx hb dX10_back_5 rfl ?_
    refine xi_icmp_lt (tgt := 15) hx hb dX10_back_6 (by decide) hf (fun hf => ?_) (fun hf => ?_)
    · refine lv_aload_n hx hb dX10_back_15 rfl (lv_at hl 0 rfl) ?_
      refine va_get (D := (dC, dI)) (ci := 10) (v := .ref q3) (C := RX10) (T := TX10) (N := 16) hx hb hz zi_X10 hown hK hP 0 rfl rfl 2 (by decide) (hz _ zw_479) (fun _ h9 => h9) rfl dX10_back_16 ?_
      refine lv_iload_n hx hb dX10_back_19 rfl (lv_at hl 1 rfl) ?_
      refine xi_zald hx hb hK hP 3 1 rfl rfl dX10_back_20 hf (fun v1 hf => ?_)
      refine xi_if_ne (tgt := 31) hx hb dX10_back_21 (by decide) hf (fun hf => ?_) (fun hf => ?_)
      · refine lv_aload_n hx hb dX10_back_31 rfl (lv_at hl 0 rfl) ?_
        refine va_get (D := (dC, dI)) (ci := 10) (v := .ref q1) (C := RX10) (T := TX10) (N := 16) hx hb hz zi_X10 hown hK hP 0 rfl rfl 0 (by decide) (hz _ zw_477) (fun _ h9 => h9) rfl dX10_back_32 ?_
        refine lv_aload_n hx hb dX10_back_35 rfl (lv_at hl 0 rfl) ?_
        refine va_get (D := (dC, dI)) (ci := 10) (v := .ref q2) (C := RX10) (T := TX10) (N := 16) hx hb hz zi_X10 hown hK hP 0 rfl rfl 1 (by decide) (hz _ zw_478) (fun _ h9 => h9) rfl dX10_back_36 ?_
        refine lv_iload_n hx hb dX10_back_39 rfl (lv_at hl 1 rfl) ?_
        refine xz_if hf (fun hc hf => ?_) (fun hn0 hf => ?_)
        · refine xi_aald hx hb hK hP 2 3 rfl rfl (j := 0) hc (by decide) rfl dX10_back_40 ?_
          refine xe_d15 hf (fun v2 v3 v4 v5 v6 a7 a8 a9 a10 a11 a12 a13 a14 a15 a16 hg hf => ?_)
          have hC : ([1, 14, 5, 6, 7, 8, 9, 10, 11, 12, 13, 18, 19, 20, 21, 22, 23, 24, 25, 26, 16, 17, 36, 37] : List Nat).map (fun i => (wd_HS_back cA q0 q1 q2 q3 q4 q5 q6 q7 q8 q9 q10 q11 q12 q13 q14 q15 q16 q17 q18 q19 q20 q21 q22 q23 q24 q25 q26 q27 q28 q29 q30 q31 q32 q33 q34 q35 q36 q37 q38 q39 q40 q41 q42 q43 q44 q45 q46 q47 u0 u1 u2 u3 u4 i_kept i_images_0_children i_images_0_parishes i_images_0_laws i_images_0_inForce i_images_1_children i_images_1_parishes i_images_1_laws i_images_1_inForce i_images_0_columns_many i_images_0_strengths i_images_0_expelled i_images_0_trips i_images_0_places i_images_0_terms i_images_0_goals i_images_0_orders i_images_0_ordered i_images_1_columns_many i_images_1_strengths i_images_1_expelled i_images_1_trips i_images_1_places i_images_1_terms i_images_1_goals i_images_1_orders i_images_1_ordered i_images_0_columns_heights i_images_0_columns_weights i_images_1_columns_heights i_images_1_columns_weights i_latestStatus i_hill_children i_hill_parishes i_hill_laws i_hill_inForce i_hill_changes i_refusals i_hill_columns_many i_hill_strengths i_hill_expelled i_hill_trips i_hill_places i_hill_terms i_hill_goals i_hill_orders i_hill_ordered i_hill_columns_heights i_hill_columns_weights)[i]?) = (wd_Hill_become cA q1 q13 q14 q15 q16 q17 q18 q19 q20 q21 q22 q26 q27 q28 q29 q30 q31 q32 q33 q34 q24 q25 q44 q45 i_hill_changes u3 i_images_0_children i_images_0_parishes i_images_0_laws i_images_0_inForce i_images_0_columns_many i_images_0_strengths i_images_0_expelled i_images_0_trips i_images_0_places i_images_0_terms i_images_0_goals i_images_0_orders i_images_0_ordered i_images_0_columns_heights i_images_0_columns_weights i_hill_children i_hill_parishes i_hill_laws i_hill_inForce i_hill_columns_many i_hill_strengths i_hill_expelled i_hill_trips i_hill_places i_hill_terms i_hill_goals i_hill_orders i_hill_ordered i_hill_columns_heights i_hill_columns_weights).map some := rfl
          refine xv_afterV (ws' := (wd_HS_back cA q0 q1 q2 q3 q4 q5 q6 q7 q8 q9 q10 q11 q12 q13 q14 q15 q16 q17 q18 q19 q20 q21 q22 q23 q24 q25 q26 q27 q28 q29 q30 q31 q32 q33 q34 q35 q36 q37 q38 q39 q40 q41 q42 q43 q44 q45 q46 q47 u0 u1 u2 u3 u4 i_kept i_images_0_children i_images_0_parishes i_images_0_laws i_images_0_inForce i_images_1_children i_images_1_parishes i_images_1_laws i_images_1_inForce i_images_0_columns_many i_images_0_strengths i_images_0_expelled i_images_0_trips i_images_0_places i_images_0_terms i_images_0_goals i_images_0_orders i_images_0_ordered i_images_1_columns_many i_images_1_strengths i_images_1_expelled i_images_1_trips i_images_1_places i_images_1_terms i_images_1_goals i_images_1_orders i_images_1_ordered i_images_0_columns_heights i_images_0_columns_weights i_images_1_columns_heights i_images_1_columns_weights i_latestStatus v2 v3 v4 v5 i_hill_changes i_refusals v6 a7 a8 a9 a10 a11 a12 a13 a14 a15 a16)) (isC := [1, 14, 5, 6, 7, 8, 9, 10, 11, 12, 13, 18, 19, 20, 21, 22, 23, 24, 25, 26, 16, 17, 36, 37]) (ps := [none, some 0, none, none, none, some 2, some 3, some 4, some 5, some 6, some 7, some 8, some 9, some 10, some 1, none, some 20, some 21, some 11, some 12, some 13, some 14, some 15, some 16, some 17, some 18, some 19, none, none, none, none, none, none, none, none, none, some 22, some 23, none, none]) (va_runV (As := [.ref q22]) (rest := []) ⟨hx, hb, hml, hown, hts⟩ (c_Hill_become l ev dC dI cA q1 q13 q14 q15 q16 q17 q18 q19 q20 q21 q22 q26 q27 q28 q29 q30 q31 q32 q33 q34 q24 q25 q44 q45 i_hill_changes u3 hg H.size) (cwV 1 hts (zgV zw_1132 zw_1133 zw_1134 zw_105 zw_1135) rfl rfl rfl hd_Hill_become ⟨Nat.le_of_ble_eq_true rfl, Nat.le_of_ble_eq_true rfl⟩) (xv_preV (T := TX2) (N := 14) hE hA hS hK hP hD (isC := [1, 14, 5, 6, 7, 8, 9, 10, 11, 12, 13, 18, 19, 20, 21, 22, 23, 24, 25, 26, 16, 17, 36, 37]) (by decide +kernel) hC (q0 := 1) (ci := 2) rfl rfl) rfl rfl hl.1 rfl (lv_room (Nat.le_of_ble_eq_true rfl)) dX10_back_41 ⟨Nat.le_refl _, Nat.le_refl _⟩) hP hD hS hA (by decide +kernel) rfl hC rfl rfl (fun H locs hP hD hS => ?_)
          exact b_44  _ _ _ _ _ _ _ _ _ _ _ _ _ _ _ _ _ _ _ _ _ hf hP hD hS (lv_sub hl [0] rfl)
        refine xz_if hf (fun hc hf => ?_) (fun hn1 hf => ?_)
        · refine xi_aald hx hb hK hP 2 3 rfl rfl (j := 1) hc (by decide) rfl dX10_back_40 ?_
          refine xe_d15 hf (fun v17 v18 v19 v20 v21 a22 a23 a24 a25 a26 a27 a28 a29 a30 a31 hg hf => ?_)
          have hC : ([1, 15, 5, 6, 7, 8, 9, 10, 11, 12, 13, 27, 28, 29, 30, 31, 32, 33, 34, 35, 16, 17, 38, 39] : List Nat).map (fun i => (wd_HS_back cA q0 q1 q2 q3 q4 q5 q6 q7 q8 q9 q10 q11 q12 q13 q14 q15 q16 q17 q18 q19 q20 q21 q22 q23 q24 q25 q26 q27 q28 q29 q30 q31 q32 q33 q34 q35 q36 q37 q38 q39 q40 q41 q42 q43 q44 q45 q46 q47 u0 u1 u2 u3 u4 i_kept i_images_0_children i_images_0_parishes i_images_0_laws i_images_0_inForce i_images_1_children i_images_1_parishes i_images_1_laws i_images_1_inForce i_images_0_columns_many i_images_0_strengths i_images_0_expelled i_images_0_trips i_images_0_places i_images_0_terms i_images_0_goals i_images_0_orders i_images_0_ordered i_images_1_columns_many i_images_1_strengths i_images_1_expelled i_images_1_trips i_images_1_places i_images_1_terms i_images_1_goals i_images_1_orders i_images_1_ordered i_images_0_columns_heights i_images_0_columns_weights i_images_1_columns_heights i_images_1_columns_weights i_latestStatus i_hill_children i_hill_parishes i_hill_laws i_hill_inForce i_hill_changes i_refusals i_hill_columns_many i_hill_strengths i_hill_expelled i_hill_trips i_hill_places i_hill_terms i_hill_goals i_hill_orders i_hill_ordered i_hill_columns_heights i_hill_columns_weights)[i]?) = (wd_Hill_become cA q1 q13 q14 q15 q16 q17 q18 q19 q20 q21 q23 q35 q36 q37 q38 q39 q40 q41 q42 q43 q24 q25 q46 q47 i_hill_changes u4 i_images_1_children i_images_1_parishes i_images_1_laws i_images_1_inForce i_images_1_columns_many i_images_1_strengths i_images_1_expelled i_images_1_trips i_images_1_places i_images_1_terms i_images_1_goals i_images_1_orders i_images_1_ordered i_images_1_columns_heights i_images_1_columns_weights i_hill_children i_hill_parishes i_hill_laws i_hill_inForce i_hill_columns_many i_hill_strengths i_hill_expelled i_hill_trips i_hill_places i_hill_terms i_hill_goals i_hill_orders i_hill_ordered i_hill_columns_heights i_hill_columns_weights).map some := rfl
          refine xv_afterV (ws' := (wd_HS_back cA q0 q1 q2 q3 q4 q5 q6 q7 q8 q9 q10 q11 q12 q13 q14 q15 q16 q17 q18 q19 q20 q21 q22 q23 q24 q25 q26 q27 q28 q29 q30 q31 q32 q33 q34 q35 q36 q37 q38 q39 q40 q41 q42 q43 q44 q45 q46 q47 u0 u1 u2 u3 u4 i_kept i_images_0_children i_images_0_parishes i_images_0_laws i_images_0_inForce i_images_1_children i_images_1_parishes i_images_1_laws i_images_1_inForce i_images_0_columns_many i_images_0_strengths i_images_0_expelled i_images_0_trips i_images_0_places i_images_0_terms i_images_0_goals i_images_0_orders i_images_0_ordered i_images_1_columns_many i_images_1_strengths i_images_1_expelled i_images_1_trips i_images_1_places i_images_1_terms i_images_1_goals i_images_1_orders i_images_1_ordered i_images_0_columns_heights i_images_0_columns_weights i_images_1_columns_heights i_images_1_columns_weights i_latestStatus v17 v18 v19 v20 i_hill_changes i_refusals v21 a22 a23 a24 a25 a26 a27 a28 a29 a30 a31)) (isC := [1, 15, 5, 6, 7, 8, 9, 10, 11, 12, 13, 27, 28, 29, 30, 31, 32, 33, 34, 35, 16, 17, 38, 39]) (ps := [none, some 0, none, none, none, some 2, some 3, some 4, some 5, some 6, some 7, some 8, some 9, some 10, none, some 1, some 20, some 21, none, none, none, none, none, none, none, none, none, some 11, some 12, some 13, some 14, some 15, some 16, some 17, some 18, some 19, none, none, some 22, some 23]) (va_runV (As := [.ref q23]) (rest := []) ⟨hx, hb, hml, hown, hts⟩ (c_Hill_become l ev dC dI cA q1 q13 q14 q15 q16 q17 q18 q19 q20 q21 q23 q35 q36 q37 q38 q39 q40 q41 q42 q43 q24 q25 q46 q47 i_hill_changes u4 hg H.size) (cwV 1 hts (zgV zw_1132 zw_1133 zw_1134 zw_105 zw_1135) rfl rfl rfl hd_Hill_become ⟨Nat.le_of_ble_eq_true rfl, Nat.le_of_ble_eq_true rfl⟩) (xv_preV (T := TX2) (N := 14) hE hA hS hK hP hD (isC := [1, 15, 5, 6, 7, 8, 9, 10, 11, 12, 13, 27, 28, 29, 30, 31, 32, 33, 34, 35, 16, 17, 38, 39]) (by decide +kernel) hC (q0 := 1) (ci := 2) rfl rfl) rfl rfl hl.1 rfl (lv_room (Nat.le_of_ble_eq_true rfl)) dX10_back_41 ⟨Nat.le_refl _, Nat.le_refl _⟩) hP hD hS hA (by decide +kernel) rfl hC rfl rfl (fun H locs hP hD hS => ?_)
          exact b_44  _ _ _ _ _ _ _ _ _ _ _ _ _ _ _ _ _ _ _ _ _ hf hP hD hS (lv_sub hl [0] rfl)
        exact nomatch hf
      · refine lv_aload_n hx hb dX10_back_24 rfl (lv_at hl 0 rfl) ?_
        refine lv_bipush (v := Int32.ofInt (-2)) hx hb dX10_back_25 (by decide) ?_
        refine xe_d3 hf (fun v32 v33 a34 hg hf => ?_)
        have hC : ([0, 4] : List Nat).map (fun i => (wd_HS_back cA q0 q1 q2 q3 q4 q5 q6 q7 q8 q9 q10 q11 q12 q13 q14 q15 q16 q17 q18 q19 q20 q21 q22 q23 q24 q25 q26 q27 q28 q29 q30 q31 q32 q33 q34 q35 q36 q37 q38 q39 q40 q41 q42 q43 q44 q45 q46 q47 u0 u1 u2 u3 u4 i_kept i_images_0_children i_images_0_parishes i_images_0_laws i_images_0_inForce i_images_1_children i_images_1_parishes i_images_1_laws i_images_1_inForce i_images_0_columns_many i_images_0_strengths i_images_0_expelled i_images_0_trips i_images_0_places i_images_0_terms i_images_0_goals i_images_0_orders i_images_0_ordered i_images_1_columns_many i_images_1_strengths i_images_1_expelled i_images_1_trips i_images_1_places i_images_1_terms i_images_1_goals i_images_1_orders i_images_1_ordered i_images_0_columns_heights i_images_0_columns_weights i_images_1_columns_heights i_images_1_columns_weights i_latestStatus i_hill_children i_hill_parishes i_hill_laws i_hill_inForce i_hill_changes i_refusals i_hill_columns_many i_hill_strengths i_hill_expelled i_hill_trips i_hill_places i_hill_terms i_hill_goals i_hill_orders i_hill_ordered i_hill_columns_heights i_hill_columns_weights)[i]?) = (wd_HS_refuse cA q0 q1 q2 q3 q4 q5 q6 q7 q8 q9 q10 q11 q12 u0 u1 u2 i_latestStatus i_refusals).map some := rfl
        refine xv_afterI (ws' := (wd_HS_back cA q0 q1 q2 q3 q4 q5 q6 q7 q8 q9 q10 q11 q12 q13 q14 q15 q16 q17 q18 q19 q20 q21 q22 q23 q24 q25 q26 q27 q28 q29 q30 q31 q32 q33 q34 q35 q36 q37 q38 q39 q40 q41 q42 q43 q44 q45 q46 q47 u0 u1 u2 u3 u4 i_kept i_images_0_children i_images_0_parishes i_images_0_laws i_images_0_inForce i_images_1_children i_images_1_parishes i_images_1_laws i_images_1_inForce i_images_0_columns_many i_images_0_strengths i_images_0_expelled i_images_0_trips i_images_0_places i_images_0_terms i_images_0_goals i_images_0_orders i_images_0_ordered i_images_1_columns_many i_images_1_strengths i_images_1_expelled i_images_1_trips i_images_1_places i_images_1_terms i_images_1_goals i_images_1_orders i_images_1_ordered i_images_0_columns_heights i_images_0_columns_weights i_images_1_columns_heights i_images_1_columns_weights v33 i_hill_children i_hill_parishes i_hill_laws i_hill_inForce i_hill_changes a34 i_hill_columns_many i_hill_strengths i_hill_expelled i_hill_trips i_hill_places i_hill_terms i_hill_goals i_hill_orders i_hill_ordered i_hill_columns_heights i_hill_columns_weights)) (isC := [0, 4]) (ps := [some 0, none, none, none, some 1, none, none, none, none, none, none, none, none, none, none, none, none, none, none, none, none, none, none, none, none, none, none, none, none, none, none, none, none, none, none, none, none, none, none, none]) (va_runV (As := [.int (Int32.ofInt (-2))]) (rest := []) ⟨hx, hb, hml, hown, hts⟩ (c_HS_refuse l ev dC dI cA q0 q1 q2 q3 q4 q5 q6 q7 q8 q9 q10 q11 q12 u0 u1 u2 hg H.size) (cwV 1 hts (zgV zw_534 zw_536 zw_0 zw_104 zw_537) rfl rfl rfl hd_HS_refuse ⟨Nat.le_of_ble_eq_true rfl, Nat.le_of_ble_eq_true rfl⟩) (xv_preV (T := TX10) (N := 16) hE hA hS hK hP hD (isC := [0, 4]) (by decide +kernel) hC (q0 := 0) (ci := 10) rfl rfl) rfl rfl hl.1 rfl (lv_room (Nat.le_of_ble_eq_true rfl)) dX10_back_27 ⟨Nat.le_refl _, Nat.le_refl _⟩) hP hD hS hA (by decide +kernel) rfl hC rfl rfl (fun H locs hP hD hS => ?_)
        obtain rfl := Option.some.inj hf
        exact hret _ _ _ _ rfl dX10_back_30 hP hD hS
    · exact b_9  _ _ _ _ _ _ _ _ _ _ _ _ _ _ _ _ _ _ _ _ _ hf hP hD hS (lv_sub hl [0] rfl)
theorem dX10_count_0 : decode cX10_count 0 = .ok (.iload_n 1, 1) := by decide +kernel
theorem dX10_count_1 : decode cX10_count 1 = .ok (.tableswitch 214 0 15 #[79, 90, 101, 109, 117, 125, 130, 137, 144, 151, 158, 166, 174, 184, 194, 204], 79) := by decide +kernel
theorem dX10_count_80 : decode cX10_count 80 = .ok (.aload_n 0, 1) := by decide +kernel
theorem dX10_count_81 : decode cX10_count 81 = .ok (.getfield 10, 3) := by decide +kernel
theorem dX10_count_84 : decode cX10_count 84 = .ok (.getfield 99, 3) := by decide +kernel
theorem dX10_count_87 : decode cX10_count 87 = .ok (.getfield 113, 3) := by decide +kernel
theorem dX10_count_90 : decode cX10_count 90 = .ok (.ireturn, 1) := by decide +kernel
theorem dX10_count_91 : decode cX10_count 91 = .ok (.aload_n 0, 1) := by decide +kernel
theorem dX10_count_92 : decode cX10_count 92 = .ok (.getfield 10, 3) := by decide +kernel
theorem dX10_count_95 : decode cX10_count 95 = .ok (.getfield 99, 3) := by decide +kernel
theorem dX10_count_98 : decode cX10_count 98 = .ok (.invokevirtual 279, 3) := by decide +kernel
theorem dX10_count_101 : decode cX10_count 101 = .ok (.ireturn, 1) := by decide +kernel
theorem dX10_count_102 : decode cX10_count 102 = .ok (.aload_n 0, 1) := by decide +kernel
theorem dX10_count_103 : decode cX10_count 103 = .ok (.getfield 10, 3) := by decide +kernel
theorem dX10_count_106 : decode cX10_count 106 = .ok (.getfield 143, 3) := by decide +kernel
theorem dX10_count_109 : decode cX10_count 109 = .ok (.ireturn, 1) := by decide +kernel
theorem dX10_count_110 : decode cX10_count 110 = .ok (.aload_n 0, 1) := by decide +kernel
theorem dX10_count_111 : decode cX10_count 111 = .ok (.getfield 10, 3) := by decide +kernel
theorem dX10_count_114 : decode cX10_count 114 = .ok (.getfield 161, 3) := by decide +kernel
theorem dX10_count_117 : decode cX10_count 117 = .ok (.ireturn, 1) := by decide +kernel
theorem dX10_count_118 : decode cX10_count 118 = .ok (.aload_n 0, 1) := by decide +kernel
theorem dX10_count_119 : decode cX10_count 119 = .ok (.getfield 10, 3) := by decide +kernel
theorem dX10_count_122 : decode cX10_count 122 = .ok (.getfield 183, 3) := by decide +kernel
theorem dX10_count_125 : decode cX10_count 125 = .ok (.ireturn, 1) := by decide +kernel
theorem dX10_count_126 : decode cX10_count 126 = .ok (.aload_n 0, 1) := by decide +kernel
theorem dX10_count_127 : decode cX10_count 127 = .ok (.getfield 28, 3) := by decide +kernel
theorem dX10_count_130 : decode cX10_count 130 = .ok (.ireturn, 1) := by decide +kernel
theorem dX10_count_131 : decode cX10_count 131 = .ok (.aload_n 0, 1) := by decide +kernel
theorem dX10_count_132 : decode cX10_count 132 = .ok (.getfield 38, 3) := by decide +kernel
theorem dX10_count_135 : decode cX10_count 135 = .ok (.iconst 1, 1) := by decide +kernel
theorem dX10_count_136 : decode cX10_count 136 = .ok (.iaload, 1) := by decide +kernel
theorem dX10_count_137 : decode cX10_count 137 = .ok (.ireturn, 1) := by decide +kernel
theorem dX10_count_138 : decode cX10_count 138 = .ok (.aload_n 0, 1) := by decide +kernel
theorem dX10_count_139 : decode cX10_count 139 = .ok (.getfield 38, 3) := by decide +kernel
theorem dX10_count_142 : decode cX10_count 142 = .ok (.iconst 2, 1) := by decide +kernel
theorem dX10_count_143 : decode cX10_count 143 = .ok (.iaload, 1) := by decide +kernel
theorem dX10_count_144 : decode cX10_count 144 = .ok (.ireturn, 1) := by decide +kernel
theorem dX10_count_145 : decode cX10_count 145 = .ok (.aload_n 0, 1) := by decide +kernel
theorem dX10_count_146 : decode cX10_count 146 = .ok (.getfield 38, 3) := by decide +kernel
theorem dX10_count_149 : decode cX10_count 149 = .ok (.iconst 3, 1) := by decide +kernel
theorem dX10_count_150 : decode cX10_count 150 = .ok (.iaload, 1) := by decide +kernel
theorem dX10_count_151 : decode cX10_count 151 = .ok (.ireturn, 1) := by decide +kernel
theorem dX10_count_152 : decode cX10_count 152 = .ok (.aload_n 0, 1) := by decide +kernel
theorem dX10_count_153 : decode cX10_count 153 = .ok (.getfield 38, 3) := by decide +kernel
theorem dX10_count_156 : decode cX10_count 156 = .ok (.iconst 5, 1) := by decide +kernel
theorem dX10_count_157 : decode cX10_count 157 = .ok (.iaload, 1) := by decide +kernel
theorem dX10_count_158 : decode cX10_count 158 = .ok (.ireturn, 1) := by decide +kernel
theorem dX10_count_159 : decode cX10_count 159 = .ok (.aload_n 0, 1) := by decide +kernel
theorem dX10_count_160 : decode cX10_count 160 = .ok (.getfield 38, 3) := by decide +kernel
theorem dX10_count_163 : decode cX10_count 163 = .ok (.bipush 6, 2) := by decide +kernel
theorem dX10_count_165 : decode cX10_count 165 = .ok (.iaload, 1) := by decide +kernel
theorem dX10_count_166 : decode cX10_count 166 = .ok (.ireturn, 1) := by decide +kernel
theorem dX10_count_167 : decode cX10_count 167 = .ok (.aload_n 0, 1) := by decide +kernel
theorem dX10_count_168 : decode cX10_count 168 = .ok (.getfield 10, 3) := by decide +kernel
theorem dX10_count_171 : decode cX10_count 171 = .ok (.getfield 194, 3) := by decide +kernel
theorem dX10_count_174 : decode cX10_count 174 = .ok (.ireturn, 1) := by decide +kernel
theorem dX10_count_175 : decode cX10_count 175 = .ok (.aload_n 0, 1) := by decide +kernel
theorem dX10_count_176 : decode cX10_count 176 = .ok (.getfield 10, 3) := by decide +kernel
theorem dX10_count_179 : decode cX10_count 179 = .ok (.getfield 176, 3) := by decide +kernel
theorem dX10_count_182 : decode cX10_count 182 = .ok (.iconst 0, 1) := by decide +kernel
theorem dX10_count_183 : decode cX10_count 183 = .ok (.iaload, 1) := by decide +kernel
theorem dX10_count_184 : decode cX10_count 184 = .ok (.ireturn, 1) := by decide +kernel
theorem dX10_count_185 : decode cX10_count 185 = .ok (.aload_n 0, 1) := by decide +kernel
theorem dX10_count_186 : decode cX10_count 186 = .ok (.getfield 10, 3) := by decide +kernel
theorem dX10_count_189 : decode cX10_count 189 = .ok (.getfield 176, 3) := by decide +kernel
theorem dX10_count_192 : decode cX10_count 192 = .ok (.iconst 1, 1) := by decide +kernel
theorem dX10_count_193 : decode cX10_count 193 = .ok (.iaload, 1) := by decide +kernel
theorem dX10_count_194 : decode cX10_count 194 = .ok (.ireturn, 1) := by decide +kernel
theorem dX10_count_195 : decode cX10_count 195 = .ok (.aload_n 0, 1) := by decide +kernel
theorem dX10_count_196 : decode cX10_count 196 = .ok (.getfield 10, 3) := by decide +kernel
theorem dX10_count_199 : decode cX10_count 199 = .ok (.getfield 176, 3) := by decide +kernel
theorem dX10_count_202 : decode cX10_count 202 = .ok (.iconst 2, 1) := by decide +kernel
theorem dX10_count_203 : decode cX10_count 203 = .ok (.iaload, 1) := by decide +kernel
theorem dX10_count_204 : decode cX10_count 204 = .ok (.ireturn, 1) := by decide +kernel
theorem dX10_count_205 : decode cX10_count 205 = .ok (.aload_n 0, 1) := by decide +kernel
theorem dX10_count_206 : decode cX10_count 206 = .ok (.getfield 10, 3) := by decide +kernel
theorem dX10_count_209 : decode cX10_count 209 = .ok (.getfield 176, 3) := by decide +kernel
theorem dX10_count_212 : decode cX10_count 212 = .ok (.iconst 3, 1) := by decide +kernel
theorem dX10_count_213 : decode cX10_count 213 = .ok (.iaload, 1) := by decide +kernel
theorem dX10_count_214 : decode cX10_count 214 = .ok (.ireturn, 1) := by decide +kernel
theorem dX10_count_215 : decode cX10_count 215 = .ok (.iconst (-1), 1) := by decide +kernel
theorem dX10_count_216 : decode cX10_count 216 = .ok (.ireturn, 1) := by decide +kernel
theorem zw_1144 : (Jvm.Cond.code ({ cls := "HillSchool", name := "count", desc := "(I)I" } : Jvm.MethodName) prog_1_method_38_code (2 : Nat) (Option.some Jvm.ClassFile.FieldType.int)) ∈ zall := zmemG (zmj_5 81 rfl) rfl
theorem zw_1145 : (Jvm.Cond.methodLink "HillSchool" (279 : Nat) ({ cls := "HillSchool$Columns", name := "stones", desc := "()I" } : Jvm.MethodName)) ∈ zall := zmemG (zmj_5 82 rfl) rfl
abbrev w_HS_count : List Cond := .code yX10_count cX10_count 2 (some .int) :: zall
abbrev rm_HS_count : Room := { frames := 1, cells := 0, slots := 0, locals := 22 }
theorem hd_HS_count : yX10_count.cls = "HillSchool" ∧ yX10_count.cls ≠ "java/lang/invoke/MethodHandle" ∧ yX10_count.cls ≠ "java/lang/invoke/VarHandle" ∧ (parseMethodDescriptor yX10_count.desc).map (fun d => d.parameters.length) = some 1 := by decide +kernel
def wd_HS_count (cA : Nat → ClassId) (q0 q1 q2 q3 q4 q5 q6 q7 q8 q9 q10 q11 q12 q13 q14 q15 q16 q17 q18 q19 q20 q21 q22 q23 : Nat) (u0 u1 u2 u3 : Int) (i_taped : Int) (i_hill_children : Int) (i_hill_parishes : Int) (i_hill_laws : Int) (i_hill_inForce : Int) (i_refusals : Nat → Int) (i_hill_columns_many : Int) (i_hill_terms : Nat → Int) (i_hill_columns_heights : Nat → Int)  : va_W := [(q0, .inr (10, [.ref q1, .ref q2, .ref q3, .ref q4, .int (Int32.ofInt i_taped), .int (Int32.ofInt u0), .int (Int32.ofInt u1), .ref q5, .int (Int32.ofInt u2), .ref q6, .ref q7, .ref q8, .ref q9, .ref q10, .ref q11, .ref q12])), (q1, .inr (2, [.ref q13, .int (Int32.ofInt i_hill_children), .ref q14, .ref q15, .ref q16, .int (Int32.ofInt i_hill_parishes), .ref q17, .ref q18, .ref q19, .int (Int32.ofInt i_hill_laws), .ref q20, .ref q21, .int (Int32.ofInt i_hill_inForce), .int (Int32.ofInt u3)])), (q5, .inl (cA 0, 7, .inl (za i_refusals))), (q13, .inr (1, [.int (Int32.ofInt i_hill_columns_many), .ref q22, .ref q23])), (q18, .inl (cA 0, 4, .inl (za i_hill_terms))), (q22, .inl (cA 0, 12, .inl (za i_hill_columns_heights)))]
def wf_HS_count (cA : Nat → ClassId) (q0 q1 q2 q3 q4 q5 q6 q7 q8 q9 q10 q11 q12 q13 q14 q15 q16 q17 q18 q19 q20 q21 q22 q23 : Nat) (u0 u1 u2 u3 : Int) (i_taped : Int) (i_hill_children : Int) (i_hill_parishes : Int) (i_hill_laws : Int) (i_hill_inForce : Int) (i_refusals : Nat → Int) (i_hill_columns_many : Int) (i_hill_terms : Nat → Int) (i_hill_columns_heights : Nat → Int) (o : Int) : va_W := wd_HS_count cA q0 q1 q2 q3 q4 q5 q6 q7 q8 q9 q10 q11 q12 q13 q14 q15 q16 q17 q18 q19 q20 q21 q22 q23 u0 u1 u2 u3 i_taped i_hill_children i_hill_parishes i_hill_laws i_hill_inForce i_refusals i_hill_columns_many i_hill_terms i_hill_columns_heights
def f_HS_count (x1 : Int) (i_taped : Int) (i_hill_children : Int) (i_hill_parishes : Int) (i_hill_laws : Int) (i_hill_inForce : Int) (i_refusals : Nat → Int) (i_hill_columns_many : Int) (i_hill_terms : Nat → Int) (i_hill_columns_heights : Nat → Int) : Option (Int) :=
  if zi_w x1 = 0 then
    some i_hill_columns_many
  else if zi_w x1 = 1 then
    zd1 (f_Columns_stones i_hill_columns_many i_hill_columns_heights) fun v1 =>
    some v1
  else if zi_w x1 = 2 then
    some i_hill_children
  else if zi_w x1 = 3 then
    some i_hill_parishes
  else if zi_w x1 = 4 then
    some i_hill_laws
  else if zi_w x1 = 5 then
    some i_taped
  else if zi_w x1 = 6 then
    zg 7 i_refusals 1 fun v2 =>
    some v2
  else if zi_w x1 = 7 then
    zg 7 i_refusals 2 fun v3 =>
    some v3
  else if zi_w x1 = 8 then
    zg 7 i_refusals 3 fun v4 =>
    some v4
  else if zi_w x1 = 9 then
    zg 7 i_refusals 5 fun v5 =>
    some v5
  else if zi_w x1 = 10 then
    zg 7 i_refusals 6 fun v6 =>
    some v6
  else if zi_w x1 = 11 then
    some i_hill_inForce
  else if zi_w x1 = 12 then
    zg 4 i_hill_terms 0 fun v7 =>
    some v7
  else if zi_w x1 = 13 then
    zg 4 i_hill_terms 1 fun v8 =>
    some v8
  else if zi_w x1 = 14 then
    zg 4 i_hill_terms 2 fun v9 =>
    some v9
  else if zi_w x1 = 15 then
    zg 4 i_hill_terms 3 fun v10 =>
    some v10
  else
    some (-1)
set_option maxHeartbeats 4000000 in
set_option maxRecDepth 100000 in
theorem c_HS_count (l : Launch) (ev : zEv) (dC : Nat → ClassId) (dI : Nat → Nat → Nat) (cA : Nat → ClassId) (q0 q1 q2 q3 q4 q5 q6 q7 q8 q9 q10 q11 q12 q13 q14 q15 q16 q17 q18 q19 q20 q21 q22 q23 : Nat) (u0 u1 u2 u3 : Int) {x1 : Int} {i_taped : Int} {i_hill_children : Int} {i_hill_parishes : Int} {i_hill_laws : Int} {i_hill_inForce : Int} {i_refusals : Nat → Int} {i_hill_columns_many : Int} {i_hill_terms : Nat → Int} {i_hill_columns_heights : Nat → Int} {out : Int} (hf : f_HS_count x1 i_taped i_hill_children i_hill_parishes i_hill_laws i_hill_inForce i_refusals i_hill_columns_many i_hill_terms i_hill_columns_heights = some out) : xc_I l ev (dC, dI) vwCl (tyl cA) yX10_count w_HS_count rm_HS_count [.ref q0, .int (Int32.ofInt x1)] (wd_HS_count cA q0 q1 q2 q3 q4 q5 q6 q7 q8 q9 q10 q11 q12 q13 q14 q15 q16 q17 q18 q19 q20 q21 q22 q23 u0 u1 u2 u3 i_taped i_hill_children i_hill_parishes i_hill_laws i_hill_inForce i_refusals i_hill_columns_many i_hill_terms i_hill_columns_heights) (wf_HS_count cA q0 q1 q2 q3 q4 q5 q6 q7 q8 q9 q10 q11 q12 q13 q14 q15 q16 q17 q18 q19 q20 q21 q22 q23 u0 u1 u2 u3 i_taped i_hill_children i_hill_parishes i_hill_laws i_hill_inForce i_refusals i_hill_columns_many i_hill_terms i_hill_columns_heights out) out := by
  refine xv_startI (cc := cX10_count) (maxL := 2) (rt := .int) (by decide +kernel) rfl (Nat.le_of_ble_eq_true rfl) ?_
  intro p e s m args below meth c A Q H ls hx hb hml hts hown hK hA hP hD hS hl hE hret
  have hown : s.vm.findClass "HillSchool" = some m.cls := hown
  have hz : ∀ w ∈ zall, w.before args s = true := fun w h => hts w (List.mem_cons_of_mem _ h)
  have hl : lv_has ls 2 [(0, .ref q0), (1, .int (Int32.ofInt x1))] := hl
  unfold f_HS_count at hf
  refine lv_iload_n hx hb dX10_count_0 rfl (lv_at hl 1 rfl) ?_
  refine xz_if hf (fun hc hf => ?_) (fun hn0 hf => ?_)
  · refine xi_tin (tgt := 80) hx hb dX10_count_1 hc (by decide) (by decide) rfl (by decide) ?_
    refine lv_aload_n hx hb dX10_count_80 rfl (lv_at hl 0 rfl) ?_
    refine va_get (D := (dC, dI)) (ci := 10) (v := .ref q1) (C := RX10) (T := TX10) (N := 16) hx hb hz zi_X10 hown hK hP 0 rfl rfl 0 (by decide) (hz _ zw_477) (fun _ h9 => h9) rfl dX10_count_81 ?_
    refine va_getN (D := (dC, dI)) (ci := 2) (v := .ref q13) (C := RX2) (T := TX2) (N := 14) hx hb hz zi_X2 hown hK hP 1 rfl rfl 0 (by decide) (va_Nw.use rfl (hE.1.1 _ zw_169)) (fun _ h9 => h9) rfl dX10_count_84 ?_
    refine va_getN (D := (dC, dI)) (ci := 1) (v := .int (Int32.ofInt i_hill_columns_many)) (C := RX1) (T := TX1) (N := 3) hx hb hz zi_X1 hown hK hP 3 rfl rfl 0 (by decide) (va_Nw.use rfl (hE.1.1 _ zw_146)) (fun _ h9 => h9) rfl dX10_count_87 ?_
    obtain rfl := Option.some.inj hf
    exact hret _ _ _ _ rfl dX10_count_90 hP hD hS
  refine xz_if hf (fun hc hf => ?_) (fun hn1 hf => ?_)
  · refine xi_tin (tgt := 91) hx hb dX10_count_1 hc (by decide) (by decide) rfl (by decide) ?_
    refine lv_aload_n hx hb dX10_count_91 rfl (lv_at hl 0 rfl) ?_
    refine va_get (D := (dC, dI)) (ci := 10) (v := .ref q1) (C := RX10) (T := TX10) (N := 16) hx hb hz zi_X10 hown hK hP 0 rfl rfl 0 (by decide) (hz _ zw_477) (fun _ h9 => h9) rfl dX10_count_92 ?_
    refine va_getN (D := (dC, dI)) (ci := 2) (v := .ref q13) (C := RX2) (T := TX2) (N := 14) hx hb hz zi_X2 hown hK hP 1 rfl rfl 0 (by decide) (va_Nw.use rfl (hE.1.1 _ zw_169)) (fun _ h9 => h9) rfl dX10_count_95 ?_
    refine xe_d1 hf (fun v1 hg hf => ?_)
    have hC : ([3, 5] : List Nat).map (fun i => (wd_HS_count cA q0 q1 q2 q3 q4 q5 q6 q7 q8 q9 q10 q11 q12 q13 q14 q15 q16 q17 q18 q19 q20 q21 q22 q23 u0 u1 u2 u3 i_taped i_hill_children i_hill_parishes i_hill_laws i_hill_inForce i_refusals i_hill_columns_many i_hill_terms i_hill_columns_heights)[i]?) = (wd_Columns_stones cA q13 q22 q23 i_hill_columns_many i_hill_columns_heights).map some := rfl
    refine xv_afterI (ws' := (wd_HS_count cA q0 q1 q2 q3 q4 q5 q6 q7 q8 q9 q10 q11 q12 q13 q14 q15 q16 q17 q18 q19 q20 q21 q22 q23 u0 u1 u2 u3 i_taped i_hill_children i_hill_parishes i_hill_laws i_hill_inForce i_refusals i_hill_columns_many i_hill_terms i_hill_columns_heights)) (isC := [3, 5]) (ps := [none, none, none, some 0, none, some 1]) (va_runV (As := []) (rest := []) ⟨hx, hb, hml, hown, hts⟩ (c_Columns_stones l ev dC dI cA q13 q22 q23 hg H.size) (cwV 0 hts (zgV zw_1145 zw_923 zw_924 zw_106 zw_925) rfl rfl rfl hd_Columns_stones ⟨Nat.le_of_ble_eq_true rfl, Nat.le_of_ble_eq_true rfl⟩) (xv_preV (T := TX1) (N := 3) hE hA hS hK hP hD (isC := [3, 5]) (by decide +kernel) hC (q0 := 3) (ci := 1) rfl rfl) rfl rfl hl.1 rfl (lv_room (Nat.le_of_ble_eq_true rfl)) dX10_count_98 ⟨Nat.le_refl _, Nat.le_refl _⟩) hP hD hS hA (by decide +kernel) rfl hC rfl rfl (fun H locs hP hD hS => ?_)
    obtain rfl := Option.some.inj hf
    exact hret _ _ _ _ rfl dX10_count_101 hP hD hS
  refine xz_if hf (fun hc hf => ?_) (fun hn2 hf => ?_)
  · refine xi_tin (tgt := 102) hx hb dX10_count_1 hc (by decide) (by decide) rfl (by decide) ?_
    refine lv_aload_n hx hb dX10_count_102 rfl (lv_at hl 0 rfl) ?_
    refine va_get (D := (dC, dI)) (ci := 10) (v := .ref q1) (C := RX10) (T := TX10) (N := 16) hx hb hz zi_X10 hown hK hP 0 rfl rfl 0 (by decide) (hz _ zw_477) (fun _ h9 => h9) rfl dX10_count_103 ?_
    refine va_getN (D := (dC, dI)) (ci := 2) (v := .int (Int32.ofInt i_hill_children)) (C := RX2) (T := TX2) (N := 14) hx hb hz zi_X2 hown hK hP 1 rfl rfl 1 (by decide) (va_Nw.use rfl (hE.1.1 _ zw_176)) (fun _ h9 => h9) rfl dX10_count_106 ?_
    obtain rfl := Option.some.inj hf
    exact hret _ _ _ _ rfl dX10_count_109 hP hD hS
  refine xz_if hf (fun hc hf => ?_) (fun hn3 hf => ?_)
  · refine xi_tin (tgt := 110) hx hb dX10_count_1 hc (by decide) (by decide) rfl (by decide) ?_
    refine lv_aload_n hx hb dX10_count_110 rfl (lv_at hl 0 rfl) ?_
    refine va_get (D := (dC, dI)) (ci := 10) (v := .ref q1) (C := RX10) (T := TX10) (N := 16) hx hb hz zi_X10 hown hK hP 0 rfl rfl 0 (by decide) (hz _ zw_477) (fun _ h9 => h9) rfl dX10_count_111 ?_
    refine va_getN (D := (dC, dI)) (ci := 2) (v := .int (Int32.ofInt i_hill_parishes)) (C := RX2) (T := TX2) (N := 14) hx hb hz zi_X2 hown hK hP 1 rfl rfl 5 (by decide) (va_Nw.use rfl (hE.1.1 _ zw_186)) (fun _ h9 => h9) rfl dX10_count_114 ?_
    obtain rfl := Option.some.inj hf
    exact hret _ _ _ _ rfl dX10_count_117 hP hD hS
  refine xz_if hf (fun hc hf => ?_) (fun hn4 hf => ?_)
  · refine xi_tin (tgt := 118) hx hb dX10_count_1 hc (by decide) (by decide) rfl (by decide) ?_
    refine lv_aload_n hx hb dX10_count_118 rfl (lv_at hl 0 rfl) ?_
    refine va_get (D := (dC, dI)) (ci := 10) (v := .ref q1) (C := RX10) (T := TX10) (N := 16) hx hb hz zi_X10 hown hK hP 0 rfl rfl 0 (by decide) (hz _ zw_477) (fun _ h9 => h9) rfl dX10_count_119 ?_
    refine va_getN (D := (dC, dI)) (ci := 2) (v := .int (Int32.ofInt i_hill_laws)) (C := RX2) (T := TX2) (N := 14) hx hb hz zi_X2 hown hK hP 1 rfl rfl 9 (by decide) (va_Nw.use rfl (hE.1.1 _ zw_198)) (fun _ h9 => h9) rfl dX10_count_122 ?_
    obtain rfl := Option.some.inj hf
    exact hret _ _ _ _ rfl dX10_count_125 hP hD hS
  refine xz_if hf (fun hc hf => ?_) (fun hn5 hf => ?_)
  · refine xi_tin (tgt := 126) hx hb dX10_count_1 hc (by decide) (by decide) rfl (by decide) ?_
    refine lv_aload_n hx hb dX10_count_126 rfl (lv_at hl 0 rfl) ?_
    refine va_get (D := (dC, dI)) (ci := 10) (v := .int (Int32.ofInt i_taped)) (C := RX10) (T := TX10) (N := 16) hx hb hz zi_X10 hown hK hP 0 rfl rfl 4 (by decide) (hz _ zw_481) (fun _ h9 => h9) rfl dX10_count_127 ?_
    obtain rfl := Option.some.inj hf
    exact hret _ _ _ _ rfl dX10_count_130 hP hD hS
  refine xz_if hf (fun hc hf => ?_) (fun hn6 hf => ?_)
  · refine xi_tin (tgt := 131) hx hb dX10_count_1 hc (by decide) (by decide) rfl (by decide) ?_
    refine lv_aload_n hx hb dX10_count_131 rfl (lv_at hl 0 rfl) ?_
    refine va_get (D := (dC, dI)) (ci := 10) (v := .ref q5) (C := RX10) (T := TX10) (N := 16) hx hb hz zi_X10 hown hK hP 0 rfl rfl 7 (by decide) (hz _ zw_484) (fun _ h9 => h9) rfl dX10_count_132 ?_
    refine lv_iconst (v := Int32.ofInt 1) hx hb dX10_count_135 rfl ?_
    refine xi_iald hx hb hK hP 2 0 rfl rfl dX10_count_136 hf (fun v2 hf => ?_)
    obtain rfl := Option.some.inj hf
    exact hret _ _ _ _ rfl dX10_count_137 hP hD hS
  refine xz_if hf (fun hc hf => ?_) (fun hn7 hf => ?_)
  · refine xi_tin (tgt := 138) hx hb dX10_count_1 hc (by decide) (by decide) rfl (by decide) ?_
    refine lv_aload_n hx hb dX10_count_138 rfl (lv_at hl 0 rfl) ?_
    refine va_get (D := (dC, dI)) (ci := 10) (v := .ref q5) (C := RX10) (T := TX10) (N := 16) hx hb hz zi_X10 hown hK hP 0 rfl rfl 7 (by decide) (hz _ zw_484) (fun _ h9 => h9) rfl dX10_count_139 ?_
    refine lv_iconst (v := Int32.ofInt 2) hx hb dX10_count_142 rfl ?_
    refine xi_iald hx hb hK hP 2 0 rfl rfl dX10_count_143 hf (fun v3 hf => ?_)
    obtain rfl := Option.some.inj hf
    exact hret _ _ _ _ rfl dX10_count_144 hP hD hS
  refine xz_if hf (fun hc hf => ?_) (fun hn8 hf => ?_)
  · refine xi_tin (tgt := 145) hx hb dX10_count_1 hc (by decide) (by decide) rfl (by decide) ?_
    refine lv_aload_n hx hb dX10_count_145 rfl (lv_at hl 0 rfl) ?_
    refine va_get (D := (dC, dI)) (ci := 10) (v := .ref q5) (C := RX10) (T := TX10) (N := 16) hx hb hz zi_X10 hown hK hP 0 rfl rfl 7 (by decide) (hz _ zw_484) (fun _ h9 => h9) rfl dX10_count_146 ?_
    refine lv_iconst (v := Int32.ofInt 3) hx hb dX10_count_149 rfl ?_
    refine xi_iald hx hb hK hP 2 0 rfl rfl dX10_count_150 hf (fun v4 hf => ?_)
    obtain rfl := Option.some.inj hf
    exact hret _ _ _ _ rfl dX10_count_151 hP hD hS
  refine xz_if hf (fun hc hf => ?_) (fun hn9 hf => ?_)
  · refine xi_tin (tgt := 152) hx hb dX10_count_1 hc (by decide) (by decide) rfl (by decide) ?_
    refine lv_aload_n hx hb dX10_count_152 rfl (lv_at hl 0 rfl) ?_
    refine va_get (D := (dC, dI)) (ci := 10) (v := .ref q5) (C := RX10) (T := TX10) (N := 16) hx hb hz zi_X10 hown hK hP 0 rfl rfl 7 (by decide) (hz _ zw_484) (fun _ h9 => h9) rfl dX10_count_153 ?_
    refine lv_iconst (v := Int32.ofInt 5) hx hb dX10_count_156 rfl ?_
    refine xi_iald hx hb hK hP 2 0 rfl rfl dX10_count_157 hf (fun v5 hf => ?_)
    obtain rfl := Option.some.inj hf
    exact hret _ _ _ _ rfl dX10_count_158 hP hD hS
  refine xz_if hf (fun hc hf => ?_) (fun hn10 hf => ?_)
  · refine xi_tin (tgt := 159) hx hb dX10_count_1 hc (by decide) (by decide) rfl (by decide) ?_
    refine lv_aload_n hx hb dX10_count_159 rfl (lv_at hl 0 rfl) ?_
    refine va_get (D := (dC, dI)) (ci := 10) (v := .ref q5) (C := RX10) (T := TX10) (N := 16) hx hb hz zi_X10 hown hK hP 0 rfl rfl 7 (by decide) (hz _ zw_484) (fun _ h9 => h9) rfl dX10_count_160 ?_
    refine lv_bipush (v := Int32.ofInt 6) hx hb dX10_count_163 (by decide) ?_
    refine xi_iald hx hb hK hP 2 0 rfl rfl dX10_count_165 hf (fun v6 hf => ?_)
    obtain rfl := Option.some.inj hf
    exact hret _ _ _ _ rfl dX10_count_166 hP hD hS
  refine xz_if hf (fun hc hf => ?_) (fun hn11 hf => ?_)
  · refine xi_tin (tgt := 167) hx hb dX10_count_1 hc (by decide) (by decide) rfl (by decide) ?_
    refine lv_aload_n hx hb dX10_count_167 rfl (lv_at hl 0 rfl) ?_
    refine va_get (D := (dC, dI)) (ci := 10) (v := .ref q1) (C := RX10) (T := TX10) (N := 16) hx hb hz zi_X10 hown hK hP 0 rfl rfl 0 (by decide) (hz _ zw_477) (fun _ h9 => h9) rfl dX10_count_168 ?_
    refine va_getN (D := (dC, dI)) (ci := 2) (v := .int (Int32.ofInt i_hill_inForce)) (C := RX2) (T := TX2) (N := 14) hx hb hz zi_X2 hown hK hP 1 rfl rfl 12 (by decide) (va_Nw.use rfl (hE.1.1 _ zw_205)) (fun _ h9 => h9) rfl dX10_count_171 ?_
    obtain rfl := Option.some.inj hf
    exact hret _ _ _ _ rfl dX10_count_174 hP hD hS
  refine xz_if hf (fun hc hf => ?_) (fun hn12 hf => ?_)
  · refine xi_tin (tgt := 175) hx hb dX10_count_1 hc (by decide) (by decide) rfl (by decide) ?_
    refine lv_aload_n hx hb dX10_count_175 rfl (lv_at hl 0 rfl) ?_
    refine va_get (D := (dC, dI)) (ci := 10) (v := .ref q1) (C := RX10) (T := TX10) (N := 16) hx hb hz zi_X10 hown hK hP 0 rfl rfl 0 (by decide) (hz _ zw_477) (fun _ h9 => h9) rfl dX10_count_176 ?_
    refine va_getN (D := (dC, dI)) (ci := 2) (v := .ref q18) (C := RX2) (T := TX2) (N := 14) hx hb hz zi_X2 hown hK hP 1 rfl rfl 7 (by decide) (va_Nw.use rfl (hE.1.1 _ zw_191)) (fun _ h9 => h9) rfl dX10_count_179 ?_
    refine lv_iconst (v := Int32.ofInt 0) hx hb dX10_count_182 rfl ?_
    refine xi_iald hx hb hK hP 4 0 rfl rfl dX10_count_183 hf (fun v7 hf => ?_)
    obtain rfl := Option.some.inj hf
    exact hret _ _ _ _ rfl dX10_count_184 hP hD hS
  refine xz_if hf (fun hc hf => ?_) (fun hn13 hf => ?_)
  · refine xi_tin (tgt := 185) hx hb dX10_count_1 hc (by decide) (by decide) rfl (by decide) ?_
    refine lv_aload_n hx hb dX10_count_185 rfl (lv_at hl 0 rfl) ?_
    refine va_get (D := (dC, dI)) (ci := 10) (v := .ref q1) (C := RX10) (T := TX10) (N := 16) hx hb hz zi_X10 hown hK hP 0 rfl rfl 0 (by decide) (hz _ zw_477) (fun _ h9 => h9) rfl dX10_count_186 ?_
    refine va_getN (D := (dC, dI)) (ci := 2) (v := .ref q18) (C := RX2) (T := TX2) (N := 14) hx hb hz zi_X2 hown hK hP 1 rfl rfl 7 (by decide) (va_Nw.use rfl (hE.1.1 _ zw_191)) (fun _ h9 => h9) rfl dX10_count_189 ?_
    refine lv_iconst (v := Int32.ofInt 1) hx hb dX10_count_192 rfl ?_
    refine xi_iald hx hb hK hP 4 0 rfl rfl dX10_count_193 hf (fun v8 hf => ?_)
    obtain rfl := Option.some.inj hf
    exact hret _ _ _ _ rfl dX10_count_194 hP hD hS
  refine xz_if hf (fun hc hf => ?_) (fun hn14 hf => ?_)
  · refine xi_tin (tgt := 195) hx hb dX10_count_1 hc (by decide) (by decide) rfl (by decide) ?_
    refine lv_aload_n hx hb dX10_count_195 rfl (lv_at hl 0 rfl) ?_
    refine va_get (D := (dC, dI)) (ci := 10) (v := .ref q1) (C := RX10) (T := TX10) (N := 16) hx hb hz zi_X10 hown hK hP 0 rfl rfl 0 (by decide) (hz _ zw_477) (fun _ h9 => h9) rfl dX10_count_196 ?_
    refine va_getN (D := (dC, dI)) (ci := 2) (v := .ref q18) (C := RX2) (T := TX2) (N := 14) hx hb hz zi_X2 hown hK hP 1 rfl rfl 7 (by decide) (va_Nw.use rfl (hE.1.1 _ zw_191)) (fun _ h9 => h9) rfl dX10_count_199 ?_
    refine lv_iconst (v := Int32.ofInt 2) hx hb dX10_count_202 rfl ?_
    refine xi_iald hx hb hK hP 4 0 rfl rfl dX10_count_203 hf (fun v9 hf => ?_)
    obtain rfl := Option.some.inj hf
    exact hret _ _ _ _ rfl dX10_count_204 hP hD hS
  refine xz_if hf (fun hc hf => ?_) (fun hn15 hf => ?_)
  · refine xi_tin (tgt := 205) hx hb dX10_count_1 hc (by decide) (by decide) rfl (by decide) ?_
    refine lv_aload_n hx hb dX10_count_205 rfl (lv_at hl 0 rfl) ?_
    refine va_get (D := (dC, dI)) (ci := 10) (v := .ref q1) (C := RX10) (T := TX10) (N := 16) hx hb hz zi_X10 hown hK hP 0 rfl rfl 0 (by decide) (hz _ zw_477) (fun _ h9 => h9) rfl dX10_count_206 ?_
    refine va_getN (D := (dC, dI)) (ci := 2) (v := .ref q18) (C := RX2) (T := TX2) (N := 14) hx hb hz zi_X2 hown hK hP 1 rfl rfl 7 (by decide) (va_Nw.use rfl (hE.1.1 _ zw_191)) (fun _ h9 => h9) rfl dX10_count_209 ?_
    refine lv_iconst (v := Int32.ofInt 3) hx hb dX10_count_212 rfl ?_
    refine xi_iald hx hb hK hP 4 0 rfl rfl dX10_count_213 hf (fun v10 hf => ?_)
    obtain rfl := Option.some.inj hf
    exact hret _ _ _ _ rfl dX10_count_214 hP hD hS
  refine xi_tout (tgt := 215) hx hb dX10_count_1 (by omega) (by decide) ?_
  refine lv_iconst (v := Int32.ofInt (-1)) hx hb dX10_count_215 rfl ?_
  obtain rfl := Option.some.inj hf
  exact hret _ _ _ _ rfl dX10_count_216 hP hD hS
theorem dX10_status_0 : decode cX10_status 0 = .ok (.aload_n 0, 1) := by decide +kernel
theorem dX10_status_1 : decode cX10_status 1 = .ok (.getfield 41, 3) := by decide +kernel
theorem dX10_status_4 : decode cX10_status 4 = .ok (.ireturn, 1) := by decide +kernel
theorem zw_1149 : (Jvm.Cond.code ({ cls := "HillSchool", name := "status", desc := "()I" } : Jvm.MethodName) prog_1_method_39_code (1 : Nat) (Option.some Jvm.ClassFile.FieldType.int)) ∈ zall := zmemG (zmj_5 86 rfl) rfl
abbrev w_HS_status : List Cond := .code yX10_status cX10_status 1 (some .int) :: zall
abbrev rm_HS_status : Room := { frames := 0, cells := 0, slots := 0, locals := 0 }
theorem hd_HS_status : yX10_status.cls = "HillSchool" ∧ yX10_status.cls ≠ "java/lang/invoke/MethodHandle" ∧ yX10_status.cls ≠ "java/lang/invoke/VarHandle" ∧ (parseMethodDescriptor yX10_status.desc).map (fun d => d.parameters.length) = some 0 := by decide +kernel
def wd_HS_status (cA : Nat → ClassId) (q0 q1 q2 q3 q4 q5 q6 q7 q8 q9 q10 q11 q12 : Nat) (u0 u1 u2 : Int) (i_latestStatus : Int)  : va_W := [(q0, .inr (10, [.ref q1, .ref q2, .ref q3, .ref q4, .int (Int32.ofInt u0), .int (Int32.ofInt u1), .int (Int32.ofInt u2), .ref q5, .int (Int32.ofInt i_latestStatus), .ref q6, .ref q7, .ref q8, .ref q9, .ref q10, .ref q11, .ref q12]))]
def wf_HS_status (cA : Nat → ClassId) (q0 q1 q2 q3 q4 q5 q6 q7 q8 q9 q10 q11 q12 : Nat) (u0 u1 u2 : Int) (i_latestStatus : Int) (o : Int) : va_W := wd_HS_status cA q0 q1 q2 q3 q4 q5 q6 q7 q8 q9 q10 q11 q12 u0 u1 u2 i_latestStatus
def f_HS_status (i_latestStatus : Int) : Option (Int) :=
  some i_latestStatus
set_option maxHeartbeats 4000000 in
set_option maxRecDepth 100000 in
theorem c_HS_status (l : Launch) (ev : zEv) (dC : Nat → ClassId) (dI : Nat → Nat → Nat) (cA : Nat → ClassId) (q0 q1 q2 q3 q4 q5 q6 q7 q8 q9 q10 q11 q12 : Nat) (u0 u1 u2 : Int) {i_latestStatus : Int} {out : Int} (hf : f_HS_status i_latestStatus = some out) : xc_I l ev (dC, dI) vwCl (tyl cA) yX10_status w_HS_status rm_HS_status [.ref q0] (wd_HS_status cA q0 q1 q2 q3 q4 q5 q6 q7 q8 q9 q10 q11 q12 u0 u1 u2 i_latestStatus) (wf_HS_status cA q0 q1 q2 q3 q4 q5 q6 q7 q8 q9 q10 q11 q12 u0 u1 u2 i_latestStatus out) out := by
  refine xv_startI (cc := cX10_status) (maxL := 1) (rt := .int) (by decide +kernel) rfl (Nat.le_of_ble_eq_true rfl) ?_
  intro p e s m args below meth c A Q H ls hx hb hml hts hown hK hA hP hD hS hl hE hret
  have hown : s.vm.findClass "HillSchool" = some m.cls := hown
  have hz : ∀ w ∈ zall, w.before args s = true := fun w h => hts w (List.mem_cons_of_mem _ h)
  have hl : lv_has ls 1 [(0, .ref q0)] := hl
  unfold f_HS_status at hf
  refine lv_aload_n hx hb dX10_status_0 rfl (lv_at hl 0 rfl) ?_
  refine va_get (D := (dC, dI)) (ci := 10) (v := .int (Int32.ofInt i_latestStatus)) (C := RX10) (T := TX10) (N := 16) hx hb hz zi_X10 hown hK hP 0 rfl rfl 8 (by decide) (hz _ zw_485) (fun _ h9 => h9) rfl dX10_status_1 ?_
  obtain rfl := Option.some.inj hf
  exact hret _ _ _ _ rfl dX10_status_4 hP hD hS
theorem dX11_in_0 : decode cX11_in 0 = .ok (.lload_n 0, 1) := by decide +kernel
theorem dX11_in_1 : decode cX11_in 1 = .ok (.lload_n 2, 1) := by decide +kernel
theorem dX11_in_2 : decode cX11_in 2 = .ok (.lcmp, 1) := by decide +kernel
theorem dX11_in_3 : decode cX11_in 3 = .ok (.ifCond .lt 14, 3) := by decide +kernel
theorem dX11_in_6 : decode cX11_in 6 = .ok (.lload_n 0, 1) := by decide +kernel
theorem dX11_in_7 : decode cX11_in 7 = .ok (.lload 4, 2) := by decide +kernel
theorem dX11_in_9 : decode cX11_in 9 = .ok (.lcmp, 1) := by decide +kernel
theorem dX11_in_10 : decode cX11_in 10 = .ok (.ifCond .gt 7, 3) := by decide +kernel
theorem dX11_in_13 : decode cX11_in 13 = .ok (.iconst 1, 1) := by decide +kernel
theorem dX11_in_14 : decode cX11_in 14 = .ok (.goto 4, 3) := by decide +kernel
theorem dX11_in_17 : decode cX11_in 17 = .ok (.iconst 0, 1) := by decide +kernel
theorem dX11_in_18 : decode cX11_in 18 = .ok (.ireturn, 1) := by decide +kernel
theorem zw_1331 : (Jvm.Cond.code ({ cls := "HillSchoolModel", name := "in", desc := "(JJJ)Z" } : Jvm.MethodName) prog_13_method_3_code (6 : Nat) (Option.some Jvm.ClassFile.FieldType.boolean)) ∈ zall := zmemG (zmj_6 28 rfl) rfl
abbrev w_HM_in : List Cond := .code yX11_in cX11_in 6 (some .boolean) :: zall
abbrev rm_HM_in : Room := { frames := 0, cells := 0, slots := 0, locals := 0 }
theorem hd_HM_in : yX11_in.cls = yX11_in.cls ∧ yX11_in.cls ≠ "java/lang/invoke/MethodHandle" ∧ yX11_in.cls ≠ "java/lang/invoke/VarHandle" ∧ (parseMethodDescriptor yX11_in.desc).map (fun d => d.parameters.length) = some 3 := by decide +kernel
def wd_HM_in (cA : Nat → ClassId)   : va_W := []
def wf_HM_in (cA : Nat → ClassId)  (o : Int) : va_W := wd_HM_in cA
def f_HM_in (x0 : Int) (x2 : Int) (x4 : Int) : Option (Int) :=
  if zl_w x0 < zl_w x2 then
    some 0
  else
    if zl_w x4 < zl_w x0 then
      some 0
    else
      some 1
set_option maxHeartbeats 4000000 in
set_option maxRecDepth 100000 in
theorem c_HM_in (l : Launch) (ev : zEv) (dC : Nat → ClassId) (dI : Nat → Nat → Nat) (cA : Nat → ClassId) {x0 x2 x4 : Int} {out : Int} (hf : f_HM_in x0 x2 x4 = some out) : xc_I l ev (dC, dI) vwCl (tyl cA) yX11_in w_HM_in rm_HM_in [.long (Int64.ofInt x0), .long (Int64.ofInt x2), .long (Int64.ofInt x4)] (wd_HM_in cA) (wf_HM_in cA out) out := by
  refine xv_startI (cc := cX11_in) (maxL := 6) (rt := .boolean) (by decide +kernel) rfl (Nat.le_of_ble_eq_true rfl) ?_
  intro p e s m args below meth c A Q H ls hx hb hml hts hown hK hA hP hD hS hl hE hret
  have hown : s.vm.findClass "HillSchoolModel" = some m.cls := hown
  have hz : ∀ w ∈ zall, w.before args s = true := fun w h => hts w (List.mem_cons_of_mem _ h)
  have hl : lv_has ls 6 [(0, .long (Int64.ofInt x0)), (2, .long (Int64.ofInt x2)), (4, .long (Int64.ofInt x4))] := hl
  unfold f_HM_in at hf
  refine lv_lload_n hx hb dX11_in_0 rfl (lv_at hl 0 rfl) ?_
  refine lv_lload_n hx hb dX11_in_1 rfl (lv_at hl 1 rfl) ?_
  refine xl_cmp_lt (tgt := 17) hx hb dX11_in_2 dX11_in_3 (by decide) hf (fun hf => ?_) (fun hf => ?_)
  · refine lv_iconst (v := Int32.ofInt 0) hx hb dX11_in_17 rfl ?_
    obtain rfl := Option.some.inj hf
    exact hret _ _ _ _ zz_b0 dX11_in_18 hP hD hS
  · refine lv_lload_n hx hb dX11_in_6 rfl (lv_at hl 0 rfl) ?_
    refine lv_lload hx hb dX11_in_7 (lv_at hl 2 rfl) ?_
    refine xl_cmp_gt (tgt := 17) hx hb dX11_in_9 dX11_in_10 (by decide) hf (fun hf => ?_) (fun hf => ?_)
    · refine lv_iconst (v := Int32.ofInt 0) hx hb dX11_in_17 rfl ?_
      obtain rfl := Option.some.inj hf
      exact hret _ _ _ _ zz_b0 dX11_in_18 hP hD hS
    · refine lv_iconst (v := Int32.ofInt 1) hx hb dX11_in_13 rfl ?_
      refine lv_goto (tgt := 18) hx hb dX11_in_14 (by decide) ?_
      obtain rfl := Option.some.inj hf
      exact hret _ _ _ _ zz_b1 dX11_in_18 hP hD hS
theorem dX11_tell_0 : decode cX11_tell 0 = .ok (.aload_n 0, 1) := by decide +kernel
theorem dX11_tell_1 : decode cX11_tell 1 = .ok (.iload_n 1, 1) := by decide +kernel
theorem dX11_tell_2 : decode cX11_tell 2 = .ok (.ifCond .ge 7, 3) := by decide +kernel
theorem dX11_tell_5 : decode cX11_tell 5 = .ok (.iload_n 1, 1) := by decide +kernel
theorem dX11_tell_6 : decode cX11_tell 6 = .ok (.goto 4, 3) := by decide +kernel
theorem dX11_tell_9 : decode cX11_tell 9 = .ok (.iconst 0, 1) := by decide +kernel
theorem dX11_tell_10 : decode cX11_tell 10 = .ok (.putfield 129, 3) := by decide +kernel
theorem dX11_tell_13 : decode cX11_tell 13 = .ok (.iload_n 1, 1) := by decide +kernel
theorem dX11_tell_14 : decode cX11_tell 14 = .ok (.ifCond .ge 14, 3) := by decide +kernel
theorem dX11_tell_17 : decode cX11_tell 17 = .ok (.aload_n 0, 1) := by decide +kernel
theorem dX11_tell_18 : decode cX11_tell 18 = .ok (.getfield 7, 3) := by decide +kernel
theorem dX11_tell_21 : decode cX11_tell 21 = .ok (.iload_n 1, 1) := by decide +kernel
theorem dX11_tell_22 : decode cX11_tell 22 = .ok (.ineg, 1) := by decide +kernel
theorem dX11_tell_23 : decode cX11_tell 23 = .ok (.dup2, 1) := by decide +kernel
theorem dX11_tell_24 : decode cX11_tell 24 = .ok (.iaload, 1) := by decide +kernel
theorem dX11_tell_25 : decode cX11_tell 25 = .ok (.iconst 1, 1) := by decide +kernel
theorem dX11_tell_26 : decode cX11_tell 26 = .ok (.iadd, 1) := by decide +kernel
theorem dX11_tell_27 : decode cX11_tell 27 = .ok (.iastore, 1) := by decide +kernel
theorem dX11_tell_28 : decode cX11_tell 28 = .ok (.iload_n 1, 1) := by decide +kernel
theorem dX11_tell_29 : decode cX11_tell 29 = .ok (.ireturn, 1) := by decide +kernel
theorem zw_1166 : (Jvm.Cond.fieldLink "HillSchoolModel" (129 : Nat) "HillSchoolModel" "status" "I") ∈ zall := zmemG (zmj_5 103 rfl) rfl
theorem zw_1167 : (Jvm.Cond.fieldLink "HillSchoolModel" (7 : Nat) "HillSchoolModel" "refusals" "[I") ∈ zall := zmemG (zmj_5 104 rfl) rfl
theorem zw_1335 : (Jvm.Cond.code ({ cls := "HillSchoolModel", name := "tell", desc := "(I)I" } : Jvm.MethodName) prog_13_method_6_code (2 : Nat) (Option.some Jvm.ClassFile.FieldType.int)) ∈ zall := zmemG (zmj_6 32 rfl) rfl
abbrev w_HM_tell : List Cond := .code yX11_tell cX11_tell 2 (some .int) :: zall
abbrev rm_HM_tell : Room := { frames := 0, cells := 0, slots := 0, locals := 0 }
theorem hd_HM_tell : yX11_tell.cls = "HillSchoolModel" ∧ yX11_tell.cls ≠ "java/lang/invoke/MethodHandle" ∧ yX11_tell.cls ≠ "java/lang/invoke/VarHandle" ∧ (parseMethodDescriptor yX11_tell.desc).map (fun d => d.parameters.length) = some 1 := by decide +kernel
def wd_HM_tell (cA : Nat → ClassId) (q0 q1 q2 q3 q4 q5 q6 q7 q8 q9 q10 q11 q12 q13 q14 q15 q16 q17 q18 q19 q20 q21 q22 q23 q24 q25 q26 q27 q28 q29 q30 q31 : Nat) (u0 u1 u2 u3 u4 u5 u6 u7 u8 u9 u10 u11 u12 u13 u14 u15 u16 u17 u18 u19 u20 : Int)  (i_status : Int) (i_refusals : Nat → Int) : va_W := [(q0, .inr (11, [.int (Int32.ofInt u0), .int (Int32.ofInt i_status), .ref q1, .ref q2, .ref q3, .ref q4, .int (Int32.ofInt u1), .ref q5, .int (Int32.ofInt u2), .int (Int32.ofInt u3), .int (Int32.ofInt u4), .int (Int32.ofInt u5), .long (Int64.ofInt u6), .int (Int32.ofInt u7), .int (Int32.ofInt u8), .int (Int32.ofInt u9), .ref q6, .int (Int32.ofInt u10), .ref q7, .ref q8, .int (Int32.ofInt u11), .ref q9, .ref q10, .int (Int32.ofInt u12), .int (Int32.ofInt u13), .ref q11, .int (Int32.ofInt u14), .ref q12, .ref q13, .int (Int32.ofInt u15), .long (Int64.ofInt u16), .long (Int64.ofInt u17), .ref q14, .ref q15, .ref q16, .ref q17, .ref q18, .int (Int32.ofInt u18), .ref q19, .ref q20, .ref q21, .ref q22, .ref q23, .ref q24, .ref q25, .ref q26, .ref q27, .ref q28, .ref q29, .ref q30, .long (Int64.ofInt u19), .ref q31, .int (Int32.ofInt u20)])), (q1, .inl (cA 0, 7, .inl (za i_refusals)))]
def wf_HM_tell (cA : Nat → ClassId) (q0 q1 q2 q3 q4 q5 q6 q7 q8 q9 q10 q11 q12 q13 q14 q15 q16 q17 q18 q19 q20 q21 q22 q23 q24 q25 q26 q27 q28 q29 q30 q31 : Nat) (u0 u1 u2 u3 u4 u5 u6 u7 u8 u9 u10 u11 u12 u13 u14 u15 u16 u17 u18 u19 u20 : Int)  (o : Int × Int × (Nat → Int)) : va_W := wd_HM_tell cA q0 q1 q2 q3 q4 q5 q6 q7 q8 q9 q10 q11 q12 q13 q14 q15 q16 q17 q18 q19 q20 q21 q22 q23 q24 q25 q26 q27 q28 q29 q30 q31 u0 u1 u2 u3 u4 u5 u6 u7 u8 u9 u10 u11 u12 u13 u14 u15 u16 u17 u18 u19 u20 o.2.1 o.2.2
def f_HM_tell_10  (x1 : Int) (s1 : Int) (i_status : Int) (i_refusals : Nat → Int) : Option (Int × Int × (Nat → Int)) :=
  if 0 ≤ zi_w x1 then
    some (x1, s1, i_refusals)
  else
    zn (-x1) fun v1 =>
    zg 7 i_refusals v1 fun v2 =>
    zn (v2 + 1) fun v3 =>
    zs 7 i_refusals v1 v3 fun a4 =>
    some (x1, s1, a4)
def f_HM_tell (x1 : Int) (i_status : Int) (i_refusals : Nat → Int) : Option (Int × Int × (Nat → Int)) :=
  if 0 ≤ zi_w x1 then
    f_HM_tell_10 x1 0 i_status i_refusals
  else
    f_HM_tell_10 x1 x1 i_status i_refusals
set_option maxHeartbeats 4000000 in
set_option maxRecDepth 100000 in
theorem c_HM_tell (l : Launch) (ev : zEv) (dC : Nat → ClassId) (dI : Nat → Nat → Nat) (cA : Nat → ClassId) (q0 q1 q2 q3 q4 q5 q6 q7 q8 q9 q10 q11 q12 q13 q14 q15 q16 q17 q18 q19 q20 q21 q22 q23 q24 q25 q26 q27 q28 q29 q30 q31 : Nat) (u0 u1 u2 u3 u4 u5 u6 u7 u8 u9 u10 u11 u12 u13 u14 u15 u16 u17 u18 u19 u20 : Int) {x1 : Int} {i_status : Int} {i_refusals : Nat → Int} {out : Int × Int × (Nat → Int)} (hf : f_HM_tell x1 i_status i_refusals = some out) : xc_I l ev (dC, dI) vwCl (tyl cA) yX11_tell w_HM_tell rm_HM_tell [.ref q0, .int (Int32.ofInt x1)] (wd_HM_tell cA q0 q1 q2 q3 q4 q5 q6 q7 q8 q9 q10 q11 q12 q13 q14 q15 q16 q17 q18 q19 q20 q21 q22 q23 q24 q25 q26 q27 q28 q29 q30 q31 u0 u1 u2 u3 u4 u5 u6 u7 u8 u9 u10 u11 u12 u13 u14 u15 u16 u17 u18 u19 u20 i_status i_refusals) (wf_HM_tell cA q0 q1 q2 q3 q4 q5 q6 q7 q8 q9 q10 q11 q12 q13 q14 q15 q16 q17 q18 q19 q20 q21 q22 q23 q24 q25 q26 q27 q28 q29 q30 q31 u0 u1 u2 u3 u4 u5 u6 u7 u8 u9 u10 u11 u12 u13 u14 u15 u16 u17 u18 u19 u20 out) out.1 := by
  refine xv_startI (cc := cX11_tell) (maxL := 2) (rt := .int) (by decide +kernel) rfl (Nat.le_of_ble_eq_true rfl) ?_
  intro p e s m args below meth c A Q H ls hx hb hml hts hown hK hA hP hD hS hl hE hret
  have hown : s.vm.findClass "HillSchoolModel" = some m.cls := hown
  have hz : ∀ w ∈ zall, w.before args s = true := fun w h => hts w (List.mem_cons_of_mem _ h)
  have hl : lv_has ls 2 [(0, .ref q0), (1, .int (Int32.ofInt x1))] := hl
  have b_10 : ∀ (x1 : Int) (s1 : Int) (i_status : Int) (i_refusals : Nat → Int) (H : Heap) (locs : List Loc) (ls : Array Slot), f_HM_tell_10 x1 s1 i_status i_refusals = some out → va_P (dC, dI) vwCl (wd_HM_tell cA q0 q1 q2 q3 q4 q5 q6 q7 q8 q9 q10 q11 q12 q13 q14 q15 q16 q17 q18 q19 q20 q21 q22 q23 q24 q25 q26 q27 q28 q29 q30 q31 u0 u1 u2 u3 u4 u5 u6 u7 u8 u9 u10 u11 u12 u13 u14 u15 u16 u17 u18 u19 u20 i_status i_refusals) H → va_D A (wd_HM_tell cA q0 q1 q2 q3 q4 q5 q6 q7 q8 q9 q10 q11 q12 q13 q14 q15 q16 q17 q18 q19 q20 q21 q22 q23 q24 q25 q26 q27 q28 q29 q30 q31 u0 u1 u2 u3 u4 u5 u6 u7 u8 u9 u10 u11 u12 u13 u14 u15 u16 u17 u18 u19 u20 i_status i_refusals) → va_S A s.heap H locs → lv_has ls 2 [(0, .ref q0), (1, .int (Int32.ofInt x1))] → W p l e rm_HM_tell s m args below meth c H locs 0 0 Q (F0 m 10 ls [.int (Int32.ofInt s1), .ref q0]) := by
    intro x1 s1 i_status i_refusals H locs ls hf hP hD hS hl
    unfold f_HM_tell_10 at hf
    refine va_put (D := (dC, dI)) (ci := 11) (v := .int (Int32.ofInt s1)) (ty := .int) (C := RX11) (T := TX11) (N := 53) hx hb hz zi_X11 tyX11 tyX11_ok nmX11 hown hK hP hD hS 0 rfl rfl 1 (by decide) (hz _ zw_1166) (fun _ h9 => h9) rfl (by decide +kernel) rfl rfl (Nat.le_of_ble_eq_true rfl) dX11_tell_10 (fun H locs hP hD hS => ?_)
    have hP : va_P (dC, dI) vwCl (wd_HM_tell cA q0 q1 q2 q3 q4 q5 q6 q7 q8 q9 q10 q11 q12 q13 q14 q15 q16 q17 q18 q19 q20 q21 q22 q23 q24 q25 q26 q27 q28 q29 q30 q31 u0 u1 u2 u3 u4 u5 u6 u7 u8 u9 u10 u11 u12 u13 u14 u15 u16 u17 u18 u19 u20 s1 i_refusals) H := hP
    have hD : va_D A (wd_HM_tell cA q0 q1 q2 q3 q4 q5 q6 q7 q8 q9 q10 q11 q12 q13 q14 q15 q16 q17 q18 q19 q20 q21 q22 q23 q24 q25 q26 q27 q28 q29 q30 q31 u0 u1 u2 u3 u4 u5 u6 u7 u8 u9 u10 u11 u12 u13 u14 u15 u16 u17 u18 u19 u20 s1 i_refusals) := hD
    refine lv_iload_n hx hb dX11_tell_13 rfl (lv_at hl 1 rfl) ?_
    refine xi_if_ge (tgt := 28) hx hb dX11_tell_14 (by decide) hf (fun hf => ?_) (fun hf => ?_)
    · refine lv_iload_n hx hb dX11_tell_28 rfl (lv_at hl 1 rfl) ?_
      obtain rfl := Option.some.inj hf
      exact hret _ _ _ _ rfl dX11_tell_29 hP hD hS
    · refine lv_aload_n hx hb dX11_tell_17 rfl (lv_at hl 0 rfl) ?_
      refine va_get (D := (dC, dI)) (ci := 11) (v := .ref q1) (C := RX11) (T := TX11) (N := 53) hx hb hz zi_X11 hown hK hP 0 rfl rfl 2 (by decide) (hz _ zw_1167) (fun _ h9 => h9) rfl dX11_tell_18 ?_
      refine lv_iload_n hx hb dX11_tell_21 rfl (lv_at hl 1 rfl) ?_
      refine xi_ineg hx hb dX11_tell_22 hf (fun v1 hf => ?_)
      refine lv_dup2_11 hx hb dX11_tell_23 rfl rfl ?_
      refine xi_iald hx hb hK hP 1 0 rfl rfl dX11_tell_24 hf (fun v2 hf => ?_)
      refine lv_iconst (v := Int32.ofInt 1) hx hb dX11_tell_25 rfl ?_
      refine xi_iadd hx hb dX11_tell_26 hf (fun v3 hf => ?_)
      refine xi_iast hx hb hK hP hD hS 1 0 rfl rfl dX11_tell_27 hf (fun a4 H locs hP hD hS hf => ?_)
      have hP : va_P (dC, dI) vwCl (wd_HM_tell cA q0 q1 q2 q3 q4 q5 q6 q7 q8 q9 q10 q11 q12 q13 q14 q15 q16 q17 q18 q19 q20 q21 q22 q23 q24 q25 q26 q27 q28 q29 q30 q31 u0 u1 u2 u3 u4 u5 u6 u7 u8 u9 u10 u11 u12 u13 u14 u15 u16 u17 u18 u19 u20 s1 a4) H := hP
      have hD : va_D A (wd_HM_tell cA q0 q1 q2 q3 q4 q5 q6 q7 q8 q9 q10 q11 q12 q13 q14 q15 q16 q17 q18 q19 q20 q21 q22 q23 q24 q25 q26 q27 q28 q29 q30 q31 u0 u1 u2 u3 u4 u5 u6 u7 u8 u9 u10 u11 u12 u13 u14 u15 u16 u17 u18 u19 u20 s1 a4) := hD
      refine lv_iload_n hx hb dX11_tell_28 rfl (lv_at hl 1 rfl) ?_
      obtain rfl := Option.some.inj hf
      exact hret _ _ _ _ rfl dX11_tell_29 hP hD hS
  unfold f_HM_tell at hf
  refine lv_aload_n hx hb dX11_tell_0 rfl (lv_at hl 0 rfl) ?_
  refine lv_iload_n hx hb dX11_tell_1 rfl (lv_at hl 1 rfl) ?_
  refine xi_if_ge (tgt := 9) hx hb dX11_tell_2 (by decide) hf (fun hf => ?_) (fun hf => ?_)
  · refine lv_iconst (v := Int32.ofInt 0) hx hb dX11_tell_9 rfl ?_
    exact b_10  _ _ _ _ _ _ _ hf hP hD hS (lv_sub hl [0, 1] rfl)
  · refine lv_iload_n hx hb dX11_tell_5 rfl (lv_at hl 1 rfl) ?_
    refine lv_goto (tgt := 10) hx hb dX11_tell_6 (by decide) ?_
    exact b_10  _ _ _ _ _ _ _ hf hP hD hS (lv_sub hl [0, 1] rfl)
theorem dX11_image_0 : decode cX11_image 0 = .ok (.aload_n 0, 1) := by decide +kernel
theorem dX11_image_1 : decode cX11_image 1 = .ok (.iconst 0, 1) := by decide +kernel
theorem dX11_image_2 : decode cX11_image 2 = .ok (.putfield 126, 3) := by decide +kernel
theorem dX11_image_5 : decode cX11_image 5 = .ok (.iload_n 1, 1) := by decide +kernel
theorem dX11_image_6 : decode cX11_image 6 = .ok (.i2l, 1) := by decide +kernel
theorem dX11_image_7 : decode cX11_image 7 = .ok (.lconst 0, 1) := by decide +kernel
theorem dX11_image_8 : decode cX11_image 8 = .ok (.lconst 1, 1) := by decide +kernel
theorem dX11_image_9 : decode cX11_image 9 = .ok (.invokestatic 132, 3) := by decide +kernel
theorem dX11_image_12 : decode cX11_image 12 = .ok (.ifCond .ne 9, 3) := by decide +kernel
theorem dX11_image_15 : decode cX11_image 15 = .ok (.aload_n 0, 1) := by decide +kernel
theorem dX11_image_16 : decode cX11_image 16 = .ok (.iconst (-1), 1) := by decide +kernel
theorem dX11_image_17 : decode cX11_image 17 = .ok (.invokevirtual 136, 3) := by decide +kernel
theorem dX11_image_20 : decode cX11_image 20 = .ok (.ireturn, 1) := by decide +kernel
theorem dX11_image_21 : decode cX11_image 21 = .ok (.iconst 0, 1) := by decide +kernel
theorem dX11_image_22 : decode cX11_image 22 = .ok (.istore_n 2, 1) := by decide +kernel
theorem dX11_image_23 : decode cX11_image 23 = .ok (.iload_n 2, 1) := by decide +kernel
theorem dX11_image_24 : decode cX11_image 24 = .ok (.sipush 5580, 3) := by decide +kernel
theorem dX11_image_27 : decode cX11_image 27 = .ok (.if_icmp .ge 27, 3) := by decide +kernel
theorem dX11_image_30 : decode cX11_image 30 = .ok (.aload_n 0, 1) := by decide +kernel
theorem dX11_image_31 : decode cX11_image 31 = .ok (.getfield 16, 3) := by decide +kernel
theorem dX11_image_34 : decode cX11_image 34 = .ok (.sipush 5580, 3) := by decide +kernel
theorem dX11_image_37 : decode cX11_image 37 = .ok (.iload_n 1, 1) := by decide +kernel
theorem dX11_image_38 : decode cX11_image 38 = .ok (.imul, 1) := by decide +kernel
theorem dX11_image_39 : decode cX11_image 39 = .ok (.iload_n 2, 1) := by decide +kernel
theorem dX11_image_40 : decode cX11_image 40 = .ok (.iadd, 1) := by decide +kernel
theorem dX11_image_41 : decode cX11_image 41 = .ok (.aload_n 0, 1) := by decide +kernel
theorem dX11_image_42 : decode cX11_image 42 = .ok (.getfield 13, 3) := by decide +kernel
theorem dX11_image_45 : decode cX11_image 45 = .ok (.iload_n 2, 1) := by decide +kernel
theorem dX11_image_46 : decode cX11_image 46 = .ok (.iaload, 1) := by decide +kernel
theorem dX11_image_47 : decode cX11_image 47 = .ok (.iastore, 1) := by decide +kernel
theorem dX11_image_48 : decode cX11_image 48 = .ok (.iinc 2 1, 3) := by decide +kernel
theorem dX11_image_51 : decode cX11_image 51 = .ok (.goto (-28), 3) := by decide +kernel
theorem dX11_image_54 : decode cX11_image 54 = .ok (.aload_n 0, 1) := by decide +kernel
theorem dX11_image_55 : decode cX11_image 55 = .ok (.getfield 19, 3) := by decide +kernel
theorem dX11_image_58 : decode cX11_image 58 = .ok (.iload_n 1, 1) := by decide +kernel
theorem dX11_image_59 : decode cX11_image 59 = .ok (.iconst 1, 1) := by decide +kernel
theorem dX11_image_60 : decode cX11_image 60 = .ok (.bastore, 1) := by decide +kernel
theorem dX11_image_61 : decode cX11_image 61 = .ok (.aload_n 0, 1) := by decide +kernel
theorem dX11_image_62 : decode cX11_image 62 = .ok (.iconst 0, 1) := by decide +kernel
theorem dX11_image_63 : decode cX11_image 63 = .ok (.invokevirtual 136, 3) := by decide +kernel
theorem dX11_image_66 : decode cX11_image 66 = .ok (.ireturn, 1) := by decide +kernel
theorem zw_40 : (Jvm.Cond.selects "HillSchoolModel" ({ cls := "HillSchoolModel", name := "tell", desc := "(I)I" } : Jvm.MethodName) ({ cls := "HillSchoolModel", name := "tell", desc := "(I)I" } : Jvm.MethodName)) ∈ zall := zmemG (zmj_0 40 rfl) rfl
theorem zw_115 : (Jvm.Cond.initialized "HillSchoolModel") ∈ zall := zmemG (zmj_1 12 rfl) rfl
theorem zw_1165 : (Jvm.Cond.fieldLink "HillSchoolModel" (126 : Nat) "HillSchoolModel" "thrown" "I") ∈ zall := zmemG (zmj_5 102 rfl) rfl
theorem zw_1168 : (Jvm.Cond.fieldLink "HillSchoolModel" (13 : Nat) "HillSchoolModel" "row" "[I") ∈ zall := zmemG (zmj_5 105 rfl) rfl
theorem zw_1169 : (Jvm.Cond.fieldLink "HillSchoolModel" (16 : Nat) "HillSchoolModel" "images" "[I") ∈ zall := zmemG (zmj_5 106 rfl) rfl
theorem zw_1170 : (Jvm.Cond.fieldLink "HillSchoolModel" (19 : Nat) "HillSchoolModel" "isKept" "[Z") ∈ zall := zmemG (zmj_5 107 rfl) rfl
theorem zw_1328 : (Jvm.Cond.code ({ cls := "HillSchoolModel", name := "image", desc := "(I)I" } : Jvm.MethodName) prog_13_method_8_code (3 : Nat) (Option.some Jvm.ClassFile.FieldType.int)) ∈ zall := zmemG (zmj_6 25 rfl) rfl
theorem zw_1329 : (Jvm.Cond.methodLink "HillSchoolModel" (132 : Nat) ({ cls := "HillSchoolModel", name := "in", desc := "(JJJ)Z" } : Jvm.MethodName)) ∈ zall := zmemG (zmj_6 26 rfl) rfl
theorem zw_1330 : (Jvm.Cond.static ({ cls := "HillSchoolModel", name := "in", desc := "(JJJ)Z" } : Jvm.MethodName)) ∈ zall := zmemG (zmj_6 27 rfl) rfl
theorem zw_1332 : (Jvm.Cond.methodLink "HillSchoolModel" (136 : Nat) ({ cls := "HillSchoolModel", name := "tell", desc := "(I)I" } : Jvm.MethodName)) ∈ zall := zmemG (zmj_6 29 rfl) rfl
theorem zw_1334 : (Jvm.Cond.instanceMethod ({ cls := "HillSchoolModel", name := "tell", desc := "(I)I" } : Jvm.MethodName)) ∈ zall := zmemG (zmj_6 31 rfl) rfl
abbrev w_HM_image : List Cond := .code yX11_image cX11_image 3 (some .int) :: zall
abbrev rm_HM_image : Room := { frames := 1, cells := 0, slots := 0, locals := 25 }
theorem hd_HM_image : yX11_image.cls = "HillSchoolModel" ∧ yX11_image.cls ≠ "java/lang/invoke/MethodHandle" ∧ yX11_image.cls ≠ "java/lang/invoke/VarHandle" ∧ (parseMethodDescriptor yX11_image.desc).map (fun d => d.parameters.length) = some 1 := by decide +kernel
def wd_HM_image (cA : Nat → ClassId) (q0 q1 q2 q3 q4 q5 q6 q7 q8 q9 q10 q11 q12 q13 q14 q15 q16 q17 q18 q19 q20 q21 q22 q23 q24 q25 q26 q27 q28 q29 q30 q31 : Nat) (u0 u1 u2 u3 u4 u5 u6 u7 u8 u9 u10 u11 u12 u13 u14 u15 u16 u17 u18 u19 : Int) (i_row : Nat → Int) (i_thrown : Int) (i_status : Int) (i_refusals : Nat → Int) (i_images : Nat → Int) (i_isKept : Nat → Int) : va_W := [(q0, .inr (11, [.int (Int32.ofInt i_thrown), .int (Int32.ofInt i_status), .ref q1, .ref q2, .ref q3, .ref q4, .int (Int32.ofInt u0), .ref q5, .int (Int32.ofInt u1), .int (Int32.ofInt u2), .int (Int32.ofInt u3), .int (Int32.ofInt u4), .long (Int64.ofInt u5), .int (Int32.ofInt u6), .int (Int32.ofInt u7), .int (Int32.ofInt u8), .ref q6, .int (Int32.ofInt u9), .ref q7, .ref q8, .int (Int32.ofInt u10), .ref q9, .ref q10, .int (Int32.ofInt u11), .int (Int32.ofInt u12), .ref q11, .int (Int32.ofInt u13), .ref q12, .ref q13, .int (Int32.ofInt u14), .long (Int64.ofInt u15), .long (Int64.ofInt u16), .ref q14, .ref q15, .ref q16, .ref q17, .ref q18, .int (Int32.ofInt u17), .ref q19, .ref q20, .ref q21, .ref q22, .ref q23, .ref q24, .ref q25, .ref q26, .ref q27, .ref q28, .ref q29, .ref q30, .long (Int64.ofInt u18), .ref q31, .int (Int32.ofInt u19)])), (q1, .inl (cA 0, 7, .inl (za i_refusals))), (q2, .inl (cA 0, 5580, .inl (za i_row))), (q3, .inl (cA 0, 11160, .inl (za i_images))), (q4, .inl (cA 1, 2, .inl (za i_isKept)))]
def wf_HM_image (cA : Nat → ClassId) (q0 q1 q2 q3 q4 q5 q6 q7 q8 q9 q10 q11 q12 q13 q14 q15 q16 q17 q18 q19 q20 q21 q22 q23 q24 q25 q26 q27 q28 q29 q30 q31 : Nat) (u0 u1 u2 u3 u4 u5 u6 u7 u8 u9 u10 u11 u12 u13 u14 u15 u16 u17 u18 u19 : Int) (i_row : Nat → Int) (o : Int × Int × Int × (Nat → Int) × (Nat → Int) × (Nat → Int)) : va_W := wd_HM_image cA q0 q1 q2 q3 q4 q5 q6 q7 q8 q9 q10 q11 q12 q13 q14 q15 q16 q17 q18 q19 q20 q21 q22 q23 q24 q25 q26 q27 q28 q29 q30 q31 u0 u1 u2 u3 u4 u5 u6 u7 u8 u9 u10 u11 u12 u13 u14 u15 u16 u17 u18 u19 i_row o.2.1 o.2.2.1 o.2.2.2.1 o.2.2.2.2.1 o.2.2.2.2.2
def f_HM_image_23_b (i_row : Nat → Int) (k23 : Int → Int → Int → Int → (Nat → Int) → (Nat → Int) → (Nat → Int) → Option (Int × Int × Int × (Nat → Int) × (Nat → Int) × (Nat → Int))) (x1 : Int) (x2 : Int) (i_thrown : Int) (i_status : Int) (i_refusals : Nat → Int) (i_images : Nat → Int) (i_isKept : Nat → Int) : Option (Int × Int × Int × (Nat → Int) × (Nat → Int) × (Nat → Int)) :=
  if zi_w 5580 ≤ zi_w x2 then
    if ¬ (zi_w 1 = 0 ∨ zi_w 1 = 1) then none else zs 2 i_isKept x1 1 fun a1 =>
    zd3 (f_HM_tell 0 i_status i_refusals) fun v2 v3 a4 =>
    some (v2, i_thrown, v3, a4, i_images, a1)
  else
    zn (5580 * x1) fun v5 =>
    zn (v5 + x2) fun v6 =>
    zg 5580 i_row x2 fun v7 =>
    zs 11160 i_images v6 v7 fun a8 =>
    zn (x2 + 1) fun v9 =>
    k23 x1 v9 i_thrown i_status i_refusals a8 i_isKept
def f_HM_image_23 (i_row : Nat → Int) : Nat → Int → Int → Int → Int → (Nat → Int) → (Nat → Int) → (Nat → Int) → Option (Int × Int × Int × (Nat → Int) × (Nat → Int) × (Nat → Int))
  | 0 => fun _ _ _ _ _ _ _ => none
  | n + 1 => fun y0 y1 y2 y3 y4 y5 y6 => f_HM_image_23_b i_row (f_HM_image_23 i_row n) y0 y1 y2 y3 y4 y5 y6
def f_HM_image (x1 : Int) (i_row : Nat → Int) (i_thrown : Int) (i_status : Int) (i_refusals : Nat → Int) (i_images : Nat → Int) (i_isKept : Nat → Int) : Option (Int × Int × Int × (Nat → Int) × (Nat → Int) × (Nat → Int)) :=
  zn (zi_w x1) fun v1 =>
  zd1 (f_HM_in v1 0 1) fun v2 =>
  if zi_w v2 ≠ 0 then
    f_HM_image_23 i_row zfu x1 0 0 i_status i_refusals i_images i_isKept
  else
    zd3 (f_HM_tell (-1) i_status i_refusals) fun v3 v4 a5 =>
    some (v3, 0, v4, a5, i_images, i_isKept)
set_option maxHeartbeats 4000000 in
set_option maxRecDepth 100000 in
theorem c_HM_image (l : Launch) (ev : zEv) (dC : Nat → ClassId) (dI : Nat → Nat → Nat) (cA : Nat → ClassId) (q0 q1 q2 q3 q4 q5 q6 q7 q8 q9 q10 q11 q12 q13 q14 q15 q16 q17 q18 q19 q20 q21 q22 q23 q24 q25 q26 q27 q28 q29 q30 q31 : Nat) (u0 u1 u2 u3 u4 u5 u6 u7 u8 u9 u10 u11 u12 u13 u14 u15 u16 u17 u18 u19 : Int) {x1 : Int} {i_row : Nat → Int} {i_thrown : Int} {i_status : Int} {i_refusals : Nat → Int} {i_images : Nat → Int} {i_isKept : Nat → Int} {out : Int × Int × Int × (Nat → Int) × (Nat → Int) × (Nat → Int)} (hf : f_HM_image x1 i_row i_thrown i_status i_refusals i_images i_isKept = some out) : xc_I l ev (dC, dI) vwCl (tyl cA) yX11_image w_HM_image rm_HM_image [.ref q0, .int (Int32.ofInt x1)] (wd_HM_image cA q0 q1 q2 q3 q4 q5 q6 q7 q8 q9 q10 q11 q12 q13 q14 q15 q16 q17 q18 q19 q20 q21 q22 q23 q24 q25 q26 q27 q28 q29 q30 q31 u0 u1 u2 u3 u4 u5 u6 u7 u8 u9 u10 u11 u12 u13 u14 u15 u16 u17 u18 u19 i_row i_thrown i_status i_refusals i_images i_isKept) (wf_HM_image cA q0 q1 q2 q3 q4 q5 q6 q7 q8 q9 q10 q11 q12 q13 q14 q15 q16 q17 q18 q19 q20 q21 q22 q23 q24 q25 q26 q27 q28 q29 q30 q31 u0 u1 u2 u3 u4 u5 u6 u7 u8 u9 u10 u11 u12 u13 u14 u15 u16 u17 u18 u19 i_row out) out.1 := by
  refine xv_startI (cc := cX11_image) (maxL := 3) (rt := .int) (by decide +kernel) rfl (Nat.le_of_ble_eq_true rfl) ?_
  intro p e s m args below meth c A Q H ls hx hb hml hts hown hK hA hP hD hS hl hE hret
  have hown : s.vm.findClass "HillSchoolModel" = some m.cls := hown
  have hz : ∀ w ∈ zall, w.before args s = true := fun w h => hts w (List.mem_cons_of_mem _ h)
  have hl : lv_has ls 3 [(0, .ref q0), (1, .int (Int32.ofInt x1))] := hl
  have b_23 : ∀ (k23 : Int → Int → Int → Int → (Nat → Int) → (Nat → Int) → (Nat → Int) → Option (Int × Int × Int × (Nat → Int) × (Nat → Int) × (Nat → Int))) (_ : ∀ (x1 : Int) (x2 : Int) (i_thrown : Int) (i_status : Int) (i_refusals : Nat → Int) (i_images : Nat → Int) (i_isKept : Nat → Int) (H : Heap) (locs : List Loc) (ls : Array Slot), k23 x1 x2 i_thrown i_status i_refusals i_images i_isKept = some out → va_P (dC, dI) vwCl (wd_HM_image cA q0 q1 q2 q3 q4 q5 q6 q7 q8 q9 q10 q11 q12 q13 q14 q15 q16 q17 q18 q19 q20 q21 q22 q23 q24 q25 q26 q27 q28 q29 q30 q31 u0 u1 u2 u3 u4 u5 u6 u7 u8 u9 u10 u11 u12 u13 u14 u15 u16 u17 u18 u19 i_row i_thrown i_status i_refusals i_images i_isKept) H → va_D A (wd_HM_image cA q0 q1 q2 q3 q4 q5 q6 q7 q8 q9 q10 q11 q12 q13 q14 q15 q16 q17 q18 q19 q20 q21 q22 q23 q24 q25 q26 q27 q28 q29 q30 q31 u0 u1 u2 u3 u4 u5 u6 u7 u8 u9 u10 u11 u12 u13 u14 u15 u16 u17 u18 u19 i_row i_thrown i_status i_refusals i_images i_isKept) → va_S A s.heap H locs → lv_has ls 3 [(0, .ref q0), (1, .int (Int32.ofInt x1)), (2, .int (Int32.ofInt x2))] → W p l e rm_HM_image s m args below meth c H locs 0 0 Q (F0 m 23 ls [])), ∀ (x1 : Int) (x2 : Int) (i_thrown : Int) (i_status : Int) (i_refusals : Nat → Int) (i_images : Nat → Int) (i_isKept : Nat → Int) (H : Heap) (locs : List Loc) (ls : Array Slot), f_HM_image_23_b i_row k23 x1 x2 i_thrown i_status i_refusals i_images i_isKept = some out → va_P (dC, dI) vwCl (wd_HM_image cA q0 q1 q2 q3 q4 q5 q6 q7 q8 q9 q10 q11 q12 q13 q14 q15 q16 q17 q18 q19 q20 q21 q22 q23 q24 q25 q26 q27 q28 q29 q30 q31 u0 u1 u2 u3 u4 u5 u6 u7 u8 u9 u10 u11 u12 u13 u14 u15 u16 u17 u18 u19 i_row i_thrown i_status i_refusals i_images i_isKept) H → va_D A (wd_HM_image cA q0 q1 q2 q3 q4 q5 q6 q7 q8 q9 q10 q11 q12 q13 q14 q15 q16 q17 q18 q19 q20 q21 q22 q23 q24 q25 q26 q27 q28 q29 q30 q31 u0 u1 u2 u3 u4 u5 u6 u7 u8 u9 u10 u11 u12 u13 u14 u15 u16 u17 u18 u19 i_row i_thrown i_status i_refusals i_images i_isKept) → va_S A s.heap H locs → lv_has ls 3 [(0, .ref q0), (1, .int (Int32.ofInt x1)), (2, .int (Int32.ofInt x2))] → W p l e rm_HM_image s m args below meth c H locs 0 0 Q (F0 m 23 ls []) := by
    intro k23 ih23 x1 x2 i_thrown i_status i_refusals i_images i_isKept H locs ls hf hP hD hS hl
    unfold f_HM_image_23_b at hf
    refine lv_iload_n hx hb dX11_image_23 rfl (lv_at hl 2 rfl) ?_
    refine lv_sipush (v := Int32.ofInt 5580) hx hb dX11_image_24 (by decide) ?_
    refine xi_icmp_ge (tgt := 54) hx hb dX11_image_27 (by decide) hf (fun hf => ?_) (fun hf => ?_)
    · refine lv_aload_n hx hb dX11_image_54 rfl (lv_at hl 0 rfl) ?_
      refine va_get (D := (dC, dI)) (ci := 11) (v := .ref q4) (C := RX11) (T := TX11) (N := 53) hx hb hz zi_X11 hown hK hP 0 rfl rfl 5 (by decide) (hz _ zw_1170) (fun _ h9 => h9) rfl dX11_image_55 ?_
      refine lv_iload_n hx hb dX11_image_58 rfl (lv_at hl 1 rfl) ?_
      refine lv_iconst (v := Int32.ofInt 1) hx hb dX11_image_59 rfl ?_
      refine xi_zast hx hb hK hP hD hS 4 1 rfl rfl dX11_image_60 hf (fun a1 H locs hP hD hS hf => ?_)
      have hP : va_P (dC, dI) vwCl (wd_HM_image cA q0 q1 q2 q3 q4 q5 q6 q7 q8 q9 q10 q11 q12 q13 q14 q15 q16 q17 q18 q19 q20 q21 q22 q23 q24 q25 q26 q27 q28 q29 q30 q31 u0 u1 u2 u3 u4 u5 u6 u7 u8 u9 u10 u11 u12 u13 u14 u15 u16 u17 u18 u19 i_row i_thrown i_status i_refusals i_images a1) H := hP
      have hD : va_D A (wd_HM_image cA q0 q1 q2 q3 q4 q5 q6 q7 q8 q9 q10 q11 q12 q13 q14 q15 q16 q17 q18 q19 q20 q21 q22 q23 q24 q25 q26 q27 q28 q29 q30 q31 u0 u1 u2 u3 u4 u5 u6 u7 u8 u9 u10 u11 u12 u13 u14 u15 u16 u17 u18 u19 i_row i_thrown i_status i_refusals i_images a1) := hD
      refine lv_aload_n hx hb dX11_image_61 rfl (lv_at hl 0 rfl) ?_
      refine lv_iconst (v := Int32.ofInt 0) hx hb dX11_image_62 rfl ?_
      refine xe_d3 hf (fun v2 v3 a4 hg hf => ?_)
      have hC : ([0, 1] : List Nat).map (fun i => (wd_HM_image cA q0 q1 q2 q3 q4 q5 q6 q7 q8 q9 q10 q11 q12 q13 q14 q15 q16 q17 q18 q19 q20 q21 q22 q23 q24 q25 q26 q27 q28 q29 q30 q31 u0 u1 u2 u3 u4 u5 u6 u7 u8 u9 u10 u11 u12 u13 u14 u15 u16 u17 u18 u19 i_row i_thrown i_status i_refusals i_images a1)[i]?) = (wd_HM_tell cA q0 q1 q2 q3 q4 q5 q6 q7 q8 q9 q10 q11 q12 q13 q14 q15 q16 q17 q18 q19 q20 q21 q22 q23 q24 q25 q26 q27 q28 q29 q30 q31 i_thrown u0 u1 u2 u3 u4 u5 u6 u7 u8 u9 u10 u11 u12 u13 u14 u15 u16 u17 u18 u19 i_status i_refusals).map some := rfl
      refine xv_afterI (ws' := (wd_HM_image cA q0 q1 q2 q3 q4 q5 q6 q7 q8 q9 q10 q11 q12 q13 q14 q15 q16 q17 q18 q19 q20 q21 q22 q23 q24 q25 q26 q27 q28 q29 q30 q31 u0 u1 u2 u3 u4 u5 u6 u7 u8 u9 u10 u11 u12 u13 u14 u15 u16 u17 u18 u19 i_row i_thrown v3 a4 i_images a1)) (isC := [0, 1]) (ps := [some 0, some 1, none, none, none]) (va_runV (As := [.int (Int32.ofInt 0)]) (rest := []) ⟨hx, hb, hml, hown, hts⟩ (c_HM_tell l ev dC dI cA q0 q1 q2 q3 q4 q5 q6 q7 q8 q9 q10 q11 q12 q13 q14 q15 q16 q17 q18 q19 q20 q21 q22 q23 q24 q25 q26 q27 q28 q29 q30 q31 i_thrown u0 u1 u2 u3 u4 u5 u6 u7 u8 u9 u10 u11 u12 u13 u14 u15 u16 u17 u18 u19 hg H.size) (cwV 1 hts (zgV zw_1332 zw_1334 zw_40 zw_115 zw_1335) rfl rfl rfl hd_HM_tell ⟨Nat.le_of_ble_eq_true rfl, Nat.le_of_ble_eq_true rfl⟩) (xv_preV (T := TX11) (N := 53) hE hA hS hK hP hD (isC := [0, 1]) (by decide +kernel) hC (q0 := 0) (ci := 11) rfl rfl) rfl rfl hl.1 rfl (lv_room (Nat.le_of_ble_eq_true rfl)) dX11_image_63 ⟨Nat.le_refl _, Nat.le_refl _⟩) hP hD hS hA (by decide +kernel) rfl hC rfl rfl (fun H locs hP hD hS => ?_)
      obtain rfl := Option.some.inj hf
      exact hret _ _ _ _ rfl dX11_image_66 hP hD hS
    · refine lv_aload_n hx hb dX11_image_30 rfl (lv_at hl 0 rfl) ?_
      refine va_get (D := (dC, dI)) (ci := 11) (v := .ref q3) (C := RX11) (T := TX11) (N := 53) hx hb hz zi_X11 hown hK hP 0 rfl rfl 4 (by decide) (hz _ zw_1169) (fun _ h9 => h9) rfl dX11_image_31 ?_
      refine lv_sipush (v := Int32.ofInt 5580) hx hb dX11_image_34 (by decide) ?_
      refine lv_iload_n hx hb dX11_image_37 rfl (lv_at hl 1 rfl) ?_
      refine xi_imul hx hb dX11_image_38 hf (fun v5 hf => ?_)
      refine lv_iload_n hx hb dX11_image_39 rfl (lv_at hl 2 rfl) ?_
      refine xi_iadd hx hb dX11_image_40 hf (fun v6 hf => ?_)
      refine lv_aload_n hx hb dX11_image_41 rfl (lv_at hl 0 rfl) ?_
      refine va_get (D := (dC, dI)) (ci := 11) (v := .ref q2) (C := RX11) (T := TX11) (N := 53) hx hb hz zi_X11 hown hK hP 0 rfl rfl 3 (by decide) (hz _ zw_1168) (fun _ h9 => h9) rfl dX11_image_42 ?_
      refine lv_iload_n hx hb dX11_image_45 rfl (lv_at hl 2 rfl) ?_
      refine xi_iald hx hb hK hP 2 0 rfl rfl dX11_image_46 hf (fun v7 hf => ?_)
      refine xi_iast hx hb hK hP hD hS 3 0 rfl rfl dX11_image_47 hf (fun a8 H locs hP hD hS hf => ?_)
      have hP : va_P (dC, dI) vwCl (wd_HM_image cA q0 q1 q2 q3 q4 q5 q6 q7 q8 q9 q10 q11 q12 q13 q14 q15 q16 q17 q18 q19 q20 q21 q22 q23 q24 q25 q26 q27 q28 q29 q30 q31 u0 u1 u2 u3 u4 u5 u6 u7 u8 u9 u10 u11 u12 u13 u14 u15 u16 u17 u18 u19 i_row i_thrown i_status i_refusals a8 i_isKept) H := hP
      have hD : va_D A (wd_HM_image cA q0 q1 q2 q3 q4 q5 q6 q7 q8 q9 q10 q11 q12 q13 q14 q15 q16 q17 q18 q19 q20 q21 q22 q23 q24 q25 q26 q27 q28 q29 q30 q31 u0 u1 u2 u3 u4 u5 u6 u7 u8 u9 u10 u11 u12 u13 u14 u15 u16 u17 u18 u19 i_row i_thrown i_status i_refusals a8 i_isKept) := hD
      refine xi_iinc hx hb dX11_image_48 hl (k := 2) rfl (by decide) hf (fun v9 ls hl hf => ?_)
      have hl : lv_has ls 3 [(2, .int (Int32.ofInt v9)), (0, .ref q0), (1, .int (Int32.ofInt x1))] := hl
      refine lv_goto (tgt := 23) hx hb dX11_image_51 (by decide) ?_
      exact ih23 _ _ _ _ _ _ _ _ _ _ hf hP hD hS (lv_sub hl [1, 2, 0] rfl)
  have l_23 : ∀ (n : Nat), ∀ (x1 : Int) (x2 : Int) (i_thrown : Int) (i_status : Int) (i_refusals : Nat → Int) (i_images : Nat → Int) (i_isKept : Nat → Int) (H : Heap) (locs : List Loc) (ls : Array Slot), f_HM_image_23 i_row n x1 x2 i_thrown i_status i_refusals i_images i_isKept = some out → va_P (dC, dI) vwCl (wd_HM_image cA q0 q1 q2 q3 q4 q5 q6 q7 q8 q9 q10 q11 q12 q13 q14 q15 q16 q17 q18 q19 q20 q21 q22 q23 q24 q25 q26 q27 q28 q29 q30 q31 u0 u1 u2 u3 u4 u5 u6 u7 u8 u9 u10 u11 u12 u13 u14 u15 u16 u17 u18 u19 i_row i_thrown i_status i_refusals i_images i_isKept) H → va_D A (wd_HM_image cA q0 q1 q2 q3 q4 q5 q6 q7 q8 q9 q10 q11 q12 q13 q14 q15 q16 q17 q18 q19 q20 q21 q22 q23 q24 q25 q26 q27 q28 q29 q30 q31 u0 u1 u2 u3 u4 u5 u6 u7 u8 u9 u10 u11 u12 u13 u14 u15 u16 u17 u18 u19 i_row i_thrown i_status i_refusals i_images i_isKept) → va_S A s.heap H locs → lv_has ls 3 [(0, .ref q0), (1, .int (Int32.ofInt x1)), (2, .int (Int32.ofInt x2))] → W p l e rm_HM_image s m args below meth c H locs 0 0 Q (F0 m 23 ls []) := by
    intro n
    induction n with
    | zero => intro x1 x2 i_thrown i_status i_refusals i_images i_isKept H locs ls hf hP hD hS hl; exact nomatch hf
    | succ n ih => intro x1 x2 i_thrown i_status i_refusals i_images i_isKept H locs ls hf hP hD hS hl; exact b_23 (f_HM_image_23 i_row n) ih x1 x2 i_thrown i_status i_refusals i_images i_isKept H locs ls hf hP hD hS hl
  unfold f_HM_image at hf
  refine lv_aload_n hx hb dX11_image_0 rfl (lv_at hl 0 rfl) ?_
  refine lv_iconst (v := Int32.ofInt 0) hx hb dX11_image_1 rfl ?_
  refine va_put (D := (dC, dI)) (ci := 11) (v := .int (Int32.ofInt 0)) (ty := .int) (C := RX11) (T := TX11) (N := 53) hx hb hz zi_X11 tyX11 tyX11_ok nmX11 hown hK hP hD hS 0 rfl rfl 0 (by decide) (hz _ zw_1165) (fun _ h9 => h9) rfl (by decide +kernel) rfl rfl (Nat.le_of_ble_eq_true rfl) dX11_image_2 (fun H locs hP hD hS => ?_)
  have hP : va_P (dC, dI) vwCl (wd_HM_image cA q0 q1 q2 q3 q4 q5 q6 q7 q8 q9 q10 q11 q12 q13 q14 q15 q16 q17 q18 q19 q20 q21 q22 q23 q24 q25 q26 q27 q28 q29 q30 q31 u0 u1 u2 u3 u4 u5 u6 u7 u8 u9 u10 u11 u12 u13 u14 u15 u16 u17 u18 u19 i_row 0 i_status i_refusals i_images i_isKept) H := hP
  have hD : va_D A (wd_HM_image cA q0 q1 q2 q3 q4 q5 q6 q7 q8 q9 q10 q11 q12 q13 q14 q15 q16 q17 q18 q19 q20 q21 q22 q23 q24 q25 q26 q27 q28 q29 q30 q31 u0 u1 u2 u3 u4 u5 u6 u7 u8 u9 u10 u11 u12 u13 u14 u15 u16 u17 u18 u19 i_row 0 i_status i_refusals i_images i_isKept) := hD
  refine lv_iload_n hx hb dX11_image_5 rfl (lv_at hl 1 rfl) ?_
  refine xi_i2l hx hb dX11_image_6 hf (fun v1 hf => ?_)
  refine lv_lconst (v := Int64.ofInt 0) hx hb dX11_image_7 (by decide) ?_
  refine lv_lconst (v := Int64.ofInt 1) hx hb dX11_image_8 (by decide) ?_
  refine xe_d1 hf (fun v2 hg hf => ?_)
  have hC : ([] : List Nat).map (fun i => (wd_HM_image cA q0 q1 q2 q3 q4 q5 q6 q7 q8 q9 q10 q11 q12 q13 q14 q15 q16 q17 q18 q19 q20 q21 q22 q23 q24 q25 q26 q27 q28 q29 q30 q31 u0 u1 u2 u3 u4 u5 u6 u7 u8 u9 u10 u11 u12 u13 u14 u15 u16 u17 u18 u19 i_row 0 i_status i_refusals i_images i_isKept)[i]?) = (wd_HM_in cA).map some := rfl
  refine xv_afterI (ws' := (wd_HM_image cA q0 q1 q2 q3 q4 q5 q6 q7 q8 q9 q10 q11 q12 q13 q14 q15 q16 q17 q18 q19 q20 q21 q22 q23 q24 q25 q26 q27 q28 q29 q30 q31 u0 u1 u2 u3 u4 u5 u6 u7 u8 u9 u10 u11 u12 u13 u14 u15 u16 u17 u18 u19 i_row 0 i_status i_refusals i_images i_isKept)) (isC := []) (ps := [none, none, none, none, none]) (va_runS (As := [.long (Int64.ofInt v1), .long (Int64.ofInt 0), .long (Int64.ofInt 1)]) (rest := []) ⟨hx, hb, hml, hown, hts⟩ (c_HM_in l ev dC dI cA hg H.size) (va_cwS 3 hts (zgS zw_1329 zw_1330 zw_115 zw_1331) rfl rfl rfl hd_HM_in.2 ⟨Nat.le_of_ble_eq_true rfl, Nat.le_of_ble_eq_true rfl⟩) (xv_preS hE hA hS hK hP hD (isC := []) (by decide +kernel) hC) rfl rfl hl.1 rfl (lv_room (Nat.le_of_ble_eq_true rfl)) dX11_image_9 ⟨Nat.le_refl _, Nat.le_refl _⟩) hP hD hS hA (by decide +kernel) rfl hC rfl rfl (fun H locs hP hD hS => ?_)
  refine xi_if_ne (tgt := 21) hx hb dX11_image_12 (by decide) hf (fun hf => ?_) (fun hf => ?_)
  · refine lv_iconst (v := Int32.ofInt 0) hx hb dX11_image_21 rfl ?_
    refine lv_istore_n (lv' := [(2, .int (Int32.ofInt 0)), (0, .ref q0), (1, .int (Int32.ofInt x1))]) hx hb dX11_image_22 rfl hl (by decide) rfl (fun ls hl => ?_)
    exact l_23  _ _ _ _ _ _ _ _ _ _ _ hf hP hD hS (lv_sub hl [1, 2, 0] rfl)
  · refine lv_aload_n hx hb dX11_image_15 rfl (lv_at hl 0 rfl) ?_
    refine lv_iconst (v := Int32.ofInt (-1)) hx hb dX11_image_16 rfl ?_
    refine xe_d3 hf (fun v3 v4 a5 hg hf => ?_)
    have hC : ([0, 1] : List Nat).map (fun i => (wd_HM_image cA q0 q1 q2 q3 q4 q5 q6 q7 q8 q9 q10 q11 q12 q13 q14 q15 q16 q17 q18 q19 q20 q21 q22 q23 q24 q25 q26 q27 q28 q29 q30 q31 u0 u1 u2 u3 u4 u5 u6 u7 u8 u9 u10 u11 u12 u13 u14 u15 u16 u17 u18 u19 i_row 0 i_status i_refusals i_images i_isKept)[i]?) = (wd_HM_tell cA q0 q1 q2 q3 q4 q5 q6 q7 q8 q9 q10 q11 q12 q13 q14 q15 q16 q17 q18 q19 q20 q21 q22 q23 q24 q25 q26 q27 q28 q29 q30 q31 0 u0 u1 u2 u3 u4 u5 u6 u7 u8 u9 u10 u11 u12 u13 u14 u15 u16 u17 u18 u19 i_status i_refusals).map some := rfl
    refine xv_afterI (ws' := (wd_HM_image cA q0 q1 q2 q3 q4 q5 q6 q7 q8 q9 q10 q11 q12 q13 q14 q15 q16 q17 q18 q19 q20 q21 q22 q23 q24 q25 q26 q27 q28 q29 q30 q31 u0 u1 u2 u3 u4 u5 u6 u7 u8 u9 u10 u11 u12 u13 u14 u15 u16 u17 u18 u19 i_row 0 v4 a5 i_images i_isKept)) (isC := [0, 1]) (ps := [some 0, some 1, none, none, none]) (va_runV (As := [.int (Int32.ofInt (-1))]) (rest := []) ⟨hx, hb, hml, hown, hts⟩ (c_HM_tell l ev dC dI cA q0 q1 q2 q3 q4 q5 q6 q7 q8 q9 q10 q11 q12 q13 q14 q15 q16 q17 q18 q19 q20 q21 q22 q23 q24 q25 q26 q27 q28 q29 q30 q31 0 u0 u1 u2 u3 u4 u5 u6 u7 u8 u9 u10 u11 u12 u13 u14 u15 u16 u17 u18 u19 hg H.size) (cwV 1 hts (zgV zw_1332 zw_1334 zw_40 zw_115 zw_1335) rfl rfl rfl hd_HM_tell ⟨Nat.le_of_ble_eq_true rfl, Nat.le_of_ble_eq_true rfl⟩) (xv_preV (T := TX11) (N := 53) hE hA hS hK hP hD (isC := [0, 1]) (by decide +kernel) hC (q0 := 0) (ci := 11) rfl rfl) rfl rfl hl.1 rfl (lv_room (Nat.le_of_ble_eq_true rfl)) dX11_image_17 ⟨Nat.le_refl _, Nat.le_refl _⟩) hP hD hS hA (by decide +kernel) rfl hC rfl rfl (fun H locs hP hD hS => ?_)
    obtain rfl := Option.some.inj hf
    exact hret _ _ _ _ rfl dX11_image_20 hP hD hS
