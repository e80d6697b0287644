theorem dX7_leave_0 : decode cX7_leave 0 = .ok (.aload_n 0, 1) := by decide +kernel
theorem dX7_leave_1 : decode cX7_leave 1 = .ok (.getfield 35, 3) := by decide +kernel
theorem dX7_leave_4 : decode cX7_leave 4 = .ok (.iconst 0, 1) := by decide +kernel
theorem dX7_leave_5 : decode cX7_leave 5 = .ok (.iaload, 1) := by decide +kernel
theorem dX7_leave_6 : decode cX7_leave 6 = .ok (.istore_n 1, 1) := by decide +kernel
theorem dX7_leave_7 : decode cX7_leave 7 = .ok (.aload_n 0, 1) := by decide +kernel
theorem dX7_leave_8 : decode cX7_leave 8 = .ok (.dup, 1) := by decide +kernel
theorem dX7_leave_9 : decode cX7_leave 9 = .ok (.getfield 124, 3) := by decide +kernel
theorem dX7_leave_12 : decode cX7_leave 12 = .ok (.iconst 1, 1) := by decide +kernel
theorem dX7_leave_13 : decode cX7_leave 13 = .ok (.isub, 1) := by decide +kernel
theorem dX7_leave_14 : decode cX7_leave 14 = .ok (.putfield 124, 3) := by decide +kernel
theorem dX7_leave_17 : decode cX7_leave 17 = .ok (.aload_n 0, 1) := by decide +kernel
theorem dX7_leave_18 : decode cX7_leave 18 = .ok (.iconst 0, 1) := by decide +kernel
theorem dX7_leave_19 : decode cX7_leave 19 = .ok (.aload_n 0, 1) := by decide +kernel
theorem dX7_leave_20 : decode cX7_leave 20 = .ok (.getfield 124, 3) := by decide +kernel
theorem dX7_leave_23 : decode cX7_leave 23 = .ok (.invokevirtual 205, 3) := by decide +kernel
theorem dX7_leave_26 : decode cX7_leave 26 = .ok (.iconst 0, 1) := by decide +kernel
theorem dX7_leave_27 : decode cX7_leave 27 = .ok (.istore_n 2, 1) := by decide +kernel
theorem dX7_leave_28 : decode cX7_leave 28 = .ok (.iconst 0, 1) := by decide +kernel
theorem dX7_leave_29 : decode cX7_leave 29 = .ok (.istore_n 3, 1) := by decide +kernel
theorem dX7_leave_30 : decode cX7_leave 30 = .ok (.iload_n 3, 1) := by decide +kernel
theorem dX7_leave_31 : decode cX7_leave 31 = .ok (.bipush 14, 2) := by decide +kernel
theorem dX7_leave_33 : decode cX7_leave 33 = .ok (.if_icmp .ge 109, 3) := by decide +kernel
theorem dX7_leave_36 : decode cX7_leave 36 = .ok (.iconst 2, 1) := by decide +kernel
theorem dX7_leave_37 : decode cX7_leave 37 = .ok (.iload_n 2, 1) := by decide +kernel
theorem dX7_leave_38 : decode cX7_leave 38 = .ok (.imul, 1) := by decide +kernel
theorem dX7_leave_39 : decode cX7_leave 39 = .ok (.iconst 1, 1) := by decide +kernel
theorem dX7_leave_40 : decode cX7_leave 40 = .ok (.iadd, 1) := by decide +kernel
theorem dX7_leave_41 : decode cX7_leave 41 = .ok (.istore 4, 2) := by decide +kernel
theorem dX7_leave_43 : decode cX7_leave 43 = .ok (.iload 4, 2) := by decide +kernel
theorem dX7_leave_45 : decode cX7_leave 45 = .ok (.iconst 1, 1) := by decide +kernel
theorem dX7_leave_46 : decode cX7_leave 46 = .ok (.iadd, 1) := by decide +kernel
theorem dX7_leave_47 : decode cX7_leave 47 = .ok (.aload_n 0, 1) := by decide +kernel
theorem dX7_leave_48 : decode cX7_leave 48 = .ok (.getfield 124, 3) := by decide +kernel
theorem dX7_leave_51 : decode cX7_leave 51 = .ok (.if_icmp .ge 36, 3) := by decide +kernel
theorem dX7_leave_54 : decode cX7_leave 54 = .ok (.aload_n 0, 1) := by decide +kernel
theorem dX7_leave_55 : decode cX7_leave 55 = .ok (.getfield 26, 3) := by decide +kernel
theorem dX7_leave_58 : decode cX7_leave 58 = .ok (.aload_n 0, 1) := by decide +kernel
theorem dX7_leave_59 : decode cX7_leave 59 = .ok (.getfield 35, 3) := by decide +kernel
theorem dX7_leave_62 : decode cX7_leave 62 = .ok (.iload 4, 2) := by decide +kernel
theorem dX7_leave_64 : decode cX7_leave 64 = .ok (.iconst 1, 1) := by decide +kernel
theorem dX7_leave_65 : decode cX7_leave 65 = .ok (.iadd, 1) := by decide +kernel
theorem dX7_leave_66 : decode cX7_leave 66 = .ok (.iaload, 1) := by decide +kernel
theorem dX7_leave_67 : decode cX7_leave 67 = .ok (.laload, 1) := by decide +kernel
theorem dX7_leave_68 : decode cX7_leave 68 = .ok (.aload_n 0, 1) := by decide +kernel
theorem dX7_leave_69 : decode cX7_leave 69 = .ok (.getfield 26, 3) := by decide +kernel
theorem dX7_leave_72 : decode cX7_leave 72 = .ok (.aload_n 0, 1) := by decide +kernel
theorem dX7_leave_73 : decode cX7_leave 73 = .ok (.getfield 35, 3) := by decide +kernel
theorem dX7_leave_76 : decode cX7_leave 76 = .ok (.iload 4, 2) := by decide +kernel
theorem dX7_leave_78 : decode cX7_leave 78 = .ok (.iaload, 1) := by decide +kernel
theorem dX7_leave_79 : decode cX7_leave 79 = .ok (.laload, 1) := by decide +kernel
theorem dX7_leave_80 : decode cX7_leave 80 = .ok (.lcmp, 1) := by decide +kernel
theorem dX7_leave_81 : decode cX7_leave 81 = .ok (.ifCond .ge 6, 3) := by decide +kernel
theorem dX7_leave_84 : decode cX7_leave 84 = .ok (.iinc 4 1, 3) := by decide +kernel
theorem dX7_leave_87 : decode cX7_leave 87 = .ok (.iload 4, 2) := by decide +kernel
theorem dX7_leave_89 : decode cX7_leave 89 = .ok (.aload_n 0, 1) := by decide +kernel
theorem dX7_leave_90 : decode cX7_leave 90 = .ok (.getfield 124, 3) := by decide +kernel
theorem dX7_leave_93 : decode cX7_leave 93 = .ok (.if_icmp .ge 49, 3) := by decide +kernel
theorem dX7_leave_96 : decode cX7_leave 96 = .ok (.aload_n 0, 1) := by decide +kernel
theorem dX7_leave_97 : decode cX7_leave 97 = .ok (.getfield 26, 3) := by decide +kernel
theorem dX7_leave_100 : decode cX7_leave 100 = .ok (.aload_n 0, 1) := by decide +kernel
theorem dX7_leave_101 : decode cX7_leave 101 = .ok (.getfield 35, 3) := by decide +kernel
theorem dX7_leave_104 : decode cX7_leave 104 = .ok (.iload_n 2, 1) := by decide +kernel
theorem dX7_leave_105 : decode cX7_leave 105 = .ok (.iaload, 1) := by decide +kernel
theorem dX7_leave_106 : decode cX7_leave 106 = .ok (.laload, 1) := by decide +kernel
theorem dX7_leave_107 : decode cX7_leave 107 = .ok (.aload_n 0, 1) := by decide +kernel
theorem dX7_leave_108 : decode cX7_leave 108 = .ok (.getfield 26, 3) := by decide +kernel
theorem dX7_leave_111 : decode cX7_leave 111 = .ok (.aload_n 0, 1) := by decide +kernel
theorem dX7_leave_112 : decode cX7_leave 112 = .ok (.getfield 35, 3) := by decide +kernel
theorem dX7_leave_115 : decode cX7_leave 115 = .ok (.iload 4, 2) := by decide +kernel
theorem dX7_leave_117 : decode cX7_leave 117 = .ok (.iaload, 1) := by decide +kernel
theorem dX7_leave_118 : decode cX7_leave 118 = .ok (.laload, 1) := by decide +kernel
theorem dX7_leave_119 : decode cX7_leave 119 = .ok (.lcmp, 1) := by decide +kernel
theorem dX7_leave_120 : decode cX7_leave 120 = .ok (.ifCond .gt 6, 3) := by decide +kernel
theorem dX7_leave_123 : decode cX7_leave 123 = .ok (.goto 19, 3) := by decide +kernel
theorem dX7_leave_126 : decode cX7_leave 126 = .ok (.aload_n 0, 1) := by decide +kernel
theorem dX7_leave_127 : decode cX7_leave 127 = .ok (.iload_n 2, 1) := by decide +kernel
theorem dX7_leave_128 : decode cX7_leave 128 = .ok (.iload 4, 2) := by decide +kernel
theorem dX7_leave_130 : decode cX7_leave 130 = .ok (.invokevirtual 205, 3) := by decide +kernel
theorem dX7_leave_133 : decode cX7_leave 133 = .ok (.iload 4, 2) := by decide +kernel
theorem dX7_leave_135 : decode cX7_leave 135 = .ok (.istore_n 2, 1) := by decide +kernel
theorem dX7_leave_136 : decode cX7_leave 136 = .ok (.iinc 3 1, 3) := by decide +kernel
theorem dX7_leave_139 : decode cX7_leave 139 = .ok (.goto (-109), 3) := by decide +kernel
theorem dX7_leave_142 : decode cX7_leave 142 = .ok (.iload_n 1, 1) := by decide +kernel
theorem dX7_leave_143 : decode cX7_leave 143 = .ok (.ireturn, 1) := by decide +kernel
theorem zw_25 : (Jvm.Cond.selects "HillSchool$Planner" ({ cls := "HillSchool$Planner", name := "swap", desc := "(II)V" } : Jvm.MethodName) ({ cls := "HillSchool$Planner", name := "swap", desc := "(II)V" } : Jvm.MethodName)) ∈ zall := zmemG (zmj_0 25 rfl) rfl
theorem zw_110 : (Jvm.Cond.initialized "HillSchool$Planner") ∈ zall := zmemG (zmj_1 7 rfl) rfl
theorem zw_362 : (Jvm.Cond.fieldLink "HillSchool$Planner" (124 : Nat) "HillSchool$Planner" "queued" "I") ∈ zall := zmemG (zmj_2 19 rfl) rfl
theorem zw_971 : (Jvm.Cond.methodLink "HillSchool$Planner" (205 : Nat) ({ cls := "HillSchool$Planner", name := "swap", desc := "(II)V" } : Jvm.MethodName)) ∈ zall := zmemG (zmj_4 148 rfl) rfl
theorem zw_973 : (Jvm.Cond.instanceMethod ({ cls := "HillSchool$Planner", name := "swap", desc := "(II)V" } : Jvm.MethodName)) ∈ zall := zmemG (zmj_4 150 rfl) rfl
theorem zw_978 : (Jvm.Cond.code ({ cls := "HillSchool$Planner", name := "leave", desc := "()I" } : Jvm.MethodName) prog_9_method_18_code (5 : Nat) (Option.some Jvm.ClassFile.FieldType.int)) ∈ zall := zmemG (zmj_4 155 rfl) rfl
abbrev w_Planner_leave : List Cond := .code yX7_leave cX7_leave 5 (some .int) :: zall
abbrev rm_Planner_leave : Room := { frames := 1, cells := 0, slots := 0, locals := 23 }
theorem hd_Planner_leave : yX7_leave.cls = "HillSchool$Planner" ∧ yX7_leave.cls ≠ "java/lang/invoke/MethodHandle" ∧ yX7_leave.cls ≠ "java/lang/invoke/VarHandle" ∧ (parseMethodDescriptor yX7_leave.desc).map (fun d => d.parameters.length) = some 0 := by decide +kernel
def wd_Planner_leave (cA : Nat → ClassId) (q0 q1 q2 q3 q4 q5 q6 q7 q8 q9 q10 q11 q12 q13 : Nat) (u0 u1 : Int) (i_costs : Nat → Int) (i_queued : Int) (i_queue : Nat → Int) (i_queuedAt : Nat → Int) : va_W := [(q0, .inr (7, [.ref q1, .ref q2, .ref q3, .ref q4, .ref q5, .ref q6, .ref q7, .ref q8, .ref q9, .ref q10, .ref q11, .ref q12, .ref q13, .int (Int32.ofInt u0), .int (Int32.ofInt u1), .int (Int32.ofInt i_queued)])), (q6, .inl (cA 2, 6720, .inr (.inl (zl i_costs)))), (q9, .inl (cA 0, 6720, .inl (za i_queue))), (q10, .inl (cA 0, 6720, .inl (za i_queuedAt)))]
def wf_Planner_leave (cA : Nat → ClassId) (q0 q1 q2 q3 q4 q5 q6 q7 q8 q9 q10 q11 q12 q13 : Nat) (u0 u1 : Int) (i_costs : Nat → Int) (o : Int × Int × (Nat → Int) × (Nat → Int)) : va_W := wd_Planner_leave cA q0 q1 q2 q3 q4 q5 q6 q7 q8 q9 q10 q11 q12 q13 u0 u1 i_costs o.2.1 o.2.2.1 o.2.2.2
def f_Planner_leave_87 (i_costs : Nat → Int) (k30 : Int → Int → Int → Int → (Nat → Int) → (Nat → Int) → Option (Int × Int × (Nat → Int) × (Nat → Int))) (x1 : Int) (x2 : Int) (x3 : Int) (x4 : Int) (i_queued : Int) (i_queue : Nat → Int) (i_queuedAt : Nat → Int) : Option (Int × Int × (Nat → Int) × (Nat → Int)) :=
  if zi_w i_queued ≤ zi_w x4 then
    some (x1, i_queued, i_queue, i_queuedAt)
  else
    zg 6720 i_queue x2 fun v1 =>
    zg 6720 i_costs v1 fun v2 =>
    zg 6720 i_queue x4 fun v3 =>
    zg 6720 i_costs v3 fun v4 =>
    if zl_w v4 < zl_w v2 then
      zd2 (f_Planner_swap x2 x4 i_queue i_queuedAt) fun a5 a6 =>
      zn (x3 + 1) fun v7 =>
      k30 x1 x4 v7 i_queued a5 a6
    else
      some (x1, i_queued, i_queue, i_queuedAt)
def f_Planner_leave_30_b (i_costs : Nat → Int) (k30 : Int → Int → Int → Int → (Nat → Int) → (Nat → Int) → Option (Int × Int × (Nat → Int) × (Nat → Int))) (x1 : Int) (x2 : Int) (x3 : Int) (i_queued : Int) (i_queue : Nat → Int) (i_queuedAt : Nat → Int) : Option (Int × Int × (Nat → Int) × (Nat → Int)) :=
  if zi_w 14 ≤ zi_w x3 then
    some (x1, i_queued, i_queue, i_queuedAt)
  else
    zn (2 * x2) fun v1 =>
    zn (v1 + 1) fun v2 =>
    zn (v2 + 1) fun v3 =>
    if zi_w i_queued ≤ zi_w v3 then
      f_Planner_leave_87 i_costs k30 x1 x2 x3 v2 i_queued i_queue i_queuedAt
    else
      zn (v2 + 1) fun v4 =>
      zg 6720 i_queue v4 fun v5 =>
      zg 6720 i_costs v5 fun v6 =>
      zg 6720 i_queue v2 fun v7 =>
      zg 6720 i_costs v7 fun v8 =>
      if zl_w v8 ≤ zl_w v6 then
        f_Planner_leave_87 i_costs k30 x1 x2 x3 v2 i_queued i_queue i_queuedAt
      else
        zn (v2 + 1) fun v9 =>
        f_Planner_leave_87 i_costs k30 x1 x2 x3 v9 i_queued i_queue i_queuedAt
def f_Planner_leave_30 (i_costs : Nat → Int) : Nat → Int → Int → Int → Int → (Nat → Int) → (Nat → Int) → Option (Int × Int × (Nat → Int) × (Nat → Int))
  | 0 => fun _ _ _ _ _ _ => none
  | n + 1 => fun y0 y1 y2 y3 y4 y5 => f_Planner_leave_30_b i_costs (f_Planner_leave_30 i_costs n) y0 y1 y2 y3 y4 y5
def f_Planner_leave (i_costs : Nat → Int) (i_queued : Int) (i_queue : Nat → Int) (i_queuedAt : Nat → Int) : Option (Int × Int × (Nat → Int) × (Nat → Int)) :=
  zg 6720 i_queue 0 fun v1 =>
  zn (i_queued - 1) fun v2 =>
  zd2 (f_Planner_swap 0 v2 i_queue i_queuedAt) fun a3 a4 =>
  f_Planner_leave_30 i_costs zfu v1 0 0 v2 a3 a4
set_option maxHeartbeats 4000000 in
set_option maxRecDepth 100000 in
theorem c_Planner_leave (l : Launch) (ev : zEv) (dC : Nat → ClassId) (dI : Nat → Nat → Nat) (cA : Nat → ClassId) (q0 q1 q2 q3 q4 q5 q6 q7 q8 q9 q10 q11 q12 q13 : Nat) (u0 u1 : Int) {i_costs : Nat → Int} {i_queued : Int} {i_queue : Nat → Int} {i_queuedAt : Nat → Int} {out : Int × Int × (Nat → Int) × (Nat → Int)} (hf : f_Planner_leave i_costs i_queued i_queue i_queuedAt = some out) : xc_I l ev (dC, dI) vwCl (tyl cA) yX7_leave w_Planner_leave rm_Planner_leave [.ref q0] (wd_Planner_leave cA q0 q1 q2 q3 q4 q5 q6 q7 q8 q9 q10 q11 q12 q13 u0 u1 i_costs i_queued i_queue i_queuedAt) (wf_Planner_leave cA q0 q1 q2 q3 q4 q5 q6 q7 q8 q9 q10 q11 q12 q13 u0 u1 i_costs out) out.1 := by
  refine xv_startI (cc := cX7_leave) (maxL := 5) (rt := .int) (by decide +kernel) rfl (Nat.le_of_ble_eq_true rfl) ?_
  intro p e s m args below meth c A Q H ls hx hb hml hts hown hK hA hP hD hS hl hE hret
  have hown : s.vm.findClass "HillSchool$Planner" = some m.cls := hown
  have hz : ∀ w ∈ zall, w.before args s = true := fun w h => hts w (List.mem_cons_of_mem _ h)
  have hl : lv_has ls 5 [(0, .ref q0)] := hl
  have b_87 : ∀ (k30 : Int → Int → Int → Int → (Nat → Int) → (Nat → Int) → Option (Int × Int × (Nat → Int) × (Nat → Int))) (_ : ∀ (x1 : Int) (x2 : Int) (x3 : Int) (i_queued : Int) (i_queue : Nat → Int) (i_queuedAt : Nat → Int) (H : Heap) (locs : List Loc) (ls : Array Slot), k30 x1 x2 x3 i_queued i_queue i_queuedAt = some out → va_P (dC, dI) vwCl (wd_Planner_leave cA q0 q1 q2 q3 q4 q5 q6 q7 q8 q9 q10 q11 q12 q13 u0 u1 i_costs i_queued i_queue i_queuedAt) H → va_D A (wd_Planner_leave cA q0 q1 q2 q3 q4 q5 q6 q7 q8 q9 q10 q11 q12 q13 u0 u1 i_costs i_queued i_queue i_queuedAt) → va_S A s.heap H locs → lv_has ls 5 [(0, .ref q0), (1, .int (Int32.ofInt x1)), (2, .int (Int32.ofInt x2)), (3, .int (Int32.ofInt x3))] → W p l e rm_Planner_leave s m args below meth c H locs 0 0 Q (F0 m 30 ls [])), ∀ (x1 : Int) (x2 : Int) (x3 : Int) (x4 : Int) (i_queued : Int) (i_queue : Nat → Int) (i_queuedAt : Nat → Int) (H : Heap) (locs : List Loc) (ls : Array Slot), f_Planner_leave_87 i_costs k30 x1 x2 x3 x4 i_queued i_queue i_queuedAt = some out → va_P (dC, dI) vwCl (wd_Planner_leave cA q0 q1 q2 q3 q4 q5 q6 q7 q8 q9 q10 q11 q12 q13 u0 u1 i_costs i_queued i_queue i_queuedAt) H → va_D A (wd_Planner_leave cA q0 q1 q2 q3 q4 q5 q6 q7 q8 q9 q10 q11 q12 q13 u0 u1 i_costs i_queued i_queue i_queuedAt) → va_S A s.heap H locs → lv_has ls 5 [(0, .ref q0), (1, .int (Int32.ofInt x1)), (2, .int (Int32.ofInt x2)), (3, .int (Int32.ofInt x3)), (4, .int (Int32.ofInt x4))] → W p l e rm_Planner_leave s m args below meth c H locs 0 0 Q (F0 m 87 ls []) := by
    intro k30 ih30 x1 x2 x3 x4 i_queued i_queue i_queuedAt H locs ls hf hP hD hS hl
    unfold f_Planner_leave_87 at hf
    refine lv_iload hx hb dX7_leave_87 (lv_at hl 4 rfl) ?_
    refine lv_aload_n hx hb dX7_leave_89 rfl (lv_at hl 0 rfl) ?_
    refine va_get (D := (dC, dI)) (ci := 7) (v := .int (Int32.ofInt i_queued)) (C := RX7) (T := TX7) (N := 16) hx hb hz zi_X7 hown hK hP 0 rfl rfl 15 (by decide) (hz _ zw_362) (fun _ h9 => h9) rfl dX7_leave_90 ?_
    refine xi_icmp_ge (tgt := 142) hx hb dX7_leave_93 (by decide) hf (fun hf => ?_) (fun hf => ?_)
    · refine lv_iload_n hx hb dX7_leave_142 rfl (lv_at hl 1 rfl) ?_
      obtain rfl := Option.some.inj hf
      exact hret _ _ _ _ rfl dX7_leave_143 hP hD hS
    · refine lv_aload_n hx hb dX7_leave_96 rfl (lv_at hl 0 rfl) ?_
      refine va_get (D := (dC, dI)) (ci := 7) (v := .ref q6) (C := RX7) (T := TX7) (N := 16) hx hb hz zi_X7 hown hK hP 0 rfl rfl 5 (by decide) (hz _ zw_352) (fun _ h9 => h9) rfl dX7_leave_97 ?_
      refine lv_aload_n hx hb dX7_leave_100 rfl (lv_at hl 0 rfl) ?_
      refine va_get (D := (dC, dI)) (ci := 7) (v := .ref q9) (C := RX7) (T := TX7) (N := 16) hx hb hz zi_X7 hown hK hP 0 rfl rfl 8 (by decide) (hz _ zw_355) (fun _ h9 => h9) rfl dX7_leave_101 ?_
      refine lv_iload_n hx hb dX7_leave_104 rfl (lv_at hl 2 rfl) ?_
      refine xi_iald hx hb hK hP 2 0 rfl rfl dX7_leave_105 hf (fun v1 hf => ?_)
      refine xl_lald hx hb hK hP 1 2 rfl rfl dX7_leave_106 hf (fun v2 hf => ?_)
      refine lv_aload_n hx hb dX7_leave_107 rfl (lv_at hl 0 rfl) ?_
      refine va_get (D := (dC, dI)) (ci := 7) (v := .ref q6) (C := RX7) (T := TX7) (N := 16) hx hb hz zi_X7 hown hK hP 0 rfl rfl 5 (by decide) (hz _ zw_352) (fun _ h9 => h9) rfl dX7_leave_108 ?_
      refine lv_aload_n hx hb dX7_leave_111 rfl (lv_at hl 0 rfl) ?_
      refine va_get (D := (dC, dI)) (ci := 7) (v := .ref q9) (C := RX7) (T := TX7) (N := 16) hx hb hz zi_X7 hown hK hP 0 rfl rfl 8 (by decide) (hz _ zw_355) (fun _ h9 => h9) rfl dX7_leave_112 ?_
      refine lv_iload hx hb dX7_leave_115 (lv_at hl 4 rfl) ?_
      refine xi_iald hx hb hK hP 2 0 rfl rfl dX7_leave_117 hf (fun v3 hf => ?_)
      refine xl_lald hx hb hK hP 1 2 rfl rfl dX7_leave_118 hf (fun v4 hf => ?_)
      refine xl_cmp_gt (tgt := 126) hx hb dX7_leave_119 dX7_leave_120 (by decide) hf (fun hf => ?_) (fun hf => ?_)
      · refine lv_aload_n hx hb dX7_leave_126 rfl (lv_at hl 0 rfl) ?_
        refine lv_iload_n hx hb dX7_leave_127 rfl (lv_at hl 2 rfl) ?_
        refine lv_iload hx hb dX7_leave_128 (lv_at hl 4 rfl) ?_
        refine xe_d2 hf (fun a5 a6 hg hf => ?_)
        have hC : ([0, 2, 3] : List Nat).map (fun i => (wd_Planner_leave cA q0 q1 q2 q3 q4 q5 q6 q7 q8 q9 q10 q11 q12 q13 u0 u1 i_costs i_queued i_queue i_queuedAt)[i]?) = (wd_Planner_swap cA q0 q1 q2 q3 q4 q5 q6 q7 q8 q9 q10 q11 q12 q13 u0 u1 i_queued i_queue i_queuedAt).map some := rfl
        refine xv_afterV (ws' := (wd_Planner_leave cA q0 q1 q2 q3 q4 q5 q6 q7 q8 q9 q10 q11 q12 q13 u0 u1 i_costs i_queued a5 a6)) (isC := [0, 2, 3]) (ps := [some 0, none, some 1, some 2]) (va_runV (As := [.int (Int32.ofInt x2), .int (Int32.ofInt x4)]) (rest := []) ⟨hx, hb, hml, hown, hts⟩ (c_Planner_swap l ev dC dI cA q0 q1 q2 q3 q4 q5 q6 q7 q8 q9 q10 q11 q12 q13 u0 u1 i_queued hg H.size) (cwV 2 hts (zgV zw_971 zw_973 zw_25 zw_110 zw_974) rfl rfl rfl hd_Planner_swap ⟨Nat.le_of_ble_eq_true rfl, Nat.le_of_ble_eq_true rfl⟩) (xv_preV (T := TX7) (N := 16) hE hA hS hK hP hD (isC := [0, 2, 3]) (by decide +kernel) hC (q0 := 0) (ci := 7) rfl rfl) rfl rfl hl.1 rfl (lv_room (Nat.le_of_ble_eq_true rfl)) dX7_leave_130 ⟨Nat.le_refl _, Nat.le_refl _⟩) hP hD hS hA (by decide +kernel) rfl hC rfl rfl (fun H locs hP hD hS => ?_)
        refine lv_iload hx hb dX7_leave_133 (lv_at hl 4 rfl) ?_
        refine lv_istore_n (lv' := [(2, .int (Int32.ofInt x4)), (0, .ref q0), (1, .int (Int32.ofInt x1)), (3, .int (Int32.ofInt x3)), (4, .int (Int32.ofInt x4))]) hx hb dX7_leave_135 rfl hl (by decide) rfl (fun ls hl => ?_)
        refine xi_iinc hx hb dX7_leave_136 hl (k := 3) rfl (by decide) hf (fun v7 ls hl hf => ?_)
        have hl : lv_has ls 5 [(3, .int (Int32.ofInt v7)), (2, .int (Int32.ofInt x4)), (0, .ref q0), (1, .int (Int32.ofInt x1)), (4, .int (Int32.ofInt x4))] := hl
        refine lv_goto (tgt := 30) hx hb dX7_leave_139 (by decide) ?_
        exact ih30 _ _ _ _ _ _ _ _ _ hf hP hD hS (lv_sub hl [2, 3, 1, 0] rfl)
      · refine lv_goto (tgt := 142) hx hb dX7_leave_123 (by decide) ?_
        refine lv_iload_n hx hb dX7_leave_142 rfl (lv_at hl 1 rfl) ?_
        obtain rfl := Option.some.inj hf
        exact hret _ _ _ _ rfl dX7_leave_143 hP hD hS
  have b_30 : ∀ (k30 : Int → Int → Int → Int → (Nat → Int) → (Nat → Int) → Option (Int × Int × (Nat → Int) × (Nat → Int))) (_ : ∀ (x1 : Int) (x2 : Int) (x3 : Int) (i_queued : Int) (i_queue : Nat → Int) (i_queuedAt : Nat → Int) (H : Heap) (locs : List Loc) (ls : Array Slot), k30 x1 x2 x3 i_queued i_queue i_queuedAt = some out → va_P (dC, dI) vwCl (wd_Planner_leave cA q0 q1 q2 q3 q4 q5 q6 q7 q8 q9 q10 q11 q12 q13 u0 u1 i_costs i_queued i_queue i_queuedAt) H → va_D A (wd_Planner_leave cA q0 q1 q2 q3 q4 q5 q6 q7 q8 q9 q10 q11 q12 q13 u0 u1 i_costs i_queued i_queue i_queuedAt) → va_S A s.heap H locs → lv_has ls 5 [(0, .ref q0), (1, .int (Int32.ofInt x1)), (2, .int (Int32.ofInt x2)), (3, .int (Int32.ofInt x3))] → W p l e rm_Planner_leave s m args below meth c H locs 0 0 Q (F0 m 30 ls [])), ∀ (x1 : Int) (x2 : Int) (x3 : Int) (i_queued : Int) (i_queue : Nat → Int) (i_queuedAt : Nat → Int) (H : Heap) (locs : List Loc) (ls : Array Slot), f_Planner_leave_30_b i_costs k30 x1 x2 x3 i_queued i_queue i_queuedAt = some out → va_P (dC, dI) vwCl (wd_Planner_leave cA q0 q1 q2 q3 q4 q5 q6 q7 q8 q9 q10 q11 q12 q13 u0 u1 i_costs i_queued i_queue i_queuedAt) H → va_D A (wd_Planner_leave cA q0 q1 q2 q3 q4 q5 q6 q7 q8 q9 q10 q11 q12 q13 u0 u1 i_costs i_queued i_queue i_queuedAt) → va_S A s.heap H locs → lv_has ls 5 [(0, .ref q0), (1, .int (Int32.ofInt x1)), (2, .int (Int32.ofInt x2)), (3, .int (Int32.ofInt x3))] → W p l e rm_Planner_leave s m args below meth c H locs 0 0 Q (F0 m 30 ls []) := by
    intro k30 ih30 x1 x2 x3 i_queued i_queue i_queuedAt H locs ls hf hP hD hS hl
    unfold f_Planner_leave_30_b at hf
    refine lv_iload_n hx hb dX7_leave_30 rfl (lv_at hl 3 rfl) ?_
    refine lv_bipush (v := Int32.ofInt 14) hx hb dX7_leave_31 (by decide) ?_
    refine xi_icmp_ge (tgt := 142) hx hb dX7_leave_33 (by decide) hf (fun hf => ?_) (fun hf => ?_)
    · refine lv_iload_n hx hb dX7_leave_142 rfl (lv_at hl 1 rfl) ?_
      obtain rfl := Option.some.inj hf
      exact hret _ _ _ _ rfl dX7_leave_143 hP hD hS
    · refine lv_iconst (v := Int32.ofInt 2) hx hb dX7_leave_36 rfl ?_
      refine lv_iload_n hx hb dX7_leave_37 rfl (lv_at hl 2 rfl) ?_
      refine xi_imul hx hb dX7_leave_38 hf (fun v1 hf => ?_)
      refine lv_iconst (v := Int32.ofInt 1) hx hb dX7_leave_39 rfl ?_
      refine xi_iadd hx hb dX7_leave_40 hf (fun v2 hf => ?_)
      refine lv_istore (lv' := [(4, .int (Int32.ofInt v2)), (0, .ref q0), (1, .int (Int32.ofInt x1)), (2, .int (Int32.ofInt x2)), (3, .int (Int32.ofInt x3))]) hx hb dX7_leave_41 hl (by decide) rfl (fun ls hl => ?_)
      refine lv_iload hx hb dX7_leave_43 (lv_at hl 0 rfl) ?_
      refine lv_iconst (v := Int32.ofInt 1) hx hb dX7_leave_45 rfl ?_
      refine xi_iadd hx hb dX7_leave_46 hf (fun v3 hf => ?_)
      refine lv_aload_n hx hb dX7_leave_47 rfl (lv_at hl 1 rfl) ?_
      refine va_get (D := (dC, dI)) (ci := 7) (v := .int (Int32.ofInt i_queued)) (C := RX7) (T := TX7) (N := 16) hx hb hz zi_X7 hown hK hP 0 rfl rfl 15 (by decide) (hz _ zw_362) (fun _ h9 => h9) rfl dX7_leave_48 ?_
      refine xi_icmp_ge (tgt := 87) hx hb dX7_leave_51 (by decide) hf (fun hf => ?_) (fun hf => ?_)
      · exact b_87 _ ih30 _ _ _ _ _ _ _ _ _ _ hf hP hD hS (lv_sub hl [1, 2, 3, 4, 0] rfl)
      · refine lv_aload_n hx hb dX7_leave_54 rfl (lv_at hl 1 rfl) ?_
        refine va_get (D := (dC, dI)) (ci := 7) (v := .ref q6) (C := RX7) (T := TX7) (N := 16) hx hb hz zi_X7 hown hK hP 0 rfl rfl 5 (by decide) (hz _ zw_352) (fun _ h9 => h9) rfl dX7_leave_55 ?_
        refine lv_aload_n hx hb dX7_leave_58 rfl (lv_at hl 1 rfl) ?_
        refine va_get (D := (dC, dI)) (ci := 7) (v := .ref q9) (C := RX7) (T := TX7) (N := 16) hx hb hz zi_X7 hown hK hP 0 rfl rfl 8 (by decide) (hz _ zw_355) (fun _ h9 => h9) rfl dX7_leave_59 ?_
        refine lv_iload hx hb dX7_leave_62 (lv_at hl 0 rfl) ?_
        refine lv_iconst (v := Int32.ofInt 1) hx hb dX7_leave_64 rfl ?_
        refine xi_iadd hx hb dX7_leave_65 hf (fun v4 hf => ?_)
        refine xi_iald hx hb hK hP 2 0 rfl rfl dX7_leave_66 hf (fun v5 hf => ?_)
        refine xl_lald hx hb hK hP 1 2 rfl rfl dX7_leave_67 hf (fun v6 hf => ?_)
        refine lv_aload_n hx hb dX7_leave_68 rfl (lv_at hl 1 rfl) ?_
        refine va_get (D := (dC, dI)) (ci := 7) (v := .ref q6) (C := RX7) (T := TX7) (N := 16) hx hb hz zi_X7 hown hK hP 0 rfl rfl 5 (by decide) (hz _ zw_352) (fun _ h9 => h9) rfl dX7_leave_69 ?_
        refine lv_aload_n hx hb dX7_leave_72 rfl (lv_at hl 1 rfl) ?_
        refine va_get (D := (dC, dI)) (ci := 7) (v := .ref q9) (C := RX7) (T := TX7) (N := 16) hx hb hz zi_X7 hown hK hP 0 rfl rfl 8 (by decide) (hz _ zw_355) (fun _ h9 => h9) rfl dX7_leave_73 ?_
        refine lv_iload hx hb dX7_leave_76 (lv_at hl 0 rfl) ?_
        refine xi_iald hx hb hK hP 2 0 rfl rfl dX7_leave_78 hf (fun v7 hf => ?_)
        refine xl_lald hx hb hK hP 1 2 rfl rfl dX7_leave_79 hf (fun v8 hf => ?_)
        refine xl_cmp_ge (tgt := 87) hx hb dX7_leave_80 dX7_leave_81 (by decide) hf (fun hf => ?_) (fun hf => ?_)
        · exact b_87 _ ih30 _ _ _ _ _ _ _ _ _ _ hf hP hD hS (lv_sub hl [1, 2, 3, 4, 0] rfl)
        · refine xi_iinc hx hb dX7_leave_84 hl (k := 0) rfl (by decide) hf (fun v9 ls hl hf => ?_)
          have hl : lv_has ls 5 [(4, .int (Int32.ofInt v9)), (0, .ref q0), (1, .int (Int32.ofInt x1)), (2, .int (Int32.ofInt x2)), (3, .int (Int32.ofInt x3))] := hl
          exact b_87 _ ih30 _ _ _ _ _ _ _ _ _ _ hf hP hD hS (lv_sub hl [1, 2, 3, 4, 0] rfl)
  have l_30 : ∀ (n : Nat), ∀ (x1 : Int) (x2 : Int) (x3 : Int) (i_queued : Int) (i_queue : Nat → Int) (i_queuedAt : Nat → Int) (H : Heap) (locs : List Loc) (ls : Array Slot), f_Planner_leave_30 i_costs n x1 x2 x3 i_queued i_queue i_queuedAt = some out → va_P (dC, dI) vwCl (wd_Planner_leave cA q0 q1 q2 q3 q4 q5 q6 q7 q8 q9 q10 q11 q12 q13 u0 u1 i_costs i_queued i_queue i_queuedAt) H → va_D A (wd_Planner_leave cA q0 q1 q2 q3 q4 q5 q6 q7 q8 q9 q10 q11 q12 q13 u0 u1 i_costs i_queued i_queue i_queuedAt) → va_S A s.heap H locs → lv_has ls 5 [(0, .ref q0), (1, .int (Int32.ofInt x1)), (2, .int (Int32.ofInt x2)), (3, .int (Int32.ofInt x3))] → W p l e rm_Planner_leave s m args below meth c H locs 0 0 Q (F0 m 30 ls []) := by
    intro n
    induction n with
    | zero => intro x1 x2 x3 i_queued i_queue i_queuedAt H locs ls hf hP hD hS hl; exact nomatch hf
    | succ n ih => intro x1 x2 x3 i_queued i_queue i_queuedAt H locs ls hf hP hD hS hl; exact b_30 (f_Planner_leave_30 i_costs n) ih x1 x2 x3 i_queued i_queue i_queuedAt H locs ls hf hP hD hS hl
  unfold f_Planner_leave at hf
  refine lv_aload_n hx hb dX7_leave_0 rfl (lv_at hl 0 rfl) ?_
  refine va_get (D := (dC, dI)) (ci := 7) (v := .ref q9) (C := RX7) (T := TX7) (N := 16) hx hb hz zi_X7 hown hK hP 0 rfl rfl 8 (by decide) (hz _ zw_355) (fun _ h9 => h9) rfl dX7_leave_1 ?_
  refine lv_iconst (v := Int32.ofInt 0) hx hb dX7_leave_4 rfl ?_
  refine xi_iald hx hb hK hP 2 0 rfl rfl dX7_leave_5 hf (fun v1 hf => ?_)
  refine lv_istore_n (lv' := [(1, .int (Int32.ofInt v1)), (0, .ref q0)]) hx hb dX7_leave_6 rfl hl (by decide) rfl (fun ls hl => ?_)
  refine lv_aload_n hx hb dX7_leave_7 rfl (lv_at hl 1 rfl) ?_
  refine lv_dup hx hb dX7_leave_8 rfl ?_
  refine va_get (D := (dC, dI)) (ci := 7) (v := .int (Int32.ofInt i_queued)) (C := RX7) (T := TX7) (N := 16) hx hb hz zi_X7 hown hK hP 0 rfl rfl 15 (by decide) (hz _ zw_362) (fun _ h9 => h9) rfl dX7_leave_9 ?_
  refine lv_iconst (v := Int32.ofInt 1) hx hb dX7_leave_12 rfl ?_
  refine xi_isub hx hb dX7_leave_13 hf (fun v2 hf => ?_)
  refine va_put (D := (dC, dI)) (ci := 7) (v := .int (Int32.ofInt v2)) (ty := .int) (C := RX7) (T := TX7) (N := 16) hx hb hz zi_X7 tyX7 tyX7_ok nmX7 hown hK hP hD hS 0 rfl rfl 15 (by decide) (hz _ zw_362) (fun _ h9 => h9) rfl (by decide +kernel) rfl rfl (Nat.le_of_ble_eq_true rfl) dX7_leave_14 (fun H locs hP hD hS => ?_)
  have hP : va_P (dC, dI) vwCl (wd_Planner_leave cA q0 q1 q2 q3 q4 q5 q6 q7 q8 q9 q10 q11 q12 q13 u0 u1 i_costs v2 i_queue i_queuedAt) H := hP
  have hD : va_D A (wd_Planner_leave cA q0 q1 q2 q3 q4 q5 q6 q7 q8 q9 q10 q11 q12 q13 u0 u1 i_costs v2 i_queue i_queuedAt) := hD
  refine lv_aload_n hx hb dX7_leave_17 rfl (lv_at hl 1 rfl) ?_
  refine lv_iconst (v := Int32.ofInt 0) hx hb dX7_leave_18 rfl ?_
  refine lv_aload_n hx hb dX7_leave_19 rfl (lv_at hl 1 rfl) ?_
  refine va_get (D := (dC, dI)) (ci := 7) (v := .int (Int32.ofInt v2)) (C := RX7) (T := TX7) (N := 16) hx hb hz zi_X7 hown hK hP 0 rfl rfl 15 (by decide) (hz _ zw_362) (fun _ h9 => h9) rfl dX7_leave_20 ?_
  refine xe_d2 hf (fun a3 a4 hg hf => ?_)
  have hC : ([0, 2, 3] : List Nat).map (fun i => (wd_Planner_leave cA q0 q1 q2 q3 q4 q5 q6 q7 q8 q9 q10 q11 q12 q13 u0 u1 i_costs v2 i_queue i_queuedAt)[i]?) = (wd_Planner_swap cA q0 q1 q2 q3 q4 q5 q6 q7 q8 q9 q10 q11 q12 q13 u0 u1 v2 i_queue i_queuedAt).map some := rfl
  refine xv_afterV (ws' := (wd_Planner_leave cA q0 q1 q2 q3 q4 q5 q6 q7 q8 q9 q10 q11 q12 q13 u0 u1 i_costs v2 a3 a4)) (isC := [0, 2, 3]) (ps := [some 0, none, some 1, some 2]) (va_runV (As := [.int (Int32.ofInt 0), .int (Int32.ofInt v2)]) (rest := []) ⟨hx, hb, hml, hown, hts⟩ (c_Planner_swap l ev dC dI cA q0 q1 q2 q3 q4 q5 q6 q7 q8 q9 q10 q11 q12 q13 u0 u1 v2 hg H.size) (cwV 2 hts (zgV zw_971 zw_973 zw_25 zw_110 zw_974) rfl rfl rfl hd_Planner_swap ⟨Nat.le_of_ble_eq_true rfl, Nat.le_of_ble_eq_true rfl⟩) (xv_preV (T := TX7) (N := 16) hE hA hS hK hP hD (isC := [0, 2, 3]) (by decide +kernel) hC (q0 := 0) (ci := 7) rfl rfl) rfl rfl hl.1 rfl (lv_room (Nat.le_of_ble_eq_true rfl)) dX7_leave_23 ⟨Nat.le_refl _, Nat.le_refl _⟩) hP hD hS hA (by decide +kernel) rfl hC rfl rfl (fun H locs hP hD hS => ?_)
  refine lv_iconst (v := Int32.ofInt 0) hx hb dX7_leave_26 rfl ?_
  refine lv_istore_n (lv' := [(2, .int (Int32.ofInt 0)), (1, .int (Int32.ofInt v1)), (0, .ref q0)]) hx hb dX7_leave_27 rfl hl (by decide) rfl (fun ls hl => ?_)
  refine lv_iconst (v := Int32.ofInt 0) hx hb dX7_leave_28 rfl ?_
  refine lv_istore_n (lv' := [(3, .int (Int32.ofInt 0)), (2, .int (Int32.ofInt 0)), (1, .int (Int32.ofInt v1)), (0, .ref q0)]) hx hb dX7_leave_29 rfl hl (by decide) rfl (fun ls hl => ?_)
  exact l_30  _ _ _ _ _ _ _ _ _ _ hf hP hD hS (lv_sub hl [3, 2, 1, 0] rfl)
theorem dX7_isEarlier_0 : decode cX7_isEarlier 0 = .ok (.iload_n 2, 1) := by decide +kernel
theorem dX7_isEarlier_1 : decode cX7_isEarlier 1 = .ok (.aload_n 0, 1) := by decide +kernel
theorem dX7_isEarlier_2 : decode cX7_isEarlier 2 = .ok (.getfield 32, 3) := by decide +kernel
theorem dX7_isEarlier_5 : decode cX7_isEarlier 5 = .ok (.iload_n 3, 1) := by decide +kernel
theorem dX7_isEarlier_6 : decode cX7_isEarlier 6 = .ok (.iaload, 1) := by decide +kernel
theorem dX7_isEarlier_7 : decode cX7_isEarlier 7 = .ok (.if_icmp .ge 7, 3) := by decide +kernel
theorem dX7_isEarlier_10 : decode cX7_isEarlier 10 = .ok (.iconst 1, 1) := by decide +kernel
theorem dX7_isEarlier_11 : decode cX7_isEarlier 11 = .ok (.goto 4, 3) := by decide +kernel
theorem dX7_isEarlier_14 : decode cX7_isEarlier 14 = .ok (.iconst 0, 1) := by decide +kernel
theorem dX7_isEarlier_15 : decode cX7_isEarlier 15 = .ok (.istore 4, 2) := by decide +kernel
theorem dX7_isEarlier_17 : decode cX7_isEarlier 17 = .ok (.iload_n 1, 1) := by decide +kernel
theorem dX7_isEarlier_18 : decode cX7_isEarlier 18 = .ok (.istore 5, 2) := by decide +kernel
theorem dX7_isEarlier_20 : decode cX7_isEarlier 20 = .ok (.aload_n 0, 1) := by decide +kernel
theorem dX7_isEarlier_21 : decode cX7_isEarlier 21 = .ok (.getfield 29, 3) := by decide +kernel
theorem dX7_isEarlier_24 : decode cX7_isEarlier 24 = .ok (.iload_n 3, 1) := by decide +kernel
theorem dX7_isEarlier_25 : decode cX7_isEarlier 25 = .ok (.iaload, 1) := by decide +kernel
theorem dX7_isEarlier_26 : decode cX7_isEarlier 26 = .ok (.istore 6, 2) := by decide +kernel
theorem dX7_isEarlier_28 : decode cX7_isEarlier 28 = .ok (.iconst 0, 1) := by decide +kernel
theorem dX7_isEarlier_29 : decode cX7_isEarlier 29 = .ok (.istore 7, 2) := by decide +kernel
theorem dX7_isEarlier_31 : decode cX7_isEarlier 31 = .ok (.iload 7, 2) := by decide +kernel
theorem dX7_isEarlier_33 : decode cX7_isEarlier 33 = .ok (.sipush 6720, 3) := by decide +kernel
theorem dX7_isEarlier_36 : decode cX7_isEarlier 36 = .ok (.if_icmp .ge 85, 3) := by decide +kernel
theorem dX7_isEarlier_39 : decode cX7_isEarlier 39 = .ok (.iload 5, 2) := by decide +kernel
theorem dX7_isEarlier_41 : decode cX7_isEarlier 41 = .ok (.iload 6, 2) := by decide +kernel
theorem dX7_isEarlier_43 : decode cX7_isEarlier 43 = .ok (.if_icmp .eq 78, 3) := by decide +kernel
theorem dX7_isEarlier_46 : decode cX7_isEarlier 46 = .ok (.iload 5, 2) := by decide +kernel
theorem dX7_isEarlier_48 : decode cX7_isEarlier 48 = .ok (.ifCond .lt 73, 3) := by decide +kernel
theorem dX7_isEarlier_51 : decode cX7_isEarlier 51 = .ok (.iload 6, 2) := by decide +kernel
theorem dX7_isEarlier_53 : decode cX7_isEarlier 53 = .ok (.ifCond .lt 68, 3) := by decide +kernel
theorem dX7_isEarlier_56 : decode cX7_isEarlier 56 = .ok (.aload_n 0, 1) := by decide +kernel
theorem dX7_isEarlier_57 : decode cX7_isEarlier 57 = .ok (.getfield 32, 3) := by decide +kernel
theorem dX7_isEarlier_60 : decode cX7_isEarlier 60 = .ok (.iload 5, 2) := by decide +kernel
theorem dX7_isEarlier_62 : decode cX7_isEarlier 62 = .ok (.iaload, 1) := by decide +kernel
theorem dX7_isEarlier_63 : decode cX7_isEarlier 63 = .ok (.aload_n 0, 1) := by decide +kernel
theorem dX7_isEarlier_64 : decode cX7_isEarlier 64 = .ok (.getfield 32, 3) := by decide +kernel
theorem dX7_isEarlier_67 : decode cX7_isEarlier 67 = .ok (.iload 6, 2) := by decide +kernel
theorem dX7_isEarlier_69 : decode cX7_isEarlier 69 = .ok (.iaload, 1) := by decide +kernel
theorem dX7_isEarlier_70 : decode cX7_isEarlier 70 = .ok (.if_icmp .eq 27, 3) := by decide +kernel
theorem dX7_isEarlier_73 : decode cX7_isEarlier 73 = .ok (.aload_n 0, 1) := by decide +kernel
theorem dX7_isEarlier_74 : decode cX7_isEarlier 74 = .ok (.getfield 32, 3) := by decide +kernel
theorem dX7_isEarlier_77 : decode cX7_isEarlier 77 = .ok (.iload 5, 2) := by decide +kernel
theorem dX7_isEarlier_79 : decode cX7_isEarlier 79 = .ok (.iaload, 1) := by decide +kernel
theorem dX7_isEarlier_80 : decode cX7_isEarlier 80 = .ok (.aload_n 0, 1) := by decide +kernel
theorem dX7_isEarlier_81 : decode cX7_isEarlier 81 = .ok (.getfield 32, 3) := by decide +kernel
theorem dX7_isEarlier_84 : decode cX7_isEarlier 84 = .ok (.iload 6, 2) := by decide +kernel
theorem dX7_isEarlier_86 : decode cX7_isEarlier 86 = .ok (.iaload, 1) := by decide +kernel
theorem dX7_isEarlier_87 : decode cX7_isEarlier 87 = .ok (.if_icmp .ge 7, 3) := by decide +kernel
theorem dX7_isEarlier_90 : decode cX7_isEarlier 90 = .ok (.iconst 1, 1) := by decide +kernel
theorem dX7_isEarlier_91 : decode cX7_isEarlier 91 = .ok (.goto 4, 3) := by decide +kernel
theorem dX7_isEarlier_94 : decode cX7_isEarlier 94 = .ok (.iconst 0, 1) := by decide +kernel
theorem dX7_isEarlier_95 : decode cX7_isEarlier 95 = .ok (.istore 4, 2) := by decide +kernel
theorem dX7_isEarlier_97 : decode cX7_isEarlier 97 = .ok (.aload_n 0, 1) := by decide +kernel
theorem dX7_isEarlier_98 : decode cX7_isEarlier 98 = .ok (.getfield 29, 3) := by decide +kernel
theorem dX7_isEarlier_101 : decode cX7_isEarlier 101 = .ok (.iload 5, 2) := by decide +kernel
theorem dX7_isEarlier_103 : decode cX7_isEarlier 103 = .ok (.iaload, 1) := by decide +kernel
theorem dX7_isEarlier_104 : decode cX7_isEarlier 104 = .ok (.istore 5, 2) := by decide +kernel
theorem dX7_isEarlier_106 : decode cX7_isEarlier 106 = .ok (.aload_n 0, 1) := by decide +kernel
theorem dX7_isEarlier_107 : decode cX7_isEarlier 107 = .ok (.getfield 29, 3) := by decide +kernel
theorem dX7_isEarlier_110 : decode cX7_isEarlier 110 = .ok (.iload 6, 2) := by decide +kernel
theorem dX7_isEarlier_112 : decode cX7_isEarlier 112 = .ok (.iaload, 1) := by decide +kernel
theorem dX7_isEarlier_113 : decode cX7_isEarlier 113 = .ok (.istore 6, 2) := by decide +kernel
theorem dX7_isEarlier_115 : decode cX7_isEarlier 115 = .ok (.iinc 7 1, 3) := by decide +kernel
theorem dX7_isEarlier_118 : decode cX7_isEarlier 118 = .ok (.goto (-87), 3) := by decide +kernel
theorem dX7_isEarlier_121 : decode cX7_isEarlier 121 = .ok (.iload 4, 2) := by decide +kernel
theorem dX7_isEarlier_123 : decode cX7_isEarlier 123 = .ok (.ireturn, 1) := by decide +kernel
theorem zw_966 : (Jvm.Cond.code ({ cls := "HillSchool$Planner", name := "isEarlier", desc := "(III)Z" } : Jvm.MethodName) prog_9_method_16_code (8 : Nat) (Option.some Jvm.ClassFile.FieldType.boolean)) ∈ zall := zmemG (zmj_4 143 rfl) rfl
abbrev w_Planner_isEarlier : List Cond := .code yX7_isEarlier cX7_isEarlier 8 (some .boolean) :: zall
abbrev rm_Planner_isEarlier : Room := { frames := 0, cells := 0, slots := 0, locals := 0 }
theorem hd_Planner_isEarlier : yX7_isEarlier.cls = "HillSchool$Planner" ∧ yX7_isEarlier.cls ≠ "java/lang/invoke/MethodHandle" ∧ yX7_isEarlier.cls ≠ "java/lang/invoke/VarHandle" ∧ (parseMethodDescriptor yX7_isEarlier.desc).map (fun d => d.parameters.length) = some 3 := by decide +kernel
def wd_Planner_isEarlier (cA : Nat → ClassId) (q0 q1 q2 q3 q4 q5 q6 q7 q8 q9 q10 q11 q12 q13 : Nat) (u0 u1 u2 : Int) (i_before : Nat → Int) (i_by : Nat → Int)  : va_W := [(q0, .inr (7, [.ref q1, .ref q2, .ref q3, .ref q4, .ref q5, .ref q6, .ref q7, .ref q8, .ref q9, .ref q10, .ref q11, .ref q12, .ref q13, .int (Int32.ofInt u0), .int (Int32.ofInt u1), .int (Int32.ofInt u2)])), (q7, .inl (cA 0, 6720, .inl (za i_before))), (q8, .inl (cA 0, 6720, .inl (za i_by)))]
def wf_Planner_isEarlier (cA : Nat → ClassId) (q0 q1 q2 q3 q4 q5 q6 q7 q8 q9 q10 q11 q12 q13 : Nat) (u0 u1 u2 : Int) (i_before : Nat → Int) (i_by : Nat → Int) (o : Int) : va_W := wd_Planner_isEarlier cA q0 q1 q2 q3 q4 q5 q6 q7 q8 q9 q10 q11 q12 q13 u0 u1 u2 i_before i_by
def f_Planner_isEarlier_97 (i_before : Nat → Int) (i_by : Nat → Int) (k31 : Int → Int → Int → Int → Option (Int)) (x4 : Int) (x5 : Int) (x6 : Int) (x7 : Int) : Option (Int) :=
  zg 6720 i_before x5 fun v1 =>
  zg 6720 i_before x6 fun v2 =>
  zn (x7 + 1) fun v3 =>
  k31 x4 v1 v2 v3
def f_Planner_isEarlier_95 (i_before : Nat → Int) (i_by : Nat → Int) (k31 : Int → Int → Int → Int → Option (Int)) (x5 : Int) (x6 : Int) (x7 : Int) (s0 : Int) : Option (Int) :=
  f_Planner_isEarlier_97 i_before i_by k31 s0 x5 x6 x7
def f_Planner_isEarlier_31_b (i_before : Nat → Int) (i_by : Nat → Int) (k31 : Int → Int → Int → Int → Option (Int)) (x4 : Int) (x5 : Int) (x6 : Int) (x7 : Int) : Option (Int) :=
  if zi_w 6720 ≤ zi_w x7 then
    if ¬ (zi_w x4 = 0 ∨ zi_w x4 = 1) then none else
    some x4
  else
    if zi_w x5 = zi_w x6 then
      if ¬ (zi_w x4 = 0 ∨ zi_w x4 = 1) then none else
      some x4
    else
      if zi_w x5 < 0 then
        if ¬ (zi_w x4 = 0 ∨ zi_w x4 = 1) then none else
        some x4
      else
        if zi_w x6 < 0 then
          if ¬ (zi_w x4 = 0 ∨ zi_w x4 = 1) then none else
          some x4
        else
          zg 6720 i_by x5 fun v1 =>
          zg 6720 i_by x6 fun v2 =>
          if zi_w v1 = zi_w v2 then
            f_Planner_isEarlier_97 i_before i_by k31 x4 x5 x6 x7
          else
            zg 6720 i_by x5 fun v3 =>
            zg 6720 i_by x6 fun v4 =>
            if zi_w v4 ≤ zi_w v3 then
              f_Planner_isEarlier_95 i_before i_by k31 x5 x6 x7 0
            else
              f_Planner_isEarlier_95 i_before i_by k31 x5 x6 x7 1
def f_Planner_isEarlier_31 (i_before : Nat → Int) (i_by : Nat → Int) : Nat → Int → Int → Int → Int → Option (Int)
  | 0 => fun _ _ _ _ => none
  | n + 1 => fun y0 y1 y2 y3 => f_Planner_isEarlier_31_b i_before i_by (f_Planner_isEarlier_31 i_before i_by n) y0 y1 y2 y3
def f_Planner_isEarlier_15 (i_before : Nat → Int) (i_by : Nat → Int) (x1 : Int) (x3 : Int) (s0 : Int) : Option (Int) :=
  zg 6720 i_before x3 fun v1 =>
  f_Planner_isEarlier_31 i_before i_by zfu s0 x1 v1 0
def f_Planner_isEarlier (x1 : Int) (x2 : Int) (x3 : Int) (i_before : Nat → Int) (i_by : Nat → Int) : Option (Int) :=
  zg 6720 i_by x3 fun v1 =>
  if zi_w v1 ≤ zi_w x2 then
    f_Planner_isEarlier_15 i_before i_by x1 x3 0
  else
    f_Planner_isEarlier_15 i_before i_by x1 x3 1
set_option maxHeartbeats 4000000 in
set_option maxRecDepth 100000 in
theorem c_Planner_isEarlier (l : Launch) (ev : zEv) (dC : Nat → ClassId) (dI : Nat → Nat → Nat) (cA : Nat → ClassId) (q0 q1 q2 q3 q4 q5 q6 q7 q8 q9 q10 q11 q12 q13 : Nat) (u0 u1 u2 : Int) {x1 x2 x3 : Int} {i_before : Nat → Int} {i_by : Nat → Int} {out : Int} (hf : f_Planner_isEarlier x1 x2 x3 i_before i_by = some out) : xc_I l ev (dC, dI) vwCl (tyl cA) yX7_isEarlier w_Planner_isEarlier rm_Planner_isEarlier [.ref q0, .int (Int32.ofInt x1), .int (Int32.ofInt x2), .int (Int32.ofInt x3)] (wd_Planner_isEarlier cA q0 q1 q2 q3 q4 q5 q6 q7 q8 q9 q10 q11 q12 q13 u0 u1 u2 i_before i_by) (wf_Planner_isEarlier cA q0 q1 q2 q3 q4 q5 q6 q7 q8 q9 q10 q11 q12 q13 u0 u1 u2 i_before i_by out) out := by
  refine xv_startI (cc := cX7_isEarlier) (maxL := 8) (rt := .boolean) (by decide +kernel) rfl (Nat.le_of_ble_eq_true rfl) ?_
  intro p e s m args below meth c A Q H ls hx hb hml hts hown hK hA hP hD hS hl hE hret
  have hown : s.vm.findClass "HillSchool$Planner" = some m.cls := hown
  have hz : ∀ w ∈ zall, w.before args s = true := fun w h => hts w (List.mem_cons_of_mem _ h)
  have hl : lv_has ls 8 [(0, .ref q0), (1, .int (Int32.ofInt x1)), (2, .int (Int32.ofInt x2)), (3, .int (Int32.ofInt x3))] := hl
  have b_97 : ∀ (k31 : Int → Int → Int → Int → Option (Int)) (_ : ∀ (x4 : Int) (x5 : Int) (x6 : Int) (x7 : Int) (H : Heap) (locs : List Loc) (ls : Array Slot), k31 x4 x5 x6 x7 = some out → va_P (dC, dI) vwCl (wd_Planner_isEarlier cA q0 q1 q2 q3 q4 q5 q6 q7 q8 q9 q10 q11 q12 q13 u0 u1 u2 i_before i_by) H → va_D A (wd_Planner_isEarlier cA q0 q1 q2 q3 q4 q5 q6 q7 q8 q9 q10 q11 q12 q13 u0 u1 u2 i_before i_by) → va_S A s.heap H locs → lv_has ls 8 [(0, .ref q0), (4, .int (Int32.ofInt x4)), (5, .int (Int32.ofInt x5)), (6, .int (Int32.ofInt x6)), (7, .int (Int32.ofInt x7))] → W p l e rm_Planner_isEarlier s m args below meth c H locs 0 0 Q (F0 m 31 ls [])), ∀ (x4 : Int) (x5 : Int) (x6 : Int) (x7 : Int) (H : Heap) (locs : List Loc) (ls : Array Slot), f_Planner_isEarlier_97 i_before i_by k31 x4 x5 x6 x7 = some out → va_P (dC, dI) vwCl (wd_Planner_isEarlier cA q0 q1 q2 q3 q4 q5 q6 q7 q8 q9 q10 q11 q12 q13 u0 u1 u2 i_before i_by) H → va_D A (wd_Planner_isEarlier cA q0 q1 q2 q3 q4 q5 q6 q7 q8 q9 q10 q11 q12 q13 u0 u1 u2 i_before i_by) → va_S A s.heap H locs → lv_has ls 8 [(0, .ref q0), (4, .int (Int32.ofInt x4)), (5, .int (Int32.ofInt x5)), (6, .int (Int32.ofInt x6)), (7, .int (Int32.ofInt x7))] → W p l e rm_Planner_isEarlier s m args below meth c H locs 0 0 Q (F0 m 97 ls []) := by
    intro k31 ih31 x4 x5 x6 x7 H locs ls hf hP hD hS hl
    unfold f_Planner_isEarlier_97 at hf
    refine lv_aload_n hx hb dX7_isEarlier_97 rfl (lv_at hl 0 rfl) ?_
    refine va_get (D := (dC, dI)) (ci := 7) (v := .ref q7) (C := RX7) (T := TX7) (N := 16) hx hb hz zi_X7 hown hK hP 0 rfl rfl 6 (by decide) (hz _ zw_353) (fun _ h9 => h9) rfl dX7_isEarlier_98 ?_
    refine lv_iload hx hb dX7_isEarlier_101 (lv_at hl 2 rfl) ?_
    refine xi_iald hx hb hK hP 1 0 rfl rfl dX7_isEarlier_103 hf (fun v1 hf => ?_)
    refine lv_istore (lv' := [(5, .int (Int32.ofInt v1)), (0, .ref q0), (4, .int (Int32.ofInt x4)), (6, .int (Int32.ofInt x6)), (7, .int (Int32.ofInt x7))]) hx hb dX7_isEarlier_104 hl (by decide) rfl (fun ls hl => ?_)
    refine lv_aload_n hx hb dX7_isEarlier_106 rfl (lv_at hl 1 rfl) ?_
    refine va_get (D := (dC, dI)) (ci := 7) (v := .ref q7) (C := RX7) (T := TX7) (N := 16) hx hb hz zi_X7 hown hK hP 0 rfl rfl 6 (by decide) (hz _ zw_353) (fun _ h9 => h9) rfl dX7_isEarlier_107 ?_
    refine lv_iload hx hb dX7_isEarlier_110 (lv_at hl 3 rfl) ?_
    refine xi_iald hx hb hK hP 1 0 rfl rfl dX7_isEarlier_112 hf (fun v2 hf => ?_)
    refine lv_istore (lv' := [(6, .int (Int32.ofInt v2)), (5, .int (Int32.ofInt v1)), (0, .ref q0), (4, .int (Int32.ofInt x4)), (7, .int (Int32.ofInt x7))]) hx hb dX7_isEarlier_113 hl (by decide) rfl (fun ls hl => ?_)
    refine xi_iinc hx hb dX7_isEarlier_115 hl (k := 4) rfl (by decide) hf (fun v3 ls hl hf => ?_)
    have hl : lv_has ls 8 [(7, .int (Int32.ofInt v3)), (6, .int (Int32.ofInt v2)), (5, .int (Int32.ofInt v1)), (0, .ref q0), (4, .int (Int32.ofInt x4))] := hl
    refine lv_goto (tgt := 31) hx hb dX7_isEarlier_118 (by decide) ?_
    exact ih31 _ _ _ _ _ _ _ hf hP hD hS (lv_sub hl [3, 4, 2, 1, 0] rfl)
  have b_95 : ∀ (k31 : Int → Int → Int → Int → Option (Int)) (_ : ∀ (x4 : Int) (x5 : Int) (x6 : Int) (x7 : Int) (H : Heap) (locs : List Loc) (ls : Array Slot), k31 x4 x5 x6 x7 = some out → va_P (dC, dI) vwCl (wd_Planner_isEarlier cA q0 q1 q2 q3 q4 q5 q6 q7 q8 q9 q10 q11 q12 q13 u0 u1 u2 i_before i_by) H → va_D A (wd_Planner_isEarlier cA q0 q1 q2 q3 q4 q5 q6 q7 q8 q9 q10 q11 q12 q13 u0 u1 u2 i_before i_by) → va_S A s.heap H locs → lv_has ls 8 [(0, .ref q0), (4, .int (Int32.ofInt x4)), (5, .int (Int32.ofInt x5)), (6, .int (Int32.ofInt x6)), (7, .int (Int32.ofInt x7))] → W p l e rm_Planner_isEarlier s m args below meth c H locs 0 0 Q (F0 m 31 ls [])), ∀ (x5 : Int) (x6 : Int) (x7 : Int) (s0 : Int) (H : Heap) (locs : List Loc) (ls : Array Slot), f_Planner_isEarlier_95 i_before i_by k31 x5 x6 x7 s0 = some out → va_P (dC, dI) vwCl (wd_Planner_isEarlier cA q0 q1 q2 q3 q4 q5 q6 q7 q8 q9 q10 q11 q12 q13 u0 u1 u2 i_before i_by) H → va_D A (wd_Planner_isEarlier cA q0 q1 q2 q3 q4 q5 q6 q7 q8 q9 q10 q11 q12 q13 u0 u1 u2 i_before i_by) → va_S A s.heap H locs → lv_has ls 8 [(0, .ref q0), (5, .int (Int32.ofInt x5)), (6, .int (Int32.ofInt x6)), (7, .int (Int32.ofInt x7))] → W p l e rm_Planner_isEarlier s m args below meth c H locs 0 0 Q (F0 m 95 ls [.int (Int32.ofInt s0)]) := by
    intro k31 ih31 x5 x6 x7 s0 H locs ls hf hP hD hS hl
    unfold f_Planner_isEarlier_95 at hf
    refine lv_istore (lv' := [(4, .int (Int32.ofInt s0)), (0, .ref q0), (5, .int (Int32.ofInt x5)), (6, .int (Int32.ofInt x6)), (7, .int (Int32.ofInt x7))]) hx hb dX7_isEarlier_95 hl (by decide) rfl (fun ls hl => ?_)
    exact b_97 _ ih31 _ _ _ _ _ _ _ hf hP hD hS (lv_sub hl [1, 0, 2, 3, 4] rfl)
  have b_31 : ∀ (k31 : Int → Int → Int → Int → Option (Int)) (_ : ∀ (x4 : Int) (x5 : Int) (x6 : Int) (x7 : Int) (H : Heap) (locs : List Loc) (ls : Array Slot), k31 x4 x5 x6 x7 = some out → va_P (dC, dI) vwCl (wd_Planner_isEarlier cA q0 q1 q2 q3 q4 q5 q6 q7 q8 q9 q10 q11 q12 q13 u0 u1 u2 i_before i_by) H → va_D A (wd_Planner_isEarlier cA q0 q1 q2 q3 q4 q5 q6 q7 q8 q9 q10 q11 q12 q13 u0 u1 u2 i_before i_by) → va_S A s.heap H locs → lv_has ls 8 [(0, .ref q0), (4, .int (Int32.ofInt x4)), (5, .int (Int32.ofInt x5)), (6, .int (Int32.ofInt x6)), (7, .int (Int32.ofInt x7))] → W p l e rm_Planner_isEarlier s m args below meth c H locs 0 0 Q (F0 m 31 ls [])), ∀ (x4 : Int) (x5 : Int) (x6 : Int) (x7 : Int) (H : Heap) (locs : List Loc) (ls : Array Slot), f_Planner_isEarlier_31_b i_before i_by k31 x4 x5 x6 x7 = some out → va_P (dC, dI) vwCl (wd_Planner_isEarlier cA q0 q1 q2 q3 q4 q5 q6 q7 q8 q9 q10 q11 q12 q13 u0 u1 u2 i_before i_by) H → va_D A (wd_Planner_isEarlier cA q0 q1 q2 q3 q4 q5 q6 q7 q8 q9 q10 q11 q12 q13 u0 u1 u2 i_before i_by) → va_S A s.heap H locs → lv_has ls 8 [(0, .ref q0), (4, .int (Int32.ofInt x4)), (5, .int (Int32.ofInt x5)), (6, .int (Int32.ofInt x6)), (7, .int (Int32.ofInt x7))] → W p l e rm_Planner_isEarlier s m args below meth c H locs 0 0 Q (F0 m 31 ls []) := by
    intro k31 ih31 x4 x5 x6 x7 H locs ls hf hP hD hS hl
    unfold f_Planner_isEarlier_31_b at hf
    refine lv_iload hx hb dX7_isEarlier_31 (lv_at hl 4 rfl) ?_
    refine lv_sipush (v := Int32.ofInt 6720) hx hb dX7_isEarlier_33 (by decide) ?_
    refine xi_icmp_ge (tgt := 121) hx hb dX7_isEarlier_36 (by decide) hf (fun hf => ?_) (fun hf => ?_)
    · refine lv_iload hx hb dX7_isEarlier_121 (lv_at hl 1 rfl) ?_
      obtain ⟨hzb, hf⟩ := xz_q hf
      obtain rfl := Option.some.inj hf
      exact hret _ _ _ _ (zz_bool hzb) dX7_isEarlier_123 hP hD hS
    · refine lv_iload hx hb dX7_isEarlier_39 (lv_at hl 2 rfl) ?_
      refine lv_iload hx hb dX7_isEarlier_41 (lv_at hl 3 rfl) ?_
      refine xi_icmp_eq (tgt := 121) hx hb dX7_isEarlier_43 (by decide) hf (fun hf => ?_) (fun hf => ?_)
      · refine lv_iload hx hb dX7_isEarlier_121 (lv_at hl 1 rfl) ?_
        obtain ⟨hzb, hf⟩ := xz_q hf
        obtain rfl := Option.some.inj hf
        exact hret _ _ _ _ (zz_bool hzb) dX7_isEarlier_123 hP hD hS
      · refine lv_iload hx hb dX7_isEarlier_46 (lv_at hl 2 rfl) ?_
        refine xi_if_lt (tgt := 121) hx hb dX7_isEarlier_48 (by decide) hf (fun hf => ?_) (fun hf => ?_)
        · refine lv_iload hx hb dX7_isEarlier_121 (lv_at hl 1 rfl) ?_
          obtain ⟨hzb, hf⟩ := xz_q hf
          obtain rfl := Option.some.inj hf
          exact hret _ _ _ _ (zz_bool hzb) dX7_isEarlier_123 hP hD hS
        · refine lv_iload hx hb dX7_isEarlier_51 (lv_at hl 3 rfl) ?_
          refine xi_if_lt (tgt := 121) hx hb dX7_isEarlier_53 (by decide) hf (fun hf => ?_) (fun hf => ?_)
          · refine lv_iload hx hb dX7_isEarlier_121 (lv_at hl 1 rfl) ?_
            obtain ⟨hzb, hf⟩ := xz_q hf
            obtain rfl := Option.some.inj hf
            exact hret _ _ _ _ (zz_bool hzb) dX7_isEarlier_123 hP hD hS
          · refine lv_aload_n hx hb dX7_isEarlier_56 rfl (lv_at hl 0 rfl) ?_
            refine va_get (D := (dC, dI)) (ci := 7) (v := .ref q8) (C := RX7) (T := TX7) (N := 16) hx hb hz zi_X7 hown hK hP 0 rfl rfl 7 (by decide) (hz _ zw_354) (fun _ h9 => h9) rfl dX7_isEarlier_57 ?_
            refine lv_iload hx hb dX7_isEarlier_60 (lv_at hl 2 rfl) ?_
            refine xi_iald hx hb hK hP 2 0 rfl rfl dX7_isEarlier_62 hf (fun v1 hf => ?_)
            refine lv_aload_n hx hb dX7_isEarlier_63 rfl (lv_at hl 0 rfl) ?_
            refine va_get (D := (dC, dI)) (ci := 7) (v := .ref q8) (C := RX7) (T := TX7) (N := 16) hx hb hz zi_X7 hown hK hP 0 rfl rfl 7 (by decide) (hz _ zw_354) (fun _ h9 => h9) rfl dX7_isEarlier_64 ?_
            refine lv_iload hx hb dX7_isEarlier_67 (lv_at hl 3 rfl) ?_
            refine xi_iald hx hb hK hP 2 0 rfl rfl dX7_isEarlier_69 hf (fun v2 hf => ?_)
            refine xi_icmp_eq (tgt := 97) hx hb dX7_isEarlier_70 (by decide) hf (fun hf => ?_) (fun hf => ?_)
            · exact b_97 _ ih31 _ _ _ _ _ _ _ hf hP hD hS (lv_sub hl [0, 1, 2, 3, 4] rfl)
            · refine lv_aload_n hx hb dX7_isEarlier_73 rfl (lv_at hl 0 rfl) ?_
              refine va_get (D := (dC, dI)) (ci := 7) (v := .ref q8) (C := RX7) (T := TX7) (N := 16) hx hb hz zi_X7 hown hK hP 0 rfl rfl 7 (by decide) (hz _ zw_354) (fun _ h9 => h9) rfl dX7_isEarlier_74 ?_
              refine lv_iload hx hb dX7_isEarlier_77 (lv_at hl 2 rfl) ?_
              refine xi_iald hx hb hK hP 2 0 rfl rfl dX7_isEarlier_79 hf (fun v3 hf => ?_)
              refine lv_aload_n hx hb dX7_isEarlier_80 rfl (lv_at hl 0 rfl) ?_
              refine va_get (D := (dC, dI)) (ci := 7) (v := .ref q8) (C := RX7) (T := TX7) (N := 16) hx hb hz zi_X7 hown hK hP 0 rfl rfl 7 (by decide) (hz _ zw_354) (fun _ h9 => h9) rfl dX7_isEarlier_81 ?_
              refine lv_iload hx hb dX7_isEarlier_84 (lv_at hl 3 rfl) ?_
              refine xi_iald hx hb hK hP 2 0 rfl rfl dX7_isEarlier_86 hf (fun v4 hf => ?_)
              refine xi_icmp_ge (tgt := 94) hx hb dX7_isEarlier_87 (by decide) hf (fun hf => ?_) (fun hf => ?_)
              · refine lv_iconst (v := Int32.ofInt 0) hx hb dX7_isEarlier_94 rfl ?_
                exact b_95 _ ih31 _ _ _ _ _ _ _ hf hP hD hS (lv_sub hl [0, 2, 3, 4] rfl)
              · refine lv_iconst (v := Int32.ofInt 1) hx hb dX7_isEarlier_90 rfl ?_
                refine lv_goto (tgt := 95) hx hb dX7_isEarlier_91 (by decide) ?_
                exact b_95 _ ih31 _ _ _ _ _ _ _ hf hP hD hS (lv_sub hl [0, 2, 3, 4] rfl)
  have l_31 : ∀ (n : Nat), ∀ (x4 : Int) (x5 : Int) (x6 : Int) (x7 : Int) (H : Heap) (locs : List Loc) (ls : Array Slot), f_Planner_isEarlier_31 i_before i_by n x4 x5 x6 x7 = some out → va_P (dC, dI) vwCl (wd_Planner_isEarlier cA q0 q1 q2 q3 q4 q5 q6 q7 q8 q9 q10 q11 q12 q13 u0 u1 u2 i_before i_by) H → va_D A (wd_Planner_isEarlier cA q0 q1 q2 q3 q4 q5 q6 q7 q8 q9 q10 q11 q12 q13 u0 u1 u2 i_before i_by) → va_S A s.heap H locs → lv_has ls 8 [(0, .ref q0), (4, .int (Int32.ofInt x4)), (5, .int (Int32.ofInt x5)), (6, .int (Int32.ofInt x6)), (7, .int (Int32.ofInt x7))] → W p l e rm_Planner_isEarlier s m args below meth c H locs 0 0 Q (F0 m 31 ls []) := by
    intro n
    induction n with
    | zero => intro x4 x5 x6 x7 H locs ls hf hP hD hS hl; exact nomatch hf
    | succ n ih => intro x4 x5 x6 x7 H locs ls hf hP hD hS hl; exact b_31 (f_Planner_isEarlier_31 i_before i_by n) ih x4 x5 x6 x7 H locs ls hf hP hD hS hl
  have b_15 : ∀ (x1 : Int) (x3 : Int) (s0 : Int) (H : Heap) (locs : List Loc) (ls : Array Slot), f_Planner_isEarlier_15 i_before i_by x1 x3 s0 = some out → va_P (dC, dI) vwCl (wd_Planner_isEarlier cA q0 q1 q2 q3 q4 q5 q6 q7 q8 q9 q10 q11 q12 q13 u0 u1 u2 i_before i_by) H → va_D A (wd_Planner_isEarlier cA q0 q1 q2 q3 q4 q5 q6 q7 q8 q9 q10 q11 q12 q13 u0 u1 u2 i_before i_by) → va_S A s.heap H locs → lv_has ls 8 [(0, .ref q0), (1, .int (Int32.ofInt x1)), (3, .int (Int32.ofInt x3))] → W p l e rm_Planner_isEarlier s m args below meth c H locs 0 0 Q (F0 m 15 ls [.int (Int32.ofInt s0)]) := by
    intro x1 x3 s0 H locs ls hf hP hD hS hl
    unfold f_Planner_isEarlier_15 at hf
    refine lv_istore (lv' := [(4, .int (Int32.ofInt s0)), (0, .ref q0), (1, .int (Int32.ofInt x1)), (3, .int (Int32.ofInt x3))]) hx hb dX7_isEarlier_15 hl (by decide) rfl (fun ls hl => ?_)
    refine lv_iload_n hx hb dX7_isEarlier_17 rfl (lv_at hl 2 rfl) ?_
    refine lv_istore (lv' := [(5, .int (Int32.ofInt x1)), (4, .int (Int32.ofInt s0)), (0, .ref q0), (1, .int (Int32.ofInt x1)), (3, .int (Int32.ofInt x3))]) hx hb dX7_isEarlier_18 hl (by decide) rfl (fun ls hl => ?_)
    refine lv_aload_n hx hb dX7_isEarlier_20 rfl (lv_at hl 2 rfl) ?_
    refine va_get (D := (dC, dI)) (ci := 7) (v := .ref q7) (C := RX7) (T := TX7) (N := 16) hx hb hz zi_X7 hown hK hP 0 rfl rfl 6 (by decide) (hz _ zw_353) (fun _ h9 => h9) rfl dX7_isEarlier_21 ?_
    refine lv_iload_n hx hb dX7_isEarlier_24 rfl (lv_at hl 4 rfl) ?_
    refine xi_iald hx hb hK hP 1 0 rfl rfl dX7_isEarlier_25 hf (fun v1 hf => ?_)
    refine lv_istore (lv' := [(6, .int (Int32.ofInt v1)), (5, .int (Int32.ofInt x1)), (4, .int (Int32.ofInt s0)), (0, .ref q0), (1, .int (Int32.ofInt x1)), (3, .int (Int32.ofInt x3))]) hx hb dX7_isEarlier_26 hl (by decide) rfl (fun ls hl => ?_)
    refine lv_iconst (v := Int32.ofInt 0) hx hb dX7_isEarlier_28 rfl ?_
    refine lv_istore (lv' := [(7, .int (Int32.ofInt 0)), (6, .int (Int32.ofInt v1)), (5, .int (Int32.ofInt x1)), (4, .int (Int32.ofInt s0)), (0, .ref q0), (1, .int (Int32.ofInt x1)), (3, .int (Int32.ofInt x3))]) hx hb dX7_isEarlier_29 hl (by decide) rfl (fun ls hl => ?_)
    exact l_31  _ _ _ _ _ _ _ _ hf hP hD hS (lv_sub hl [4, 3, 2, 1, 0] rfl)
  unfold f_Planner_isEarlier at hf
  refine lv_iload_n hx hb dX7_isEarlier_0 rfl (lv_at hl 2 rfl) ?_
  refine lv_aload_n hx hb dX7_isEarlier_1 rfl (lv_at hl 0 rfl) ?_
  refine va_get (D := (dC, dI)) (ci := 7) (v := .ref q8) (C := RX7) (T := TX7) (N := 16) hx hb hz zi_X7 hown hK hP 0 rfl rfl 7 (by decide) (hz _ zw_354) (fun _ h9 => h9) rfl dX7_isEarlier_2 ?_
  refine lv_iload_n hx hb dX7_isEarlier_5 rfl (lv_at hl 3 rfl) ?_
  refine xi_iald hx hb hK hP 2 0 rfl rfl dX7_isEarlier_6 hf (fun v1 hf => ?_)
  refine xi_icmp_ge (tgt := 14) hx hb dX7_isEarlier_7 (by decide) hf (fun hf => ?_) (fun hf => ?_)
  · refine lv_iconst (v := Int32.ofInt 0) hx hb dX7_isEarlier_14 rfl ?_
    exact b_15  _ _ _ _ _ _ hf hP hD hS (lv_sub hl [0, 1, 3] rfl)
  · refine lv_iconst (v := Int32.ofInt 1) hx hb dX7_isEarlier_10 rfl ?_
    refine lv_goto (tgt := 15) hx hb dX7_isEarlier_11 (by decide) ?_
    exact b_15  _ _ _ _ _ _ hf hP hD hS (lv_sub hl [0, 1, 3] rfl)
theorem dJ7_fill_53178_0 : decode cJ7_fill_53178 0 = .ok (.iconst 0, 1) := by decide +kernel
theorem dJ7_fill_53178_1 : decode cJ7_fill_53178 1 = .ok (.istore_n 2, 1) := by decide +kernel
theorem dJ7_fill_53178_2 : decode cJ7_fill_53178 2 = .ok (.aload_n 0, 1) := by decide +kernel
theorem dJ7_fill_53178_3 : decode cJ7_fill_53178 3 = .ok (.arraylength, 1) := by decide +kernel
theorem dJ7_fill_53178_4 : decode cJ7_fill_53178 4 = .ok (.istore_n 3, 1) := by decide +kernel
theorem dJ7_fill_53178_5 : decode cJ7_fill_53178 5 = .ok (.iload_n 2, 1) := by decide +kernel
theorem dJ7_fill_53178_6 : decode cJ7_fill_53178 6 = .ok (.iload_n 3, 1) := by decide +kernel
theorem dJ7_fill_53178_7 : decode cJ7_fill_53178 7 = .ok (.if_icmp .ge 13, 3) := by decide +kernel
theorem dJ7_fill_53178_10 : decode cJ7_fill_53178 10 = .ok (.aload_n 0, 1) := by decide +kernel
theorem dJ7_fill_53178_11 : decode cJ7_fill_53178 11 = .ok (.iload_n 2, 1) := by decide +kernel
theorem dJ7_fill_53178_12 : decode cJ7_fill_53178 12 = .ok (.iload_n 1, 1) := by decide +kernel
theorem dJ7_fill_53178_13 : decode cJ7_fill_53178 13 = .ok (.iastore, 1) := by decide +kernel
theorem dJ7_fill_53178_14 : decode cJ7_fill_53178 14 = .ok (.iinc 2 1, 3) := by decide +kernel
theorem dJ7_fill_53178_17 : decode cJ7_fill_53178 17 = .ok (.goto (-12), 3) := by decide +kernel
theorem dJ7_fill_53178_20 : decode cJ7_fill_53178 20 = .ok (.return_, 1) := by decide +kernel
theorem zw_942 : (Jvm.Cond.code ({ cls := "java/util/Arrays", name := "fill", desc := "([II)V" } : Jvm.MethodName) prog_20_method_103_code (4 : Nat) (Option.none : Option Jvm.ClassFile.FieldType)) ∈ zall := zmemG (zmj_4 119 rfl) rfl
abbrev w_Arrays_fill_n16384 : List Cond := .code yJ7_fill_53178 cJ7_fill_53178 4 none :: zall
abbrev rm_Arrays_fill_n16384 : Room := { frames := 0, cells := 0, slots := 0, locals := 0 }
theorem hd_Arrays_fill_n16384 : yJ7_fill_53178.cls = yJ7_fill_53178.cls ∧ yJ7_fill_53178.cls ≠ "java/lang/invoke/MethodHandle" ∧ yJ7_fill_53178.cls ≠ "java/lang/invoke/VarHandle" ∧ (parseMethodDescriptor yJ7_fill_53178.desc).map (fun d => d.parameters.length) = some 2 := by decide +kernel
def wd_Arrays_fill_n16384 (cA : Nat → ClassId) (q0 : Nat)  (i_a0 : Nat → Int) : va_W := [(q0, .inl (cA 0, 16384, .inl (za i_a0)))]
def wf_Arrays_fill_n16384 (cA : Nat → ClassId) (q0 : Nat)  (o : (Nat → Int)) : va_W := wd_Arrays_fill_n16384 cA q0 o
def f_Arrays_fill_n16384_5_b  (k5 : Int → Int → Int → (Nat → Int) → Option ((Nat → Int))) (x1 : Int) (x2 : Int) (x3 : Int) (i_a0 : Nat → Int) : Option ((Nat → Int)) :=
  if zi_w x3 ≤ zi_w x2 then
    some i_a0
  else
    zs 16384 i_a0 x2 x1 fun a1 =>
    zn (x2 + 1) fun v2 =>
    k5 x1 v2 x3 a1
def f_Arrays_fill_n16384_5  : Nat → Int → Int → Int → (Nat → Int) → Option ((Nat → Int))
  | 0 => fun _ _ _ _ => none
  | n + 1 => fun y0 y1 y2 y3 => f_Arrays_fill_n16384_5_b  (f_Arrays_fill_n16384_5  n) y0 y1 y2 y3
def f_Arrays_fill_n16384 (x1 : Int) (i_a0 : Nat → Int) : Option ((Nat → Int)) :=
  f_Arrays_fill_n16384_5 zfu x1 0 16384 i_a0
set_option maxHeartbeats 4000000 in
set_option maxRecDepth 100000 in
theorem c_Arrays_fill_n16384 (l : Launch) (ev : zEv) (dC : Nat → ClassId) (dI : Nat → Nat → Nat) (cA : Nat → ClassId) (q0 : Nat) {x1 : Int} {i_a0 : Nat → Int} {out : (Nat → Int)} (hf : f_Arrays_fill_n16384 x1 i_a0 = some out) : xc_V l ev (dC, dI) vwCl (tyl cA) yJ7_fill_53178 w_Arrays_fill_n16384 rm_Arrays_fill_n16384 [.ref q0, .int (Int32.ofInt x1)] (wd_Arrays_fill_n16384 cA q0 i_a0) (wf_Arrays_fill_n16384 cA q0 out) := by
  refine xv_startV (cc := cJ7_fill_53178) (maxL := 4) (by decide +kernel) rfl (Nat.le_of_ble_eq_true rfl) ?_
  intro p e s m args below meth c A Q H ls hx hb hml hts hown hK hA hP hD hS hl hE hret
  have hown : s.vm.findClass "java/util/Arrays" = some m.cls := hown
  have hz : ∀ w ∈ zall, w.before args s = true := fun w h => hts w (List.mem_cons_of_mem _ h)
  have hl : lv_has ls 4 [(0, .ref q0), (1, .int (Int32.ofInt x1))] := hl
  have b_5 : ∀ (k5 : Int → Int → Int → (Nat → Int) → Option ((Nat → Int))) (_ : ∀ (x1 : Int) (x2 : Int) (x3 : Int) (i_a0 : Nat → Int) (H : Heap) (locs : List Loc) (ls : Array Slot), k5 x1 x2 x3 i_a0 = some out → va_P (dC, dI) vwCl (wd_Arrays_fill_n16384 cA q0 i_a0) H → va_D A (wd_Arrays_fill_n16384 cA q0 i_a0) → va_S A s.heap H locs → lv_has ls 4 [(0, .ref q0), (1, .int (Int32.ofInt x1)), (2, .int (Int32.ofInt x2)), (3, .int (Int32.ofInt x3))] → W p l e rm_Arrays_fill_n16384 s m args below meth c H locs 0 0 Q (F0 m 5 ls [])), ∀ (x1 : Int) (x2 : Int) (x3 : Int) (i_a0 : Nat → Int) (H : Heap) (locs : List Loc) (ls : Array Slot), f_Arrays_fill_n16384_5_b k5 x1 x2 x3 i_a0 = some out → va_P (dC, dI) vwCl (wd_Arrays_fill_n16384 cA q0 i_a0) H → va_D A (wd_Arrays_fill_n16384 cA q0 i_a0) → va_S A s.heap H locs → lv_has ls 4 [(0, .ref q0), (1, .int (Int32.ofInt x1)), (2, .int (Int32.ofInt x2)), (3, .int (Int32.ofInt x3))] → W p l e rm_Arrays_fill_n16384 s m args below meth c H locs 0 0 Q (F0 m 5 ls []) := by
    intro k5 ih5 x1 x2 x3 i_a0 H locs ls hf hP hD hS hl
    unfold f_Arrays_fill_n16384_5_b at hf
    refine lv_iload_n hx hb dJ7_fill_53178_5 rfl (lv_at hl 2 rfl) ?_
    refine lv_iload_n hx hb dJ7_fill_53178_6 rfl (lv_at hl 3 rfl) ?_
    refine xi_icmp_ge (tgt := 20) hx hb dJ7_fill_53178_7 (by decide) hf (fun hf => ?_) (fun hf => ?_)
    · obtain rfl := Option.some.inj hf
      exact hret _ _ _ _ dJ7_fill_53178_20 hP hD hS
    · refine lv_aload_n hx hb dJ7_fill_53178_10 rfl (lv_at hl 0 rfl) ?_
      refine lv_iload_n hx hb dJ7_fill_53178_11 rfl (lv_at hl 2 rfl) ?_
      refine lv_iload_n hx hb dJ7_fill_53178_12 rfl (lv_at hl 1 rfl) ?_
      refine xi_iast hx hb hK hP hD hS 0 0 rfl rfl dJ7_fill_53178_13 hf (fun a1 H locs hP hD hS hf => ?_)
      have hP : va_P (dC, dI) vwCl (wd_Arrays_fill_n16384 cA q0 a1) H := hP
      have hD : va_D A (wd_Arrays_fill_n16384 cA q0 a1) := hD
      refine xi_iinc hx hb dJ7_fill_53178_14 hl (k := 2) rfl (by decide) hf (fun v2 ls hl hf => ?_)
      have hl : lv_has ls 4 [(2, .int (Int32.ofInt v2)), (0, .ref q0), (1, .int (Int32.ofInt x1)), (3, .int (Int32.ofInt x3))] := hl
      refine lv_goto (tgt := 5) hx hb dJ7_fill_53178_17 (by decide) ?_
      exact ih5 _ _ _ _ _ _ _ hf hP hD hS (lv_sub hl [1, 2, 0, 3] rfl)
  have l_5 : ∀ (n : Nat), ∀ (x1 : Int) (x2 : Int) (x3 : Int) (i_a0 : Nat → Int) (H : Heap) (locs : List Loc) (ls : Array Slot), f_Arrays_fill_n16384_5 n x1 x2 x3 i_a0 = some out → va_P (dC, dI) vwCl (wd_Arrays_fill_n16384 cA q0 i_a0) H → va_D A (wd_Arrays_fill_n16384 cA q0 i_a0) → va_S A s.heap H locs → lv_has ls 4 [(0, .ref q0), (1, .int (Int32.ofInt x1)), (2, .int (Int32.ofInt x2)), (3, .int (Int32.ofInt x3))] → W p l e rm_Arrays_fill_n16384 s m args below meth c H locs 0 0 Q (F0 m 5 ls []) := by
    intro n
    induction n with
    | zero => intro x1 x2 x3 i_a0 H locs ls hf hP hD hS hl; exact nomatch hf
    | succ n ih => intro x1 x2 x3 i_a0 H locs ls hf hP hD hS hl; exact b_5 (f_Arrays_fill_n16384_5 n) ih x1 x2 x3 i_a0 H locs ls hf hP hD hS hl
  unfold f_Arrays_fill_n16384 at hf
  refine lv_iconst (v := Int32.ofInt 0) hx hb dJ7_fill_53178_0 rfl ?_
  refine lv_istore_n (lv' := [(2, .int (Int32.ofInt 0)), (0, .ref q0), (1, .int (Int32.ofInt x1))]) hx hb dJ7_fill_53178_1 rfl hl (by decide) rfl (fun ls hl => ?_)
  refine lv_aload_n hx hb dJ7_fill_53178_2 rfl (lv_at hl 1 rfl) ?_
  refine va_alen (v := Int32.ofInt 16384) hx hb hK hP 0 0 rfl rfl (show Int32.ofNat 16384 = Int32.ofInt 16384 by decide +kernel) dJ7_fill_53178_3 ?_
  refine lv_istore_n (lv' := [(3, .int (Int32.ofInt 16384)), (2, .int (Int32.ofInt 0)), (0, .ref q0), (1, .int (Int32.ofInt x1))]) hx hb dJ7_fill_53178_4 rfl hl (by decide) rfl (fun ls hl => ?_)
  exact l_5  _ _ _ _ _ _ _ _ hf hP hD hS (lv_sub hl [2, 3, 1, 0] rfl)
theorem dX7_kindOf_0 : decode cX7_kindOf 0 = .ok (.iconst 1, 1) := by decide +kernel
theorem dX7_kindOf_1 : decode cX7_kindOf 1 = .ok (.istore_n 2, 1) := by decide +kernel
theorem dX7_kindOf_2 : decode cX7_kindOf 2 = .ok (.iload_n 2, 1) := by decide +kernel
theorem dX7_kindOf_3 : decode cX7_kindOf 3 = .ok (.aload_n 0, 1) := by decide +kernel
theorem dX7_kindOf_4 : decode cX7_kindOf 4 = .ok (.getfield 153, 3) := by decide +kernel
theorem dX7_kindOf_7 : decode cX7_kindOf 7 = .ok (.if_icmp .gt 21, 3) := by decide +kernel
theorem dX7_kindOf_10 : decode cX7_kindOf 10 = .ok (.aload_n 0, 1) := by decide +kernel
theorem dX7_kindOf_11 : decode cX7_kindOf 11 = .ok (.getfield 41, 3) := by decide +kernel
theorem dX7_kindOf_14 : decode cX7_kindOf 14 = .ok (.iload_n 2, 1) := by decide +kernel
theorem dX7_kindOf_15 : decode cX7_kindOf 15 = .ok (.iaload, 1) := by decide +kernel
theorem dX7_kindOf_16 : decode cX7_kindOf 16 = .ok (.iload_n 1, 1) := by decide +kernel
theorem dX7_kindOf_17 : decode cX7_kindOf 17 = .ok (.if_icmp .ne 5, 3) := by decide +kernel
theorem dX7_kindOf_20 : decode cX7_kindOf 20 = .ok (.iload_n 2, 1) := by decide +kernel
theorem dX7_kindOf_21 : decode cX7_kindOf 21 = .ok (.ireturn, 1) := by decide +kernel
theorem dX7_kindOf_22 : decode cX7_kindOf 22 = .ok (.iinc 2 1, 3) := by decide +kernel
theorem dX7_kindOf_25 : decode cX7_kindOf 25 = .ok (.goto (-23), 3) := by decide +kernel
theorem dX7_kindOf_28 : decode cX7_kindOf 28 = .ok (.aload_n 0, 1) := by decide +kernel
theorem dX7_kindOf_29 : decode cX7_kindOf 29 = .ok (.getfield 153, 3) := by decide +kernel
theorem dX7_kindOf_32 : decode cX7_kindOf 32 = .ok (.iconst 5, 1) := by decide +kernel
theorem dX7_kindOf_33 : decode cX7_kindOf 33 = .ok (.if_icmp .lt 8, 3) := by decide +kernel
theorem dX7_kindOf_36 : decode cX7_kindOf 36 = .ok (.aload_n 0, 1) := by decide +kernel
theorem dX7_kindOf_37 : decode cX7_kindOf 37 = .ok (.getfield 153, 3) := by decide +kernel
theorem dX7_kindOf_40 : decode cX7_kindOf 40 = .ok (.ireturn, 1) := by decide +kernel
theorem dX7_kindOf_41 : decode cX7_kindOf 41 = .ok (.aload_n 0, 1) := by decide +kernel
theorem dX7_kindOf_42 : decode cX7_kindOf 42 = .ok (.dup, 1) := by decide +kernel
theorem dX7_kindOf_43 : decode cX7_kindOf 43 = .ok (.getfield 153, 3) := by decide +kernel
theorem dX7_kindOf_46 : decode cX7_kindOf 46 = .ok (.iconst 1, 1) := by decide +kernel
theorem dX7_kindOf_47 : decode cX7_kindOf 47 = .ok (.iadd, 1) := by decide +kernel
theorem dX7_kindOf_48 : decode cX7_kindOf 48 = .ok (.putfield 153, 3) := by decide +kernel
theorem dX7_kindOf_51 : decode cX7_kindOf 51 = .ok (.aload_n 0, 1) := by decide +kernel
theorem dX7_kindOf_52 : decode cX7_kindOf 52 = .ok (.getfield 41, 3) := by decide +kernel
theorem dX7_kindOf_55 : decode cX7_kindOf 55 = .ok (.aload_n 0, 1) := by decide +kernel
theorem dX7_kindOf_56 : decode cX7_kindOf 56 = .ok (.getfield 153, 3) := by decide +kernel
theorem dX7_kindOf_59 : decode cX7_kindOf 59 = .ok (.iload_n 1, 1) := by decide +kernel
theorem dX7_kindOf_60 : decode cX7_kindOf 60 = .ok (.iastore, 1) := by decide +kernel
theorem dX7_kindOf_61 : decode cX7_kindOf 61 = .ok (.aload_n 0, 1) := by decide +kernel
theorem dX7_kindOf_62 : decode cX7_kindOf 62 = .ok (.getfield 153, 3) := by decide +kernel
theorem dX7_kindOf_65 : decode cX7_kindOf 65 = .ok (.ireturn, 1) := by decide +kernel
theorem zw_357 : (Jvm.Cond.fieldLink "HillSchool$Planner" (41 : Nat) "HillSchool$Planner" "weights" "[I") ∈ zall := zmemG (zmj_2 14 rfl) rfl
theorem zw_360 : (Jvm.Cond.fieldLink "HillSchool$Planner" (153 : Nat) "HillSchool$Planner" "kinds" "I") ∈ zall := zmemG (zmj_2 17 rfl) rfl
theorem zw_953 : (Jvm.Cond.code ({ cls := "HillSchool$Planner", name := "kindOf", desc := "(I)I" } : Jvm.MethodName) prog_9_method_8_code (3 : Nat) (Option.some Jvm.ClassFile.FieldType.int)) ∈ zall := zmemG (zmj_4 130 rfl) rfl
abbrev w_Planner_kindOf : List Cond := .code yX7_kindOf cX7_kindOf 3 (some .int) :: zall
abbrev rm_Planner_kindOf : Room := { frames := 0, cells := 0, slots := 0, locals := 0 }
theorem hd_Planner_kindOf : yX7_kindOf.cls = "HillSchool$Planner" ∧ yX7_kindOf.cls ≠ "java/lang/invoke/MethodHandle" ∧ yX7_kindOf.cls ≠ "java/lang/invoke/VarHandle" ∧ (parseMethodDescriptor yX7_kindOf.desc).map (fun d => d.parameters.length) = some 1 := by decide +kernel
def wd_Planner_kindOf (cA : Nat → ClassId) (q0 q1 q2 q3 q4 q5 q6 q7 q8 q9 q10 q11 q12 q13 : Nat) (u0 u1 : Int)  (i_kinds : Int) (i_weights : Nat → Int) : va_W := [(q0, .inr (7, [.ref q1, .ref q2, .ref q3, .ref q4, .ref q5, .ref q6, .ref q7, .ref q8, .ref q9, .ref q10, .ref q11, .ref q12, .ref q13, .int (Int32.ofInt i_kinds), .int (Int32.ofInt u0), .int (Int32.ofInt u1)])), (q11, .inl (cA 0, 6, .inl (za i_weights)))]
def wf_Planner_kindOf (cA : Nat → ClassId) (q0 q1 q2 q3 q4 q5 q6 q7 q8 q9 q10 q11 q12 q13 : Nat) (u0 u1 : Int)  (o : Int × Int × (Nat → Int)) : va_W := wd_Planner_kindOf cA q0 q1 q2 q3 q4 q5 q6 q7 q8 q9 q10 q11 q12 q13 u0 u1 o.2.1 o.2.2
def f_Planner_kindOf_2_b  (k2 : Int → Int → Int → (Nat → Int) → Option (Int × Int × (Nat → Int))) (x1 : Int) (x2 : Int) (i_kinds : Int) (i_weights : Nat → Int) : Option (Int × Int × (Nat → Int)) :=
  if zi_w i_kinds < zi_w x2 then
    if zi_w i_kinds < zi_w 5 then
      zn (i_kinds + 1) fun v1 =>
      zs 6 i_weights v1 x1 fun a2 =>
      some (v1, v1, a2)
    else
      some (i_kinds, i_kinds, i_weights)
  else
    zg 6 i_weights x2 fun v3 =>
    if zi_w v3 ≠ zi_w x1 then
      zn (x2 + 1) fun v4 =>
      k2 x1 v4 i_kinds i_weights
    else
      some (x2, i_kinds, i_weights)
def f_Planner_kindOf_2  : Nat → Int → Int → Int → (Nat → Int) → Option (Int × Int × (Nat → Int))
  | 0 => fun _ _ _ _ => none
  | n + 1 => fun y0 y1 y2 y3 => f_Planner_kindOf_2_b  (f_Planner_kindOf_2  n) y0 y1 y2 y3
def f_Planner_kindOf (x1 : Int) (i_kinds : Int) (i_weights : Nat → Int) : Option (Int × Int × (Nat → Int)) :=
  f_Planner_kindOf_2 zfu x1 1 i_kinds i_weights
set_option maxHeartbeats 4000000 in
set_option maxRecDepth 100000 in
theorem c_Planner_kindOf (l : Launch) (ev : zEv) (dC : Nat → ClassId) (dI : Nat → Nat → Nat) (cA : Nat → ClassId) (q0 q1 q2 q3 q4 q5 q6 q7 q8 q9 q10 q11 q12 q13 : Nat) (u0 u1 : Int) {x1 : Int} {i_kinds : Int} {i_weights : Nat → Int} {out : Int × Int × (Nat → Int)} (hf : f_Planner_kindOf x1 i_kinds i_weights = some out) : xc_I l ev (dC, dI) vwCl (tyl cA) yX7_kindOf w_Planner_kindOf rm_Planner_kindOf [.ref q0, .int (Int32.ofInt x1)] (wd_Planner_kindOf cA q0 q1 q2 q3 q4 q5 q6 q7 q8 q9 q10 q11 q12 q13 u0 u1 i_kinds i_weights) (wf_Planner_kindOf cA q0 q1 q2 q3 q4 q5 q6 q7 q8 q9 q10 q11 q12 q13 u0 u1 out) out.1 := by
  refine xv_startI (cc := cX7_kindOf) (maxL := 3) (rt := .int) (by decide +kernel) rfl (Nat.le_of_ble_eq_true rfl) ?_
  intro p e s m args below meth c A Q H ls hx hb hml hts hown hK hA hP hD hS hl hE hret
  have hown : s.vm.findClass "HillSchool$Planner" = some m.cls := hown
  have hz : ∀ w ∈ zall, w.before args s = true := fun w h => hts w (List.mem_cons_of_mem _ h)
  have hl : lv_has ls 3 [(0, .ref q0), (1, .int (Int32.ofInt x1))] := hl
  have b_2 : ∀ (k2 : Int → Int → Int → (Nat → Int) → Option (Int × Int × (Nat → Int))) (_ : ∀ (x1 : Int) (x2 : Int) (i_kinds : Int) (i_weights : Nat → Int) (H : Heap) (locs : List Loc) (ls : Array Slot), k2 x1 x2 i_kinds i_weights = some out → va_P (dC, dI) vwCl (wd_Planner_kindOf cA q0 q1 q2 q3 q4 q5 q6 q7 q8 q9 q10 q11 q12 q13 u0 u1 i_kinds i_weights) H → va_D A (wd_Planner_kindOf cA q0 q1 q2 q3 q4 q5 q6 q7 q8 q9 q10 q11 q12 q13 u0 u1 i_kinds i_weights) → va_S A s.heap H locs → lv_has ls 3 [(0, .ref q0), (1, .int (Int32.ofInt x1)), (2, .int (Int32.ofInt x2))] → W p l e rm_Planner_kindOf s m args below meth c H locs 0 0 Q (F0 m 2 ls [])), ∀ (x1 : Int) (x2 : Int) (i_kinds : Int) (i_weights : Nat → Int) (H : Heap) (locs : List Loc) (ls : Array Slot), f_Planner_kindOf_2_b k2 x1 x2 i_kinds i_weights = some out → va_P (dC, dI) vwCl (wd_Planner_kindOf cA q0 q1 q2 q3 q4 q5 q6 q7 q8 q9 q10 q11 q12 q13 u0 u1 i_kinds i_weights) H → va_D A (wd_Planner_kindOf cA q0 q1 q2 q3 q4 q5 q6 q7 q8 q9 q10 q11 q12 q13 u0 u1 i_kinds i_weights) → va_S A s.heap H locs → lv_has ls 3 [(0, .ref q0), (1, .int (Int32.ofInt x1)), (2, .int (Int32.ofInt x2))] → W p l e rm_Planner_kindOf s m args below meth c H locs 0 0 Q (F0 m 2 ls []) := by
    intro k2 ih2 x1 x2 i_kinds i_weights H locs ls hf hP hD hS hl
    unfold f_Planner_kindOf_2_b at hf
    refine lv_iload_n hx hb dX7_kindOf_2 rfl (lv_at hl 2 rfl) ?_
    refine lv_aload_n hx hb dX7_kindOf_3 rfl (lv_at hl 0 rfl) ?_
    refine va_get (D := (dC, dI)) (ci := 7) (v := .int (Int32.ofInt i_kinds)) (C := RX7) (T := TX7) (N := 16) hx hb hz zi_X7 hown hK hP 0 rfl rfl 13 (by decide) (hz _ zw_360) (fun _ h9 => h9) rfl dX7_kindOf_4 ?_
    refine xi_icmp_gt (tgt := 28) hx hb dX7_kindOf_7 (by decide) hf (fun hf => ?_) (fun hf => ?_)
    · refine lv_aload_n hx hb dX7_kindOf_28 rfl (lv_at hl 0 rfl) ?_
      refine va_get (D := (dC, dI)) (ci := 7) (v := .int (Int32.ofInt i_kinds)) (C := RX7) (T := TX7) (N := 16) hx hb hz zi_X7 hown hK hP 0 rfl rfl 13 (by decide) (hz _ zw_360) (fun _ h9 => h9) rfl dX7_kindOf_29 ?_
      refine lv_iconst (v := Int32.ofInt 5) hx hb dX7_kindOf_32 rfl ?_
      refine xi_icmp_lt (tgt := 41) hx hb dX7_kindOf_33 (by decide) hf (fun hf => ?_) (fun hf => ?_)
      · refine lv_aload_n hx hb dX7_kindOf_41 rfl (lv_at hl 0 rfl) ?_
        refine lv_dup hx hb dX7_kindOf_42 rfl ?_
        refine va_get (D := (dC, dI)) (ci := 7) (v := .int (Int32.ofInt i_kinds)) (C := RX7) (T := TX7) (N := 16) hx hb hz zi_X7 hown hK hP 0 rfl rfl 13 (by decide) (hz _ zw_360) (fun _ h9 => h9) rfl dX7_kindOf_43 ?_
        refine lv_iconst (v := Int32.ofInt 1) hx hb dX7_kindOf_46 rfl ?_
        refine xi_iadd hx hb dX7_kindOf_47 hf (fun v1 hf => ?_)
        refine va_put (D := (dC, dI)) (ci := 7) (v := .int (Int32.ofInt v1)) (ty := .int) (C := RX7) (T := TX7) (N := 16) hx hb hz zi_X7 tyX7 tyX7_ok nmX7 hown hK hP hD hS 0 rfl rfl 13 (by decide) (hz _ zw_360) (fun _ h9 => h9) rfl (by decide +kernel) rfl rfl (Nat.le_of_ble_eq_true rfl) dX7_kindOf_48 (fun H locs hP hD hS => ?_)
        have hP : va_P (dC, dI) vwCl (wd_Planner_kindOf cA q0 q1 q2 q3 q4 q5 q6 q7 q8 q9 q10 q11 q12 q13 u0 u1 v1 i_weights) H := hP
        have hD : va_D A (wd_Planner_kindOf cA q0 q1 q2 q3 q4 q5 q6 q7 q8 q9 q10 q11 q12 q13 u0 u1 v1 i_weights) := hD
        refine lv_aload_n hx hb dX7_kindOf_51 rfl (lv_at hl 0 rfl) ?_
        refine va_get (D := (dC, dI)) (ci := 7) (v := .ref q11) (C := RX7) (T := TX7) (N := 16) hx hb hz zi_X7 hown hK hP 0 rfl rfl 10 (by decide) (hz _ zw_357) (fun _ h9 => h9) rfl dX7_kindOf_52 ?_
        refine lv_aload_n hx hb dX7_kindOf_55 rfl (lv_at hl 0 rfl) ?_
        refine va_get (D := (dC, dI)) (ci := 7) (v := .int (Int32.ofInt v1)) (C := RX7) (T := TX7) (N := 16) hx hb hz zi_X7 hown hK hP 0 rfl rfl 13 (by decide) (hz _ zw_360) (fun _ h9 => h9) rfl dX7_kindOf_56 ?_
        refine lv_iload_n hx hb dX7_kindOf_59 rfl (lv_at hl 1 rfl) ?_
        refine xi_iast hx hb hK hP hD hS 1 0 rfl rfl dX7_kindOf_60 hf (fun a2 H locs hP hD hS hf => ?_)
        have hP : va_P (dC, dI) vwCl (wd_Planner_kindOf cA q0 q1 q2 q3 q4 q5 q6 q7 q8 q9 q10 q11 q12 q13 u0 u1 v1 a2) H := hP
        have hD : va_D A (wd_Planner_kindOf cA q0 q1 q2 q3 q4 q5 q6 q7 q8 q9 q10 q11 q12 q13 u0 u1 v1 a2) := hD
        refine lv_aload_n hx hb dX7_kindOf_61 rfl (lv_at hl 0 rfl) ?_
        refine va_get (D := (dC, dI)) (ci := 7) (v := .int (Int32.ofInt v1)) (C := RX7) (T := TX7) (N := 16) hx hb hz zi_X7 hown hK hP 0 rfl rfl 13 (by decide) (hz _ zw_360) (fun _ h9 => h9) rfl dX7_kindOf_62 ?_
        obtain rfl := Option.some.inj hf
        exact hret _ _ _ _ rfl dX7_kindOf_65 hP hD hS
      · refine lv_aload_n hx hb dX7_kindOf_36 rfl (lv_at hl 0 rfl) ?_
        refine va_get (D := (dC, dI)) (ci := 7) (v := .int (Int32.ofInt i_kinds)) (C := RX7) (T := TX7) (N := 16) hx hb hz zi_X7 hown hK hP 0 rfl rfl 13 (by decide) (hz _ zw_360) (fun _ h9 => h9) rfl dX7_kindOf_37 ?_
        obtain rfl := Option.some.inj hf
        exact hret _ _ _ _ rfl dX7_kindOf_40 hP hD hS
    · refine lv_aload_n hx hb dX7_kindOf_10 rfl (lv_at hl 0 rfl) ?_
      refine va_get (D := (dC, dI)) (ci := 7) (v := .ref q11) (C := RX7) (T := TX7) (N := 16) hx hb hz zi_X7 hown hK hP 0 rfl rfl 10 (by decide) (hz _ zw_357) (fun _ h9 => h9) rfl dX7_kindOf_11 ?_
      refine lv_iload_n hx hb dX7_kindOf_14 rfl (lv_at hl 2 rfl) ?_
      refine xi_iald hx hb hK hP 1 0 rfl rfl dX7_kindOf_15 hf (fun v3 hf => ?_)
      refine lv_iload_n hx hb dX7_kindOf_16 rfl (lv_at hl 1 rfl) ?_
      refine xi_icmp_ne (tgt := 22) hx hb dX7_kindOf_17 (by decide) hf (fun hf => ?_) (fun hf => ?_)
      · refine xi_iinc hx hb dX7_kindOf_22 hl (k := 2) rfl (by decide) hf (fun v4 ls hl hf => ?_)
        have hl : lv_has ls 3 [(2, .int (Int32.ofInt v4)), (0, .ref q0), (1, .int (Int32.ofInt x1))] := hl
        refine lv_goto (tgt := 2) hx hb dX7_kindOf_25 (by decide) ?_
        exact ih2 _ _ _ _ _ _ _ hf hP hD hS (lv_sub hl [1, 2, 0] rfl)
      · refine lv_iload_n hx hb dX7_kindOf_20 rfl (lv_at hl 2 rfl) ?_
        obtain rfl := Option.some.inj hf
        exact hret _ _ _ _ rfl dX7_kindOf_21 hP hD hS
  have l_2 : ∀ (n : Nat), ∀ (x1 : Int) (x2 : Int) (i_kinds : Int) (i_weights : Nat → Int) (H : Heap) (locs : List Loc) (ls : Array Slot), f_Planner_kindOf_2 n x1 x2 i_kinds i_weights = some out → va_P (dC, dI) vwCl (wd_Planner_kindOf cA q0 q1 q2 q3 q4 q5 q6 q7 q8 q9 q10 q11 q12 q13 u0 u1 i_kinds i_weights) H → va_D A (wd_Planner_kindOf cA q0 q1 q2 q3 q4 q5 q6 q7 q8 q9 q10 q11 q12 q13 u0 u1 i_kinds i_weights) → va_S A s.heap H locs → lv_has ls 3 [(0, .ref q0), (1, .int (Int32.ofInt x1)), (2, .int (Int32.ofInt x2))] → W p l e rm_Planner_kindOf s m args below meth c H locs 0 0 Q (F0 m 2 ls []) := by
    intro n
    induction n with
    | zero => intro x1 x2 i_kinds i_weights H locs ls hf hP hD hS hl; exact nomatch hf
    | succ n ih => intro x1 x2 i_kinds i_weights H locs ls hf hP hD hS hl; exact b_2 (f_Planner_kindOf_2 n) ih x1 x2 i_kinds i_weights H locs ls hf hP hD hS hl
  unfold f_Planner_kindOf at hf
  refine lv_iconst (v := Int32.ofInt 1) hx hb dX7_kindOf_0 rfl ?_
  refine lv_istore_n (lv' := [(2, .int (Int32.ofInt 1)), (0, .ref q0), (1, .int (Int32.ofInt x1))]) hx hb dX7_kindOf_1 rfl hl (by decide) rfl (fun ls hl => ?_)
  exact l_2  _ _ _ _ _ _ _ _ hf hP hD hS (lv_sub hl [1, 2, 0] rfl)
theorem dX7_firstState_0 : decode cX7_firstState 0 = .ok (.aload_n 0, 1) := by decide +kernel
theorem dX7_firstState_1 : decode cX7_firstState 1 = .ok (.iconst 0, 1) := by decide +kernel
theorem dX7_firstState_2 : decode cX7_firstState 2 = .ok (.putfield 153, 3) := by decide +kernel
theorem dX7_firstState_5 : decode cX7_firstState 5 = .ok (.lconst 0, 1) := by decide +kernel
theorem dX7_firstState_6 : decode cX7_firstState 6 = .ok (.lstore_n 1, 1) := by decide +kernel
theorem dX7_firstState_7 : decode cX7_firstState 7 = .ok (.iconst 0, 1) := by decide +kernel
theorem dX7_firstState_8 : decode cX7_firstState 8 = .ok (.istore_n 3, 1) := by decide +kernel
theorem dX7_firstState_9 : decode cX7_firstState 9 = .ok (.iload_n 3, 1) := by decide +kernel
theorem dX7_firstState_10 : decode cX7_firstState 10 = .ok (.aload_n 0, 1) := by decide +kernel
theorem dX7_firstState_11 : decode cX7_firstState 11 = .ok (.getfield 50, 3) := by decide +kernel
theorem dX7_firstState_14 : decode cX7_firstState 14 = .ok (.getfield 58, 3) := by decide +kernel
theorem dX7_firstState_17 : decode cX7_firstState 17 = .ok (.getfield 64, 3) := by decide +kernel
theorem dX7_firstState_20 : decode cX7_firstState 20 = .ok (.if_icmp .ge 82, 3) := by decide +kernel
theorem dX7_firstState_23 : decode cX7_firstState 23 = .ok (.iload_n 3, 1) := by decide +kernel
theorem dX7_firstState_24 : decode cX7_firstState 24 = .ok (.iconst 4, 1) := by decide +kernel
theorem dX7_firstState_25 : decode cX7_firstState 25 = .ok (.if_icmp .ge 77, 3) := by decide +kernel
theorem dX7_firstState_28 : decode cX7_firstState 28 = .ok (.iconst 5, 1) := by decide +kernel
theorem dX7_firstState_29 : decode cX7_firstState 29 = .ok (.aload_n 0, 1) := by decide +kernel
theorem dX7_firstState_30 : decode cX7_firstState 30 = .ok (.getfield 50, 3) := by decide +kernel
theorem dX7_firstState_33 : decode cX7_firstState 33 = .ok (.getfield 58, 3) := by decide +kernel
theorem dX7_firstState_36 : decode cX7_firstState 36 = .ok (.iload_n 3, 1) := by decide +kernel
theorem dX7_firstState_37 : decode cX7_firstState 37 = .ok (.invokevirtual 156, 3) := by decide +kernel
theorem dX7_firstState_40 : decode cX7_firstState 40 = .ok (.invokestatic 159, 3) := by decide +kernel
theorem dX7_firstState_43 : decode cX7_firstState 43 = .ok (.istore 4, 2) := by decide +kernel
theorem dX7_firstState_45 : decode cX7_firstState 45 = .ok (.iconst 0, 1) := by decide +kernel
theorem dX7_firstState_46 : decode cX7_firstState 46 = .ok (.istore 5, 2) := by decide +kernel
theorem dX7_firstState_48 : decode cX7_firstState 48 = .ok (.iload 5, 2) := by decide +kernel
theorem dX7_firstState_50 : decode cX7_firstState 50 = .ok (.iload 4, 2) := by decide +kernel
theorem dX7_firstState_52 : decode cX7_firstState 52 = .ok (.if_icmp .ge 44, 3) := by decide +kernel
theorem dX7_firstState_55 : decode cX7_firstState 55 = .ok (.aload_n 0, 1) := by decide +kernel
theorem dX7_firstState_56 : decode cX7_firstState 56 = .ok (.aload_n 0, 1) := by decide +kernel
theorem dX7_firstState_57 : decode cX7_firstState 57 = .ok (.getfield 50, 3) := by decide +kernel
theorem dX7_firstState_60 : decode cX7_firstState 60 = .ok (.getfield 58, 3) := by decide +kernel
theorem dX7_firstState_63 : decode cX7_firstState 63 = .ok (.iload_n 3, 1) := by decide +kernel
theorem dX7_firstState_64 : decode cX7_firstState 64 = .ok (.iload 5, 2) := by decide +kernel
theorem dX7_firstState_66 : decode cX7_firstState 66 = .ok (.invokevirtual 162, 3) := by decide +kernel
theorem dX7_firstState_69 : decode cX7_firstState 69 = .ok (.invokevirtual 165, 3) := by decide +kernel
theorem dX7_firstState_72 : decode cX7_firstState 72 = .ok (.i2l, 1) := by decide +kernel
theorem dX7_firstState_73 : decode cX7_firstState 73 = .ok (.lstore 6, 2) := by decide +kernel
theorem dX7_firstState_75 : decode cX7_firstState 75 = .ok (.lload_n 1, 1) := by decide +kernel
theorem dX7_firstState_76 : decode cX7_firstState 76 = .ok (.lload 6, 2) := by decide +kernel
theorem dX7_firstState_78 : decode cX7_firstState 78 = .ok (.bipush 15, 2) := by decide +kernel
theorem dX7_firstState_80 : decode cX7_firstState 80 = .ok (.iload_n 3, 1) := by decide +kernel
theorem dX7_firstState_81 : decode cX7_firstState 81 = .ok (.imul, 1) := by decide +kernel
theorem dX7_firstState_82 : decode cX7_firstState 82 = .ok (.iconst 3, 1) := by decide +kernel
theorem dX7_firstState_83 : decode cX7_firstState 83 = .ok (.iload 5, 2) := by decide +kernel
theorem dX7_firstState_85 : decode cX7_firstState 85 = .ok (.imul, 1) := by decide +kernel
theorem dX7_firstState_86 : decode cX7_firstState 86 = .ok (.iadd, 1) := by decide +kernel
theorem dX7_firstState_87 : decode cX7_firstState 87 = .ok (.lshl, 1) := by decide +kernel
theorem dX7_firstState_88 : decode cX7_firstState 88 = .ok (.lor, 1) := by decide +kernel
theorem dX7_firstState_89 : decode cX7_firstState 89 = .ok (.lstore_n 1, 1) := by decide +kernel
theorem dX7_firstState_90 : decode cX7_firstState 90 = .ok (.iinc 5 1, 3) := by decide +kernel
theorem dX7_firstState_93 : decode cX7_firstState 93 = .ok (.goto (-45), 3) := by decide +kernel
theorem dX7_firstState_96 : decode cX7_firstState 96 = .ok (.iinc 3 1, 3) := by decide +kernel
theorem dX7_firstState_99 : decode cX7_firstState 99 = .ok (.goto (-90), 3) := by decide +kernel
theorem dX7_firstState_102 : decode cX7_firstState 102 = .ok (.lload_n 1, 1) := by decide +kernel
theorem dX7_firstState_103 : decode cX7_firstState 103 = .ok (.lreturn, 1) := by decide +kernel
theorem zw_20 : (Jvm.Cond.selects "HillSchool$Planner" ({ cls := "HillSchool$Planner", name := "kindOf", desc := "(I)I" } : Jvm.MethodName) ({ cls := "HillSchool$Planner", name := "kindOf", desc := "(I)I" } : Jvm.MethodName)) ∈ zall := zmemG (zmj_0 20 rfl) rfl
theorem zw_946 : (Jvm.Cond.code ({ cls := "HillSchool$Planner", name := "firstState", desc := "()J" } : Jvm.MethodName) prog_9_method_7_code (8 : Nat) (Option.some Jvm.ClassFile.FieldType.long)) ∈ zall := zmemG (zmj_4 123 rfl) rfl
theorem zw_947 : (Jvm.Cond.methodLink "HillSchool$Planner" (156 : Nat) ({ cls := "HillSchool$Columns", name := "high", desc := "(I)I" } : Jvm.MethodName)) ∈ zall := zmemG (zmj_4 124 rfl) rfl
theorem zw_948 : (Jvm.Cond.methodLink "HillSchool$Planner" (159 : Nat) ({ cls := "java/lang/Math", name := "min", desc := "(II)I" } : Jvm.MethodName)) ∈ zall := zmemG (zmj_4 125 rfl) rfl
theorem zw_949 : (Jvm.Cond.methodLink "HillSchool$Planner" (162 : Nat) ({ cls := "HillSchool$Columns", name := "heft", desc := "(II)I" } : Jvm.MethodName)) ∈ zall := zmemG (zmj_4 126 rfl) rfl
theorem zw_950 : (Jvm.Cond.methodLink "HillSchool$Planner" (165 : Nat) ({ cls := "HillSchool$Planner", name := "kindOf", desc := "(I)I" } : Jvm.MethodName)) ∈ zall := zmemG (zmj_4 127 rfl) rfl
theorem zw_952 : (Jvm.Cond.instanceMethod ({ cls := "HillSchool$Planner", name := "kindOf", desc := "(I)I" } : Jvm.MethodName)) ∈ zall := zmemG (zmj_4 129 rfl) rfl
abbrev w_Planner_firstState : List Cond := .code yX7_firstState cX7_firstState 8 (some .long) :: zall
abbrev rm_Planner_firstState : Room := { frames := 3, cells := 0, slots := 0, locals := 64 }
theorem hd_Planner_firstState : yX7_firstState.cls = "HillSchool$Planner" ∧ yX7_firstState.cls ≠ "java/lang/invoke/MethodHandle" ∧ yX7_firstState.cls ≠ "java/lang/invoke/VarHandle" ∧ (parseMethodDescriptor yX7_firstState.desc).map (fun d => d.parameters.length) = some 0 := by decide +kernel
def wd_Planner_firstState (cA : Nat → ClassId) (q0 q1 q2 q3 q4 q5 q6 q7 q8 q9 q10 q11 q12 q13 q14 q15 q16 q17 q18 q19 q20 q21 q22 q23 q24 : Nat) (u0 u1 u2 u3 u4 u5 u6 : Int) (i_hill_columns_many : Int) (i_hill_columns_heights : Nat → Int) (i_hill_columns_weights : Nat → Int) (i_kinds : Int) (i_weights : Nat → Int) : va_W := [(q0, .inr (7, [.ref q1, .ref q2, .ref q3, .ref q4, .ref q5, .ref q6, .ref q7, .ref q8, .ref q9, .ref q10, .ref q11, .ref q12, .ref q13, .int (Int32.ofInt i_kinds), .int (Int32.ofInt u0), .int (Int32.ofInt u1)])), (q1, .inr (2, [.ref q14, .int (Int32.ofInt u2), .ref q15, .ref q16, .ref q17, .int (Int32.ofInt u3), .ref q18, .ref q19, .ref q20, .int (Int32.ofInt u4), .ref q21, .ref q22, .int (Int32.ofInt u5), .int (Int32.ofInt u6)])), (q11, .inl (cA 0, 6, .inl (za i_weights))), (q14, .inr (1, [.int (Int32.ofInt i_hill_columns_many), .ref q23, .ref q24])), (q23, .inl (cA 0, 12, .inl (za i_hill_columns_heights))), (q24, .inl (cA 0, 120, .inl (za i_hill_columns_weights)))]
def wf_Planner_firstState (cA : Nat → ClassId) (q0 q1 q2 q3 q4 q5 q6 q7 q8 q9 q10 q11 q12 q13 q14 q15 q16 q17 q18 q19 q20 q21 q22 q23 q24 : Nat) (u0 u1 u2 u3 u4 u5 u6 : Int) (i_hill_columns_many : Int) (i_hill_columns_heights : Nat → Int) (i_hill_columns_weights : Nat → Int) (o : Int × Int × (Nat → Int)) : va_W := wd_Planner_firstState cA q0 q1 q2 q3 q4 q5 q6 q7 q8 q9 q10 q11 q12 q13 q14 q15 q16 q17 q18 q19 q20 q21 q22 q23 q24 u0 u1 u2 u3 u4 u5 u6 i_hill_columns_many i_hill_columns_heights i_hill_columns_weights o.2.1 o.2.2
def f_Planner_firstState_48_b (i_hill_columns_many : Int) (i_hill_columns_heights : Nat → Int) (i_hill_columns_weights : Nat → Int) (k9 : Int → Int → Int → (Nat → Int) → Option (Int × Int × (Nat → Int))) (k48 : Int → Int → Int → Int → Int → (Nat → Int) → Option (Int × Int × (Nat → Int))) (x1 : Int) (x3 : Int) (x4 : Int) (x5 : Int) (i_kinds : Int) (i_weights : Nat → Int) : Option (Int × Int × (Nat → Int)) :=
  if zi_w x4 ≤ zi_w x5 then
    zn (x3 + 1) fun v1 =>
    k9 x1 v1 i_kinds i_weights
  else
    zd1 (f_Columns_heft x3 x5 i_hill_columns_many i_hill_columns_heights i_hill_columns_weights) fun v2 =>
    zd3 (f_Planner_kindOf v2 i_kinds i_weights) fun v3 v4 a5 =>
    zn (zi_w v3) fun v6 =>
    zn (15 * x3) fun v7 =>
    zn (3 * x5) fun v8 =>
    zn (v7 + v8) fun v9 =>
    zn (zl_shl v6 v9) fun v10 =>
    zn (zl_or x1 v10) fun v11 =>
    zn (x5 + 1) fun v12 =>
    k48 v11 x3 x4 v12 v4 a5
def f_Planner_firstState_48 (i_hill_columns_many : Int) (i_hill_columns_heights : Nat → Int) (i_hill_columns_weights : Nat → Int) (k9 : Int → Int → Int → (Nat → Int) → Option (Int × Int × (Nat → Int))) : Nat → Int → Int → Int → Int → Int → (Nat → Int) → Option (Int × Int × (Nat → Int))
  | 0 => fun _ _ _ _ _ _ => none
  | n + 1 => fun y0 y1 y2 y3 y4 y5 => f_Planner_firstState_48_b i_hill_columns_many i_hill_columns_heights i_hill_columns_weights k9 (f_Planner_firstState_48 i_hill_columns_many i_hill_columns_heights i_hill_columns_weights k9 n) y0 y1 y2 y3 y4 y5
def f_Planner_firstState_9_b (i_hill_columns_many : Int) (i_hill_columns_heights : Nat → Int) (i_hill_columns_weights : Nat → Int) (k9 : Int → Int → Int → (Nat → Int) → Option (Int × Int × (Nat → Int))) (x1 : Int) (x3 : Int) (i_kinds : Int) (i_weights : Nat → Int) : Option (Int × Int × (Nat → Int)) :=
  if zi_w i_hill_columns_many ≤ zi_w x3 then
    some (x1, i_kinds, i_weights)
  else
    if zi_w 4 ≤ zi_w x3 then
      some (x1, i_kinds, i_weights)
    else
      zd1 (f_Columns_high x3 i_hill_columns_many i_hill_columns_heights) fun v1 =>
      zn (zi_min 5 v1) fun v2 =>
      f_Planner_firstState_48 i_hill_columns_many i_hill_columns_heights i_hill_columns_weights k9 zfu x1 x3 v2 0 i_kinds i_weights
def f_Planner_firstState_9 (i_hill_columns_many : Int) (i_hill_columns_heights : Nat → Int) (i_hill_columns_weights : Nat → Int) : Nat → Int → Int → Int → (Nat → Int) → Option (Int × Int × (Nat → Int))
  | 0 => fun _ _ _ _ => none
  | n + 1 => fun y0 y1 y2 y3 => f_Planner_firstState_9_b i_hill_columns_many i_hill_columns_heights i_hill_columns_weights (f_Planner_firstState_9 i_hill_columns_many i_hill_columns_heights i_hill_columns_weights n) y0 y1 y2 y3
def f_Planner_firstState (i_hill_columns_many : Int) (i_hill_columns_heights : Nat → Int) (i_hill_columns_weights : Nat → Int) (i_kinds : Int) (i_weights : Nat → Int) : Option (Int × Int × (Nat → Int)) :=
  f_Planner_firstState_9 i_hill_columns_many i_hill_columns_heights i_hill_columns_weights zfu 0 0 0 i_weights
set_option maxHeartbeats 4000000 in
set_option maxRecDepth 100000 in
theorem c_Planner_firstState (l : Launch) (ev : zEv) (dC : Nat → ClassId) (dI : Nat → Nat → Nat) (cA : Nat → ClassId) (q0 q1 q2 q3 q4 q5 q6 q7 q8 q9 q10 q11 q12 q13 q14 q15 q16 q17 q18 q19 q20 q21 q22 q23 q24 : Nat) (u0 u1 u2 u3 u4 u5 u6 : Int) {i_hill_columns_many : Int} {i_hill_columns_heights : Nat → Int} {i_hill_columns_weights : Nat → Int} {i_kinds : Int} {i_weights : Nat → Int} {out : Int × Int × (Nat → Int)} (hf : f_Planner_firstState i_hill_columns_many i_hill_columns_heights i_hill_columns_weights i_kinds i_weights = some out) : xc_J l ev (dC, dI) vwCl (tyl cA) yX7_firstState w_Planner_firstState rm_Planner_firstState [.ref q0] (wd_Planner_firstState cA q0 q1 q2 q3 q4 q5 q6 q7 q8 q9 q10 q11 q12 q13 q14 q15 q16 q17 q18 q19 q20 q21 q22 q23 q24 u0 u1 u2 u3 u4 u5 u6 i_hill_columns_many i_hill_columns_heights i_hill_columns_weights i_kinds i_weights) (wf_Planner_firstState cA q0 q1 q2 q3 q4 q5 q6 q7 q8 q9 q10 q11 q12 q13 q14 q15 q16 q17 q18 q19 q20 q21 q22 q23 q24 u0 u1 u2 u3 u4 u5 u6 i_hill_columns_many i_hill_columns_heights i_hill_columns_weights out) out.1 := by
  refine xv_startJ (cc := cX7_firstState) (maxL := 8) (by decide +kernel) rfl (Nat.le_of_ble_eq_true rfl) ?_
  intro p e s m args below meth c A Q H ls hx hb hml hts hown hK hA hP hD hS hl hE hret
  have hown : s.vm.findClass "HillSchool$Planner" = some m.cls := hown
  have hz : ∀ w ∈ zall, w.before args s = true := fun w h => hts w (List.mem_cons_of_mem _ h)
  have hl : lv_has ls 8 [(0, .ref q0)] := hl
  have b_48 : ∀ (k9 : Int → Int → Int → (Nat → Int) → Option (Int × Int × (Nat → Int))) (_ : ∀ (x1 : Int) (x3 : Int) (i_kinds : Int) (i_weights : Nat → Int) (H : Heap) (locs : List Loc) (ls : Array Slot), k9 x1 x3 i_kinds i_weights = some out → va_P (dC, dI) vwCl (wd_Planner_firstState cA q0 q1 q2 q3 q4 q5 q6 q7 q8 q9 q10 q11 q12 q13 q14 q15 q16 q17 q18 q19 q20 q21 q22 q23 q24 u0 u1 u2 u3 u4 u5 u6 i_hill_columns_many i_hill_columns_heights i_hill_columns_weights i_kinds i_weights) H → va_D A (wd_Planner_firstState cA q0 q1 q2 q3 q4 q5 q6 q7 q8 q9 q10 q11 q12 q13 q14 q15 q16 q17 q18 q19 q20 q21 q22 q23 q24 u0 u1 u2 u3 u4 u5 u6 i_hill_columns_many i_hill_columns_heights i_hill_columns_weights i_kinds i_weights) → va_S A s.heap H locs → lv_has ls 8 [(0, .ref q0), (1, .long (Int64.ofInt x1)), (3, .int (Int32.ofInt x3))] → W p l e rm_Planner_firstState s m args below meth c H locs 0 0 Q (F0 m 9 ls [])), ∀ (k48 : Int → Int → Int → Int → Int → (Nat → Int) → Option (Int × Int × (Nat → Int))) (_ : ∀ (x1 : Int) (x3 : Int) (x4 : Int) (x5 : Int) (i_kinds : Int) (i_weights : Nat → Int) (H : Heap) (locs : List Loc) (ls : Array Slot), k48 x1 x3 x4 x5 i_kinds i_weights = some out → va_P (dC, dI) vwCl (wd_Planner_firstState cA q0 q1 q2 q3 q4 q5 q6 q7 q8 q9 q10 q11 q12 q13 q14 q15 q16 q17 q18 q19 q20 q21 q22 q23 q24 u0 u1 u2 u3 u4 u5 u6 i_hill_columns_many i_hill_columns_heights i_hill_columns_weights i_kinds i_weights) H → va_D A (wd_Planner_firstState cA q0 q1 q2 q3 q4 q5 q6 q7 q8 q9 q10 q11 q12 q13 q14 q15 q16 q17 q18 q19 q20 q21 q22 q23 q24 u0 u1 u2 u3 u4 u5 u6 i_hill_columns_many i_hill_columns_heights i_hill_columns_weights i_kinds i_weights) → va_S A s.heap H locs → lv_has ls 8 [(0, .ref q0), (1, .long (Int64.ofInt x1)), (3, .int (Int32.ofInt x3)), (4, .int (Int32.ofInt x4)), (5, .int (Int32.ofInt x5))] → W p l e rm_Planner_firstState s m args below meth c H locs 0 0 Q (F0 m 48 ls [])), ∀ (x1 : Int) (x3 : Int) (x4 : Int) (x5 : Int) (i_kinds : Int) (i_weights : Nat → Int) (H : Heap) (locs : List Loc) (ls : Array Slot), f_Planner_firstState_48_b i_hill_columns_many i_hill_columns_heights i_hill_columns_weights k9 k48 x1 x3 x4 x5 i_kinds i_weights = some out → va_P (dC, dI) vwCl (wd_Planner_firstState cA q0 q1 q2 q3 q4 q5 q6 q7 q8 q9 q10 q11 q12 q13 q14 q15 q16 q17 q18 q19 q20 q21 q22 q23 q24 u0 u1 u2 u3 u4 u5 u6 i_hill_columns_many i_hill_columns_heights i_hill_columns_weights i_kinds i_weights) H → va_D A (wd_Planner_firstState cA q0 q1 q2 q3 q4 q5 q6 q7 q8 q9 q10 q11 q12 q13 q14 q15 q16 q17 q18 q19 q20 q21 q22 q23 q24 u0 u1 u2 u3 u4 u5 u6 i_hill_columns_many i_hill_columns_heights i_hill_columns_weights i_kinds i_weights) → va_S A s.heap H locs → lv_has ls 8 [(0, .ref q0), (1, .long (Int64.ofInt x1)), (3, .int (Int32.ofInt x3)), (4, .int (Int32.ofInt x4)), (5, .int (Int32.ofInt x5))] → W p l e rm_Planner_firstState s m args below meth c H locs 0 0 Q (F0 m 48 ls []) := by
    intro k9 ih9 k48 ih48 x1 x3 x4 x5 i_kinds i_weights H locs ls hf hP hD hS hl
    unfold f_Planner_firstState_48_b at hf
    refine lv_iload hx hb dX7_firstState_48 (lv_at hl 4 rfl) ?_
    refine lv_iload hx hb dX7_firstState_50 (lv_at hl 3 rfl) ?_
    refine xi_icmp_ge (tgt := 96) hx hb dX7_firstState_52 (by decide) hf (fun hf => ?_) (fun hf => ?_)
    · refine xi_iinc hx hb dX7_firstState_96 hl (k := 2) rfl (by decide) hf (fun v1 ls hl hf => ?_)
      have hl : lv_has ls 8 [(3, .int (Int32.ofInt v1)), (0, .ref q0), (1, .long (Int64.ofInt x1)), (4, .int (Int32.ofInt x4)), (5, .int (Int32.ofInt x5))] := hl
      refine lv_goto (tgt := 9) hx hb dX7_firstState_99 (by decide) ?_
      exact ih9 _ _ _ _ _ _ _ hf hP hD hS (lv_sub hl [1, 2, 0] rfl)
    · refine lv_aload_n hx hb dX7_firstState_55 rfl (lv_at hl 0 rfl) ?_
      refine lv_aload_n hx hb dX7_firstState_56 rfl (lv_at hl 0 rfl) ?_
      refine va_get (D := (dC, dI)) (ci := 7) (v := .ref q1) (C := RX7) (T := TX7) (N := 16) hx hb hz zi_X7 hown hK hP 0 rfl rfl 0 (by decide) (hz _ zw_347) (fun _ h9 => h9) rfl dX7_firstState_57 ?_
      refine va_getN (D := (dC, dI)) (ci := 2) (v := .ref q14) (C := RX2) (T := TX2) (N := 14) hx hb hz zi_X2 hown hK hP 1 rfl rfl 0 (by decide) (va_Nw.use rfl (hE.1.1 _ zw_170)) (fun _ h9 => h9) rfl dX7_firstState_60 ?_
      refine lv_iload_n hx hb dX7_firstState_63 rfl (lv_at hl 2 rfl) ?_
      refine lv_iload hx hb dX7_firstState_64 (lv_at hl 4 rfl) ?_
      refine xe_d1 hf (fun v2 hg hf => ?_)
      have hC : ([3, 4, 5] : List Nat).map (fun i => (wd_Planner_firstState cA q0 q1 q2 q3 q4 q5 q6 q7 q8 q9 q10 q11 q12 q13 q14 q15 q16 q17 q18 q19 q20 q21 q22 q23 q24 u0 u1 u2 u3 u4 u5 u6 i_hill_columns_many i_hill_columns_heights i_hill_columns_weights i_kinds i_weights)[i]?) = (wd_Columns_heft cA q14 q23 q24 i_hill_columns_many i_hill_columns_heights i_hill_columns_weights).map some := rfl
      refine xv_afterI (ws' := (wd_Planner_firstState cA q0 q1 q2 q3 q4 q5 q6 q7 q8 q9 q10 q11 q12 q13 q14 q15 q16 q17 q18 q19 q20 q21 q22 q23 q24 u0 u1 u2 u3 u4 u5 u6 i_hill_columns_many i_hill_columns_heights i_hill_columns_weights i_kinds i_weights)) (isC := [3, 4, 5]) (ps := [none, none, none, some 0, some 1, some 2]) (va_runV (As := [.int (Int32.ofInt x3), .int (Int32.ofInt x5)]) (rest := [.ref q0]) ⟨hx, hb, hml, hown, hts⟩ (c_Columns_heft l ev dC dI cA q14 q23 q24 hg H.size) (cwV 2 hts (zgV zw_949 zw_577 zw_578 zw_106 zw_579) rfl rfl rfl hd_Columns_heft ⟨Nat.le_of_ble_eq_true rfl, Nat.le_of_ble_eq_true rfl⟩) (xv_preV (T := TX1) (N := 3) hE hA hS hK hP hD (isC := [3, 4, 5]) (by decide +kernel) hC (q0 := 3) (ci := 1) rfl rfl) rfl rfl hl.1 rfl (lv_room (Nat.le_of_ble_eq_true rfl)) dX7_firstState_66 ⟨Nat.le_refl _, Nat.le_refl _⟩) hP hD hS hA (by decide +kernel) rfl hC rfl rfl (fun H locs hP hD hS => ?_)
      refine xe_d3 hf (fun v3 v4 a5 hg hf => ?_)
      have hC : ([0, 2] : List Nat).map (fun i => (wd_Planner_firstState cA q0 q1 q2 q3 q4 q5 q6 q7 q8 q9 q10 q11 q12 q13 q14 q15 q16 q17 q18 q19 q20 q21 q22 q23 q24 u0 u1 u2 u3 u4 u5 u6 i_hill_columns_many i_hill_columns_heights i_hill_columns_weights i_kinds i_weights)[i]?) = (wd_Planner_kindOf cA q0 q1 q2 q3 q4 q5 q6 q7 q8 q9 q10 q11 q12 q13 u0 u1 i_kinds i_weights).map some := rfl
      refine xv_afterI (ws' := (wd_Planner_firstState cA q0 q1 q2 q3 q4 q5 q6 q7 q8 q9 q10 q11 q12 q13 q14 q15 q16 q17 q18 q19 q20 q21 q22 q23 q24 u0 u1 u2 u3 u4 u5 u6 i_hill_columns_many i_hill_columns_heights i_hill_columns_weights v4 a5)) (isC := [0, 2]) (ps := [some 0, none, some 1, none, none, none]) (va_runV (As := [.int (Int32.ofInt v2)]) (rest := []) ⟨hx, hb, hml, hown, hts⟩ (c_Planner_kindOf l ev dC dI cA q0 q1 q2 q3 q4 q5 q6 q7 q8 q9 q10 q11 q12 q13 u0 u1 hg H.size) (cwV 1 hts (zgV zw_950 zw_952 zw_20 zw_110 zw_953) rfl rfl rfl hd_Planner_kindOf ⟨Nat.le_of_ble_eq_true rfl, Nat.le_of_ble_eq_true rfl⟩) (xv_preV (T := TX7) (N := 16) hE hA hS hK hP hD (isC := [0, 2]) (by decide +kernel) hC (q0 := 0) (ci := 7) rfl rfl) rfl rfl hl.1 rfl (lv_room (Nat.le_of_ble_eq_true rfl)) dX7_firstState_69 ⟨Nat.le_refl _, Nat.le_refl _⟩) hP hD hS hA (by decide +kernel) rfl hC rfl rfl (fun H locs hP hD hS => ?_)
      refine xi_i2l hx hb dX7_firstState_72 hf (fun v6 hf => ?_)
      refine lv_lstore (lv' := [(6, .long (Int64.ofInt v6)), (0, .ref q0), (1, .long (Int64.ofInt x1)), (3, .int (Int32.ofInt x3)), (4, .int (Int32.ofInt x4)), (5, .int (Int32.ofInt x5))]) hx hb dX7_firstState_73 hl (by decide) rfl (fun ls hl => ?_)
      refine lv_lload_n hx hb dX7_firstState_75 rfl (lv_at hl 2 rfl) ?_
      refine lv_lload hx hb dX7_firstState_76 (lv_at hl 0 rfl) ?_
      refine lv_bipush (v := Int32.ofInt 15) hx hb dX7_firstState_78 (by decide) ?_
      refine lv_iload_n hx hb dX7_firstState_80 rfl (lv_at hl 3 rfl) ?_
      refine xi_imul hx hb dX7_firstState_81 hf (fun v7 hf => ?_)
      refine lv_iconst (v := Int32.ofInt 3) hx hb dX7_firstState_82 rfl ?_
      refine lv_iload hx hb dX7_firstState_83 (lv_at hl 5 rfl) ?_
      refine xi_imul hx hb dX7_firstState_85 hf (fun v8 hf => ?_)
      refine xi_iadd hx hb dX7_firstState_86 hf (fun v9 hf => ?_)
      refine xl_lshl hx hb dX7_firstState_87 hf (fun v10 hf => ?_)
      refine xl_lor hx hb dX7_firstState_88 hf (fun v11 hf => ?_)
      refine lv_lstore_n (lv' := [(1, .long (Int64.ofInt v11)), (6, .long (Int64.ofInt v6)), (0, .ref q0), (3, .int (Int32.ofInt x3)), (4, .int (Int32.ofInt x4)), (5, .int (Int32.ofInt x5))]) hx hb dX7_firstState_89 rfl hl (by decide) rfl (fun ls hl => ?_)
      refine xi_iinc hx hb dX7_firstState_90 hl (k := 5) rfl (by decide) hf (fun v12 ls hl hf => ?_)
      have hl : lv_has ls 8 [(5, .int (Int32.ofInt v12)), (1, .long (Int64.ofInt v11)), (6, .long (Int64.ofInt v6)), (0, .ref q0), (3, .int (Int32.ofInt x3)), (4, .int (Int32.ofInt x4))] := hl
      refine lv_goto (tgt := 48) hx hb dX7_firstState_93 (by decide) ?_
      exact ih48 _ _ _ _ _ _ _ _ _ hf hP hD hS (lv_sub hl [3, 1, 4, 5, 0] rfl)
  have l_48 : ∀ (k9 : Int → Int → Int → (Nat → Int) → Option (Int × Int × (Nat → Int))) (_ : ∀ (x1 : Int) (x3 : Int) (i_kinds : Int) (i_weights : Nat → Int) (H : Heap) (locs : List Loc) (ls : Array Slot), k9 x1 x3 i_kinds i_weights = some out → va_P (dC, dI) vwCl (wd_Planner_firstState cA q0 q1 q2 q3 q4 q5 q6 q7 q8 q9 q10 q11 q12 q13 q14 q15 q16 q17 q18 q19 q20 q21 q22 q23 q24 u0 u1 u2 u3 u4 u5 u6 i_hill_columns_many i_hill_columns_heights i_hill_columns_weights i_kinds i_weights) H → va_D A (wd_Planner_firstState cA q0 q1 q2 q3 q4 q5 q6 q7 q8 q9 q10 q11 q12 q13 q14 q15 q16 q17 q18 q19 q20 q21 q22 q23 q24 u0 u1 u2 u3 u4 u5 u6 i_hill_columns_many i_hill_columns_heights i_hill_columns_weights i_kinds i_weights) → va_S A s.heap H locs → lv_has ls 8 [(0, .ref q0), (1, .long (Int64.ofInt x1)), (3, .int (Int32.ofInt x3))] → W p l e rm_Planner_firstState s m args below meth c H locs 0 0 Q (F0 m 9 ls [])), ∀ (n : Nat), ∀ (x1 : Int) (x3 : Int) (x4 : Int) (x5 : Int) (i_kinds : Int) (i_weights : Nat → Int) (H : Heap) (locs : List Loc) (ls : Array Slot), f_Planner_firstState_48 i_hill_columns_many i_hill_columns_heights i_hill_columns_weights k9 n x1 x3 x4 x5 i_kinds i_weights = some out → va_P (dC, dI) vwCl (wd_Planner_firstState cA q0 q1 q2 q3 q4 q5 q6 q7 q8 q9 q10 q11 q12 q13 q14 q15 q16 q17 q18 q19 q20 q21 q22 q23 q24 u0 u1 u2 u3 u4 u5 u6 i_hill_columns_many i_hill_columns_heights i_hill_columns_weights i_kinds i_weights) H → va_D A (wd_Planner_firstState cA q0 q1 q2 q3 q4 q5 q6 q7 q8 q9 q10 q11 q12 q13 q14 q15 q16 q17 q18 q19 q20 q21 q22 q23 q24 u0 u1 u2 u3 u4 u5 u6 i_hill_columns_many i_hill_columns_heights i_hill_columns_weights i_kinds i_weights) → va_S A s.heap H locs → lv_has ls 8 [(0, .ref q0), (1, .long (Int64.ofInt x1)), (3, .int (Int32.ofInt x3)), (4, .int (Int32.ofInt x4)), (5, .int (Int32.ofInt x5))] → W p l e rm_Planner_firstState s m args below meth c H locs 0 0 Q (F0 m 48 ls []) := by
    intro k9 ih9 n
    induction n with
    | zero => intro x1 x3 x4 x5 i_kinds i_weights H locs ls hf hP hD hS hl; exact nomatch hf
    | succ n ih => intro x1 x3 x4 x5 i_kinds i_weights H locs ls hf hP hD hS hl; exact b_48 k9 ih9 (f_Planner_firstState_48 i_hill_columns_many i_hill_columns_heights i_hill_columns_weights k9 n) ih x1 x3 x4 x5 i_kinds i_weights H locs ls hf hP hD hS hl
  have b_9 : ∀ (k9 : Int → Int → Int → (Nat → Int) → Option (Int × Int × (Nat → Int))) (_ : ∀ (x1 : Int) (x3 : Int) (i_kinds : Int) (i_weights : Nat → Int) (H : Heap) (locs : List Loc) (ls : Array Slot), k9 x1 x3 i_kinds i_weights = some out → va_P (dC, dI) vwCl (wd_Planner_firstState cA q0 q1 q2 q3 q4 q5 q6 q7 q8 q9 q10 q11 q12 q13 q14 q15 q16 q17 q18 q19 q20 q21 q22 q23 q24 u0 u1 u2 u3 u4 u5 u6 i_hill_columns_many i_hill_columns_heights i_hill_columns_weights i_kinds i_weights) H → va_D A (wd_Planner_firstState cA q0 q1 q2 q3 q4 q5 q6 q7 q8 q9 q10 q11 q12 q13 q14 q15 q16 q17 q18 q19 q20 q21 q22 q23 q24 u0 u1 u2 u3 u4 u5 u6 i_hill_columns_many i_hill_columns_heights i_hill_columns_weights i_kinds i_weights) → va_S A s.heap H locs → lv_has ls 8 [(0, .ref q0), (1, .long (Int64.ofInt x1)), (3, .int (Int32.ofInt x3))] → W p l e rm_Planner_firstState s m args below meth c H locs 0 0 Q (F0 m 9 ls [])), ∀ (x1 : Int) (x3 : Int) (i_kinds : Int) (i_weights : Nat → Int) (H : Heap) (locs : List Loc) (ls : Array Slot), f_Planner_firstState_9_b i_hill_columns_many i_hill_columns_heights i_hill_columns_weights k9 x1 x3 i_kinds i_weights = some out → va_P (dC, dI) vwCl (wd_Planner_firstState cA q0 q1 q2 q3 q4 q5 q6 q7 q8 q9 q10 q11 q12 q13 q14 q15 q16 q17 q18 q19 q20 q21 q22 q23 q24 u0 u1 u2 u3 u4 u5 u6 i_hill_columns_many i_hill_columns_heights i_hill_columns_weights i_kinds i_weights) H → va_D A (wd_Planner_firstState cA q0 q1 q2 q3 q4 q5 q6 q7 q8 q9 q10 q11 q12 q13 q14 q15 q16 q17 q18 q19 q20 q21 q22 q23 q24 u0 u1 u2 u3 u4 u5 u6 i_hill_columns_many i_hill_columns_heights i_hill_columns_weights i_kinds i_weights) → va_S A s.heap H locs → lv_has ls 8 [(0, .ref q0), (1, .long (Int64.ofInt x1)), (3, .int (Int32.ofInt x3))] → W p l e rm_Planner_firstState s m args below meth c H locs 0 0 Q (F0 m 9 ls []) := by
    intro k9 ih9 x1 x3 i_kinds i_weights H locs ls hf hP hD hS hl
    unfold f_Planner_firstState_9_b at hf
    refine lv_iload_n hx hb dX7_firstState_9 rfl (lv_at hl 2 rfl) ?_
    refine lv_aload_n hx hb dX7_firstState_10 rfl (lv_at hl 0 rfl) ?_
    refine va_get (D := (dC, dI)) (ci := 7) (v := .ref q1) (C := RX7) (T := TX7) (N := 16) hx hb hz zi_X7 hown hK hP 0 rfl rfl 0 (by decide) (hz _ zw_347) (fun _ h9 => h9) rfl dX7_firstState_11 ?_
    refine va_getN (D := (dC, dI)) (ci := 2) (v := .ref q14) (C := RX2) (T := TX2) (N := 14) hx hb hz zi_X2 hown hK hP 1 rfl rfl 0 (by decide) (va_Nw.use rfl (hE.1.1 _ zw_170)) (fun _ h9 => h9) rfl dX7_firstState_14 ?_
    refine va_getN (D := (dC, dI)) (ci := 1) (v := .int (Int32.ofInt i_hill_columns_many)) (C := RX1) (T := TX1) (N := 3) hx hb hz zi_X1 hown hK hP 3 rfl rfl 0 (by decide) (va_Nw.use rfl (hE.1.1 _ zw_144)) (fun _ h9 => h9) rfl dX7_firstState_17 ?_
    refine xi_icmp_ge (tgt := 102) hx hb dX7_firstState_20 (by decide) hf (fun hf => ?_) (fun hf => ?_)
    · refine lv_lload_n hx hb dX7_firstState_102 rfl (lv_at hl 1 rfl) ?_
      obtain rfl := Option.some.inj hf
      exact hret _ _ _ _ dX7_firstState_103 hP hD hS
    · refine lv_iload_n hx hb dX7_firstState_23 rfl (lv_at hl 2 rfl) ?_
      refine lv_iconst (v := Int32.ofInt 4) hx hb dX7_firstState_24 rfl ?_
      refine xi_icmp_ge (tgt := 102) hx hb dX7_firstState_25 (by decide) hf (fun hf => ?_) (fun hf => ?_)
      · refine lv_lload_n hx hb dX7_firstState_102 rfl (lv_at hl 1 rfl) ?_
        obtain rfl := Option.some.inj hf
        exact hret _ _ _ _ dX7_firstState_103 hP hD hS
      · refine lv_iconst (v := Int32.ofInt 5) hx hb dX7_firstState_28 rfl ?_
        refine lv_aload_n hx hb dX7_firstState_29 rfl (lv_at hl 0 rfl) ?_
        refine va_get (D := (dC, dI)) (ci := 7) (v := .ref q1) (C := RX7) (T := TX7) (N := 16) hx hb hz zi_X7 hown hK hP 0 rfl rfl 0 (by decide) (hz _ zw_347) (fun _ h9 => h9) rfl dX7_firstState_30 ?_
        refine va_getN (D := (dC, dI)) (ci := 2) (v := .ref q14) (C := RX2) (T := TX2) (N := 14) hx hb hz zi_X2 hown hK hP 1 rfl rfl 0 (by decide) (va_Nw.use rfl (hE.1.1 _ zw_170)) (fun _ h9 => h9) rfl dX7_firstState_33 ?_
        refine lv_iload_n hx hb dX7_firstState_36 rfl (lv_at hl 2 rfl) ?_
        refine xe_d1 hf (fun v1 hg hf => ?_)
        have hC : ([3, 4] : List Nat).map (fun i => (wd_Planner_firstState cA q0 q1 q2 q3 q4 q5 q6 q7 q8 q9 q10 q11 q12 q13 q14 q15 q16 q17 q18 q19 q20 q21 q22 q23 q24 u0 u1 u2 u3 u4 u5 u6 i_hill_columns_many i_hill_columns_heights i_hill_columns_weights i_kinds i_weights)[i]?) = (wd_Columns_high cA q14 q23 q24 i_hill_columns_many i_hill_columns_heights).map some := rfl
        refine xv_afterI (ws' := (wd_Planner_firstState cA q0 q1 q2 q3 q4 q5 q6 q7 q8 q9 q10 q11 q12 q13 q14 q15 q16 q17 q18 q19 q20 q21 q22 q23 q24 u0 u1 u2 u3 u4 u5 u6 i_hill_columns_many i_hill_columns_heights i_hill_columns_weights i_kinds i_weights)) (isC := [3, 4]) (ps := [none, none, none, some 0, some 1, none]) (va_runV (As := [.int (Int32.ofInt x3)]) (rest := [.int (Int32.ofInt 5)]) ⟨hx, hb, hml, hown, hts⟩ (c_Columns_high l ev dC dI cA q14 q23 q24 hg H.size) (cwV 1 hts (zgV zw_947 zw_556 zw_557 zw_106 zw_558) rfl rfl rfl hd_Columns_high ⟨Nat.le_of_ble_eq_true rfl, Nat.le_of_ble_eq_true rfl⟩) (xv_preV (T := TX1) (N := 3) hE hA hS hK hP hD (isC := [3, 4]) (by decide +kernel) hC (q0 := 3) (ci := 1) rfl rfl) rfl rfl hl.1 rfl (lv_room (Nat.le_of_ble_eq_true rfl)) dX7_firstState_37 ⟨Nat.le_refl _, Nat.le_refl _⟩) hP hD hS hA (by decide +kernel) rfl hC rfl rfl (fun H locs hP hD hS => ?_)
        refine xi_mmin hx hb (hml.trans hl.1.symm) hown (hz _ zw_948) (hz _ zw_651) (hz _ zw_116) (hz _ zw_652) (Nat.le_of_ble_eq_true rfl) (Nat.le_of_ble_eq_true rfl) (Nat.zero_le _) (Nat.zero_le _) dX7_firstState_40 hf (fun v2 hf => ?_)
        refine lv_istore (lv' := [(4, .int (Int32.ofInt v2)), (0, .ref q0), (1, .long (Int64.ofInt x1)), (3, .int (Int32.ofInt x3))]) hx hb dX7_firstState_43 hl (by decide) rfl (fun ls hl => ?_)
        refine lv_iconst (v := Int32.ofInt 0) hx hb dX7_firstState_45 rfl ?_
        refine lv_istore (lv' := [(5, .int (Int32.ofInt 0)), (4, .int (Int32.ofInt v2)), (0, .ref q0), (1, .long (Int64.ofInt x1)), (3, .int (Int32.ofInt x3))]) hx hb dX7_firstState_46 hl (by decide) rfl (fun ls hl => ?_)
        exact l_48 _ ih9 _ _ _ _ _ _ _ _ _ _ hf hP hD hS (lv_sub hl [2, 3, 4, 1, 0] rfl)
  have l_9 : ∀ (n : Nat), ∀ (x1 : Int) (x3 : Int) (i_kinds : Int) (i_weights : Nat → Int) (H : Heap) (locs : List Loc) (ls : Array Slot), f_Planner_firstState_9 i_hill_columns_many i_hill_columns_heights i_hill_columns_weights n x1 x3 i_kinds i_weights = some out → va_P (dC, dI) vwCl (wd_Planner_firstState cA q0 q1 q2 q3 q4 q5 q6 q7 q8 q9 q10 q11 q12 q13 q14 q15 q16 q17 q18 q19 q20 q21 q22 q23 q24 u0 u1 u2 u3 u4 u5 u6 i_hill_columns_many i_hill_columns_heights i_hill_columns_weights i_kinds i_weights) H → va_D A (wd_Planner_firstState cA q0 q1 q2 q3 q4 q5 q6 q7 q8 q9 q10 q11 q12 q13 q14 q15 q16 q17 q18 q19 q20 q21 q22 q23 q24 u0 u1 u2 u3 u4 u5 u6 i_hill_columns_many i_hill_columns_heights i_hill_columns_weights i_kinds i_weights) → va_S A s.heap H locs → lv_has ls 8 [(0, .ref q0), (1, .long (Int64.ofInt x1)), (3, .int (Int32.ofInt x3))] → W p l e rm_Planner_firstState s m args below meth c H locs 0 0 Q (F0 m 9 ls []) := by
    intro n
    induction n with
    | zero => intro x1 x3 i_kinds i_weights H locs ls hf hP hD hS hl; exact nomatch hf
    | succ n ih => intro x1 x3 i_kinds i_weights H locs ls hf hP hD hS hl; exact b_9 (f_Planner_firstState_9 i_hill_columns_many i_hill_columns_heights i_hill_columns_weights n) ih x1 x3 i_kinds i_weights H locs ls hf hP hD hS hl
  unfold f_Planner_firstState at hf
  refine lv_aload_n hx hb dX7_firstState_0 rfl (lv_at hl 0 rfl) ?_
  refine lv_iconst (v := Int32.ofInt 0) hx hb dX7_firstState_1 rfl ?_
  refine va_put (D := (dC, dI)) (ci := 7) (v := .int (Int32.ofInt 0)) (ty := .int) (C := RX7) (T := TX7) (N := 16) hx hb hz zi_X7 tyX7 tyX7_ok nmX7 hown hK hP hD hS 0 rfl rfl 13 (by decide) (hz _ zw_360) (fun _ h9 => h9) rfl (by decide +kernel) rfl rfl (Nat.le_of_ble_eq_true rfl) dX7_firstState_2 (fun H locs hP hD hS => ?_)
  have hP : va_P (dC, dI) vwCl (wd_Planner_firstState cA q0 q1 q2 q3 q4 q5 q6 q7 q8 q9 q10 q11 q12 q13 q14 q15 q16 q17 q18 q19 q20 q21 q22 q23 q24 u0 u1 u2 u3 u4 u5 u6 i_hill_columns_many i_hill_columns_heights i_hill_columns_weights 0 i_weights) H := hP
  have hD : va_D A (wd_Planner_firstState cA q0 q1 q2 q3 q4 q5 q6 q7 q8 q9 q10 q11 q12 q13 q14 q15 q16 q17 q18 q19 q20 q21 q22 q23 q24 u0 u1 u2 u3 u4 u5 u6 i_hill_columns_many i_hill_columns_heights i_hill_columns_weights 0 i_weights) := hD
  refine lv_lconst (v := Int64.ofInt 0) hx hb dX7_firstState_5 (by decide) ?_
  refine lv_lstore_n (lv' := [(1, .long (Int64.ofInt 0)), (0, .ref q0)]) hx hb dX7_firstState_6 rfl hl (by decide) rfl (fun ls hl => ?_)
  refine lv_iconst (v := Int32.ofInt 0) hx hb dX7_firstState_7 rfl ?_
  refine lv_istore_n (lv' := [(3, .int (Int32.ofInt 0)), (1, .long (Int64.ofInt 0)), (0, .ref q0)]) hx hb dX7_firstState_8 rfl hl (by decide) rfl (fun ls hl => ?_)
  exact l_9  _ _ _ _ _ _ _ _ hf hP hD hS (lv_sub hl [2, 1, 0] rfl)
theorem dX7_look_0 : decode cX7_look 0 = .ok (.iconst 0, 1) := by decide +kernel
theorem dX7_look_1 : decode cX7_look 1 = .ok (.istore_n 3, 1) := by decide +kernel
theorem dX7_look_2 : decode cX7_look 2 = .ok (.iload_n 3, 1) := by decide +kernel
theorem dX7_look_3 : decode cX7_look 3 = .ok (.iconst 4, 1) := by decide +kernel
theorem dX7_look_4 : decode cX7_look 4 = .ok (.if_icmp .ge 83, 3) := by decide +kernel
theorem dX7_look_7 : decode cX7_look 7 = .ok (.lload_n 1, 1) := by decide +kernel
theorem dX7_look_8 : decode cX7_look 8 = .ok (.bipush 15, 2) := by decide +kernel
theorem dX7_look_10 : decode cX7_look 10 = .ok (.iload_n 3, 1) := by decide +kernel
theorem dX7_look_11 : decode cX7_look 11 = .ok (.imul, 1) := by decide +kernel
theorem dX7_look_12 : decode cX7_look 12 = .ok (.lushr, 1) := by decide +kernel
theorem dX7_look_13 : decode cX7_look 13 = .ok (.l2i, 1) := by decide +kernel
theorem dX7_look_14 : decode cX7_look 14 = .ok (.sipush 32767, 3) := by decide +kernel
theorem dX7_look_17 : decode cX7_look 17 = .ok (.iand, 1) := by decide +kernel
theorem dX7_look_18 : decode cX7_look 18 = .ok (.istore 4, 2) := by decide +kernel
theorem dX7_look_20 : decode cX7_look 20 = .ok (.aload_n 0, 1) := by decide +kernel
theorem dX7_look_21 : decode cX7_look 21 = .ok (.getfield 44, 3) := by decide +kernel
theorem dX7_look_24 : decode cX7_look 24 = .ok (.iload_n 3, 1) := by decide +kernel
theorem dX7_look_25 : decode cX7_look 25 = .ok (.iconst 0, 1) := by decide +kernel
theorem dX7_look_26 : decode cX7_look 26 = .ok (.iastore, 1) := by decide +kernel
theorem dX7_look_27 : decode cX7_look 27 = .ok (.aload_n 0, 1) := by decide +kernel
theorem dX7_look_28 : decode cX7_look 28 = .ok (.getfield 47, 3) := by decide +kernel
theorem dX7_look_31 : decode cX7_look 31 = .ok (.iload_n 3, 1) := by decide +kernel
theorem dX7_look_32 : decode cX7_look 32 = .ok (.iconst 0, 1) := by decide +kernel
theorem dX7_look_33 : decode cX7_look 33 = .ok (.iastore, 1) := by decide +kernel
theorem dX7_look_34 : decode cX7_look 34 = .ok (.iconst 0, 1) := by decide +kernel
theorem dX7_look_35 : decode cX7_look 35 = .ok (.istore 5, 2) := by decide +kernel
theorem dX7_look_37 : decode cX7_look 37 = .ok (.iload 5, 2) := by decide +kernel
theorem dX7_look_39 : decode cX7_look 39 = .ok (.iconst 5, 1) := by decide +kernel
theorem dX7_look_40 : decode cX7_look 40 = .ok (.if_icmp .ge 41, 3) := by decide +kernel
theorem dX7_look_43 : decode cX7_look 43 = .ok (.iload 4, 2) := by decide +kernel
theorem dX7_look_45 : decode cX7_look 45 = .ok (.ifCond .eq 36, 3) := by decide +kernel
theorem dX7_look_48 : decode cX7_look 48 = .ok (.aload_n 0, 1) := by decide +kernel
theorem dX7_look_49 : decode cX7_look 49 = .ok (.getfield 44, 3) := by decide +kernel
theorem dX7_look_52 : decode cX7_look 52 = .ok (.iload_n 3, 1) := by decide +kernel
theorem dX7_look_53 : decode cX7_look 53 = .ok (.dup2, 1) := by decide +kernel
theorem dX7_look_54 : decode cX7_look 54 = .ok (.iaload, 1) := by decide +kernel
theorem dX7_look_55 : decode cX7_look 55 = .ok (.iconst 1, 1) := by decide +kernel
theorem dX7_look_56 : decode cX7_look 56 = .ok (.iadd, 1) := by decide +kernel
theorem dX7_look_57 : decode cX7_look 57 = .ok (.iastore, 1) := by decide +kernel
theorem dX7_look_58 : decode cX7_look 58 = .ok (.aload_n 0, 1) := by decide +kernel
theorem dX7_look_59 : decode cX7_look 59 = .ok (.getfield 47, 3) := by decide +kernel
theorem dX7_look_62 : decode cX7_look 62 = .ok (.iload_n 3, 1) := by decide +kernel
theorem dX7_look_63 : decode cX7_look 63 = .ok (.iload 4, 2) := by decide +kernel
theorem dX7_look_65 : decode cX7_look 65 = .ok (.bipush 7, 2) := by decide +kernel
theorem dX7_look_67 : decode cX7_look 67 = .ok (.iand, 1) := by decide +kernel
theorem dX7_look_68 : decode cX7_look 68 = .ok (.iastore, 1) := by decide +kernel
theorem dX7_look_69 : decode cX7_look 69 = .ok (.iload 4, 2) := by decide +kernel
theorem dX7_look_71 : decode cX7_look 71 = .ok (.iconst 3, 1) := by decide +kernel
theorem dX7_look_72 : decode cX7_look 72 = .ok (.ishr, 1) := by decide +kernel
theorem dX7_look_73 : decode cX7_look 73 = .ok (.istore 4, 2) := by decide +kernel
theorem dX7_look_75 : decode cX7_look 75 = .ok (.iinc 5 1, 3) := by decide +kernel
theorem dX7_look_78 : decode cX7_look 78 = .ok (.goto (-41), 3) := by decide +kernel
theorem dX7_look_81 : decode cX7_look 81 = .ok (.iinc 3 1, 3) := by decide +kernel
theorem dX7_look_84 : decode cX7_look 84 = .ok (.goto (-82), 3) := by decide +kernel
theorem dX7_look_87 : decode cX7_look 87 = .ok (.return_, 1) := by decide +kernel
theorem zw_359 : (Jvm.Cond.fieldLink "HillSchool$Planner" (47 : Nat) "HillSchool$Planner" "tops" "[I") ∈ zall := zmemG (zmj_2 16 rfl) rfl
theorem zw_982 : (Jvm.Cond.code ({ cls := "HillSchool$Planner", name := "look", desc := "(J)V" } : Jvm.MethodName) prog_9_method_9_code (6 : Nat) (Option.none : Option Jvm.ClassFile.FieldType)) ∈ zall := zmemG (zmj_4 159 rfl) rfl
abbrev w_Planner_look : List Cond := .code yX7_look cX7_look 6 none :: zall
abbrev rm_Planner_look : Room := { frames := 0, cells := 0, slots := 0, locals := 0 }
theorem hd_Planner_look : yX7_look.cls = "HillSchool$Planner" ∧ yX7_look.cls ≠ "java/lang/invoke/MethodHandle" ∧ yX7_look.cls ≠ "java/lang/invoke/VarHandle" ∧ (parseMethodDescriptor yX7_look.desc).map (fun d => d.parameters.length) = some 1 := by decide +kernel
def wd_Planner_look (cA : Nat → ClassId) (q0 q1 q2 q3 q4 q5 q6 q7 q8 q9 q10 q11 q12 q13 : Nat) (u0 u1 u2 : Int)  (i_heights : Nat → Int) (i_tops : Nat → Int) : va_W := [(q0, .inr (7, [.ref q1, .ref q2, .ref q3, .ref q4, .ref q5, .ref q6, .ref q7, .ref q8, .ref q9, .ref q10, .ref q11, .ref q12, .ref q13, .int (Int32.ofInt u0), .int (Int32.ofInt u1), .int (Int32.ofInt u2)])), (q12, .inl (cA 0, 4, .inl (za i_heights))), (q13, .inl (cA 0, 4, .inl (za i_tops)))]
def wf_Planner_look (cA : Nat → ClassId) (q0 q1 q2 q3 q4 q5 q6 q7 q8 q9 q10 q11 q12 q13 : Nat) (u0 u1 u2 : Int)  (o : (Nat → Int) × (Nat → Int)) : va_W := wd_Planner_look cA q0 q1 q2 q3 q4 q5 q6 q7 q8 q9 q10 q11 q12 q13 u0 u1 u2 o.1 o.2
def f_Planner_look_81 (k2 : Int → Int → (Nat → Int) → (Nat → Int) → Option ((Nat → Int) × (Nat → Int))) (x1 : Int) (x3 : Int) (i_heights : Nat → Int) (i_tops : Nat → Int) : Option ((Nat → Int) × (Nat → Int)) :=
  zn (x3 + 1) fun v1 =>
  k2 x1 v1 i_heights i_tops
def f_Planner_look_37_b (k2 : Int → Int → (Nat → Int) → (Nat → Int) → Option ((Nat → Int) × (Nat → Int))) (k37 : Int → Int → Int → Int → (Nat → Int) → (Nat → Int) → Option ((Nat → Int) × (Nat → Int))) (x1 : Int) (x3 : Int) (x4 : Int) (x5 : Int) (i_heights : Nat → Int) (i_tops : Nat → Int) : Option ((Nat → Int) × (Nat → Int)) :=
  if zi_w 5 ≤ zi_w x5 then
    f_Planner_look_81 k2 x1 x3 i_heights i_tops
  else
    if zi_w x4 = 0 then
      f_Planner_look_81 k2 x1 x3 i_heights i_tops
    else
      zg 4 i_heights x3 fun v1 =>
      zn (v1 + 1) fun v2 =>
      zs 4 i_heights x3 v2 fun a3 =>
      zn (zi_and x4 7) fun v4 =>
      zs 4 i_tops x3 v4 fun a5 =>
      zn (zi_shr x4 3) fun v6 =>
      zn (x5 + 1) fun v7 =>
      k37 x1 x3 v6 v7 a3 a5
def f_Planner_look_37 (k2 : Int → Int → (Nat → Int) → (Nat → Int) → Option ((Nat → Int) × (Nat → Int))) : Nat → Int → Int → Int → Int → (Nat → Int) → (Nat → Int) → Option ((Nat → Int) × (Nat → Int))
  | 0 => fun _ _ _ _ _ _ => none
  | n + 1 => fun y0 y1 y2 y3 y4 y5 => f_Planner_look_37_b k2 (f_Planner_look_37 k2 n) y0 y1 y2 y3 y4 y5
def f_Planner_look_2_b  (k2 : Int → Int → (Nat → Int) → (Nat → Int) → Option ((Nat → Int) × (Nat → Int))) (x1 : Int) (x3 : Int) (i_heights : Nat → Int) (i_tops : Nat → Int) : Option ((Nat → Int) × (Nat → Int)) :=
  if zi_w 4 ≤ zi_w x3 then
    some (i_heights, i_tops)
  else
    zn (15 * x3) fun v1 =>
    zn (zl_ushr x1 v1) fun v2 =>
    zn (zi_and v2 32767) fun v3 =>
    zs 4 i_heights x3 0 fun a4 =>
    zs 4 i_tops x3 0 fun a5 =>
    f_Planner_look_37 k2 zfu x1 x3 v3 0 a4 a5
def f_Planner_look_2  : Nat → Int → Int → (Nat → Int) → (Nat → Int) → Option ((Nat → Int) × (Nat → Int))
  | 0 => fun _ _ _ _ => none
  | n + 1 => fun y0 y1 y2 y3 => f_Planner_look_2_b  (f_Planner_look_2  n) y0 y1 y2 y3
def f_Planner_look (x1 : Int) (i_heights : Nat → Int) (i_tops : Nat → Int) : Option ((Nat → Int) × (Nat → Int)) :=
  f_Planner_look_2 zfu x1 0 i_heights i_tops
set_option maxHeartbeats 4000000 in
set_option maxRecDepth 100000 in
theorem c_Planner_look (l : Launch) (ev : zEv) (dC : Nat → ClassId) (dI : Nat → Nat → Nat) (cA : Nat → ClassId) (q0 q1 q2 q3 q4 q5 q6 q7 q8 q9 q10 q11 q12 q13 : Nat) (u0 u1 u2 : Int) {x1 : Int} {i_heights : Nat → Int} {i_tops : Nat → Int} {out : (Nat → Int) × (Nat → Int)} (hf : f_Planner_look x1 i_heights i_tops = some out) : xc_V l ev (dC, dI) vwCl (tyl cA) yX7_look w_Planner_look rm_Planner_look [.ref q0, .long (Int64.ofInt x1)] (wd_Planner_look cA q0 q1 q2 q3 q4 q5 q6 q7 q8 q9 q10 q11 q12 q13 u0 u1 u2 i_heights i_tops) (wf_Planner_look cA q0 q1 q2 q3 q4 q5 q6 q7 q8 q9 q10 q11 q12 q13 u0 u1 u2 out) := by
  refine xv_startV (cc := cX7_look) (maxL := 6) (by decide +kernel) rfl (Nat.le_of_ble_eq_true rfl) ?_
  intro p e s m args below meth c A Q H ls hx hb hml hts hown hK hA hP hD hS hl hE hret
  have hown : s.vm.findClass "HillSchool$Planner" = some m.cls := hown
  have hz : ∀ w ∈ zall, w.before args s = true := fun w h => hts w (List.mem_cons_of_mem _ h)
  have hl : lv_has ls 6 [(0, .ref q0), (1, .long (Int64.ofInt x1))] := hl
  have b_81 : ∀ (k2 : Int → Int → (Nat → Int) → (Nat → Int) → Option ((Nat → Int) × (Nat → Int))) (_ : ∀ (x1 : Int) (x3 : Int) (i_heights : Nat → Int) (i_tops : Nat → Int) (H : Heap) (locs : List Loc) (ls : Array Slot), k2 x1 x3 i_heights i_tops = some out → va_P (dC, dI) vwCl (wd_Planner_look cA q0 q1 q2 q3 q4 q5 q6 q7 q8 q9 q10 q11 q12 q13 u0 u1 u2 i_heights i_tops) H → va_D A (wd_Planner_look cA q0 q1 q2 q3 q4 q5 q6 q7 q8 q9 q10 q11 q12 q13 u0 u1 u2 i_heights i_tops) → va_S A s.heap H locs → lv_has ls 6 [(0, .ref q0), (1, .long (Int64.ofInt x1)), (3, .int (Int32.ofInt x3))] → W p l e rm_Planner_look s m args below meth c H locs 0 0 Q (F0 m 2 ls [])), ∀ (x1 : Int) (x3 : Int) (i_heights : Nat → Int) (i_tops : Nat → Int) (H : Heap) (locs : List Loc) (ls : Array Slot), f_Planner_look_81 k2 x1 x3 i_heights i_tops = some out → va_P (dC, dI) vwCl (wd_Planner_look cA q0 q1 q2 q3 q4 q5 q6 q7 q8 q9 q10 q11 q12 q13 u0 u1 u2 i_heights i_tops) H → va_D A (wd_Planner_look cA q0 q1 q2 q3 q4 q5 q6 q7 q8 q9 q10 q11 q12 q13 u0 u1 u2 i_heights i_tops) → va_S A s.heap H locs → lv_has ls 6 [(0, .ref q0), (1, .long (Int64.ofInt x1)), (3, .int (Int32.ofInt x3))] → W p l e rm_Planner_look s m args below meth c H locs 0 0 Q (F0 m 81 ls []) := by
    intro k2 ih2 x1 x3 i_heights i_tops H locs ls hf hP hD hS hl
    unfold f_Planner_look_81 at hf
    refine xi_iinc hx hb dX7_look_81 hl (k := 2) rfl (by decide) hf (fun v1 ls hl hf => ?_)
    have hl : lv_has ls 6 [(3, .int (Int32.ofInt v1)), (0, .ref q0), (1, .long (Int64.ofInt x1))] := hl
    refine lv_goto (tgt := 2) hx hb dX7_look_84 (by decide) ?_
    exact ih2 _ _ _ _ _ _ _ hf hP hD hS (lv_sub hl [1, 2, 0] rfl)
  have b_37 : ∀ (k2 : Int → Int → (Nat → Int) → (Nat → Int) → Option ((Nat → Int) × (Nat → Int))) (_ : ∀ (x1 : Int) (x3 : Int) (i_heights : Nat → Int) (i_tops : Nat → Int) (H : Heap) (locs : List Loc) (ls : Array Slot), k2 x1 x3 i_heights i_tops = some out → va_P (dC, dI) vwCl (wd_Planner_look cA q0 q1 q2 q3 q4 q5 q6 q7 q8 q9 q10 q11 q12 q13 u0 u1 u2 i_heights i_tops) H → va_D A (wd_Planner_look cA q0 q1 q2 q3 q4 q5 q6 q7 q8 q9 q10 q11 q12 q13 u0 u1 u2 i_heights i_tops) → va_S A s.heap H locs → lv_has ls 6 [(0, .ref q0), (1, .long (Int64.ofInt x1)), (3, .int (Int32.ofInt x3))] → W p l e rm_Planner_look s m args below meth c H locs 0 0 Q (F0 m 2 ls [])), ∀ (k37 : Int → Int → Int → Int → (Nat → Int) → (Nat → Int) → Option ((Nat → Int) × (Nat → Int))) (_ : ∀ (x1 : Int) (x3 : Int) (x4 : Int) (x5 : Int) (i_heights : Nat → Int) (i_tops : Nat → Int) (H : Heap) (locs : List Loc) (ls : Array Slot), k37 x1 x3 x4 x5 i_heights i_tops = some out → va_P (dC, dI) vwCl (wd_Planner_look cA q0 q1 q2 q3 q4 q5 q6 q7 q8 q9 q10 q11 q12 q13 u0 u1 u2 i_heights i_tops) H → va_D A (wd_Planner_look cA q0 q1 q2 q3 q4 q5 q6 q7 q8 q9 q10 q11 q12 q13 u0 u1 u2 i_heights i_tops) → va_S A s.heap H locs → lv_has ls 6 [(0, .ref q0), (1, .long (Int64.ofInt x1)), (3, .int (Int32.ofInt x3)), (4, .int (Int32.ofInt x4)), (5, .int (Int32.ofInt x5))] → W p l e rm_Planner_look s m args below meth c H locs 0 0 Q (F0 m 37 ls [])), ∀ (x1 : Int) (x3 : Int) (x4 : Int) (x5 : Int) (i_heights : Nat → Int) (i_tops : Nat → Int) (H : Heap) (locs : List Loc) (ls : Array Slot), f_Planner_look_37_b k2 k37 x1 x3 x4 x5 i_heights i_tops = some out → va_P (dC, dI) vwCl (wd_Planner_look cA q0 q1 q2 q3 q4 q5 q6 q7 q8 q9 q10 q11 q12 q13 u0 u1 u2 i_heights i_tops) H → va_D A (wd_Planner_look cA q0 q1 q2 q3 q4 q5 q6 q7 q8 q9 q10 q11 q12 q13 u0 u1 u2 i_heights i_tops) → va_S A s.heap H locs → lv_has ls 6 [(0, .ref q0), (1, .long (Int64.ofInt x1)), (3, .int (Int32.ofInt x3)), (4, .int (Int32.ofInt x4)), (5, .int (Int32.ofInt x5))] → W p l e rm_Planner_look s m args below meth c H locs 0 0 Q (F0 m 37 ls []) := by
    intro k2 ih2 k37 ih37 x1 x3 x4 x5 i_heights i_tops H locs ls hf hP hD hS hl
    unfold f_Planner_look_37_b at hf
    refine lv_iload hx hb dX7_look_37 (lv_at hl 4 rfl) ?_
    refine lv_iconst (v := Int32.ofInt 5) hx hb dX7_look_39 rfl ?_
    refine xi_icmp_ge (tgt := 81) hx hb dX7_look_40 (by decide) hf (fun hf => ?_) (fun hf => ?_)
    · exact b_81 _ ih2 _ _ _ _ _ _ _ hf hP hD hS (lv_sub hl [0, 1, 2] rfl)
    · refine lv_iload hx hb dX7_look_43 (lv_at hl 3 rfl) ?_
      refine xi_if_eq (tgt := 81) hx hb dX7_look_45 (by decide) hf (fun hf => ?_) (fun hf => ?_)
      · exact b_81 _ ih2 _ _ _ _ _ _ _ hf hP hD hS (lv_sub hl [0, 1, 2] rfl)
      · refine lv_aload_n hx hb dX7_look_48 rfl (lv_at hl 0 rfl) ?_
        refine va_get (D := (dC, dI)) (ci := 7) (v := .ref q12) (C := RX7) (T := TX7) (N := 16) hx hb hz zi_X7 hown hK hP 0 rfl rfl 11 (by decide) (hz _ zw_358) (fun _ h9 => h9) rfl dX7_look_49 ?_
        refine lv_iload_n hx hb dX7_look_52 rfl (lv_at hl 2 rfl) ?_
        refine lv_dup2_11 hx hb dX7_look_53 rfl rfl ?_
        refine xi_iald hx hb hK hP 1 0 rfl rfl dX7_look_54 hf (fun v1 hf => ?_)
        refine lv_iconst (v := Int32.ofInt 1) hx hb dX7_look_55 rfl ?_
        refine xi_iadd hx hb dX7_look_56 hf (fun v2 hf => ?_)
        refine xi_iast hx hb hK hP hD hS 1 0 rfl rfl dX7_look_57 hf (fun a3 H locs hP hD hS hf => ?_)
        have hP : va_P (dC, dI) vwCl (wd_Planner_look cA q0 q1 q2 q3 q4 q5 q6 q7 q8 q9 q10 q11 q12 q13 u0 u1 u2 a3 i_tops) H := hP
        have hD : va_D A (wd_Planner_look cA q0 q1 q2 q3 q4 q5 q6 q7 q8 q9 q10 q11 q12 q13 u0 u1 u2 a3 i_tops) := hD
        refine lv_aload_n hx hb dX7_look_58 rfl (lv_at hl 0 rfl) ?_
        refine va_get (D := (dC, dI)) (ci := 7) (v := .ref q13) (C := RX7) (T := TX7) (N := 16) hx hb hz zi_X7 hown hK hP 0 rfl rfl 12 (by decide) (hz _ zw_359) (fun _ h9 => h9) rfl dX7_look_59 ?_
        refine lv_iload_n hx hb dX7_look_62 rfl (lv_at hl 2 rfl) ?_
        refine lv_iload hx hb dX7_look_63 (lv_at hl 3 rfl) ?_
        refine lv_bipush (v := Int32.ofInt 7) hx hb dX7_look_65 (by decide) ?_
        refine xi_iand hx hb dX7_look_67 hf (fun v4 hf => ?_)
        refine xi_iast hx hb hK hP hD hS 2 0 rfl rfl dX7_look_68 hf (fun a5 H locs hP hD hS hf => ?_)
        have hP : va_P (dC, dI) vwCl (wd_Planner_look cA q0 q1 q2 q3 q4 q5 q6 q7 q8 q9 q10 q11 q12 q13 u0 u1 u2 a3 a5) H := hP
        have hD : va_D A (wd_Planner_look cA q0 q1 q2 q3 q4 q5 q6 q7 q8 q9 q10 q11 q12 q13 u0 u1 u2 a3 a5) := hD
        refine lv_iload hx hb dX7_look_69 (lv_at hl 3 rfl) ?_
        refine lv_iconst (v := Int32.ofInt 3) hx hb dX7_look_71 rfl ?_
        refine xi_ishr hx hb dX7_look_72 hf (fun v6 hf => ?_)
        refine lv_istore (lv' := [(4, .int (Int32.ofInt v6)), (0, .ref q0), (1, .long (Int64.ofInt x1)), (3, .int (Int32.ofInt x3)), (5, .int (Int32.ofInt x5))]) hx hb dX7_look_73 hl (by decide) rfl (fun ls hl => ?_)
        refine xi_iinc hx hb dX7_look_75 hl (k := 4) rfl (by decide) hf (fun v7 ls hl hf => ?_)
        have hl : lv_has ls 6 [(5, .int (Int32.ofInt v7)), (4, .int (Int32.ofInt v6)), (0, .ref q0), (1, .long (Int64.ofInt x1)), (3, .int (Int32.ofInt x3))] := hl
        refine lv_goto (tgt := 37) hx hb dX7_look_78 (by decide) ?_
        exact ih37 _ _ _ _ _ _ _ _ _ hf hP hD hS (lv_sub hl [2, 3, 4, 1, 0] rfl)
  have l_37 : ∀ (k2 : Int → Int → (Nat → Int) → (Nat → Int) → Option ((Nat → Int) × (Nat → Int))) (_ : ∀ (x1 : Int) (x3 : Int) (i_heights : Nat → Int) (i_tops : Nat → Int) (H : Heap) (locs : List Loc) (ls : Array Slot), k2 x1 x3 i_heights i_tops = some out → va_P (dC, dI) vwCl (wd_Planner_look cA q0 q1 q2 q3 q4 q5 q6 q7 q8 q9 q10 q11 q12 q13 u0 u1 u2 i_heights i_tops) H → va_D A (wd_Planner_look cA q0 q1 q2 q3 q4 q5 q6 q7 q8 q9 q10 q11 q12 q13 u0 u1 u2 i_heights i_tops) → va_S A s.heap H locs → lv_has ls 6 [(0, .ref q0), (1, .long (Int64.ofInt x1)), (3, .int (Int32.ofInt x3))] → W p l e rm_Planner_look s m args below meth c H locs 0 0 Q (F0 m 2 ls [])), ∀ (n : Nat), ∀ (x1 : Int) (x3 : Int) (x4 : Int) (x5 : Int) (i_heights : Nat → Int) (i_tops : Nat → Int) (H : Heap) (locs : List Loc) (ls : Array Slot), f_Planner_look_37 k2 n x1 x3 x4 x5 i_heights i_tops = some out → va_P (dC, dI) vwCl (wd_Planner_look cA q0 q1 q2 q3 q4 q5 q6 q7 q8 q9 q10 q11 q12 q13 u0 u1 u2 i_heights i_tops) H → va_D A (wd_Planner_look cA q0 q1 q2 q3 q4 q5 q6 q7 q8 q9 q10 q11 q12 q13 u0 u1 u2 i_heights i_tops) → va_S A s.heap H locs → lv_has ls 6 [(0, .ref q0), (1, .long (Int64.ofInt x1)), (3, .int (Int32.ofInt x3)), (4, .int (Int32.ofInt x4)), (5, .int (Int32.ofInt x5))] → W p l e rm_Planner_look s m args below meth c H locs 0 0 Q (F0 m 37 ls []) := by
    intro k2 ih2 n
    induction n with
    | zero => intro x1 x3 x4 x5 i_heights i_tops H locs ls hf hP hD hS hl; exact nomatch hf
    | succ n ih => intro x1 x3 x4 x5 i_heights i_tops H locs ls hf hP hD hS hl; exact b_37 k2 ih2 (f_Planner_look_37 k2 n) ih x1 x3 x4 x5 i_heights i_tops H locs ls hf hP hD hS hl
  have b_2 : ∀ (k2 : Int → Int → (Nat → Int) → (Nat → Int) → Option ((Nat → Int) × (Nat → Int))) (_ : ∀ (x1 : Int) (x3 : Int) (i_heights : Nat → Int) (i_tops : Nat → Int) (H : Heap) (locs : List Loc) (ls : Array Slot), k2 x1 x3 i_heights i_tops = some out → va_P (dC, dI) vwCl (wd_Planner_look cA q0 q1 q2 q3 q4 q5 q6 q7 q8 q9 q10 q11 q12 q13 u0 u1 u2 i_heights i_tops) H → va_D A (wd_Planner_look cA q0 q1 q2 q3 q4 q5 q6 q7 q8 q9 q10 q11 q12 q13 u0 u1 u2 i_heights i_tops) → va_S A s.heap H locs → lv_has ls 6 [(0, .ref q0), (1, .long (Int64.ofInt x1)), (3, .int (Int32.ofInt x3))] → W p l e rm_Planner_look s m args below meth c H locs 0 0 Q (F0 m 2 ls [])), ∀ (x1 : Int) (x3 : Int) (i_heights : Nat → Int) (i_tops : Nat → Int) (H : Heap) (locs : List Loc) (ls : Array Slot), f_Planner_look_2_b k2 x1 x3 i_heights i_tops = some out → va_P (dC, dI) vwCl (wd_Planner_look cA q0 q1 q2 q3 q4 q5 q6 q7 q8 q9 q10 q11 q12 q13 u0 u1 u2 i_heights i_tops) H → va_D A (wd_Planner_look cA q0 q1 q2 q3 q4 q5 q6 q7 q8 q9 q10 q11 q12 q13 u0 u1 u2 i_heights i_tops) → va_S A s.heap H locs → lv_has ls 6 [(0, .ref q0), (1, .long (Int64.ofInt x1)), (3, .int (Int32.ofInt x3))] → W p l e rm_Planner_look s m args below meth c H locs 0 0 Q (F0 m 2 ls []) := by
    intro k2 ih2 x1 x3 i_heights i_tops H locs ls hf hP hD hS hl
    unfold f_Planner_look_2_b at hf
    refine lv_iload_n hx hb dX7_look_2 rfl (lv_at hl 2 rfl) ?_
    refine lv_iconst (v := Int32.ofInt 4) hx hb dX7_look_3 rfl ?_
    refine xi_icmp_ge (tgt := 87) hx hb dX7_look_4 (by decide) hf (fun hf => ?_) (fun hf => ?_)
    · obtain rfl := Option.some.inj hf
      exact hret _ _ _ _ dX7_look_87 hP hD hS
    · refine lv_lload_n hx hb dX7_look_7 rfl (lv_at hl 1 rfl) ?_
      refine lv_bipush (v := Int32.ofInt 15) hx hb dX7_look_8 (by decide) ?_
      refine lv_iload_n hx hb dX7_look_10 rfl (lv_at hl 2 rfl) ?_
      refine xi_imul hx hb dX7_look_11 hf (fun v1 hf => ?_)
      refine xl_lushr hx hb dX7_look_12 hf (fun v2 hf => ?_)
      refine xl_l2i hx hb dX7_look_13 ?_
      refine lv_sipush (v := Int32.ofInt 32767) hx hb dX7_look_14 (by decide) ?_
      refine xi_iand hx hb dX7_look_17 hf (fun v3 hf => ?_)
      refine lv_istore (lv' := [(4, .int (Int32.ofInt v3)), (0, .ref q0), (1, .long (Int64.ofInt x1)), (3, .int (Int32.ofInt x3))]) hx hb dX7_look_18 hl (by decide) rfl (fun ls hl => ?_)
      refine lv_aload_n hx hb dX7_look_20 rfl (lv_at hl 1 rfl) ?_
      refine va_get (D := (dC, dI)) (ci := 7) (v := .ref q12) (C := RX7) (T := TX7) (N := 16) hx hb hz zi_X7 hown hK hP 0 rfl rfl 11 (by decide) (hz _ zw_358) (fun _ h9 => h9) rfl dX7_look_21 ?_
      refine lv_iload_n hx hb dX7_look_24 rfl (lv_at hl 3 rfl) ?_
      refine lv_iconst (v := Int32.ofInt 0) hx hb dX7_look_25 rfl ?_
      refine xi_iast hx hb hK hP hD hS 1 0 rfl rfl dX7_look_26 hf (fun a4 H locs hP hD hS hf => ?_)
      have hP : va_P (dC, dI) vwCl (wd_Planner_look cA q0 q1 q2 q3 q4 q5 q6 q7 q8 q9 q10 q11 q12 q13 u0 u1 u2 a4 i_tops) H := hP
      have hD : va_D A (wd_Planner_look cA q0 q1 q2 q3 q4 q5 q6 q7 q8 q9 q10 q11 q12 q13 u0 u1 u2 a4 i_tops) := hD
      refine lv_aload_n hx hb dX7_look_27 rfl (lv_at hl 1 rfl) ?_
      refine va_get (D := (dC, dI)) (ci := 7) (v := .ref q13) (C := RX7) (T := TX7) (N := 16) hx hb hz zi_X7 hown hK hP 0 rfl rfl 12 (by decide) (hz _ zw_359) (fun _ h9 => h9) rfl dX7_look_28 ?_
      refine lv_iload_n hx hb dX7_look_31 rfl (lv_at hl 3 rfl) ?_
      refine lv_iconst (v := Int32.ofInt 0) hx hb dX7_look_32 rfl ?_
      refine xi_iast hx hb hK hP hD hS 2 0 rfl rfl dX7_look_33 hf (fun a5 H locs hP hD hS hf => ?_)
      have hP : va_P (dC, dI) vwCl (wd_Planner_look cA q0 q1 q2 q3 q4 q5 q6 q7 q8 q9 q10 q11 q12 q13 u0 u1 u2 a4 a5) H := hP
      have hD : va_D A (wd_Planner_look cA q0 q1 q2 q3 q4 q5 q6 q7 q8 q9 q10 q11 q12 q13 u0 u1 u2 a4 a5) := hD
      refine lv_iconst (v := Int32.ofInt 0) hx hb dX7_look_34 rfl ?_
      refine lv_istore (lv' := [(5, .int (Int32.ofInt 0)), (4, .int (Int32.ofInt v3)), (0, .ref q0), (1, .long (Int64.ofInt x1)), (3, .int (Int32.ofInt x3))]) hx hb dX7_look_35 hl (by decide) rfl (fun ls hl => ?_)
      exact l_37 _ ih2 _ _ _ _ _ _ _ _ _ _ hf hP hD hS (lv_sub hl [2, 3, 4, 1, 0] rfl)
  have l_2 : ∀ (n : Nat), ∀ (x1 : Int) (x3 : Int) (i_heights : Nat → Int) (i_tops : Nat → Int) (H : Heap) (locs : List Loc) (ls : Array Slot), f_Planner_look_2 n x1 x3 i_heights i_tops = some out → va_P (dC, dI) vwCl (wd_Planner_look cA q0 q1 q2 q3 q4 q5 q6 q7 q8 q9 q10 q11 q12 q13 u0 u1 u2 i_heights i_tops) H → va_D A (wd_Planner_look cA q0 q1 q2 q3 q4 q5 q6 q7 q8 q9 q10 q11 q12 q13 u0 u1 u2 i_heights i_tops) → va_S A s.heap H locs → lv_has ls 6 [(0, .ref q0), (1, .long (Int64.ofInt x1)), (3, .int (Int32.ofInt x3))] → W p l e rm_Planner_look s m args below meth c H locs 0 0 Q (F0 m 2 ls []) := by
    intro n
    induction n with
    | zero => intro x1 x3 i_heights i_tops H locs ls hf hP hD hS hl; exact nomatch hf
    | succ n ih => intro x1 x3 i_heights i_tops H locs ls hf hP hD hS hl; exact b_2 (f_Planner_look_2 n) ih x1 x3 i_heights i_tops H locs ls hf hP hD hS hl
  unfold f_Planner_look at hf
  refine lv_iconst (v := Int32.ofInt 0) hx hb dX7_look_0 rfl ?_
  refine lv_istore_n (lv' := [(3, .int (Int32.ofInt 0)), (0, .ref q0), (1, .long (Int64.ofInt x1))]) hx hb dX7_look_1 rfl hl (by decide) rfl (fun ls hl => ?_)
  exact l_2  _ _ _ _ _ _ _ _ hf hP hD hS (lv_sub hl [1, 2, 0] rfl)
theorem dX7_isSafe_0 : decode cX7_isSafe 0 = .ok (.aload_n 0, 1) := by decide +kernel
theorem dX7_isSafe_1 : decode cX7_isSafe 1 = .ok (.getfield 44, 3) := by decide +kernel
theorem dX7_isSafe_4 : decode cX7_isSafe 4 = .ok (.iload_n 1, 1) := by decide +kernel
theorem dX7_isSafe_5 : decode cX7_isSafe 5 = .ok (.dup2, 1) := by decide +kernel
theorem dX7_isSafe_6 : decode cX7_isSafe 6 = .ok (.iaload, 1) := by decide +kernel
theorem dX7_isSafe_7 : decode cX7_isSafe 7 = .ok (.iconst 1, 1) := by decide +kernel
theorem dX7_isSafe_8 : decode cX7_isSafe 8 = .ok (.isub, 1) := by decide +kernel
theorem dX7_isSafe_9 : decode cX7_isSafe 9 = .ok (.iastore, 1) := by decide +kernel
theorem dX7_isSafe_10 : decode cX7_isSafe 10 = .ok (.aload_n 0, 1) := by decide +kernel
theorem dX7_isSafe_11 : decode cX7_isSafe 11 = .ok (.getfield 44, 3) := by decide +kernel
theorem dX7_isSafe_14 : decode cX7_isSafe 14 = .ok (.iload_n 2, 1) := by decide +kernel
theorem dX7_isSafe_15 : decode cX7_isSafe 15 = .ok (.dup2, 1) := by decide +kernel
theorem dX7_isSafe_16 : decode cX7_isSafe 16 = .ok (.iaload, 1) := by decide +kernel
theorem dX7_isSafe_17 : decode cX7_isSafe 17 = .ok (.iconst 1, 1) := by decide +kernel
theorem dX7_isSafe_18 : decode cX7_isSafe 18 = .ok (.iadd, 1) := by decide +kernel
theorem dX7_isSafe_19 : decode cX7_isSafe 19 = .ok (.iastore, 1) := by decide +kernel
theorem dX7_isSafe_20 : decode cX7_isSafe 20 = .ok (.iconst 1, 1) := by decide +kernel
theorem dX7_isSafe_21 : decode cX7_isSafe 21 = .ok (.istore 4, 2) := by decide +kernel
theorem dX7_isSafe_23 : decode cX7_isSafe 23 = .ok (.iconst 1, 1) := by decide +kernel
theorem dX7_isSafe_24 : decode cX7_isSafe 24 = .ok (.istore 5, 2) := by decide +kernel
theorem dX7_isSafe_26 : decode cX7_isSafe 26 = .ok (.iload 5, 2) := by decide +kernel
theorem dX7_isSafe_28 : decode cX7_isSafe 28 = .ok (.iload_n 3, 1) := by decide +kernel
theorem dX7_isSafe_29 : decode cX7_isSafe 29 = .ok (.if_icmp .ge 53, 3) := by decide +kernel
theorem dX7_isSafe_32 : decode cX7_isSafe 32 = .ok (.iload 4, 2) := by decide +kernel
theorem dX7_isSafe_34 : decode cX7_isSafe 34 = .ok (.ifCond .eq 39, 3) := by decide +kernel
theorem dX7_isSafe_37 : decode cX7_isSafe 37 = .ok (.aload_n 0, 1) := by decide +kernel
theorem dX7_isSafe_38 : decode cX7_isSafe 38 = .ok (.getfield 44, 3) := by decide +kernel
theorem dX7_isSafe_41 : decode cX7_isSafe 41 = .ok (.iload 5, 2) := by decide +kernel
theorem dX7_isSafe_43 : decode cX7_isSafe 43 = .ok (.iaload, 1) := by decide +kernel
theorem dX7_isSafe_44 : decode cX7_isSafe 44 = .ok (.aload_n 0, 1) := by decide +kernel
theorem dX7_isSafe_45 : decode cX7_isSafe 45 = .ok (.getfield 44, 3) := by decide +kernel
theorem dX7_isSafe_48 : decode cX7_isSafe 48 = .ok (.iload 5, 2) := by decide +kernel
theorem dX7_isSafe_50 : decode cX7_isSafe 50 = .ok (.iconst 1, 1) := by decide +kernel
theorem dX7_isSafe_51 : decode cX7_isSafe 51 = .ok (.isub, 1) := by decide +kernel
theorem dX7_isSafe_52 : decode cX7_isSafe 52 = .ok (.iaload, 1) := by decide +kernel
theorem dX7_isSafe_53 : decode cX7_isSafe 53 = .ok (.isub, 1) := by decide +kernel
theorem dX7_isSafe_54 : decode cX7_isSafe 54 = .ok (.invokestatic 189, 3) := by decide +kernel
theorem dX7_isSafe_57 : decode cX7_isSafe 57 = .ok (.aload_n 0, 1) := by decide +kernel
theorem dX7_isSafe_58 : decode cX7_isSafe 58 = .ok (.getfield 50, 3) := by decide +kernel
theorem dX7_isSafe_61 : decode cX7_isSafe 61 = .ok (.getfield 192, 3) := by decide +kernel
theorem dX7_isSafe_64 : decode cX7_isSafe 64 = .ok (.iconst 2, 1) := by decide +kernel
theorem dX7_isSafe_65 : decode cX7_isSafe 65 = .ok (.iaload, 1) := by decide +kernel
theorem dX7_isSafe_66 : decode cX7_isSafe 66 = .ok (.if_icmp .gt 7, 3) := by decide +kernel
theorem dX7_isSafe_69 : decode cX7_isSafe 69 = .ok (.iconst 1, 1) := by decide +kernel
theorem dX7_isSafe_70 : decode cX7_isSafe 70 = .ok (.goto 4, 3) := by decide +kernel
theorem dX7_isSafe_73 : decode cX7_isSafe 73 = .ok (.iconst 0, 1) := by decide +kernel
theorem dX7_isSafe_74 : decode cX7_isSafe 74 = .ok (.istore 4, 2) := by decide +kernel
theorem dX7_isSafe_76 : decode cX7_isSafe 76 = .ok (.iinc 5 1, 3) := by decide +kernel
theorem dX7_isSafe_79 : decode cX7_isSafe 79 = .ok (.goto (-53), 3) := by decide +kernel
theorem dX7_isSafe_82 : decode cX7_isSafe 82 = .ok (.aload_n 0, 1) := by decide +kernel
theorem dX7_isSafe_83 : decode cX7_isSafe 83 = .ok (.getfield 44, 3) := by decide +kernel
theorem dX7_isSafe_86 : decode cX7_isSafe 86 = .ok (.iload_n 1, 1) := by decide +kernel
theorem dX7_isSafe_87 : decode cX7_isSafe 87 = .ok (.dup2, 1) := by decide +kernel
theorem dX7_isSafe_88 : decode cX7_isSafe 88 = .ok (.iaload, 1) := by decide +kernel
theorem dX7_isSafe_89 : decode cX7_isSafe 89 = .ok (.iconst 1, 1) := by decide +kernel
theorem dX7_isSafe_90 : decode cX7_isSafe 90 = .ok (.iadd, 1) := by decide +kernel
theorem dX7_isSafe_91 : decode cX7_isSafe 91 = .ok (.iastore, 1) := by decide +kernel
theorem dX7_isSafe_92 : decode cX7_isSafe 92 = .ok (.aload_n 0, 1) := by decide +kernel
theorem dX7_isSafe_93 : decode cX7_isSafe 93 = .ok (.getfield 44, 3) := by decide +kernel
theorem dX7_isSafe_96 : decode cX7_isSafe 96 = .ok (.iload_n 2, 1) := by decide +kernel
theorem dX7_isSafe_97 : decode cX7_isSafe 97 = .ok (.dup2, 1) := by decide +kernel
theorem dX7_isSafe_98 : decode cX7_isSafe 98 = .ok (.iaload, 1) := by decide +kernel
theorem dX7_isSafe_99 : decode cX7_isSafe 99 = .ok (.iconst 1, 1) := by decide +kernel
theorem dX7_isSafe_100 : decode cX7_isSafe 100 = .ok (.isub, 1) := by decide +kernel
theorem dX7_isSafe_101 : decode cX7_isSafe 101 = .ok (.iastore, 1) := by decide +kernel
theorem dX7_isSafe_102 : decode cX7_isSafe 102 = .ok (.iload 4, 2) := by decide +kernel
theorem dX7_isSafe_104 : decode cX7_isSafe 104 = .ok (.ireturn, 1) := by decide +kernel
theorem zw_192 : (Jvm.Cond.fieldLinkNest "HillSchool$Planner" (192 : Nat) "HillSchool$Hill" "terms" "[I" "HillSchool") ∈ znest := zmemH (zmj_1 89 rfl) rfl
theorem zw_1003 : (Jvm.Cond.code ({ cls := "HillSchool$Planner", name := "isSafe", desc := "(III)Z" } : Jvm.MethodName) prog_9_method_12_code (6 : Nat) (Option.some Jvm.ClassFile.FieldType.boolean)) ∈ zall := zmemG (zmj_4 180 rfl) rfl
theorem zw_1004 : (Jvm.Cond.methodLink "HillSchool$Planner" (189 : Nat) ({ cls := "java/lang/Math", name := "abs", desc := "(I)I" } : Jvm.MethodName)) ∈ zall := zmemG (zmj_4 181 rfl) rfl
abbrev w_Planner_isSafe : List Cond := .code yX7_isSafe cX7_isSafe 6 (some .boolean) :: zall
abbrev rm_Planner_isSafe : Room := { frames := 2, cells := 0, slots := 0, locals := 60 }
theorem hd_Planner_isSafe : yX7_isSafe.cls = "HillSchool$Planner" ∧ yX7_isSafe.cls ≠ "java/lang/invoke/MethodHandle" ∧ yX7_isSafe.cls ≠ "java/lang/invoke/VarHandle" ∧ (parseMethodDescriptor yX7_isSafe.desc).map (fun d => d.parameters.length) = some 3 := by decide +kernel
def wd_Planner_isSafe (cA : Nat → ClassId) (q0 q1 q2 q3 q4 q5 q6 q7 q8 q9 q10 q11 q12 q13 q14 q15 q16 q17 q18 q19 q20 q21 q22 : Nat) (u0 u1 u2 u3 u4 u5 u6 u7 : Int) (i_hill_terms : Nat → Int) (i_heights : Nat → Int) : va_W := [(q0, .inr (7, [.ref q1, .ref q2, .ref q3, .ref q4, .ref q5, .ref q6, .ref q7, .ref q8, .ref q9, .ref q10, .ref q11, .ref q12, .ref q13, .int (Int32.ofInt u0), .int (Int32.ofInt u1), .int (Int32.ofInt u2)])), (q1, .inr (2, [.ref q14, .int (Int32.ofInt u3), .ref q15, .ref q16, .ref q17, .int (Int32.ofInt u4), .ref q18, .ref q19, .ref q20, .int (Int32.ofInt u5), .ref q21, .ref q22, .int (Int32.ofInt u6), .int (Int32.ofInt u7)])), (q12, .inl (cA 0, 4, .inl (za i_heights))), (q19, .inl (cA 0, 4, .inl (za i_hill_terms)))]
def wf_Planner_isSafe (cA : Nat → ClassId) (q0 q1 q2 q3 q4 q5 q6 q7 q8 q9 q10 q11 q12 q13 q14 q15 q16 q17 q18 q19 q20 q21 q22 : Nat) (u0 u1 u2 u3 u4 u5 u6 u7 : Int) (i_hill_terms : Nat → Int) (o : Int × (Nat → Int)) : va_W := wd_Planner_isSafe cA q0 q1 q2 q3 q4 q5 q6 q7 q8 q9 q10 q11 q12 q13 q14 q15 q16 q17 q18 q19 q20 q21 q22 u0 u1 u2 u3 u4 u5 u6 u7 i_hill_terms o.2
def f_Planner_isSafe_74 (i_hill_terms : Nat → Int) (k26 : Int → Int → Int → Int → Int → (Nat → Int) → Option (Int × (Nat → Int))) (x1 : Int) (x2 : Int) (x3 : Int) (x5 : Int) (s0 : Int) (i_heights : Nat → Int) : Option (Int × (Nat → Int)) :=
  zn (x5 + 1) fun v1 =>
  k26 x1 x2 x3 s0 v1 i_heights
def f_Planner_isSafe_73 (i_hill_terms : Nat → Int) (k26 : Int → Int → Int → Int → Int → (Nat → Int) → Option (Int × (Nat → Int))) (x1 : Int) (x2 : Int) (x3 : Int) (x5 : Int) (i_heights : Nat → Int) : Option (Int × (Nat → Int)) :=
  f_Planner_isSafe_74 i_hill_terms k26 x1 x2 x3 x5 0 i_heights
def f_Planner_isSafe_26_b (i_hill_terms : Nat → Int) (k26 : Int → Int → Int → Int → Int → (Nat → Int) → Option (Int × (Nat → Int))) (x1 : Int) (x2 : Int) (x3 : Int) (x4 : Int) (x5 : Int) (i_heights : Nat → Int) : Option (Int × (Nat → Int)) :=
  if zi_w x3 ≤ zi_w x5 then
    zg 4 i_heights x1 fun v1 =>
    zn (v1 + 1) fun v2 =>
    zs 4 i_heights x1 v2 fun a3 =>
    zg 4 a3 x2 fun v4 =>
    zn (v4 - 1) fun v5 =>
    zs 4 a3 x2 v5 fun a6 =>
    if ¬ (zi_w x4 = 0 ∨ zi_w x4 = 1) then none else
    some (x4, a6)
  else
    if zi_w x4 = 0 then
      f_Planner_isSafe_73 i_hill_terms k26 x1 x2 x3 x5 i_heights
    else
      zg 4 i_heights x5 fun v7 =>
      zn (x5 - 1) fun v8 =>
      zg 4 i_heights v8 fun v9 =>
      zn (v7 - v9) fun v10 =>
      zn (zi_abs v10) fun v11 =>
      zg 4 i_hill_terms 2 fun v12 =>
      if zi_w v12 < zi_w v11 then
        f_Planner_isSafe_73 i_hill_terms k26 x1 x2 x3 x5 i_heights
      else
        f_Planner_isSafe_74 i_hill_terms k26 x1 x2 x3 x5 1 i_heights
def f_Planner_isSafe_26 (i_hill_terms : Nat → Int) : Nat → Int → Int → Int → Int → Int → (Nat → Int) → Option (Int × (Nat → Int))
  | 0 => fun _ _ _ _ _ _ => none
  | n + 1 => fun y0 y1 y2 y3 y4 y5 => f_Planner_isSafe_26_b i_hill_terms (f_Planner_isSafe_26 i_hill_terms n) y0 y1 y2 y3 y4 y5
def f_Planner_isSafe (x1 : Int) (x2 : Int) (x3 : Int) (i_hill_terms : Nat → Int) (i_heights : Nat → Int) : Option (Int × (Nat → Int)) :=
  zg 4 i_heights x1 fun v1 =>
  zn (v1 - 1) fun v2 =>
  zs 4 i_heights x1 v2 fun a3 =>
  zg 4 a3 x2 fun v4 =>
  zn (v4 + 1) fun v5 =>
  zs 4 a3 x2 v5 fun a6 =>
  f_Planner_isSafe_26 i_hill_terms zfu x1 x2 x3 1 1 a6
set_option maxHeartbeats 4000000 in
set_option maxRecDepth 100000 in
theorem c_Planner_isSafe (l : Launch) (ev : zEv) (dC : Nat → ClassId) (dI : Nat → Nat → Nat) (cA : Nat → ClassId) (q0 q1 q2 q3 q4 q5 q6 q7 q8 q9 q10 q11 q12 q13 q14 q15 q16 q17 q18 q19 q20 q21 q22 : Nat) (u0 u1 u2 u3 u4 u5 u6 u7 : Int) {x1 x2 x3 : Int} {i_hill_terms : Nat → Int} {i_heights : Nat → Int} {out : Int × (Nat → Int)} (hf : f_Planner_isSafe x1 x2 x3 i_hill_terms i_heights = some out) : xc_I l ev (dC, dI) vwCl (tyl cA) yX7_isSafe w_Planner_isSafe rm_Planner_isSafe [.ref q0, .int (Int32.ofInt x1), .int (Int32.ofInt x2), .int (Int32.ofInt x3)] (wd_Planner_isSafe cA q0 q1 q2 q3 q4 q5 q6 q7 q8 q9 q10 q11 q12 q13 q14 q15 q16 q17 q18 q19 q20 q21 q22 u0 u1 u2 u3 u4 u5 u6 u7 i_hill_terms i_heights) (wf_Planner_isSafe cA q0 q1 q2 q3 q4 q5 q6 q7 q8 q9 q10 q11 q12 q13 q14 q15 q16 q17 q18 q19 q20 q21 q22 u0 u1 u2 u3 u4 u5 u6 u7 i_hill_terms out) out.1 := by
  refine xv_startI (cc := cX7_isSafe) (maxL := 6) (rt := .boolean) (by decide +kernel) rfl (Nat.le_of_ble_eq_true rfl) ?_
  intro p e s m args below meth c A Q H ls hx hb hml hts hown hK hA hP hD hS hl hE hret
  have hown : s.vm.findClass "HillSchool$Planner" = some m.cls := hown
  have hz : ∀ w ∈ zall, w.before args s = true := fun w h => hts w (List.mem_cons_of_mem _ h)
  have hl : lv_has ls 6 [(0, .ref q0), (1, .int (Int32.ofInt x1)), (2, .int (Int32.ofInt x2)), (3, .int (Int32.ofInt x3))] := hl
  have b_74 : ∀ (k26 : Int → Int → Int → Int → Int → (Nat → Int) → Option (Int × (Nat → Int))) (_ : ∀ (x1 : Int) (x2 : Int) (x3 : Int) (x4 : Int) (x5 : Int) (i_heights : Nat → Int) (H : Heap) (locs : List Loc) (ls : Array Slot), k26 x1 x2 x3 x4 x5 i_heights = some out → va_P (dC, dI) vwCl (wd_Planner_isSafe cA q0 q1 q2 q3 q4 q5 q6 q7 q8 q9 q10 q11 q12 q13 q14 q15 q16 q17 q18 q19 q20 q21 q22 u0 u1 u2 u3 u4 u5 u6 u7 i_hill_terms i_heights) H → va_D A (wd_Planner_isSafe cA q0 q1 q2 q3 q4 q5 q6 q7 q8 q9 q10 q11 q12 q13 q14 q15 q16 q17 q18 q19 q20 q21 q22 u0 u1 u2 u3 u4 u5 u6 u7 i_hill_terms i_heights) → va_S A s.heap H locs → lv_has ls 6 [(0, .ref q0), (1, .int (Int32.ofInt x1)), (2, .int (Int32.ofInt x2)), (3, .int (Int32.ofInt x3)), (4, .int (Int32.ofInt x4)), (5, .int (Int32.ofInt x5))] → W p l e rm_Planner_isSafe s m args below meth c H locs 0 0 Q (F0 m 26 ls [])), ∀ (x1 : Int) (x2 : Int) (x3 : Int) (x5 : Int) (s0 : Int) (i_heights : Nat → Int) (H : Heap) (locs : List Loc) (ls : Array Slot), f_Planner_isSafe_74 i_hill_terms k26 x1 x2 x3 x5 s0 i_heights = some out → va_P (dC, dI) vwCl (wd_Planner_isSafe cA q0 q1 q2 q3 q4 q5 q6 q7 q8 q9 q10 q11 q12 q13 q14 q15 q16 q17 q18 q19 q20 q21 q22 u0 u1 u2 u3 u4 u5 u6 u7 i_hill_terms i_heights) H → va_D A (wd_Planner_isSafe cA q0 q1 q2 q3 q4 q5 q6 q7 q8 q9 q10 q11 q12 q13 q14 q15 q16 q17 q18 q19 q20 q21 q22 u0 u1 u2 u3 u4 u5 u6 u7 i_hill_terms i_heights) → va_S A s.heap H locs → lv_has ls 6 [(0, .ref q0), (1, .int (Int32.ofInt x1)), (2, .int (Int32.ofInt x2)), (3, .int (Int32.ofInt x3)), (5, .int (Int32.ofInt x5))] → W p l e rm_Planner_isSafe s m args below meth c H locs 0 0 Q (F0 m 74 ls [.int (Int32.ofInt s0)]) := by
    intro k26 ih26 x1 x2 x3 x5 s0 i_heights H locs ls hf hP hD hS hl
    unfold f_Planner_isSafe_74 at hf
    refine lv_istore (lv' := [(4, .int (Int32.ofInt s0)), (0, .ref q0), (1, .int (Int32.ofInt x1)), (2, .int (Int32.ofInt x2)), (3, .int (Int32.ofInt x3)), (5, .int (Int32.ofInt x5))]) hx hb dX7_isSafe_74 hl (by decide) rfl (fun ls hl => ?_)
    refine xi_iinc hx hb dX7_isSafe_76 hl (k := 5) rfl (by decide) hf (fun v1 ls hl hf => ?_)
    have hl : lv_has ls 6 [(5, .int (Int32.ofInt v1)), (4, .int (Int32.ofInt s0)), (0, .ref q0), (1, .int (Int32.ofInt x1)), (2, .int (Int32.ofInt x2)), (3, .int (Int32.ofInt x3))] := hl
    refine lv_goto (tgt := 26) hx hb dX7_isSafe_79 (by decide) ?_
    exact ih26 _ _ _ _ _ _ _ _ _ hf hP hD hS (lv_sub hl [2, 3, 4, 5, 1, 0] rfl)
  have b_73 : ∀ (k26 : Int → Int → Int → Int → Int → (Nat → Int) → Option (Int × (Nat → Int))) (_ : ∀ (x1 : Int) (x2 : Int) (x3 : Int) (x4 : Int) (x5 : Int) (i_heights : Nat → Int) (H : Heap) (locs : List Loc) (ls : Array Slot), k26 x1 x2 x3 x4 x5 i_heights = some out → va_P (dC, dI) vwCl (wd_Planner_isSafe cA q0 q1 q2 q3 q4 q5 q6 q7 q8 q9 q10 q11 q12 q13 q14 q15 q16 q17 q18 q19 q20 q21 q22 u0 u1 u2 u3 u4 u5 u6 u7 i_hill_terms i_heights) H → va_D A (wd_Planner_isSafe cA q0 q1 q2 q3 q4 q5 q6 q7 q8 q9 q10 q11 q12 q13 q14 q15 q16 q17 q18 q19 q20 q21 q22 u0 u1 u2 u3 u4 u5 u6 u7 i_hill_terms i_heights) → va_S A s.heap H locs → lv_has ls 6 [(0, .ref q0), (1, .int (Int32.ofInt x1)), (2, .int (Int32.ofInt x2)), (3, .int (Int32.ofInt x3)), (4, .int (Int32.ofInt x4)), (5, .int (Int32.ofInt x5))] → W p l e rm_Planner_isSafe s m args below meth c H locs 0 0 Q (F0 m 26 ls [])), ∀ (x1 : Int) (x2 : Int) (x3 : Int) (x5 : Int) (i_heights : Nat → Int) (H : Heap) (locs : List Loc) (ls : Array Slot), f_Planner_isSafe_73 i_hill_terms k26 x1 x2 x3 x5 i_heights = some out → va_P (dC, dI) vwCl (wd_Planner_isSafe cA q0 q1 q2 q3 q4 q5 q6 q7 q8 q9 q10 q11 q12 q13 q14 q15 q16 q17 q18 q19 q20 q21 q22 u0 u1 u2 u3 u4 u5 u6 u7 i_hill_terms i_heights) H → va_D A (wd_Planner_isSafe cA q0 q1 q2 q3 q4 q5 q6 q7 q8 q9 q10 q11 q12 q13 q14 q15 q16 q17 q18 q19 q20 q21 q22 u0 u1 u2 u3 u4 u5 u6 u7 i_hill_terms i_heights) → va_S A s.heap H locs → lv_has ls 6 [(0, .ref q0), (1, .int (Int32.ofInt x1)), (2, .int (Int32.ofInt x2)), (3, .int (Int32.ofInt x3)), (5, .int (Int32.ofInt x5))] → W p l e rm_Planner_isSafe s m args below meth c H locs 0 0 Q (F0 m 73 ls []) := by
    intro k26 ih26 x1 x2 x3 x5 i_heights H locs ls hf hP hD hS hl
    unfold f_Planner_isSafe_73 at hf
    refine lv_iconst (v := Int32.ofInt 0) hx hb dX7_isSafe_73 rfl ?_
    exact b_74 _ ih26 _ _ _ _ _ _ _ _ _ hf hP hD hS (lv_sub hl [0, 1, 2, 3, 4] rfl)
  have b_26 : ∀ (k26 : Int → Int → Int → Int → Int → (Nat → Int) → Option (Int × (Nat → Int))) (_ : ∀ (x1 : Int) (x2 : Int) (x3 : Int) (x4 : Int) (x5 : Int) (i_heights : Nat → Int) (H : Heap) (locs : List Loc) (ls : Array Slot), k26 x1 x2 x3 x4 x5 i_heights = some out → va_P (dC, dI) vwCl (wd_Planner_isSafe cA q0 q1 q2 q3 q4 q5 q6 q7 q8 q9 q10 q11 q12 q13 q14 q15 q16 q17 q18 q19 q20 q21 q22 u0 u1 u2 u3 u4 u5 u6 u7 i_hill_terms i_heights) H → va_D A (wd_Planner_isSafe cA q0 q1 q2 q3 q4 q5 q6 q7 q8 q9 q10 q11 q12 q13 q14 q15 q16 q17 q18 q19 q20 q21 q22 u0 u1 u2 u3 u4 u5 u6 u7 i_hill_terms i_heights) → va_S A s.heap H locs → lv_has ls 6 [(0, .ref q0), (1, .int (Int32.ofInt x1)), (2, .int (Int32.ofInt x2)), (3, .int (Int32.ofInt x3)), (4, .int (Int32.ofInt x4)), (5, .int (Int32.ofInt x5))] → W p l e rm_Planner_isSafe s m args below meth c H locs 0 0 Q (F0 m 26 ls [])), ∀ (x1 : Int) (x2 : Int) (x3 : Int) (x4 : Int) (x5 : Int) (i_heights : Nat → Int) (H : Heap) (locs : List Loc) (ls : Array Slot), f_Planner_isSafe_26_b i_hill_terms k26 x1 x2 x3 x4 x5 i_heights = some out → va_P (dC, dI) vwCl (wd_Planner_isSafe cA q0 q1 q2 q3 q4 q5 q6 q7 q8 q9 q10 q11 q12 q13 q14 q15 q16 q17 q18 q19 q20 q21 q22 u0 u1 u2 u3 u4 u5 u6 u7 i_hill_terms i_heights) H → va_D A (wd_Planner_isSafe cA q0 q1 q2 q3 q4 q5 q6 q7 q8 q9 q10 q11 q12 q13 q14 q15 q16 q17 q18 q19 q20 q21 q22 u0 u1 u2 u3 u4 u5 u6 u7 i_hill_terms i_heights) → va_S A s.heap H locs → lv_has ls 6 [(0, .ref q0), (1, .int (Int32.ofInt x1)), (2, .int (Int32.ofInt x2)), (3, .int (Int32.ofInt x3)), (4, .int (Int32.ofInt x4)), (5, .int (Int32.ofInt x5))] → W p l e rm_Planner_isSafe s m args below meth c H locs 0 0 Q (F0 m 26 ls []) := by
    intro k26 ih26 x1 x2 x3 x4 x5 i_heights H locs ls hf hP hD hS hl
    unfold f_Planner_isSafe_26_b at hf
    refine lv_iload hx hb dX7_isSafe_26 (lv_at hl 5 rfl) ?_
    refine lv_iload_n hx hb dX7_isSafe_28 rfl (lv_at hl 3 rfl) ?_
    refine xi_icmp_ge (tgt := 82) hx hb dX7_isSafe_29 (by decide) hf (fun hf => ?_) (fun hf => ?_)
    · refine lv_aload_n hx hb dX7_isSafe_82 rfl (lv_at hl 0 rfl) ?_
      refine va_get (D := (dC, dI)) (ci := 7) (v := .ref q12) (C := RX7) (T := TX7) (N := 16) hx hb hz zi_X7 hown hK hP 0 rfl rfl 11 (by decide) (hz _ zw_358) (fun _ h9 => h9) rfl dX7_isSafe_83 ?_
      refine lv_iload_n hx hb dX7_isSafe_86 rfl (lv_at hl 1 rfl) ?_
      refine lv_dup2_11 hx hb dX7_isSafe_87 rfl rfl ?_
      refine xi_iald hx hb hK hP 2 0 rfl rfl dX7_isSafe_88 hf (fun v1 hf => ?_)
      refine lv_iconst (v := Int32.ofInt 1) hx hb dX7_isSafe_89 rfl ?_
      refine xi_iadd hx hb dX7_isSafe_90 hf (fun v2 hf => ?_)
      refine xi_iast hx hb hK hP hD hS 2 0 rfl rfl dX7_isSafe_91 hf (fun a3 H locs hP hD hS hf => ?_)
      have hP : va_P (dC, dI) vwCl (wd_Planner_isSafe cA q0 q1 q2 q3 q4 q5 q6 q7 q8 q9 q10 q11 q12 q13 q14 q15 q16 q17 q18 q19 q20 q21 q22 u0 u1 u2 u3 u4 u5 u6 u7 i_hill_terms a3) H := hP
      have hD : va_D A (wd_Planner_isSafe cA q0 q1 q2 q3 q4 q5 q6 q7 q8 q9 q10 q11 q12 q13 q14 q15 q16 q17 q18 q19 q20 q21 q22 u0 u1 u2 u3 u4 u5 u6 u7 i_hill_terms a3) := hD
      refine lv_aload_n hx hb dX7_isSafe_92 rfl (lv_at hl 0 rfl) ?_
      refine va_get (D := (dC, dI)) (ci := 7) (v := .ref q12) (C := RX7) (T := TX7) (N := 16) hx hb hz zi_X7 hown hK hP 0 rfl rfl 11 (by decide) (hz _ zw_358) (fun _ h9 => h9) rfl dX7_isSafe_93 ?_
      refine lv_iload_n hx hb dX7_isSafe_96 rfl (lv_at hl 2 rfl) ?_
      refine lv_dup2_11 hx hb dX7_isSafe_97 rfl rfl ?_
      refine xi_iald hx hb hK hP 2 0 rfl rfl dX7_isSafe_98 hf (fun v4 hf => ?_)
      refine lv_iconst (v := Int32.ofInt 1) hx hb dX7_isSafe_99 rfl ?_
      refine xi_isub hx hb dX7_isSafe_100 hf (fun v5 hf => ?_)
      refine xi_iast hx hb hK hP hD hS 2 0 rfl rfl dX7_isSafe_101 hf (fun a6 H locs hP hD hS hf => ?_)
      have hP : va_P (dC, dI) vwCl (wd_Planner_isSafe cA q0 q1 q2 q3 q4 q5 q6 q7 q8 q9 q10 q11 q12 q13 q14 q15 q16 q17 q18 q19 q20 q21 q22 u0 u1 u2 u3 u4 u5 u6 u7 i_hill_terms a6) H := hP
      have hD : va_D A (wd_Planner_isSafe cA q0 q1 q2 q3 q4 q5 q6 q7 q8 q9 q10 q11 q12 q13 q14 q15 q16 q17 q18 q19 q20 q21 q22 u0 u1 u2 u3 u4 u5 u6 u7 i_hill_terms a6) := hD
      refine lv_iload hx hb dX7_isSafe_102 (lv_at hl 4 rfl) ?_
      obtain ⟨hzb, hf⟩ := xz_q hf
      obtain rfl := Option.some.inj hf
      exact hret _ _ _ _ (zz_bool hzb) dX7_isSafe_104 hP hD hS
    · refine lv_iload hx hb dX7_isSafe_32 (lv_at hl 4 rfl) ?_
      refine xi_if_eq (tgt := 73) hx hb dX7_isSafe_34 (by decide) hf (fun hf => ?_) (fun hf => ?_)
      · exact b_73 _ ih26 _ _ _ _ _ _ _ _ hf hP hD hS (lv_sub hl [0, 1, 2, 3, 5] rfl)
      · refine lv_aload_n hx hb dX7_isSafe_37 rfl (lv_at hl 0 rfl) ?_
        refine va_get (D := (dC, dI)) (ci := 7) (v := .ref q12) (C := RX7) (T := TX7) (N := 16) hx hb hz zi_X7 hown hK hP 0 rfl rfl 11 (by decide) (hz _ zw_358) (fun _ h9 => h9) rfl dX7_isSafe_38 ?_
        refine lv_iload hx hb dX7_isSafe_41 (lv_at hl 5 rfl) ?_
        refine xi_iald hx hb hK hP 2 0 rfl rfl dX7_isSafe_43 hf (fun v7 hf => ?_)
        refine lv_aload_n hx hb dX7_isSafe_44 rfl (lv_at hl 0 rfl) ?_
        refine va_get (D := (dC, dI)) (ci := 7) (v := .ref q12) (C := RX7) (T := TX7) (N := 16) hx hb hz zi_X7 hown hK hP 0 rfl rfl 11 (by decide) (hz _ zw_358) (fun _ h9 => h9) rfl dX7_isSafe_45 ?_
        refine lv_iload hx hb dX7_isSafe_48 (lv_at hl 5 rfl) ?_
        refine lv_iconst (v := Int32.ofInt 1) hx hb dX7_isSafe_50 rfl ?_
        refine xi_isub hx hb dX7_isSafe_51 hf (fun v8 hf => ?_)
        refine xi_iald hx hb hK hP 2 0 rfl rfl dX7_isSafe_52 hf (fun v9 hf => ?_)
        refine xi_isub hx hb dX7_isSafe_53 hf (fun v10 hf => ?_)
        refine xi_mabs hx hb (hml.trans hl.1.symm) hown (hz _ zw_1004) (hz _ zw_819) (hz _ zw_116) (hz _ zw_820) (Nat.le_of_ble_eq_true rfl) (Nat.le_of_ble_eq_true rfl) (Nat.zero_le _) (Nat.zero_le _) dX7_isSafe_54 hf (fun v11 hf => ?_)
        refine lv_aload_n hx hb dX7_isSafe_57 rfl (lv_at hl 0 rfl) ?_
        refine va_get (D := (dC, dI)) (ci := 7) (v := .ref q1) (C := RX7) (T := TX7) (N := 16) hx hb hz zi_X7 hown hK hP 0 rfl rfl 0 (by decide) (hz _ zw_347) (fun _ h9 => h9) rfl dX7_isSafe_58 ?_
        refine va_getN (D := (dC, dI)) (ci := 2) (v := .ref q19) (C := RX2) (T := TX2) (N := 14) hx hb hz zi_X2 hown hK hP 1 rfl rfl 7 (by decide) (va_Nw.use rfl (hE.1.1 _ zw_192)) (fun _ h9 => h9) rfl dX7_isSafe_61 ?_
        refine lv_iconst (v := Int32.ofInt 2) hx hb dX7_isSafe_64 rfl ?_
        refine xi_iald hx hb hK hP 3 0 rfl rfl dX7_isSafe_65 hf (fun v12 hf => ?_)
        refine xi_icmp_gt (tgt := 73) hx hb dX7_isSafe_66 (by decide) hf (fun hf => ?_) (fun hf => ?_)
        · exact b_73 _ ih26 _ _ _ _ _ _ _ _ hf hP hD hS (lv_sub hl [0, 1, 2, 3, 5] rfl)
        · refine lv_iconst (v := Int32.ofInt 1) hx hb dX7_isSafe_69 rfl ?_
          refine lv_goto (tgt := 74) hx hb dX7_isSafe_70 (by decide) ?_
          exact b_74 _ ih26 _ _ _ _ _ _ _ _ _ hf hP hD hS (lv_sub hl [0, 1, 2, 3, 5] rfl)
  have l_26 : ∀ (n : Nat), ∀ (x1 : Int) (x2 : Int) (x3 : Int) (x4 : Int) (x5 : Int) (i_heights : Nat → Int) (H : Heap) (locs : List Loc) (ls : Array Slot), f_Planner_isSafe_26 i_hill_terms n x1 x2 x3 x4 x5 i_heights = some out → va_P (dC, dI) vwCl (wd_Planner_isSafe cA q0 q1 q2 q3 q4 q5 q6 q7 q8 q9 q10 q11 q12 q13 q14 q15 q16 q17 q18 q19 q20 q21 q22 u0 u1 u2 u3 u4 u5 u6 u7 i_hill_terms i_heights) H → va_D A (wd_Planner_isSafe cA q0 q1 q2 q3 q4 q5 q6 q7 q8 q9 q10 q11 q12 q13 q14 q15 q16 q17 q18 q19 q20 q21 q22 u0 u1 u2 u3 u4 u5 u6 u7 i_hill_terms i_heights) → va_S A s.heap H locs → lv_has ls 6 [(0, .ref q0), (1, .int (Int32.ofInt x1)), (2, .int (Int32.ofInt x2)), (3, .int (Int32.ofInt x3)), (4, .int (Int32.ofInt x4)), (5, .int (Int32.ofInt x5))] → W p l e rm_Planner_isSafe s m args below meth c H locs 0 0 Q (F0 m 26 ls []) := by
    intro n
    induction n with
    | zero => intro x1 x2 x3 x4 x5 i_heights H locs ls hf hP hD hS hl; exact nomatch hf
    | succ n ih => intro x1 x2 x3 x4 x5 i_heights H locs ls hf hP hD hS hl; exact b_26 (f_Planner_isSafe_26 i_hill_terms n) ih x1 x2 x3 x4 x5 i_heights H locs ls hf hP hD hS hl
  unfold f_Planner_isSafe at hf
  refine lv_aload_n hx hb dX7_isSafe_0 rfl (lv_at hl 0 rfl) ?_
  refine va_get (D := (dC, dI)) (ci := 7) (v := .ref q12) (C := RX7) (T := TX7) (N := 16) hx hb hz zi_X7 hown hK hP 0 rfl rfl 11 (by decide) (hz _ zw_358) (fun _ h9 => h9) rfl dX7_isSafe_1 ?_
  refine lv_iload_n hx hb dX7_isSafe_4 rfl (lv_at hl 1 rfl) ?_
  refine lv_dup2_11 hx hb dX7_isSafe_5 rfl rfl ?_
  refine xi_iald hx hb hK hP 2 0 rfl rfl dX7_isSafe_6 hf (fun v1 hf => ?_)
  refine lv_iconst (v := Int32.ofInt 1) hx hb dX7_isSafe_7 rfl ?_
  refine xi_isub hx hb dX7_isSafe_8 hf (fun v2 hf => ?_)
  refine xi_iast hx hb hK hP hD hS 2 0 rfl rfl dX7_isSafe_9 hf (fun a3 H locs hP hD hS hf => ?_)
  have hP : va_P (dC, dI) vwCl (wd_Planner_isSafe cA q0 q1 q2 q3 q4 q5 q6 q7 q8 q9 q10 q11 q12 q13 q14 q15 q16 q17 q18 q19 q20 q21 q22 u0 u1 u2 u3 u4 u5 u6 u7 i_hill_terms a3) H := hP
  have hD : va_D A (wd_Planner_isSafe cA q0 q1 q2 q3 q4 q5 q6 q7 q8 q9 q10 q11 q12 q13 q14 q15 q16 q17 q18 q19 q20 q21 q22 u0 u1 u2 u3 u4 u5 u6 u7 i_hill_terms a3) := hD
  refine lv_aload_n hx hb dX7_isSafe_10 rfl (lv_at hl 0 rfl) ?_
  refine va_get (D := (dC, dI)) (ci := 7) (v := .ref q12) (C := RX7) (T := TX7) (N := 16) hx hb hz zi_X7 hown hK hP 0 rfl rfl 11 (by decide) (hz _ zw_358) (fun _ h9 => h9) rfl dX7_isSafe_11 ?_
  refine lv_iload_n hx hb dX7_isSafe_14 rfl (lv_at hl 2 rfl) ?_
  refine lv_dup2_11 hx hb dX7_isSafe_15 rfl rfl ?_
  refine xi_iald hx hb hK hP 2 0 rfl rfl dX7_isSafe_16 hf (fun v4 hf => ?_)
  refine lv_iconst (v := Int32.ofInt 1) hx hb dX7_isSafe_17 rfl ?_
  refine xi_iadd hx hb dX7_isSafe_18 hf (fun v5 hf => ?_)
  refine xi_iast hx hb hK hP hD hS 2 0 rfl rfl dX7_isSafe_19 hf (fun a6 H locs hP hD hS hf => ?_)
  have hP : va_P (dC, dI) vwCl (wd_Planner_isSafe cA q0 q1 q2 q3 q4 q5 q6 q7 q8 q9 q10 q11 q12 q13 q14 q15 q16 q17 q18 q19 q20 q21 q22 u0 u1 u2 u3 u4 u5 u6 u7 i_hill_terms a6) H := hP
  have hD : va_D A (wd_Planner_isSafe cA q0 q1 q2 q3 q4 q5 q6 q7 q8 q9 q10 q11 q12 q13 q14 q15 q16 q17 q18 q19 q20 q21 q22 u0 u1 u2 u3 u4 u5 u6 u7 i_hill_terms a6) := hD
  refine lv_iconst (v := Int32.ofInt 1) hx hb dX7_isSafe_20 rfl ?_
  refine lv_istore (lv' := [(4, .int (Int32.ofInt 1)), (0, .ref q0), (1, .int (Int32.ofInt x1)), (2, .int (Int32.ofInt x2)), (3, .int (Int32.ofInt x3))]) hx hb dX7_isSafe_21 hl (by decide) rfl (fun ls hl => ?_)
  refine lv_iconst (v := Int32.ofInt 1) hx hb dX7_isSafe_23 rfl ?_
  refine lv_istore (lv' := [(5, .int (Int32.ofInt 1)), (4, .int (Int32.ofInt 1)), (0, .ref q0), (1, .int (Int32.ofInt x1)), (2, .int (Int32.ofInt x2)), (3, .int (Int32.ofInt x3))]) hx hb dX7_isSafe_24 hl (by decide) rfl (fun ls hl => ?_)
  exact l_26  _ _ _ _ _ _ _ _ _ _ hf hP hD hS (lv_sub hl [2, 3, 4, 5, 1, 0] rfl)
theorem dX0_lowest_0 : decode cX0_lowest 0 = .ok (.iload_n 0, 1) := by decide +kernel
theorem dX0_lowest_1 : decode cX0_lowest 1 = .ok (.bipush 7, 2) := by decide +kernel
theorem dX0_lowest_3 : decode cX0_lowest 3 = .ok (.iand, 1) := by decide +kernel
theorem dX0_lowest_4 : decode cX0_lowest 4 = .ok (.ireturn, 1) := by decide +kernel
theorem zw_998 : (Jvm.Cond.code ({ cls := "HillSchool$Carriers", name := "lowest", desc := "(I)I" } : Jvm.MethodName) prog_2_method_3_code (1 : Nat) (Option.some Jvm.ClassFile.FieldType.int)) ∈ zall := zmemG (zmj_4 175 rfl) rfl
abbrev w_Carriers_lowest : List Cond := .code yX0_lowest cX0_lowest 1 (some .int) :: zall
abbrev rm_Carriers_lowest : Room := { frames := 0, cells := 0, slots := 0, locals := 0 }
theorem hd_Carriers_lowest : yX0_lowest.cls = yX0_lowest.cls ∧ yX0_lowest.cls ≠ "java/lang/invoke/MethodHandle" ∧ yX0_lowest.cls ≠ "java/lang/invoke/VarHandle" ∧ (parseMethodDescriptor yX0_lowest.desc).map (fun d => d.parameters.length) = some 1 := by decide +kernel
def wd_Carriers_lowest (cA : Nat → ClassId)   : va_W := []
def wf_Carriers_lowest (cA : Nat → ClassId)  (o : Int) : va_W := wd_Carriers_lowest cA
def f_Carriers_lowest (x0 : Int) : Option (Int) :=
  zn (zi_and x0 7) fun v1 =>
  some v1
set_option maxHeartbeats 4000000 in
set_option maxRecDepth 100000 in
theorem c_Carriers_lowest (l : Launch) (ev : zEv) (dC : Nat → ClassId) (dI : Nat → Nat → Nat) (cA : Nat → ClassId) {x0 : Int} {out : Int} (hf : f_Carriers_lowest x0 = some out) : xc_I l ev (dC, dI) vwCl (tyl cA) yX0_lowest w_Carriers_lowest rm_Carriers_lowest [.int (Int32.ofInt x0)] (wd_Carriers_lowest cA) (wf_Carriers_lowest cA out) out := by
  refine xv_startI (cc := cX0_lowest) (maxL := 1) (rt := .int) (by decide +kernel) rfl (Nat.le_of_ble_eq_true rfl) ?_
  intro p e s m args below meth c A Q H ls hx hb hml hts hown hK hA hP hD hS hl hE hret
  have hown : s.vm.findClass "HillSchool$Carriers" = some m.cls := hown
  have hz : ∀ w ∈ zall, w.before args s = true := fun w h => hts w (List.mem_cons_of_mem _ h)
  have hl : lv_has ls 1 [(0, .int (Int32.ofInt x0))] := hl
  unfold f_Carriers_lowest at hf
  refine lv_iload_n hx hb dX0_lowest_0 rfl (lv_at hl 0 rfl) ?_
  refine lv_bipush (v := Int32.ofInt 7) hx hb dX0_lowest_1 (by decide) ?_
  refine xi_iand hx hb dX0_lowest_3 hf (fun v1 hf => ?_)
  obtain rfl := Option.some.inj hf
  exact hret _ _ _ _ rfl dX0_lowest_4 hP hD hS
theorem dX0_note_0 : decode cX0_note 0 = .ok (.iload_n 1, 1) := by decide +kernel
theorem dX0_note_1 : decode cX0_note 1 = .ok (.ifCond .lt 58, 3) := by decide +kernel
theorem dX0_note_4 : decode cX0_note 4 = .ok (.iload_n 1, 1) := by decide +kernel
theorem dX0_note_5 : decode cX0_note 5 = .ok (.iconst 4, 1) := by decide +kernel
theorem dX0_note_6 : decode cX0_note 6 = .ok (.if_icmp .ge 53, 3) := by decide +kernel
theorem dX0_note_9 : decode cX0_note 9 = .ok (.iload_n 2, 1) := by decide +kernel
theorem dX0_note_10 : decode cX0_note 10 = .ok (.ifCond .lt 49, 3) := by decide +kernel
theorem dX0_note_13 : decode cX0_note 13 = .ok (.iload_n 2, 1) := by decide +kernel
theorem dX0_note_14 : decode cX0_note 14 = .ok (.iconst 4, 1) := by decide +kernel
theorem dX0_note_15 : decode cX0_note 15 = .ok (.if_icmp .ge 44, 3) := by decide +kernel
theorem dX0_note_18 : decode cX0_note 18 = .ok (.iload_n 1, 1) := by decide +kernel
theorem dX0_note_19 : decode cX0_note 19 = .ok (.iload_n 2, 1) := by decide +kernel
theorem dX0_note_20 : decode cX0_note 20 = .ok (.if_icmp .eq 39, 3) := by decide +kernel
theorem dX0_note_23 : decode cX0_note 23 = .ok (.iload_n 3, 1) := by decide +kernel
theorem dX0_note_24 : decode cX0_note 24 = .ok (.iconst 1, 1) := by decide +kernel
theorem dX0_note_25 : decode cX0_note 25 = .ok (.if_icmp .lt 34, 3) := by decide +kernel
theorem dX0_note_28 : decode cX0_note 28 = .ok (.iload_n 3, 1) := by decide +kernel
theorem dX0_note_29 : decode cX0_note 29 = .ok (.bipush 30, 2) := by decide +kernel
theorem dX0_note_31 : decode cX0_note 31 = .ok (.if_icmp .gt 28, 3) := by decide +kernel
theorem dX0_note_34 : decode cX0_note 34 = .ok (.iload 4, 2) := by decide +kernel
theorem dX0_note_36 : decode cX0_note 36 = .ok (.iconst 1, 1) := by decide +kernel
theorem dX0_note_37 : decode cX0_note 37 = .ok (.if_icmp .lt 22, 3) := by decide +kernel
theorem dX0_note_40 : decode cX0_note 40 = .ok (.iload 4, 2) := by decide +kernel
theorem dX0_note_42 : decode cX0_note 42 = .ok (.bipush 10, 2) := by decide +kernel
theorem dX0_note_44 : decode cX0_note 44 = .ok (.if_icmp .gt 15, 3) := by decide +kernel
theorem dX0_note_47 : decode cX0_note 47 = .ok (.iload 5, 2) := by decide +kernel
theorem dX0_note_49 : decode cX0_note 49 = .ok (.ifCond .lt 10, 3) := by decide +kernel
theorem dX0_note_52 : decode cX0_note 52 = .ok (.iload 5, 2) := by decide +kernel
theorem dX0_note_54 : decode cX0_note 54 = .ok (.bipush 10, 2) := by decide +kernel
theorem dX0_note_56 : decode cX0_note 56 = .ok (.if_icmp .lt 5, 3) := by decide +kernel
theorem dX0_note_59 : decode cX0_note 59 = .ok (.iconst (-1), 1) := by decide +kernel
theorem dX0_note_60 : decode cX0_note 60 = .ok (.ireturn, 1) := by decide +kernel
theorem dX0_note_61 : decode cX0_note 61 = .ok (.iload_n 1, 1) := by decide +kernel
theorem dX0_note_62 : decode cX0_note 62 = .ok (.iconst 4, 1) := by decide +kernel
theorem dX0_note_63 : decode cX0_note 63 = .ok (.imul, 1) := by decide +kernel
theorem dX0_note_64 : decode cX0_note 64 = .ok (.iload_n 2, 1) := by decide +kernel
theorem dX0_note_65 : decode cX0_note 65 = .ok (.iadd, 1) := by decide +kernel
theorem dX0_note_66 : decode cX0_note 66 = .ok (.istore 6, 2) := by decide +kernel
theorem dX0_note_68 : decode cX0_note 68 = .ok (.iload 6, 2) := by decide +kernel
theorem dX0_note_70 : decode cX0_note 70 = .ok (.bipush 30, 2) := by decide +kernel
theorem dX0_note_72 : decode cX0_note 72 = .ok (.imul, 1) := by decide +kernel
theorem dX0_note_73 : decode cX0_note 73 = .ok (.iload_n 3, 1) := by decide +kernel
theorem dX0_note_74 : decode cX0_note 74 = .ok (.iadd, 1) := by decide +kernel
theorem dX0_note_75 : decode cX0_note 75 = .ok (.iconst 1, 1) := by decide +kernel
theorem dX0_note_76 : decode cX0_note 76 = .ok (.isub, 1) := by decide +kernel
theorem dX0_note_77 : decode cX0_note 77 = .ok (.bipush 10, 2) := by decide +kernel
theorem dX0_note_79 : decode cX0_note 79 = .ok (.imul, 1) := by decide +kernel
theorem dX0_note_80 : decode cX0_note 80 = .ok (.iload 4, 2) := by decide +kernel
theorem dX0_note_82 : decode cX0_note 82 = .ok (.iadd, 1) := by decide +kernel
theorem dX0_note_83 : decode cX0_note 83 = .ok (.iconst 1, 1) := by decide +kernel
theorem dX0_note_84 : decode cX0_note 84 = .ok (.isub, 1) := by decide +kernel
theorem dX0_note_85 : decode cX0_note 85 = .ok (.bipush 10, 2) := by decide +kernel
theorem dX0_note_87 : decode cX0_note 87 = .ok (.imul, 1) := by decide +kernel
theorem dX0_note_88 : decode cX0_note 88 = .ok (.iload 5, 2) := by decide +kernel
theorem dX0_note_90 : decode cX0_note 90 = .ok (.iadd, 1) := by decide +kernel
theorem dX0_note_91 : decode cX0_note 91 = .ok (.istore 7, 2) := by decide +kernel
theorem dX0_note_93 : decode cX0_note 93 = .ok (.aload_n 0, 1) := by decide +kernel
theorem dX0_note_94 : decode cX0_note 94 = .ok (.getfield 16, 3) := by decide +kernel
theorem dX0_note_97 : decode cX0_note 97 = .ok (.getfield 24, 3) := by decide +kernel
theorem dX0_note_100 : decode cX0_note 100 = .ok (.ldc 30, 2) := by decide +kernel
theorem dX0_note_102 : decode cX0_note 102 = .ok (.irem, 1) := by decide +kernel
theorem dX0_note_103 : decode cX0_note 103 = .ok (.iconst 1, 1) := by decide +kernel
theorem dX0_note_104 : decode cX0_note 104 = .ok (.iadd, 1) := by decide +kernel
theorem dX0_note_105 : decode cX0_note 105 = .ok (.istore 8, 2) := by decide +kernel
theorem dX0_note_107 : decode cX0_note 107 = .ok (.aload_n 0, 1) := by decide +kernel
theorem dX0_note_108 : decode cX0_note 108 = .ok (.getfield 12, 3) := by decide +kernel
theorem dX0_note_111 : decode cX0_note 111 = .ok (.iload 7, 2) := by decide +kernel
theorem dX0_note_113 : decode cX0_note 113 = .ok (.iaload, 1) := by decide +kernel
theorem dX0_note_114 : decode cX0_note 114 = .ok (.bipush 13, 2) := by decide +kernel
theorem dX0_note_116 : decode cX0_note 116 = .ok (.iushr, 1) := by decide +kernel
theorem dX0_note_117 : decode cX0_note 117 = .ok (.iload 8, 2) := by decide +kernel
theorem dX0_note_119 : decode cX0_note 119 = .ok (.if_icmp .ne 33, 3) := by decide +kernel
theorem dX0_note_122 : decode cX0_note 122 = .ok (.aload_n 0, 1) := by decide +kernel
theorem dX0_note_123 : decode cX0_note 123 = .ok (.getfield 12, 3) := by decide +kernel
theorem dX0_note_126 : decode cX0_note 126 = .ok (.iload 7, 2) := by decide +kernel
theorem dX0_note_128 : decode cX0_note 128 = .ok (.iaload, 1) := by decide +kernel
theorem dX0_note_129 : decode cX0_note 129 = .ok (.sipush 8191, 3) := by decide +kernel
theorem dX0_note_132 : decode cX0_note 132 = .ok (.iand, 1) := by decide +kernel
theorem dX0_note_133 : decode cX0_note 133 = .ok (.istore 9, 2) := by decide +kernel
theorem dX0_note_135 : decode cX0_note 135 = .ok (.iload 9, 2) := by decide +kernel
theorem dX0_note_137 : decode cX0_note 137 = .ok (.invokestatic 31, 3) := by decide +kernel
theorem dX0_note_140 : decode cX0_note 140 = .ok (.bipush 7, 2) := by decide +kernel
theorem dX0_note_142 : decode cX0_note 142 = .ok (.if_icmp .ne 7, 3) := by decide +kernel
theorem dX0_note_145 : decode cX0_note 145 = .ok (.iconst (-1), 1) := by decide +kernel
theorem dX0_note_146 : decode cX0_note 146 = .ok (.goto 5, 3) := by decide +kernel
theorem dX0_note_149 : decode cX0_note 149 = .ok (.iload 9, 2) := by decide +kernel
theorem dX0_note_151 : decode cX0_note 151 = .ok (.ireturn, 1) := by decide +kernel
theorem dX0_note_152 : decode cX0_note 152 = .ok (.bipush 7, 2) := by decide +kernel
theorem dX0_note_154 : decode cX0_note 154 = .ok (.istore 9, 2) := by decide +kernel
theorem dX0_note_156 : decode cX0_note 156 = .ok (.bipush 7, 2) := by decide +kernel
theorem dX0_note_158 : decode cX0_note 158 = .ok (.istore 10, 2) := by decide +kernel
theorem dX0_note_160 : decode cX0_note 160 = .ok (.iconst 0, 1) := by decide +kernel
theorem dX0_note_161 : decode cX0_note 161 = .ok (.istore 11, 2) := by decide +kernel
theorem dX0_note_163 : decode cX0_note 163 = .ok (.iconst 0, 1) := by decide +kernel
theorem dX0_note_164 : decode cX0_note 164 = .ok (.istore 12, 2) := by decide +kernel
theorem dX0_note_166 : decode cX0_note 166 = .ok (.iload 12, 2) := by decide +kernel
theorem dX0_note_168 : decode cX0_note 168 = .ok (.aload_n 0, 1) := by decide +kernel
theorem dX0_note_169 : decode cX0_note 169 = .ok (.getfield 16, 3) := by decide +kernel
theorem dX0_note_172 : decode cX0_note 172 = .ok (.getfield 35, 3) := by decide +kernel
theorem dX0_note_175 : decode cX0_note 175 = .ok (.if_icmp .ge 69, 3) := by decide +kernel
theorem dX0_note_178 : decode cX0_note 178 = .ok (.aload_n 0, 1) := by decide +kernel
theorem dX0_note_179 : decode cX0_note 179 = .ok (.getfield 20, 3) := by decide +kernel
theorem dX0_note_182 : decode cX0_note 182 = .ok (.iload 12, 2) := by decide +kernel
theorem dX0_note_184 : decode cX0_note 184 = .ok (.iload_n 1, 1) := by decide +kernel
theorem dX0_note_185 : decode cX0_note 185 = .ok (.iload_n 2, 1) := by decide +kernel
theorem dX0_note_186 : decode cX0_note 186 = .ok (.iload_n 3, 1) := by decide +kernel
theorem dX0_note_187 : decode cX0_note 187 = .ok (.iload 4, 2) := by decide +kernel
theorem dX0_note_189 : decode cX0_note 189 = .ok (.iload 5, 2) := by decide +kernel
theorem dX0_note_191 : decode cX0_note 191 = .ok (.invokevirtual 38, 3) := by decide +kernel
theorem dX0_note_194 : decode cX0_note 194 = .ok (.istore 13, 2) := by decide +kernel
theorem dX0_note_196 : decode cX0_note 196 = .ok (.iload 13, 2) := by decide +kernel
theorem dX0_note_198 : decode cX0_note 198 = .ok (.iconst (-1), 1) := by decide +kernel
theorem dX0_note_199 : decode cX0_note 199 = .ok (.if_icmp .ne 6, 3) := by decide +kernel
theorem dX0_note_202 : decode cX0_note 202 = .ok (.goto 36, 3) := by decide +kernel
theorem dX0_note_205 : decode cX0_note 205 = .ok (.iload 9, 2) := by decide +kernel
theorem dX0_note_207 : decode cX0_note 207 = .ok (.bipush 7, 2) := by decide +kernel
theorem dX0_note_209 : decode cX0_note 209 = .ok (.if_icmp .ne 7, 3) := by decide +kernel
theorem dX0_note_212 : decode cX0_note 212 = .ok (.iload 12, 2) := by decide +kernel
theorem dX0_note_214 : decode cX0_note 214 = .ok (.istore 9, 2) := by decide +kernel
theorem dX0_note_216 : decode cX0_note 216 = .ok (.iload 10, 2) := by decide +kernel
theorem dX0_note_218 : decode cX0_note 218 = .ok (.bipush 7, 2) := by decide +kernel
theorem dX0_note_220 : decode cX0_note 220 = .ok (.if_icmp .eq 10, 3) := by decide +kernel
theorem dX0_note_223 : decode cX0_note 223 = .ok (.iload 13, 2) := by decide +kernel
theorem dX0_note_225 : decode cX0_note 225 = .ok (.iload 11, 2) := by decide +kernel
theorem dX0_note_227 : decode cX0_note 227 = .ok (.if_icmp .ge 11, 3) := by decide +kernel
theorem dX0_note_230 : decode cX0_note 230 = .ok (.iload 12, 2) := by decide +kernel
theorem dX0_note_232 : decode cX0_note 232 = .ok (.istore 10, 2) := by decide +kernel
theorem dX0_note_234 : decode cX0_note 234 = .ok (.iload 13, 2) := by decide +kernel
theorem dX0_note_236 : decode cX0_note 236 = .ok (.istore 11, 2) := by decide +kernel
theorem dX0_note_238 : decode cX0_note 238 = .ok (.iinc 12 1, 3) := by decide +kernel
theorem dX0_note_241 : decode cX0_note 241 = .ok (.goto (-75), 3) := by decide +kernel
theorem dX0_note_244 : decode cX0_note 244 = .ok (.iload 11, 2) := by decide +kernel
theorem dX0_note_246 : decode cX0_note 246 = .ok (.iconst 3, 1) := by decide +kernel
theorem dX0_note_247 : decode cX0_note 247 = .ok (.ishl, 1) := by decide +kernel
theorem dX0_note_248 : decode cX0_note 248 = .ok (.iload 10, 2) := by decide +kernel
theorem dX0_note_250 : decode cX0_note 250 = .ok (.ior, 1) := by decide +kernel
theorem dX0_note_251 : decode cX0_note 251 = .ok (.iconst 3, 1) := by decide +kernel
theorem dX0_note_252 : decode cX0_note 252 = .ok (.ishl, 1) := by decide +kernel
theorem dX0_note_253 : decode cX0_note 253 = .ok (.iload 9, 2) := by decide +kernel
theorem dX0_note_255 : decode cX0_note 255 = .ok (.ior, 1) := by decide +kernel
theorem dX0_note_256 : decode cX0_note 256 = .ok (.istore 12, 2) := by decide +kernel
theorem dX0_note_258 : decode cX0_note 258 = .ok (.aload_n 0, 1) := by decide +kernel
theorem dX0_note_259 : decode cX0_note 259 = .ok (.getfield 12, 3) := by decide +kernel
theorem dX0_note_262 : decode cX0_note 262 = .ok (.iload 7, 2) := by decide +kernel
theorem dX0_note_264 : decode cX0_note 264 = .ok (.iload 8, 2) := by decide +kernel
theorem dX0_note_266 : decode cX0_note 266 = .ok (.bipush 13, 2) := by decide +kernel
theorem dX0_note_268 : decode cX0_note 268 = .ok (.ishl, 1) := by decide +kernel
theorem dX0_note_269 : decode cX0_note 269 = .ok (.iload 12, 2) := by decide +kernel
theorem dX0_note_271 : decode cX0_note 271 = .ok (.ior, 1) := by decide +kernel
theorem dX0_note_272 : decode cX0_note 272 = .ok (.iastore, 1) := by decide +kernel
theorem dX0_note_273 : decode cX0_note 273 = .ok (.iload 9, 2) := by decide +kernel
theorem dX0_note_275 : decode cX0_note 275 = .ok (.bipush 7, 2) := by decide +kernel
theorem dX0_note_277 : decode cX0_note 277 = .ok (.if_icmp .ne 7, 3) := by decide +kernel
theorem dX0_note_280 : decode cX0_note 280 = .ok (.iconst (-1), 1) := by decide +kernel
theorem dX0_note_281 : decode cX0_note 281 = .ok (.goto 5, 3) := by decide +kernel
theorem dX0_note_284 : decode cX0_note 284 = .ok (.iload 12, 2) := by decide +kernel
theorem dX0_note_286 : decode cX0_note 286 = .ok (.ireturn, 1) := by decide +kernel
theorem zw_109 : (Jvm.Cond.initialized "HillSchool$Carriers") ∈ zall := zmemG (zmj_1 6 rfl) rfl
theorem zw_174 : (Jvm.Cond.fieldLinkNest "HillSchool$Carriers" (35 : Nat) "HillSchool$Hill" "children" "I" "HillSchool") ∈ znest := zmemH (zmj_1 71 rfl) rfl
theorem zw_209 : (Jvm.Cond.fieldLinkNest "HillSchool$Carriers" (24 : Nat) "HillSchool$Hill" "changes" "I" "HillSchool") ∈ znest := zmemH (zmj_1 106 rfl) rfl
theorem zw_305 : (Jvm.Cond.fieldLink "HillSchool$Carriers" (16 : Nat) "HillSchool$Carriers" "hill" "LHillSchool$Hill;") ∈ zall := zmemG (zmj_1 202 rfl) rfl
theorem zw_306 : (Jvm.Cond.fieldLink "HillSchool$Carriers" (20 : Nat) "HillSchool$Carriers" "judge" "LHillSchool$Judge;") ∈ zall := zmemG (zmj_1 203 rfl) rfl
theorem zw_307 : (Jvm.Cond.fieldLink "HillSchool$Carriers" (12 : Nat) "HillSchool$Carriers" "notes" "[I") ∈ zall := zmemG (zmj_1 204 rfl) rfl
theorem zw_994 : (Jvm.Cond.code ({ cls := "HillSchool$Carriers", name := "note", desc := "(IIIII)I" } : Jvm.MethodName) prog_2_method_2_code (14 : Nat) (Option.some Jvm.ClassFile.FieldType.int)) ∈ zall := zmemG (zmj_4 171 rfl) rfl
theorem zw_995 : (Jvm.Cond.constant "HillSchool$Carriers" (30 : Nat) (524287 : Int32)) ∈ zall := zmemG (zmj_4 172 rfl) rfl
theorem zw_996 : (Jvm.Cond.methodLink "HillSchool$Carriers" (31 : Nat) ({ cls := "HillSchool$Carriers", name := "lowest", desc := "(I)I" } : Jvm.MethodName)) ∈ zall := zmemG (zmj_4 173 rfl) rfl
theorem zw_997 : (Jvm.Cond.static ({ cls := "HillSchool$Carriers", name := "lowest", desc := "(I)I" } : Jvm.MethodName)) ∈ zall := zmemG (zmj_4 174 rfl) rfl
theorem zw_999 : (Jvm.Cond.methodLink "HillSchool$Carriers" (38 : Nat) ({ cls := "HillSchool$Judge", name := "effort", desc := "(IIIIII)I" } : Jvm.MethodName)) ∈ zall := zmemG (zmj_4 176 rfl) rfl
abbrev w_Carriers_note : List Cond := .code yX0_note cX0_note 14 (some .int) :: zall
abbrev rm_Carriers_note : Room := { frames := 4, cells := 0, slots := 0, locals := 114 }
theorem hd_Carriers_note : yX0_note.cls = "HillSchool$Carriers" ∧ yX0_note.cls ≠ "java/lang/invoke/MethodHandle" ∧ yX0_note.cls ≠ "java/lang/invoke/VarHandle" ∧ (parseMethodDescriptor yX0_note.desc).map (fun d => d.parameters.length) = some 5 := by decide +kernel
def wd_Carriers_note (cA : Nat → ClassId) (q0 q1 q2 q3 q4 q5 q6 q7 q8 q9 q10 q11 q12 q13 q14 : Nat) (u0 : Int) (i_hill_children : Int) (i_hill_laws : Int) (i_hill_inForce : Int) (i_hill_changes : Int) (i_hill_strengths : Nat → Int) (i_hill_expelled : Nat → Int) (i_hill_terms : Nat → Int) (i_hill_orders : Nat → Int) (i_hill_ordered : Nat → Int) (i_judge_piled : Int) (i_judge_tiring : Int) (i_judge_barred : Int) (i_notes : Nat → Int) (i_judge_words : Nat → Int) (i_judge_pile : Nat → Int) : va_W := [(q0, .inr (0, [.ref q1, .ref q2, .ref q3])), (q1, .inr (2, [.ref q4, .int (Int32.ofInt i_hill_children), .ref q5, .ref q6, .ref q7, .int (Int32.ofInt u0), .ref q8, .ref q9, .ref q10, .int (Int32.ofInt i_hill_laws), .ref q11, .ref q12, .int (Int32.ofInt i_hill_inForce), .int (Int32.ofInt i_hill_changes)])), (q2, .inr (3, [.ref q1, .ref q13, .ref q14, .int (Int32.ofInt i_judge_piled), .int (Int32.ofInt i_judge_tiring), .int (Int32.ofInt i_judge_barred)])), (q3, .inl (cA 0, 48000, .inl (za i_notes))), (q5, .inl (cA 0, 6, .inl (za i_hill_strengths))), (q6, .inl (cA 0, 6, .inl (za i_hill_expelled))), (q9, .inl (cA 0, 4, .inl (za i_hill_terms))), (q11, .inl (cA 0, 2544, .inl (za i_hill_orders))), (q12, .inl (cA 0, 6, .inl (za i_hill_ordered))), (q13, .inl (cA 0, 8, .inl (za i_judge_words))), (q14, .inl (cA 0, 32, .inl (za i_judge_pile)))]
def wf_Carriers_note (cA : Nat → ClassId) (q0 q1 q2 q3 q4 q5 q6 q7 q8 q9 q10 q11 q12 q13 q14 : Nat) (u0 : Int) (i_hill_children : Int) (i_hill_laws : Int) (i_hill_inForce : Int) (i_hill_changes : Int) (i_hill_strengths : Nat → Int) (i_hill_expelled : Nat → Int) (i_hill_terms : Nat → Int) (i_hill_orders : Nat → Int) (i_hill_ordered : Nat → Int) (o : Int × Int × Int × Int × (Nat → Int) × (Nat → Int) × (Nat → Int)) : va_W := wd_Carriers_note cA q0 q1 q2 q3 q4 q5 q6 q7 q8 q9 q10 q11 q12 q13 q14 u0 i_hill_children i_hill_laws i_hill_inForce i_hill_changes i_hill_strengths i_hill_expelled i_hill_terms i_hill_orders i_hill_ordered o.2.1 o.2.2.1 o.2.2.2.1 o.2.2.2.2.1 o.2.2.2.2.2.1 o.2.2.2.2.2.2
def f_Carriers_note_238 (i_hill_children : Int) (i_hill_laws : Int) (i_hill_inForce : Int) (i_hill_changes : Int) (i_hill_strengths : Nat → Int) (i_hill_expelled : Nat → Int) (i_hill_terms : Nat → Int) (i_hill_orders : Nat → Int) (i_hill_ordered : Nat → Int) (k166 : Int → Int → Int → Int → Int → Int → Int → Int → Int → Int → Int → Int → Int → Int → (Nat → Int) → (Nat → Int) → (Nat → Int) → Option (Int × Int × Int × Int × (Nat → Int) × (Nat → Int) × (Nat → Int))) (x1 : Int) (x2 : Int) (x3 : Int) (x4 : Int) (x5 : Int) (x7 : Int) (x8 : Int) (x9 : Int) (x10 : Int) (x11 : Int) (x12 : Int) (i_judge_piled : Int) (i_judge_tiring : Int) (i_judge_barred : Int) (i_notes : Nat → Int) (i_judge_words : Nat → Int) (i_judge_pile : Nat → Int) : Option (Int × Int × Int × Int × (Nat → Int) × (Nat → Int) × (Nat → Int)) :=
  zn (x12 + 1) fun v1 =>
  k166 x1 x2 x3 x4 x5 x7 x8 x9 x10 x11 v1 i_judge_piled i_judge_tiring i_judge_barred i_notes i_judge_words i_judge_pile
def f_Carriers_note_230 (i_hill_children : Int) (i_hill_laws : Int) (i_hill_inForce : Int) (i_hill_changes : Int) (i_hill_strengths : Nat → Int) (i_hill_expelled : Nat → Int) (i_hill_terms : Nat → Int) (i_hill_orders : Nat → Int) (i_hill_ordered : Nat → Int) (k166 : Int → Int → Int → Int → Int → Int → Int → Int → Int → Int → Int → Int → Int → Int → (Nat → Int) → (Nat → Int) → (Nat → Int) → Option (Int × Int × Int × Int × (Nat → Int) × (Nat → Int) × (Nat → Int))) (x1 : Int) (x2 : Int) (x3 : Int) (x4 : Int) (x5 : Int) (x7 : Int) (x8 : Int) (x9 : Int) (x12 : Int) (x13 : Int) (i_judge_piled : Int) (i_judge_tiring : Int) (i_judge_barred : Int) (i_notes : Nat → Int) (i_judge_words : Nat → Int) (i_judge_pile : Nat → Int) : Option (Int × Int × Int × Int × (Nat → Int) × (Nat → Int) × (Nat → Int)) :=
  f_Carriers_note_238 i_hill_children i_hill_laws i_hill_inForce i_hill_changes i_hill_strengths i_hill_expelled i_hill_terms i_hill_orders i_hill_ordered k166 x1 x2 x3 x4 x5 x7 x8 x9 x12 x13 x12 i_judge_piled i_judge_tiring i_judge_barred i_notes i_judge_words i_judge_pile
def f_Carriers_note_216 (i_hill_children : Int) (i_hill_laws : Int) (i_hill_inForce : Int) (i_hill_changes : Int) (i_hill_strengths : Nat → Int) (i_hill_expelled : Nat → Int) (i_hill_terms : Nat → Int) (i_hill_orders : Nat → Int) (i_hill_ordered : Nat → Int) (k166 : Int → Int → Int → Int → Int → Int → Int → Int → Int → Int → Int → Int → Int → Int → (Nat → Int) → (Nat → Int) → (Nat → Int) → Option (Int × Int × Int × Int × (Nat → Int) × (Nat → Int) × (Nat → Int))) (x1 : Int) (x2 : Int) (x3 : Int) (x4 : Int) (x5 : Int) (x7 : Int) (x8 : Int) (x9 : Int) (x10 : Int) (x11 : Int) (x12 : Int) (x13 : Int) (i_judge_piled : Int) (i_judge_tiring : Int) (i_judge_barred : Int) (i_notes : Nat → Int) (i_judge_words : Nat → Int) (i_judge_pile : Nat → Int) : Option (Int × Int × Int × Int × (Nat → Int) × (Nat → Int) × (Nat → Int)) :=
  if zi_w x10 = zi_w 7 then
    f_Carriers_note_230 i_hill_children i_hill_laws i_hill_inForce i_hill_changes i_hill_strengths i_hill_expelled i_hill_terms i_hill_orders i_hill_ordered k166 x1 x2 x3 x4 x5 x7 x8 x9 x12 x13 i_judge_piled i_judge_tiring i_judge_barred i_notes i_judge_words i_judge_pile
  else
    if zi_w x11 ≤ zi_w x13 then
      f_Carriers_note_238 i_hill_children i_hill_laws i_hill_inForce i_hill_changes i_hill_strengths i_hill_expelled i_hill_terms i_hill_orders i_hill_ordered k166 x1 x2 x3 x4 x5 x7 x8 x9 x10 x11 x12 i_judge_piled i_judge_tiring i_judge_barred i_notes i_judge_words i_judge_pile
    else
      f_Carriers_note_230 i_hill_children i_hill_laws i_hill_inForce i_hill_changes i_hill_strengths i_hill_expelled i_hill_terms i_hill_orders i_hill_ordered k166 x1 x2 x3 x4 x5 x7 x8 x9 x12 x13 i_judge_piled i_judge_tiring i_judge_barred i_notes i_judge_words i_judge_pile
def f_Carriers_note_166_b (i_hill_children : Int) (i_hill_laws : Int) (i_hill_inForce : Int) (i_hill_changes : Int) (i_hill_strengths : Nat → Int) (i_hill_expelled : Nat → Int) (i_hill_terms : Nat → Int) (i_hill_orders : Nat → Int) (i_hill_ordered : Nat → Int) (k166 : Int → Int → Int → Int → Int → Int → Int → Int → Int → Int → Int → Int → Int → Int → (Nat → Int) → (Nat → Int) → (Nat → Int) → Option (Int × Int × Int × Int × (Nat → Int) × (Nat → Int) × (Nat → Int))) (x1 : Int) (x2 : Int) (x3 : Int) (x4 : Int) (x5 : Int) (x7 : Int) (x8 : Int) (x9 : Int) (x10 : Int) (x11 : Int) (x12 : Int) (i_judge_piled : Int) (i_judge_tiring : Int) (i_judge_barred : Int) (i_notes : Nat → Int) (i_judge_words : Nat → Int) (i_judge_pile : Nat → Int) : Option (Int × Int × Int × Int × (Nat → Int) × (Nat → Int) × (Nat → Int)) :=
  if zi_w i_hill_children ≤ zi_w x12 then
    zn (zi_shl x11 3) fun v1 =>
    zn (zi_or v1 x10) fun v2 =>
    zn (zi_shl v2 3) fun v3 =>
    zn (zi_or v3 x9) fun v4 =>
    zn (zi_shl x8 13) fun v5 =>
    zn (zi_or v5 v4) fun v6 =>
    zs 48000 i_notes x7 v6 fun a7 =>
    if zi_w x9 ≠ zi_w 7 then
      some (v4, i_judge_piled, i_judge_tiring, i_judge_barred, a7, i_judge_words, i_judge_pile)
    else
      some ((-1), i_judge_piled, i_judge_tiring, i_judge_barred, a7, i_judge_words, i_judge_pile)
  else
    zd6 (f_Judge_effort x12 x1 x2 x3 x4 x5 i_hill_children i_hill_laws i_hill_inForce i_hill_strengths i_hill_expelled i_hill_terms i_hill_orders i_hill_ordered i_judge_piled i_judge_tiring i_judge_barred i_judge_words i_judge_pile) fun v8 v9 v10 v11 a12 a13 =>
    if zi_w v8 ≠ zi_w (-1) then
      if zi_w x9 ≠ zi_w 7 then
        f_Carriers_note_216 i_hill_children i_hill_laws i_hill_inForce i_hill_changes i_hill_strengths i_hill_expelled i_hill_terms i_hill_orders i_hill_ordered k166 x1 x2 x3 x4 x5 x7 x8 x9 x10 x11 x12 v8 v9 v10 v11 i_notes a12 a13
      else
        f_Carriers_note_216 i_hill_children i_hill_laws i_hill_inForce i_hill_changes i_hill_strengths i_hill_expelled i_hill_terms i_hill_orders i_hill_ordered k166 x1 x2 x3 x4 x5 x7 x8 x12 x10 x11 x12 v8 v9 v10 v11 i_notes a12 a13
    else
      f_Carriers_note_238 i_hill_children i_hill_laws i_hill_inForce i_hill_changes i_hill_strengths i_hill_expelled i_hill_terms i_hill_orders i_hill_ordered k166 x1 x2 x3 x4 x5 x7 x8 x9 x10 x11 x12 v9 v10 v11 i_notes a12 a13
def f_Carriers_note_166 (i_hill_children : Int) (i_hill_laws : Int) (i_hill_inForce : Int) (i_hill_changes : Int) (i_hill_strengths : Nat → Int) (i_hill_expelled : Nat → Int) (i_hill_terms : Nat → Int) (i_hill_orders : Nat → Int) (i_hill_ordered : Nat → Int) : Nat → Int → Int → Int → Int → Int → Int → Int → Int → Int → Int → Int → Int → Int → Int → (Nat → Int) → (Nat → Int) → (Nat → Int) → Option (Int × Int × Int × Int × (Nat → Int) × (Nat → Int) × (Nat → Int))
  | 0 => fun _ _ _ _ _ _ _ _ _ _ _ _ _ _ _ _ _ => none
  | n + 1 => fun y0 y1 y2 y3 y4 y5 y6 y7 y8 y9 y10 y11 y12 y13 y14 y15 y16 => f_Carriers_note_166_b i_hill_children i_hill_laws i_hill_inForce i_hill_changes i_hill_strengths i_hill_expelled i_hill_terms i_hill_orders i_hill_ordered (f_Carriers_note_166 i_hill_children i_hill_laws i_hill_inForce i_hill_changes i_hill_strengths i_hill_expelled i_hill_terms i_hill_orders i_hill_ordered n) y0 y1 y2 y3 y4 y5 y6 y7 y8 y9 y10 y11 y12 y13 y14 y15 y16
def f_Carriers_note (x1 : Int) (x2 : Int) (x3 : Int) (x4 : Int) (x5 : Int) (i_hill_children : Int) (i_hill_laws : Int) (i_hill_inForce : Int) (i_hill_changes : Int) (i_hill_strengths : Nat → Int) (i_hill_expelled : Nat → Int) (i_hill_terms : Nat → Int) (i_hill_orders : Nat → Int) (i_hill_ordered : Nat → Int) (i_judge_piled : Int) (i_judge_tiring : Int) (i_judge_barred : Int) (i_notes : Nat → Int) (i_judge_words : Nat → Int) (i_judge_pile : Nat → Int) : Option (Int × Int × Int × Int × (Nat → Int) × (Nat → Int) × (Nat → Int)) :=
  if zi_w x1 < 0 then
    some ((-1), i_judge_piled, i_judge_tiring, i_judge_barred, i_notes, i_judge_words, i_judge_pile)
  else
    if zi_w 4 ≤ zi_w x1 then
      some ((-1), i_judge_piled, i_judge_tiring, i_judge_barred, i_notes, i_judge_words, i_judge_pile)
    else
      if zi_w x2 < 0 then
        some ((-1), i_judge_piled, i_judge_tiring, i_judge_barred, i_notes, i_judge_words, i_judge_pile)
      else
        if zi_w 4 ≤ zi_w x2 then
          some ((-1), i_judge_piled, i_judge_tiring, i_judge_barred, i_notes, i_judge_words, i_judge_pile)
        else
          if zi_w x1 = zi_w x2 then
            some ((-1), i_judge_piled, i_judge_tiring, i_judge_barred, i_notes, i_judge_words, i_judge_pile)
          else
            if zi_w x3 < zi_w 1 then
              some ((-1), i_judge_piled, i_judge_tiring, i_judge_barred, i_notes, i_judge_words, i_judge_pile)
            else
              if zi_w 30 < zi_w x3 then
                some ((-1), i_judge_piled, i_judge_tiring, i_judge_barred, i_notes, i_judge_words, i_judge_pile)
              else
                if zi_w x4 < zi_w 1 then
                  some ((-1), i_judge_piled, i_judge_tiring, i_judge_barred, i_notes, i_judge_words, i_judge_pile)
                else
                  if zi_w 10 < zi_w x4 then
                    some ((-1), i_judge_piled, i_judge_tiring, i_judge_barred, i_notes, i_judge_words, i_judge_pile)
                  else
                    if zi_w x5 < 0 then
                      some ((-1), i_judge_piled, i_judge_tiring, i_judge_barred, i_notes, i_judge_words, i_judge_pile)
                    else
                      if zi_w x5 < zi_w 10 then
                        zn (x1 * 4) fun v1 =>
                        zn (v1 + x2) fun v2 =>
                        zn (v2 * 30) fun v3 =>
                        zn (v3 + x3) fun v4 =>
                        zn (v4 - 1) fun v5 =>
                        zn (v5 * 10) fun v6 =>
                        zn (v6 + x4) fun v7 =>
                        zn (v7 - 1) fun v8 =>
                        zn (v8 * 10) fun v9 =>
                        zn (v9 + x5) fun v10 =>
                        if zi_w 524287 = 0 then none else zn (zi_rem i_hill_changes 524287) fun v11 =>
                        zn (v11 + 1) fun v12 =>
                        zg 48000 i_notes v10 fun v13 =>
                        zn (zi_ushr v13 13) fun v14 =>
                        if zi_w v14 ≠ zi_w v12 then
                          f_Carriers_note_166 i_hill_children i_hill_laws i_hill_inForce i_hill_changes i_hill_strengths i_hill_expelled i_hill_terms i_hill_orders i_hill_ordered zfu x1 x2 x3 x4 x5 v10 v12 7 7 0 0 i_judge_piled i_judge_tiring i_judge_barred i_notes i_judge_words i_judge_pile
                        else
                          zg 48000 i_notes v10 fun v15 =>
                          zn (zi_and v15 8191) fun v16 =>
                          zd1 (f_Carriers_lowest v16) fun v17 =>
                          if zi_w v17 ≠ zi_w 7 then
                            some (v16, i_judge_piled, i_judge_tiring, i_judge_barred, i_notes, i_judge_words, i_judge_pile)
                          else
                            some ((-1), i_judge_piled, i_judge_tiring, i_judge_barred, i_notes, i_judge_words, i_judge_pile)
                      else
                        some ((-1), i_judge_piled, i_judge_tiring, i_judge_barred, i_notes, i_judge_words, i_judge_pile)
set_option maxHeartbeats 4000000 in
set_option maxRecDepth 100000 in
theorem c_Carriers_note (l : Launch) (ev : zEv) (dC : Nat → ClassId) (dI : Nat → Nat → Nat) (cA : Nat → ClassId) (q0 q1 q2 q3 q4 q5 q6 q7 q8 q9 q10 q11 q12 q13 q14 : Nat) (u0 : Int) {x1 x2 x3 x4 x5 : Int} {i_hill_children : Int} {i_hill_laws : Int} {i_hill_inForce : Int} {i_hill_changes : Int} {i_hill_strengths : Nat → Int} {i_hill_expelled : Nat → Int} {i_hill_terms : Nat → Int} {i_hill_orders : Nat → Int} {i_hill_ordered : Nat → Int} {i_judge_piled : Int} {i_judge_tiring : Int} {i_judge_barred : Int} {i_notes : Nat → Int} {i_judge_words : Nat → Int} {i_judge_pile : Nat → Int} {out : Int × Int × Int × Int × (Nat → Int) × (Nat → Int) × (Nat → Int)} (hf : f_Carriers_note x1 x2 x3 x4 x5 i_hill_children i_hill_laws i_hill_inForce i_hill_changes i_hill_strengths i_hill_expelled i_hill_terms i_hill_orders i_hill_ordered i_judge_piled i_judge_tiring i_judge_barred i_notes i_judge_words i_judge_pile = some out) : xc_I l ev (dC, dI) vwCl (tyl cA) yX0_note w_Carriers_note rm_Carriers_note [.ref q0, .int (Int32.ofInt x1), .int (Int32.ofInt x2), .int (Int32.ofInt x3), .int (Int32.ofInt x4), .int (Int32.ofInt x5)] (wd_Carriers_note cA q0 q1 q2 q3 q4 q5 q6 q7 q8 q9 q10 q11 q12 q13 q14 u0 i_hill_children i_hill_laws i_hill_inForce i_hill_changes i_hill_strengths i_hill_expelled i_hill_terms i_hill_orders i_hill_ordered i_judge_piled i_judge_tiring i_judge_barred i_notes i_judge_words i_judge_pile) (wf_Carriers_note cA q0 q1 q2 q3 q4 q5 q6 q7 q8 q9 q10 q11 q12 q13 q14 u0 i_hill_children i_hill_laws i_hill_inForce i_hill_changes i_hill_strengths i_hill_expelled i_hill_terms i_hill_orders i_hill_ordered out) out.1 := by
  refine xv_startI (cc := cX0_note) (maxL := 14) (rt := .int) (by decide +kernel) rfl (Nat.le_of_ble_eq_true rfl) ?_
  intro p e s m args below meth c A Q H ls hx hb hml hts hown hK hA hP hD hS hl hE hret
  have hown : s.vm.findClass "HillSchool$Carriers" = some m.cls := hown
  have hz : ∀ w ∈ zall, w.before args s = true := fun w h => hts w (List.mem_cons_of_mem _ h)
  have hl : lv_has ls 14 [(0, .ref q0), (1, .int (Int32.ofInt x1)), (2, .int (Int32.ofInt x2)), (3, .int (Int32.ofInt x3)), (4, .int (Int32.ofInt x4)), (5, .int (Int32.ofInt x5))] := hl
  have b_238 : ∀ (k166 : Int → Int → Int → Int → Int → Int → Int → Int → Int → Int → Int → Int → Int → Int → (Nat → Int) → (Nat → Int) → (Nat → Int) → Option (Int × Int × Int × Int × (Nat → Int) × (Nat → Int) × (Nat → Int))) (_ : ∀ (x1 : Int) (x2 : Int) (x3 : Int) (x4 : Int) (x5 : Int) (x7 : Int) (x8 : Int) (x9 : Int) (x10 : Int) (x11 : Int) (x12 : Int) (i_judge_piled : Int) (i_judge_tiring : Int) (i_judge_barred : Int) (i_notes : Nat → Int) (i_judge_words : Nat → Int) (i_judge_pile : Nat → Int) (H : Heap) (locs : List Loc) (ls : Array Slot), k166 x1 x2 x3 x4 x5 x7 x8 x9 x10 x11 x12 i_judge_piled i_judge_tiring i_judge_barred i_notes i_judge_words i_judge_pile = some out → va_P (dC, dI) vwCl (wd_Carriers_note cA q0 q1 q2 q3 q4 q5 q6 q7 q8 q9 q10 q11 q12 q13 q14 u0 i_hill_children i_hill_laws i_hill_inForce i_hill_changes i_hill_strengths i_hill_expelled i_hill_terms i_hill_orders i_hill_ordered i_judge_piled i_judge_tiring i_judge_barred i_notes i_judge_words i_judge_pile) H → va_D A (wd_Carriers_note cA q0 q1 q2 q3 q4 q5 q6 q7 q8 q9 q10 q11 q12 q13 q14 u0 i_hill_children i_hill_laws i_hill_inForce i_hill_changes i_hill_strengths i_hill_expelled i_hill_terms i_hill_orders i_hill_ordered i_judge_piled i_judge_tiring i_judge_barred i_notes i_judge_words i_judge_pile) → va_S A s.heap H locs → lv_has ls 14 [(0, .ref q0), (1, .int (Int32.ofInt x1)), (2, .int (Int32.ofInt x2)), (3, .int (Int32.ofInt x3)), (4, .int (Int32.ofInt x4)), (5, .int (Int32.ofInt x5)), (7, .int (Int32.ofInt x7)), (8, .int (Int32.ofInt x8)), (9, .int (Int32.ofInt x9)), (10, .int (Int32.ofInt x10)), (11, .int (Int32.ofInt x11)), (12, .int (Int32.ofInt x12))] → W p l e rm_Carriers_note s m args below meth c H locs 0 0 Q (F0 m 166 ls [])), ∀ (x1 : Int) (x2 : Int) (x3 : Int) (x4 : Int) (x5 : Int) (x7 : Int) (x8 : Int) (x9 : Int) (x10 : Int) (x11 : Int) (x12 : Int) (i_judge_piled : Int) (i_judge_tiring : Int) (i_judge_barred : Int) (i_notes : Nat → Int) (i_judge_words : Nat → Int) (i_judge_pile : Nat → Int) (H : Heap) (locs : List Loc) (ls : Array Slot), f_Carriers_note_238 i_hill_children i_hill_laws i_hill_inForce i_hill_changes i_hill_strengths i_hill_expelled i_hill_terms i_hill_orders i_hill_ordered k166 x1 x2 x3 x4 x5 x7 x8 x9 x10 x11 x12 i_judge_piled i_judge_tiring i_judge_barred i_notes i_judge_words i_judge_pile = some out → va_P (dC, dI) vwCl (wd_Carriers_note cA q0 q1 q2 q3 q4 q5 q6 q7 q8 q9 q10 q11 q12 q13 q14 u0 i_hill_children i_hill_laws i_hill_inForce i_hill_changes i_hill_strengths i_hill_expelled i_hill_terms i_hill_orders i_hill_ordered i_judge_piled i_judge_tiring i_judge_barred i_notes i_judge_words i_judge_pile) H → va_D A (wd_Carriers_note cA q0 q1 q2 q3 q4 q5 q6 q7 q8 q9 q10 q11 q12 q13 q14 u0 i_hill_children i_hill_laws i_hill_inForce i_hill_changes i_hill_strengths i_hill_expelled i_hill_terms i_hill_orders i_hill_ordered i_judge_piled i_judge_tiring i_judge_barred i_notes i_judge_words i_judge_pile) → va_S A s.heap H locs → lv_has ls 14 [(0, .ref q0), (1, .int (Int32.ofInt x1)), (2, .int (Int32.ofInt x2)), (3, .int (Int32.ofInt x3)), (4, .int (Int32.ofInt x4)), (5, .int (Int32.ofInt x5)), (7, .int (Int32.ofInt x7)), (8, .int (Int32.ofInt x8)), (9, .int (Int32.ofInt x9)), (10, .int (Int32.ofInt x10)), (11, .int (Int32.ofInt x11)), (12, .int (Int32.ofInt x12))] → W p l e rm_Carriers_note s m args below meth c H locs 0 0 Q (F0 m 238 ls []) := by
    intro k166 ih166 x1 x2 x3 x4 x5 x7 x8 x9 x10 x11 x12 i_judge_piled i_judge_tiring i_judge_barred i_notes i_judge_words i_judge_pile H locs ls hf hP hD hS hl
    unfold f_Carriers_note_238 at hf
    refine xi_iinc hx hb dX0_note_238 hl (k := 11) rfl (by decide) hf (fun v1 ls hl hf => ?_)
    have hl : lv_has ls 14 [(12, .int (Int32.ofInt v1)), (0, .ref q0), (1, .int (Int32.ofInt x1)), (2, .int (Int32.ofInt x2)), (3, .int (Int32.ofInt x3)), (4, .int (Int32.ofInt x4)), (5, .int (Int32.ofInt x5)), (7, .int (Int32.ofInt x7)), (8, .int (Int32.ofInt x8)), (9, .int (Int32.ofInt x9)), (10, .int (Int32.ofInt x10)), (11, .int (Int32.ofInt x11))] := hl
    refine lv_goto (tgt := 166) hx hb dX0_note_241 (by decide) ?_
    exact ih166 _ _ _ _ _ _ _ _ _ _ _ _ _ _ _ _ _ _ _ _ hf hP hD hS (lv_sub hl [1, 2, 3, 4, 5, 6, 7, 8, 9, 10, 11, 0] rfl)
  have b_230 : ∀ (k166 : Int → Int → Int → Int → Int → Int → Int → Int → Int → Int → Int → Int → Int → Int → (Nat → Int) → (Nat → Int) → (Nat → Int) → Option (Int × Int × Int × Int × (Nat → Int) × (Nat → Int) × (Nat → Int))) (_ : ∀ (x1 : Int) (x2 : Int) (x3 : Int) (x4 : Int) (x5 : Int) (x7 : Int) (x8 : Int) (x9 : Int) (x10 : Int) (x11 : Int) (x12 : Int) (i_judge_piled : Int) (i_judge_tiring : Int) (i_judge_barred : Int) (i_notes : Nat → Int) (i_judge_words : Nat → Int) (i_judge_pile : Nat → Int) (H : Heap) (locs : List Loc) (ls : Array Slot), k166 x1 x2 x3 x4 x5 x7 x8 x9 x10 x11 x12 i_judge_piled i_judge_tiring i_judge_barred i_notes i_judge_words i_judge_pile = some out → va_P (dC, dI) vwCl (wd_Carriers_note cA q0 q1 q2 q3 q4 q5 q6 q7 q8 q9 q10 q11 q12 q13 q14 u0 i_hill_children i_hill_laws i_hill_inForce i_hill_changes i_hill_strengths i_hill_expelled i_hill_terms i_hill_orders i_hill_ordered i_judge_piled i_judge_tiring i_judge_barred i_notes i_judge_words i_judge_pile) H → va_D A (wd_Carriers_note cA q0 q1 q2 q3 q4 q5 q6 q7 q8 q9 q10 q11 q12 q13 q14 u0 i_hill_children i_hill_laws i_hill_inForce i_hill_changes i_hill_strengths i_hill_expelled i_hill_terms i_hill_orders i_hill_ordered i_judge_piled i_judge_tiring i_judge_barred i_notes i_judge_words i_judge_pile) → va_S A s.heap H locs → lv_has ls 14 [(0, .ref q0), (1, .int (Int32.ofInt x1)), (2, .int (Int32.ofInt x2)), (3, .int (Int32.ofInt x3)), (4, .int (Int32.ofInt x4)), (5, .int (Int32.ofInt x5)), (7, .int (Int32.ofInt x7)), (8, .int (Int32.ofInt x8)), (9, .int (Int32.ofInt x9)), (10, .int (Int32.ofInt x10)), (11, .int (Int32.ofInt x11)), (12, .int (Int32.ofInt x12))] → W p l e rm_Carriers_note s m args below meth c H locs 0 0 Q (F0 m 166 ls [])), ∀ (x1 : Int) (x2 : Int) (x3 : Int) (x4 : Int) (x5 : Int) (x7 : Int) (x8 : Int) (x9 : Int) (x12 : Int) (x13 : Int) (i_judge_piled : Int) (i_judge_tiring : Int) (i_judge_barred : Int) (i_notes : Nat → Int) (i_judge_words : Nat → Int) (i_judge_pile : Nat → Int) (H : Heap) (locs : List Loc) (ls : Array Slot), f_Carriers_note_230 i_hill_children i_hill_laws i_hill_inForce i_hill_changes i_hill_strengths i_hill_expelled i_hill_terms i_hill_orders i_hill_ordered k166 x1 x2 x3 x4 x5 x7 x8 x9 x12 x13 i_judge_piled i_judge_tiring i_judge_barred i_notes i_judge_words i_judge_pile = some out → va_P (dC, dI) vwCl (wd_Carriers_note cA q0 q1 q2 q3 q4 q5 q6 q7 q8 q9 q10 q11 q12 q13 q14 u0 i_hill_children i_hill_laws i_hill_inForce i_hill_changes i_hill_strengths i_hill_expelled i_hill_terms i_hill_orders i_hill_ordered i_judge_piled i_judge_tiring i_judge_barred i_notes i_judge_words i_judge_pile) H → va_D A (wd_Carriers_note cA q0 q1 q2 q3 q4 q5 q6 q7 q8 q9 q10 q11 q12 q13 q14 u0 i_hill_children i_hill_laws i_hill_inForce i_hill_changes i_hill_strengths i_hill_expelled i_hill_terms i_hill_orders i_hill_ordered i_judge_piled i_judge_tiring i_judge_barred i_notes i_judge_words i_judge_pile) → va_S A s.heap H locs → lv_has ls 14 [(0, .ref q0), (1, .int (Int32.ofInt x1)), (2, .int (Int32.ofInt x2)), (3, .int (Int32.ofInt x3)), (4, .int (Int32.ofInt x4)), (5, .int (Int32.ofInt x5)), (7, .int (Int32.ofInt x7)), (8, .int (Int32.ofInt x8)), (9, .int (Int32.ofInt x9)), (12, .int (Int32.ofInt x12)), (13, .int (Int32.ofInt x13))] → W p l e rm_Carriers_note s m args below meth c H locs 0 0 Q (F0 m 230 ls []) := by
    intro k166 ih166 x1 x2 x3 x4 x5 x7 x8 x9 x12 x13 i_judge_piled i_judge_tiring i_judge_barred i_notes i_judge_words i_judge_pile H locs ls hf hP hD hS hl
    unfold f_Carriers_note_230 at hf
    refine lv_iload hx hb dX0_note_230 (lv_at hl 9 rfl) ?_
    refine lv_istore (lv' := [(10, .int (Int32.ofInt x12)), (0, .ref q0), (1, .int (Int32.ofInt x1)), (2, .int (Int32.ofInt x2)), (3, .int (Int32.ofInt x3)), (4, .int (Int32.ofInt x4)), (5, .int (Int32.ofInt x5)), (7, .int (Int32.ofInt x7)), (8, .int (Int32.ofInt x8)), (9, .int (Int32.ofInt x9)), (12, .int (Int32.ofInt x12)), (13, .int (Int32.ofInt x13))]) hx hb dX0_note_232 hl (by decide) rfl (fun ls hl => ?_)
    refine lv_iload hx hb dX0_note_234 (lv_at hl 11 rfl) ?_
    refine lv_istore (lv' := [(11, .int (Int32.ofInt x13)), (10, .int (Int32.ofInt x12)), (0, .ref q0), (1, .int (Int32.ofInt x1)), (2, .int (Int32.ofInt x2)), (3, .int (Int32.ofInt x3)), (4, .int (Int32.ofInt x4)), (5, .int (Int32.ofInt x5)), (7, .int (Int32.ofInt x7)), (8, .int (Int32.ofInt x8)), (9, .int (Int32.ofInt x9)), (12, .int (Int32.ofInt x12)), (13, .int (Int32.ofInt x13))]) hx hb dX0_note_236 hl (by decide) rfl (fun ls hl => ?_)
    exact b_238 _ ih166 _ _ _ _ _ _ _ _ _ _ _ _ _ _ _ _ _ _ _ _ hf hP hD hS (lv_sub hl [2, 3, 4, 5, 6, 7, 8, 9, 10, 1, 0, 11] rfl)
  have b_216 : ∀ (k166 : Int → Int → Int → Int → Int → Int → Int → Int → Int → Int → Int → Int → Int → Int → (Nat → Int) → (Nat → Int) → (Nat → Int) → Option (Int × Int × Int × Int × (Nat → Int) × (Nat → Int) × (Nat → Int))) (_ : ∀ (x1 : Int) (x2 : Int) (x3 : Int) (x4 : Int) (x5 : Int) (x7 : Int) (x8 : Int) (x9 : Int) (x10 : Int) (x11 : Int) (x12 : Int) (i_judge_piled : Int) (i_judge_tiring : Int) (i_judge_barred : Int) (i_notes : Nat → Int) (i_judge_words : Nat → Int) (i_judge_pile : Nat → Int) (H : Heap) (locs : List Loc) (ls : Array Slot), k166 x1 x2 x3 x4 x5 x7 x8 x9 x10 x11 x12 i_judge_piled i_judge_tiring i_judge_barred i_notes i_judge_words i_judge_pile = some out → va_P (dC, dI) vwCl (wd_Carriers_note cA q0 q1 q2 q3 q4 q5 q6 q7 q8 q9 q10 q11 q12 q13 q14 u0 i_hill_children i_hill_laws i_hill_inForce i_hill_changes i_hill_strengths i_hill_expelled i_hill_terms i_hill_orders i_hill_ordered i_judge_piled i_judge_tiring i_judge_barred i_notes i_judge_words i_judge_pile) H → va_D A (wd_Carriers_note cA q0 q1 q2 q3 q4 q5 q6 q7 q8 q9 q10 q11 q12 q13 q14 u0 i_hill_children i_hill_laws i_hill_inForce i_hill_changes i_hill_strengths i_hill_expelled i_hill_terms i_hill_orders i_hill_ordered i_judge_piled i_judge_tiring i_judge_barred i_notes i_judge_words i_judge_pile) → va_S A s.heap H locs → lv_has ls 14 [(0, .ref q0), (1, .int (Int32.ofInt x1)), (2, .int (Int32.ofInt x2)), (3, .int (Int32.ofInt x3)), (4, .int (Int32.ofInt x4)), (5, .int (Int32.ofInt x5)), (7, .int (Int32.ofInt x7)), (8, .int (Int32.ofInt x8)), (9, .int (Int32.ofInt x9)), (10, .int (Int32.ofInt x10)), (11, .int (Int32.ofInt x11)), (12, .int (Int32.ofInt x12))] → W p l e rm_Carriers_note s m args below meth c H locs 0 0 Q (F0 m 166 ls [])), ∀ (x1 : Int) (x2 : Int) (x3 : Int) (x4 : Int) (x5 : Int) (x7 : Int) (x8 : Int) (x9 : Int) (x10 : Int) (x11 : Int) (x12 : Int) (x13 : Int) (i_judge_piled : Int) (i_judge_tiring : Int) (i_judge_barred : Int) (i_notes : Nat → Int) (i_judge_words : Nat → Int) (i_judge_pile : Nat → Int) (H : Heap) (locs : List Loc) (ls : Array Slot), f_Carriers_note_216 i_hill_children i_hill_laws i_hill_inForce i_hill_changes i_hill_strengths i_hill_expelled i_hill_terms i_hill_orders i_hill_ordered k166 x1 x2 x3 x4 x5 x7 x8 x9 x10 x11 x12 x13 i_judge_piled i_judge_tiring i_judge_barred i_notes i_judge_words i_judge_pile = some out → va_P (dC, dI) vwCl (wd_Carriers_note cA q0 q1 q2 q3 q4 q5 q6 q7 q8 q9 q10 q11 q12 q13 q14 u0 i_hill_children i_hill_laws i_hill_inForce i_hill_changes i_hill_strengths i_hill_expelled i_hill_terms i_hill_orders i_hill_ordered i_judge_piled i_judge_tiring i_judge_barred i_notes i_judge_words i_judge_pile) H → va_D A (wd_Carriers_note cA q0 q1 q2 q3 q4 q5 q6 q7 q8 q9 q10 q11 q12 q13 q14 u0 i_hill_children i_hill_laws i_hill_inForce i_hill_changes i_hill_strengths i_hill_expelled i_hill_terms i_hill_orders i_hill_ordered i_judge_piled i_judge_tiring i_judge_barred i_notes i_judge_words i_judge_pile) → va_S A s.heap H locs → lv_has ls 14 [(0, .ref q0), (1, .int (Int32.ofInt x1)), (2, .int (Int32.ofInt x2)), (3, .int (Int32.ofInt x3)), (4, .int (Int32.ofInt x4)), (5, .int (Int32.ofInt x5)), (7, .int (Int32.ofInt x7)), (8, .int (Int32.ofInt x8)), (9, .int (Int32.ofInt x9)), (10, .int (Int32.ofInt x10)), (11, .int (Int32.ofInt x11)), (12, .int (Int32.ofInt x12)), (13, .int (Int32.ofInt x13))] → W p l e rm_Carriers_note s m args below meth c H locs 0 0 Q (F0 m 216 ls []) := by
    intro k166 ih166 x1 x2 x3 x4 x5 x7 x8 x9 x10 x11 x12 x13 i_judge_piled i_judge_tiring i_judge_barred i_notes i_judge_words i_judge_pile H locs ls hf hP hD hS hl
    unfold f_Carriers_note_216 at hf
    refine lv_iload hx hb dX0_note_216 (lv_at hl 9 rfl) ?_
    refine lv_bipush (v := Int32.ofInt 7) hx hb dX0_note_218 (by decide) ?_
    refine xi_icmp_eq (tgt := 230) hx hb dX0_note_220 (by decide) hf (fun hf => ?_) (fun hf => ?_)
    · exact b_230 _ ih166 _ _ _ _ _ _ _ _ _ _ _ _ _ _ _ _ _ _ _ hf hP hD hS (lv_sub hl [0, 1, 2, 3, 4, 5, 6, 7, 8, 11, 12] rfl)
    · refine lv_iload hx hb dX0_note_223 (lv_at hl 12 rfl) ?_
      refine lv_iload hx hb dX0_note_225 (lv_at hl 10 rfl) ?_
      refine xi_icmp_ge (tgt := 238) hx hb dX0_note_227 (by decide) hf (fun hf => ?_) (fun hf => ?_)
      · exact b_238 _ ih166 _ _ _ _ _ _ _ _ _ _ _ _ _ _ _ _ _ _ _ _ hf hP hD hS (lv_sub hl [0, 1, 2, 3, 4, 5, 6, 7, 8, 9, 10, 11] rfl)
      · exact b_230 _ ih166 _ _ _ _ _ _ _ _ _ _ _ _ _ _ _ _ _ _ _ hf hP hD hS (lv_sub hl [0, 1, 2, 3, 4, 5, 6, 7, 8, 11, 12] rfl)
  have b_166 : ∀ (k166 : Int → Int → Int → Int → Int → Int → Int → Int → Int → Int → Int → Int → Int → Int → (Nat → Int) → (Nat → Int) → (Nat → Int) → Option (Int × Int × Int × Int × (Nat → Int) × (Nat → Int) × (Nat → Int))) (_ : ∀ (x1 : Int) (x2 : Int) (x3 : Int) (x4 : Int) (x5 : Int) (x7 : Int) (x8 : Int) (x9 : Int) (x10 : Int) (x11 : Int) (x12 : Int) (i_judge_piled : Int) (i_judge_tiring : Int) (i_judge_barred : Int) (i_notes : Nat → Int) (i_judge_words : Nat → Int) (i_judge_pile : Nat → Int) (H : Heap) (locs : List Loc) (ls : Array Slot), k166 x1 x2 x3 x4 x5 x7 x8 x9 x10 x11 x12 i_judge_piled i_judge_tiring i_judge_barred i_notes i_judge_words i_judge_pile = some out → va_P (dC, dI) vwCl (wd_Carriers_note cA q0 q1 q2 q3 q4 q5 q6 q7 q8 q9 q10 q11 q12 q13 q14 u0 i_hill_children i_hill_laws i_hill_inForce i_hill_changes i_hill_strengths i_hill_expelled i_hill_terms i_hill_orders i_hill_ordered i_judge_piled i_judge_tiring i_judge_barred i_notes i_judge_words i_judge_pile) H → va_D A (wd_Carriers_note cA q0 q1 q2 q3 q4 q5 q6 q7 q8 q9 q10 q11 q12 q13 q14 u0 i_hill_children i_hill_laws i_hill_inForce i_hill_changes i_hill_strengths i_hill_expelled i_hill_terms i_hill_orders i_hill_ordered i_judge_piled i_judge_tiring i_judge_barred i_notes i_judge_words i_judge_pile) → va_S A s.heap H locs → lv_has ls 14 [(0, .ref q0), (1, .int (Int32.ofInt x1)), (2, .int (Int32.ofInt x2)), (3, .int (Int32.ofInt x3)), (4, .int (Int32.ofInt x4)), (5, .int (Int32.ofInt x5)), (7, .int (Int32.ofInt x7)), (8, .int (Int32.ofInt x8)), (9, .int (Int32.ofInt x9)), (10, .int (Int32.ofInt x10)), (11, .int (Int32.ofInt x11)), (12, .int (Int32.ofInt x12))] → W p l e rm_Carriers_note s m args below meth c H locs 0 0 Q (F0 m 166 ls [])), ∀ (x1 : Int) (x2 : Int) (x3 : Int) (x4 : Int) (x5 : Int) (x7 : Int) (x8 : Int) (x9 : Int) (x10 : Int) (x11 : Int) (x12 : Int) (i_judge_piled : Int) (i_judge_tiring : Int) (i_judge_barred : Int) (i_notes : Nat → Int) (i_judge_words : Nat → Int) (i_judge_pile : Nat → Int) (H : Heap) (locs : List Loc) (ls : Array Slot), f_Carriers_note_166_b i_hill_children i_hill_laws i_hill_inForce i_hill_changes i_hill_strengths i_hill_expelled i_hill_terms i_hill_orders i_hill_ordered k166 x1 x2 x3 x4 x5 x7 x8 x9 x10 x11 x12 i_judge_piled i_judge_tiring i_judge_barred i_notes i_judge_words i_judge_pile = some out → va_P (dC, dI) vwCl (wd_Carriers_note cA q0 q1 q2 q3 q4 q5 q6 q7 q8 q9 q10 q11 q12 q13 q14 u0 i_hill_children i_hill_laws i_hill_inForce i_hill_changes i_hill_strengths i_hill_expelled i_hill_terms i_hill_orders i_hill_ordered i_judge_piled i_judge_tiring i_judge_barred i_notes i_judge_words i_judge_pile) H → va_D A (wd_Carriers_note cA q0 q1 q2 q3 q4 q5 q6 q7 q8 q9 q10 q11 q12 q13 q14 u0 i_hill_children i_hill_laws i_hill_inForce i_hill_changes i_hill_strengths i_hill_expelled i_hill_terms i_hill_orders i_hill_ordered i_judge_piled i_judge_tiring i_judge_barred i_notes i_judge_words i_judge_pile) → va_S A s.heap H locs → lv_has ls 14 [(0, .ref q0), (1, .int (Int32.ofInt x1)), (2, .int (Int32.ofInt x2)), (3, .int (Int32.ofInt x3)), (4, .int (Int32.ofInt x4)), (5, .int (Int32.ofInt x5)), (7, .int (Int32.ofInt x7)), (8, .int (Int32.ofInt x8)), (9, .int (Int32.ofInt x9)), (10, .int (Int32.ofInt x10)), (11, .int (Int32.ofInt x11)), (12, .int (Int32.ofInt x12))] → W p l e rm_Carriers_note s m args below meth c H locs 0 0 Q (F0 m 166 ls []) := by
    intro k166 ih166 x1 x2 x3 x4 x5 x7 x8 x9 x10 x11 x12 i_judge_piled i_judge_tiring i_judge_barred i_notes i_judge_words i_judge_pile H locs ls hf hP hD hS hl
    unfold f_Carriers_note_166_b at hf
    refine lv_iload hx hb dX0_note_166 (lv_at hl 11 rfl) ?_
    refine lv_aload_n hx hb dX0_note_168 rfl (lv_at hl 0 rfl) ?_
    refine va_get (D := (dC, dI)) (ci := 0) (v := .ref q1) (C := RX0) (T := TX0) (N := 3) hx hb hz zi_X0 hown hK hP 0 rfl rfl 0 (by decide) (hz _ zw_305) (fun _ h9 => h9) rfl dX0_note_169 ?_
    refine va_getN (D := (dC, dI)) (ci := 2) (v := .int (Int32.ofInt i_hill_children)) (C := RX2) (T := TX2) (N := 14) hx hb hz zi_X2 hown hK hP 1 rfl rfl 1 (by decide) (va_Nw.use rfl (hE.1.1 _ zw_174)) (fun _ h9 => h9) rfl dX0_note_172 ?_
    refine xi_icmp_ge (tgt := 244) hx hb dX0_note_175 (by decide) hf (fun hf => ?_) (fun hf => ?_)
    · refine lv_iload hx hb dX0_note_244 (lv_at hl 10 rfl) ?_
      refine lv_iconst (v := Int32.ofInt 3) hx hb dX0_note_246 rfl ?_
      refine xi_ishl hx hb dX0_note_247 hf (fun v1 hf => ?_)
      refine lv_iload hx hb dX0_note_248 (lv_at hl 9 rfl) ?_
      refine xi_ior hx hb dX0_note_250 hf (fun v2 hf => ?_)
      refine lv_iconst (v := Int32.ofInt 3) hx hb dX0_note_251 rfl ?_
      refine xi_ishl hx hb dX0_note_252 hf (fun v3 hf => ?_)
      refine lv_iload hx hb dX0_note_253 (lv_at hl 8 rfl) ?_
      refine xi_ior hx hb dX0_note_255 hf (fun v4 hf => ?_)
      refine lv_istore (lv' := [(12, .int (Int32.ofInt v4)), (0, .ref q0), (1, .int (Int32.ofInt x1)), (2, .int (Int32.ofInt x2)), (3, .int (Int32.ofInt x3)), (4, .int (Int32.ofInt x4)), (5, .int (Int32.ofInt x5)), (7, .int (Int32.ofInt x7)), (8, .int (Int32.ofInt x8)), (9, .int (Int32.ofInt x9)), (10, .int (Int32.ofInt x10)), (11, .int (Int32.ofInt x11))]) hx hb dX0_note_256 hl (by decide) rfl (fun ls hl => ?_)
      refine lv_aload_n hx hb dX0_note_258 rfl (lv_at hl 1 rfl) ?_
      refine va_get (D := (dC, dI)) (ci := 0) (v := .ref q3) (C := RX0) (T := TX0) (N := 3) hx hb hz zi_X0 hown hK hP 0 rfl rfl 2 (by decide) (hz _ zw_307) (fun _ h9 => h9) rfl dX0_note_259 ?_
      refine lv_iload hx hb dX0_note_262 (lv_at hl 7 rfl) ?_
      refine lv_iload hx hb dX0_note_264 (lv_at hl 8 rfl) ?_
      refine lv_bipush (v := Int32.ofInt 13) hx hb dX0_note_266 (by decide) ?_
      refine xi_ishl hx hb dX0_note_268 hf (fun v5 hf => ?_)
      refine lv_iload hx hb dX0_note_269 (lv_at hl 0 rfl) ?_
      refine xi_ior hx hb dX0_note_271 hf (fun v6 hf => ?_)
      refine xi_iast hx hb hK hP hD hS 3 0 rfl rfl dX0_note_272 hf (fun a7 H locs hP hD hS hf => ?_)
      have hP : va_P (dC, dI) vwCl (wd_Carriers_note cA q0 q1 q2 q3 q4 q5 q6 q7 q8 q9 q10 q11 q12 q13 q14 u0 i_hill_children i_hill_laws i_hill_inForce i_hill_changes i_hill_strengths i_hill_expelled i_hill_terms i_hill_orders i_hill_ordered i_judge_piled i_judge_tiring i_judge_barred a7 i_judge_words i_judge_pile) H := hP
      have hD : va_D A (wd_Carriers_note cA q0 q1 q2 q3 q4 q5 q6 q7 q8 q9 q10 q11 q12 q13 q14 u0 i_hill_children i_hill_laws i_hill_inForce i_hill_changes i_hill_strengths i_hill_expelled i_hill_terms i_hill_orders i_hill_ordered i_judge_piled i_judge_tiring i_judge_barred a7 i_judge_words i_judge_pile) := hD
      refine lv_iload hx hb dX0_note_273 (lv_at hl 9 rfl) ?_
      refine lv_bipush (v := Int32.ofInt 7) hx hb dX0_note_275 (by decide) ?_
      refine xi_icmp_ne (tgt := 284) hx hb dX0_note_277 (by decide) hf (fun hf => ?_) (fun hf => ?_)
      · refine lv_iload hx hb dX0_note_284 (lv_at hl 0 rfl) ?_
        obtain rfl := Option.some.inj hf
        exact hret _ _ _ _ rfl dX0_note_286 hP hD hS
      · refine lv_iconst (v := Int32.ofInt (-1)) hx hb dX0_note_280 rfl ?_
        refine lv_goto (tgt := 286) hx hb dX0_note_281 (by decide) ?_
        obtain rfl := Option.some.inj hf
        exact hret _ _ _ _ rfl dX0_note_286 hP hD hS
    · refine lv_aload_n hx hb dX0_note_178 rfl (lv_at hl 0 rfl) ?_
      refine va_get (D := (dC, dI)) (ci := 0) (v := .ref q2) (C := RX0) (T := TX0) (N := 3) hx hb hz zi_X0 hown hK hP 0 rfl rfl 1 (by decide) (hz _ zw_306) (fun _ h9 => h9) rfl dX0_note_179 ?_
      refine lv_iload hx hb dX0_note_182 (lv_at hl 11 rfl) ?_
      refine lv_iload_n hx hb dX0_note_184 rfl (lv_at hl 1 rfl) ?_
      refine lv_iload_n hx hb dX0_note_185 rfl (lv_at hl 2 rfl) ?_
      refine lv_iload_n hx hb dX0_note_186 rfl (lv_at hl 3 rfl) ?_
      refine lv_iload hx hb dX0_note_187 (lv_at hl 4 rfl) ?_
      refine lv_iload hx hb dX0_note_189 (lv_at hl 5 rfl) ?_
      refine xe_d6 hf (fun v8 v9 v10 v11 a12 a13 hg hf => ?_)
      have hC : ([2, 1, 9, 10, 4, 5, 6, 7, 8] : List Nat).map (fun i => (wd_Carriers_note cA q0 q1 q2 q3 q4 q5 q6 q7 q8 q9 q10 q11 q12 q13 q14 u0 i_hill_children i_hill_laws i_hill_inForce i_hill_changes i_hill_strengths i_hill_expelled i_hill_terms i_hill_orders i_hill_ordered i_judge_piled i_judge_tiring i_judge_barred i_notes i_judge_words i_judge_pile)[i]?) = (wd_Judge_effort cA q2 q1 q13 q14 q4 q5 q6 q7 q8 q9 q10 q11 q12 u0 i_hill_changes i_hill_children i_hill_laws i_hill_inForce i_hill_strengths i_hill_expelled i_hill_terms i_hill_orders i_hill_ordered i_judge_piled i_judge_tiring i_judge_barred i_judge_words i_judge_pile).map some := rfl
      refine xv_afterI (ws' := (wd_Carriers_note cA q0 q1 q2 q3 q4 q5 q6 q7 q8 q9 q10 q11 q12 q13 q14 u0 i_hill_children i_hill_laws i_hill_inForce i_hill_changes i_hill_strengths i_hill_expelled i_hill_terms i_hill_orders i_hill_ordered v9 v10 v11 i_notes a12 a13)) (isC := [2, 1, 9, 10, 4, 5, 6, 7, 8]) (ps := [none, some 1, some 0, none, some 4, some 5, some 6, some 7, some 8, some 2, some 3]) (va_runV (As := [.int (Int32.ofInt x12), .int (Int32.ofInt x1), .int (Int32.ofInt x2), .int (Int32.ofInt x3), .int (Int32.ofInt x4), .int (Int32.ofInt x5)]) (rest := []) ⟨hx, hb, hml, hown, hts⟩ (c_Judge_effort l ev dC dI cA q2 q1 q13 q14 q4 q5 q6 q7 q8 q9 q10 q11 q12 u0 i_hill_changes hg H.size) (cwV 6 hts (zgV zw_999 zw_810 zw_811 zw_108 zw_812) rfl rfl rfl hd_Judge_effort ⟨Nat.le_of_ble_eq_true rfl, Nat.le_of_ble_eq_true rfl⟩) (xv_preV (T := TX3) (N := 6) hE hA hS hK hP hD (isC := [2, 1, 9, 10, 4, 5, 6, 7, 8]) (by decide +kernel) hC (q0 := 2) (ci := 3) rfl rfl) rfl rfl hl.1 rfl (lv_room (Nat.le_of_ble_eq_true rfl)) dX0_note_191 ⟨Nat.le_refl _, Nat.le_refl _⟩) hP hD hS hA (by decide +kernel) rfl hC rfl rfl (fun H locs hP hD hS => ?_)
      refine lv_istore (lv' := [(13, .int (Int32.ofInt v8)), (0, .ref q0), (1, .int (Int32.ofInt x1)), (2, .int (Int32.ofInt x2)), (3, .int (Int32.ofInt x3)), (4, .int (Int32.ofInt x4)), (5, .int (Int32.ofInt x5)), (7, .int (Int32.ofInt x7)), (8, .int (Int32.ofInt x8)), (9, .int (Int32.ofInt x9)), (10, .int (Int32.ofInt x10)), (11, .int (Int32.ofInt x11)), (12, .int (Int32.ofInt x12))]) hx hb dX0_note_194 hl (by decide) rfl (fun ls hl => ?_)
      refine lv_iload hx hb dX0_note_196 (lv_at hl 0 rfl) ?_
      refine lv_iconst (v := Int32.ofInt (-1)) hx hb dX0_note_198 rfl ?_
      refine xi_icmp_ne (tgt := 205) hx hb dX0_note_199 (by decide) hf (fun hf => ?_) (fun hf => ?_)
      · refine lv_iload hx hb dX0_note_205 (lv_at hl 9 rfl) ?_
        refine lv_bipush (v := Int32.ofInt 7) hx hb dX0_note_207 (by decide) ?_
        refine xi_icmp_ne (tgt := 216) hx hb dX0_note_209 (by decide) hf (fun hf => ?_) (fun hf => ?_)
        · exact b_216 _ ih166 _ _ _ _ _ _ _ _ _ _ _ _ _ _ _ _ _ _ _ _ _ hf hP hD hS (lv_sub hl [1, 2, 3, 4, 5, 6, 7, 8, 9, 10, 11, 12, 0] rfl)
        · refine lv_iload hx hb dX0_note_212 (lv_at hl 12 rfl) ?_
          refine lv_istore (lv' := [(9, .int (Int32.ofInt x12)), (13, .int (Int32.ofInt v8)), (0, .ref q0), (1, .int (Int32.ofInt x1)), (2, .int (Int32.ofInt x2)), (3, .int (Int32.ofInt x3)), (4, .int (Int32.ofInt x4)), (5, .int (Int32.ofInt x5)), (7, .int (Int32.ofInt x7)), (8, .int (Int32.ofInt x8)), (10, .int (Int32.ofInt x10)), (11, .int (Int32.ofInt x11)), (12, .int (Int32.ofInt x12))]) hx hb dX0_note_214 hl (by decide) rfl (fun ls hl => ?_)
          exact b_216 _ ih166 _ _ _ _ _ _ _ _ _ _ _ _ _ _ _ _ _ _ _ _ _ hf hP hD hS (lv_sub hl [2, 3, 4, 5, 6, 7, 8, 9, 0, 10, 11, 12, 1] rfl)
      · refine lv_goto (tgt := 238) hx hb dX0_note_202 (by decide) ?_
        exact b_238 _ ih166 _ _ _ _ _ _ _ _ _ _ _ _ _ _ _ _ _ _ _ _ hf hP hD hS (lv_sub hl [1, 2, 3, 4, 5, 6, 7, 8, 9, 10, 11, 12] rfl)
  have l_166 : ∀ (n : Nat), ∀ (x1 : Int) (x2 : Int) (x3 : Int) (x4 : Int) (x5 : Int) (x7 : Int) (x8 : Int) (x9 : Int) (x10 : Int) (x11 : Int) (x12 : Int) (i_judge_piled : Int) (i_judge_tiring : Int) (i_judge_barred : Int) (i_notes : Nat → Int) (i_judge_words : Nat → Int) (i_judge_pile : Nat → Int) (H : Heap) (locs : List Loc) (ls : Array Slot), f_Carriers_note_166 i_hill_children i_hill_laws i_hill_inForce i_hill_changes i_hill_strengths i_hill_expelled i_hill_terms i_hill_orders i_hill_ordered n x1 x2 x3 x4 x5 x7 x8 x9 x10 x11 x12 i_judge_piled i_judge_tiring i_judge_barred i_notes i_judge_words i_judge_pile = some out → va_P (dC, dI) vwCl (wd_Carriers_note cA q0 q1 q2 q3 q4 q5 q6 q7 q8 q9 q10 q11 q12 q13 q14 u0 i_hill_children i_hill_laws i_hill_inForce i_hill_changes i_hill_strengths i_hill_expelled i_hill_terms i_hill_orders i_hill_ordered i_judge_piled i_judge_tiring i_judge_barred i_notes i_judge_words i_judge_pile) H → va_D A (wd_Carriers_note cA q0 q1 q2 q3 q4 q5 q6 q7 q8 q9 q10 q11 q12 q13 q14 u0 i_hill_children i_hill_laws i_hill_inForce i_hill_changes i_hill_strengths i_hill_expelled i_hill_terms i_hill_orders i_hill_ordered i_judge_piled i_judge_tiring i_judge_barred i_notes i_judge_words i_judge_pile) → va_S A s.heap H locs → lv_has ls 14 [(0, .ref q0), (1, .int (Int32.ofInt x1)), (2, .int (Int32.ofInt x2)), (3, .int (Int32.ofInt x3)), (4, .int (Int32.ofInt x4)), (5, .int (Int32.ofInt x5)), (7, .int (Int32.ofInt x7)), (8, .int (Int32.ofInt x8)), (9, .int (Int32.ofInt x9)), (10, .int (Int32.ofInt x10)), (11, .int (Int32.ofInt x11)), (12, .int (Int32.ofInt x12))] → W p l e rm_Carriers_note s m args below meth c H locs 0 0 Q (F0 m 166 ls []) := by
    intro n
    induction n with
    | zero => intro x1 x2 x3 x4 x5 x7 x8 x9 x10 x11 x12 i_judge_piled i_judge_tiring i_judge_barred i_notes i_judge_words i_judge_pile H locs ls hf hP hD hS hl; exact nomatch hf
    | succ n ih => intro x1 x2 x3 x4 x5 x7 x8 x9 x10 x11 x12 i_judge_piled i_judge_tiring i_judge_barred i_notes i_judge_words i_judge_pile H locs ls hf hP hD hS hl; exact b_166 (f_Carriers_note_166 i_hill_children i_hill_laws i_hill_inForce i_hill_changes i_hill_strengths i_hill_expelled i_hill_terms i_hill_orders i_hill_ordered n) ih x1 x2 x3 x4 x5 x7 x8 x9 x10 x11 x12 i_judge_piled i_judge_tiring i_judge_barred i_notes i_judge_words i_judge_pile H locs ls hf hP hD hS hl
  unfold f_Carriers_note at hf
  refine lv_iload_n hx hb dX0_note_0 rfl (lv_at hl 1 rfl) ?_
  refine xi_if_lt (tgt := 59) hx hb dX0_note_1 (by decide) hf (fun hf => ?_) (fun hf => ?_)
  · refine lv_iconst (v := Int32.ofInt (-1)) hx hb dX0_note_59 rfl ?_
    obtain rfl := Option.some.inj hf
    exact hret _ _ _ _ rfl dX0_note_60 hP hD hS
  · refine lv_iload_n hx hb dX0_note_4 rfl (lv_at hl 1 rfl) ?_
    refine lv_iconst (v := Int32.ofInt 4) hx hb dX0_note_5 rfl ?_
    refine xi_icmp_ge (tgt := 59) hx hb dX0_note_6 (by decide) hf (fun hf => ?_) (fun hf => ?_)
    · refine lv_iconst (v := Int32.ofInt (-1)) hx hb dX0_note_59 rfl ?_
      obtain rfl := Option.some.inj hf
      exact hret _ _ _ _ rfl dX0_note_60 hP hD hS
    · refine lv_iload_n hx hb dX0_note_9 rfl (lv_at hl 2 rfl) ?_
      refine xi_if_lt (tgt := 59) hx hb dX0_note_10 (by decide) hf (fun hf => ?_) (fun hf => ?_)
      · refine lv_iconst (v := Int32.ofInt (-1)) hx hb dX0_note_59 rfl ?_
        obtain rfl := Option.some.inj hf
        exact hret _ _ _ _ rfl dX0_note_60 hP hD hS
      · refine lv_iload_n hx hb dX0_note_13 rfl (lv_at hl 2 rfl) ?_
        refine lv_iconst (v := Int32.ofInt 4) hx hb dX0_note_14 rfl ?_
        refine xi_icmp_ge (tgt := 59) hx hb dX0_note_15 (by decide) hf (fun hf => ?_) (fun hf => ?_)
        · refine lv_iconst (v := Int32.ofInt (-1)) hx hb dX0_note_59 rfl ?_
          obtain rfl := Option.some.inj hf
          exact hret _ _ _ _ rfl dX0_note_60 hP hD hS
        · refine lv_iload_n hx hb dX0_note_18 rfl (lv_at hl 1 rfl) ?_
          refine lv_iload_n hx hb dX0_note_19 rfl (lv_at hl 2 rfl) ?_
          refine xi_icmp_eq (tgt := 59) hx hb dX0_note_20 (by decide) hf (fun hf => ?_) (fun hf => ?_)
          · refine lv_iconst (v := Int32.ofInt (-1)) hx hb dX0_note_59 rfl ?_
            obtain rfl := Option.some.inj hf
            exact hret _ _ _ _ rfl dX0_note_60 hP hD hS
          · refine lv_iload_n hx hb dX0_note_23 rfl (lv_at hl 3 rfl) ?_
            refine lv_iconst (v := Int32.ofInt 1) hx hb dX0_note_24 rfl ?_
            refine xi_icmp_lt (tgt := 59) hx hb dX0_note_25 (by decide) hf (fun hf => ?_) (fun hf => ?_)
            · refine lv_iconst (v := Int32.ofInt (-1)) hx hb dX0_note_59 rfl ?_
              obtain rfl := Option.some.inj hf
              exact hret _ _ _ _ rfl dX0_note_60 hP hD hS
            · refine lv_iload_n hx hb dX0_note_28 rfl (lv_at hl 3 rfl) ?_
              refine lv_bipush (v := Int32.ofInt 30) hx hb dX0_note_29 (by decide) ?_
              refine xi_icmp_gt (tgt := 59) hx hb dX0_note_31 (by decide) hf (fun hf => ?_) (fun hf => ?_)
              · refine lv_iconst (v := Int32.ofInt (-1)) hx hb dX0_note_59 rfl ?_
                obtain rfl := Option.some.inj hf
                exact hret _ _ _ _ rfl dX0_note_60 hP hD hS
              · refine lv_iload hx hb dX0_note_34 (lv_at hl 4 rfl) ?_
                refine lv_iconst (v := Int32.ofInt 1) hx hb dX0_note_36 rfl ?_
                refine xi_icmp_lt (tgt := 59) hx hb dX0_note_37 (by decide) hf (fun hf => ?_) (fun hf => ?_)
                · refine lv_iconst (v := Int32.ofInt (-1)) hx hb dX0_note_59 rfl ?_
                  obtain rfl := Option.some.inj hf
                  exact hret _ _ _ _ rfl dX0_note_60 hP hD hS
                · refine lv_iload hx hb dX0_note_40 (lv_at hl 4 rfl) ?_
                  refine lv_bipush (v := Int32.ofInt 10) hx hb dX0_note_42 (by decide) ?_
                  refine xi_icmp_gt (tgt := 59) hx hb dX0_note_44 (by decide) hf (fun hf => ?_) (fun hf => ?_)
                  · refine lv_iconst (v := Int32.ofInt (-1)) hx hb dX0_note_59 rfl ?_
                    obtain rfl := Option.some.inj hf
                    exact hret _ _ _ _ rfl dX0_note_60 hP hD hS
                  · refine lv_iload hx hb dX0_note_47 (lv_at hl 5 rfl) ?_
                    refine xi_if_lt (tgt := 59) hx hb dX0_note_49 (by decide) hf (fun hf => ?_) (fun hf => ?_)
                    · refine lv_iconst (v := Int32.ofInt (-1)) hx hb dX0_note_59 rfl ?_
                      obtain rfl := Option.some.inj hf
                      exact hret _ _ _ _ rfl dX0_note_60 hP hD hS
                    · refine lv_iload hx hb dX0_note_52 (lv_at hl 5 rfl) ?_
                      refine lv_bipush (v := Int32.ofInt 10) hx hb dX0_note_54 (by decide) ?_
                      refine xi_icmp_lt (tgt := 61) hx hb dX0_note_56 (by decide) hf (fun hf => ?_) (fun hf => ?_)
                      · refine lv_iload_n hx hb dX0_note_61 rfl (lv_at hl 1 rfl) ?_
                        refine lv_iconst (v := Int32.ofInt 4) hx hb dX0_note_62 rfl ?_
                        refine xi_imul hx hb dX0_note_63 hf (fun v1 hf => ?_)
                        refine lv_iload_n hx hb dX0_note_64 rfl (lv_at hl 2 rfl) ?_
                        refine xi_iadd hx hb dX0_note_65 hf (fun v2 hf => ?_)
                        refine lv_istore (lv' := [(6, .int (Int32.ofInt v2)), (0, .ref q0), (1, .int (Int32.ofInt x1)), (2, .int (Int32.ofInt x2)), (3, .int (Int32.ofInt x3)), (4, .int (Int32.ofInt x4)), (5, .int (Int32.ofInt x5))]) hx hb dX0_note_66 hl (by decide) rfl (fun ls hl => ?_)
                        refine lv_iload hx hb dX0_note_68 (lv_at hl 0 rfl) ?_
                        refine lv_bipush (v := Int32.ofInt 30) hx hb dX0_note_70 (by decide) ?_
                        refine xi_imul hx hb dX0_note_72 hf (fun v3 hf => ?_)
                        refine lv_iload_n hx hb dX0_note_73 rfl (lv_at hl 4 rfl) ?_
                        refine xi_iadd hx hb dX0_note_74 hf (fun v4 hf => ?_)
                        refine lv_iconst (v := Int32.ofInt 1) hx hb dX0_note_75 rfl ?_
                        refine xi_isub hx hb dX0_note_76 hf (fun v5 hf => ?_)
                        refine lv_bipush (v := Int32.ofInt 10) hx hb dX0_note_77 (by decide) ?_
                        refine xi_imul hx hb dX0_note_79 hf (fun v6 hf => ?_)
                        refine lv_iload hx hb dX0_note_80 (lv_at hl 5 rfl) ?_
                        refine xi_iadd hx hb dX0_note_82 hf (fun v7 hf => ?_)
                        refine lv_iconst (v := Int32.ofInt 1) hx hb dX0_note_83 rfl ?_
                        refine xi_isub hx hb dX0_note_84 hf (fun v8 hf => ?_)
                        refine lv_bipush (v := Int32.ofInt 10) hx hb dX0_note_85 (by decide) ?_
                        refine xi_imul hx hb dX0_note_87 hf (fun v9 hf => ?_)
                        refine lv_iload hx hb dX0_note_88 (lv_at hl 6 rfl) ?_
                        refine xi_iadd hx hb dX0_note_90 hf (fun v10 hf => ?_)
                        refine lv_istore (lv' := [(7, .int (Int32.ofInt v10)), (6, .int (Int32.ofInt v2)), (0, .ref q0), (1, .int (Int32.ofInt x1)), (2, .int (Int32.ofInt x2)), (3, .int (Int32.ofInt x3)), (4, .int (Int32.ofInt x4)), (5, .int (Int32.ofInt x5))]) hx hb dX0_note_91 hl (by decide) rfl (fun ls hl => ?_)
                        refine lv_aload_n hx hb dX0_note_93 rfl (lv_at hl 2 rfl) ?_
                        refine va_get (D := (dC, dI)) (ci := 0) (v := .ref q1) (C := RX0) (T := TX0) (N := 3) hx hb hz zi_X0 hown hK hP 0 rfl rfl 0 (by decide) (hz _ zw_305) (fun _ h9 => h9) rfl dX0_note_94 ?_
                        refine va_getN (D := (dC, dI)) (ci := 2) (v := .int (Int32.ofInt i_hill_changes)) (C := RX2) (T := TX2) (N := 14) hx hb hz zi_X2 hown hK hP 1 rfl rfl 13 (by decide) (va_Nw.use rfl (hE.1.1 _ zw_209)) (fun _ h9 => h9) rfl dX0_note_97 ?_
                        refine lv_ldc (v := Int32.ofInt 524287) hx hb hown (hz _ zw_995) dX0_note_100 ?_
                        refine xi_irem hx hb dX0_note_102 hf (fun v11 hf => ?_)
                        refine lv_iconst (v := Int32.ofInt 1) hx hb dX0_note_103 rfl ?_
                        refine xi_iadd hx hb dX0_note_104 hf (fun v12 hf => ?_)
                        refine lv_istore (lv' := [(8, .int (Int32.ofInt v12)), (7, .int (Int32.ofInt v10)), (6, .int (Int32.ofInt v2)), (0, .ref q0), (1, .int (Int32.ofInt x1)), (2, .int (Int32.ofInt x2)), (3, .int (Int32.ofInt x3)), (4, .int (Int32.ofInt x4)), (5, .int (Int32.ofInt x5))]) hx hb dX0_note_105 hl (by decide) rfl (fun ls hl => ?_)
                        refine lv_aload_n hx hb dX0_note_107 rfl (lv_at hl 3 rfl) ?_
                        refine va_get (D := (dC, dI)) (ci := 0) (v := .ref q3) (C := RX0) (T := TX0) (N := 3) hx hb hz zi_X0 hown hK hP 0 rfl rfl 2 (by decide) (hz _ zw_307) (fun _ h9 => h9) rfl dX0_note_108 ?_
                        refine lv_iload hx hb dX0_note_111 (lv_at hl 1 rfl) ?_
                        refine xi_iald hx hb hK hP 3 0 rfl rfl dX0_note_113 hf (fun v13 hf => ?_)
                        refine lv_bipush (v := Int32.ofInt 13) hx hb dX0_note_114 (by decide) ?_
                        refine xi_iushr hx hb dX0_note_116 hf (fun v14 hf => ?_)
                        refine lv_iload hx hb dX0_note_117 (lv_at hl 0 rfl) ?_
                        refine xi_icmp_ne (tgt := 152) hx hb dX0_note_119 (by decide) hf (fun hf => ?_) (fun hf => ?_)
                        · refine lv_bipush (v := Int32.ofInt 7) hx hb dX0_note_152 (by decide) ?_
                          refine lv_istore (lv' := [(9, .int (Int32.ofInt 7)), (8, .int (Int32.ofInt v12)), (7, .int (Int32.ofInt v10)), (6, .int (Int32.ofInt v2)), (0, .ref q0), (1, .int (Int32.ofInt x1)), (2, .int (Int32.ofInt x2)), (3, .int (Int32.ofInt x3)), (4, .int (Int32.ofInt x4)), (5, .int (Int32.ofInt x5))]) hx hb dX0_note_154 hl (by decide) rfl (fun ls hl => ?_)
                          refine lv_bipush (v := Int32.ofInt 7) hx hb dX0_note_156 (by decide) ?_
                          refine lv_istore (lv' := [(10, .int (Int32.ofInt 7)), (9, .int (Int32.ofInt 7)), (8, .int (Int32.ofInt v12)), (7, .int (Int32.ofInt v10)), (6, .int (Int32.ofInt v2)), (0, .ref q0), (1, .int (Int32.ofInt x1)), (2, .int (Int32.ofInt x2)), (3, .int (Int32.ofInt x3)), (4, .int (Int32.ofInt x4)), (5, .int (Int32.ofInt x5))]) hx hb dX0_note_158 hl (by decide) rfl (fun ls hl => ?_)
                          refine lv_iconst (v := Int32.ofInt 0) hx hb dX0_note_160 rfl ?_
                          refine lv_istore (lv' := [(11, .int (Int32.ofInt 0)), (10, .int (Int32.ofInt 7)), (9, .int (Int32.ofInt 7)), (8, .int (Int32.ofInt v12)), (7, .int (Int32.ofInt v10)), (6, .int (Int32.ofInt v2)), (0, .ref q0), (1, .int (Int32.ofInt x1)), (2, .int (Int32.ofInt x2)), (3, .int (Int32.ofInt x3)), (4, .int (Int32.ofInt x4)), (5, .int (Int32.ofInt x5))]) hx hb dX0_note_161 hl (by decide) rfl (fun ls hl => ?_)
                          refine lv_iconst (v := Int32.ofInt 0) hx hb dX0_note_163 rfl ?_
                          refine lv_istore (lv' := [(12, .int (Int32.ofInt 0)), (11, .int (Int32.ofInt 0)), (10, .int (Int32.ofInt 7)), (9, .int (Int32.ofInt 7)), (8, .int (Int32.ofInt v12)), (7, .int (Int32.ofInt v10)), (6, .int (Int32.ofInt v2)), (0, .ref q0), (1, .int (Int32.ofInt x1)), (2, .int (Int32.ofInt x2)), (3, .int (Int32.ofInt x3)), (4, .int (Int32.ofInt x4)), (5, .int (Int32.ofInt x5))]) hx hb dX0_note_164 hl (by decide) rfl (fun ls hl => ?_)
                          exact l_166  _ _ _ _ _ _ _ _ _ _ _ _ _ _ _ _ _ _ _ _ _ hf hP hD hS (lv_sub hl [7, 8, 9, 10, 11, 12, 5, 4, 3, 2, 1, 0] rfl)
                        · refine lv_aload_n hx hb dX0_note_122 rfl (lv_at hl 3 rfl) ?_
                          refine va_get (D := (dC, dI)) (ci := 0) (v := .ref q3) (C := RX0) (T := TX0) (N := 3) hx hb hz zi_X0 hown hK hP 0 rfl rfl 2 (by decide) (hz _ zw_307) (fun _ h9 => h9) rfl dX0_note_123 ?_
                          refine lv_iload hx hb dX0_note_126 (lv_at hl 1 rfl) ?_
                          refine xi_iald hx hb hK hP 3 0 rfl rfl dX0_note_128 hf (fun v15 hf => ?_)
                          refine lv_sipush (v := Int32.ofInt 8191) hx hb dX0_note_129 (by decide) ?_
                          refine xi_iand hx hb dX0_note_132 hf (fun v16 hf => ?_)
                          refine lv_istore (lv' := [(9, .int (Int32.ofInt v16)), (8, .int (Int32.ofInt v12)), (7, .int (Int32.ofInt v10)), (6, .int (Int32.ofInt v2)), (0, .ref q0), (1, .int (Int32.ofInt x1)), (2, .int (Int32.ofInt x2)), (3, .int (Int32.ofInt x3)), (4, .int (Int32.ofInt x4)), (5, .int (Int32.ofInt x5))]) hx hb dX0_note_133 hl (by decide) rfl (fun ls hl => ?_)
                          refine lv_iload hx hb dX0_note_135 (lv_at hl 0 rfl) ?_
                          refine xe_d1 hf (fun v17 hg hf => ?_)
                          have hC : ([] : List Nat).map (fun i => (wd_Carriers_note cA q0 q1 q2 q3 q4 q5 q6 q7 q8 q9 q10 q11 q12 q13 q14 u0 i_hill_children i_hill_laws i_hill_inForce i_hill_changes i_hill_strengths i_hill_expelled i_hill_terms i_hill_orders i_hill_ordered i_judge_piled i_judge_tiring i_judge_barred i_notes i_judge_words i_judge_pile)[i]?) = (wd_Carriers_lowest cA).map some := rfl
                          refine xv_afterI (ws' := (wd_Carriers_note cA q0 q1 q2 q3 q4 q5 q6 q7 q8 q9 q10 q11 q12 q13 q14 u0 i_hill_children i_hill_laws i_hill_inForce i_hill_changes i_hill_strengths i_hill_expelled i_hill_terms i_hill_orders i_hill_ordered i_judge_piled i_judge_tiring i_judge_barred i_notes i_judge_words i_judge_pile)) (isC := []) (ps := [none, none, none, none, none, none, none, none, none, none, none]) (va_runS (As := [.int (Int32.ofInt v16)]) (rest := []) ⟨hx, hb, hml, hown, hts⟩ (c_Carriers_lowest l ev dC dI cA hg H.size) (va_cwS 1 hts (zgS zw_996 zw_997 zw_109 zw_998) rfl rfl rfl hd_Carriers_lowest.2 ⟨Nat.le_of_ble_eq_true rfl, Nat.le_of_ble_eq_true rfl⟩) (xv_preS hE hA hS hK hP hD (isC := []) (by decide +kernel) hC) rfl rfl hl.1 rfl (lv_room (Nat.le_of_ble_eq_true rfl)) dX0_note_137 ⟨Nat.le_refl _, Nat.le_refl _⟩) hP hD hS hA (by decide +kernel) rfl hC rfl rfl (fun H locs hP hD hS => ?_)
                          refine lv_bipush (v := Int32.ofInt 7) hx hb dX0_note_140 (by decide) ?_
                          refine xi_icmp_ne (tgt := 149) hx hb dX0_note_142 (by decide) hf (fun hf => ?_) (fun hf => ?_)
                          · refine lv_iload hx hb dX0_note_149 (lv_at hl 0 rfl) ?_
                            obtain rfl := Option.some.inj hf
                            exact hret _ _ _ _ rfl dX0_note_151 hP hD hS
                          · refine lv_iconst (v := Int32.ofInt (-1)) hx hb dX0_note_145 rfl ?_
                            refine lv_goto (tgt := 151) hx hb dX0_note_146 (by decide) ?_
                            obtain rfl := Option.some.inj hf
                            exact hret _ _ _ _ rfl dX0_note_151 hP hD hS
                      · refine lv_iconst (v := Int32.ofInt (-1)) hx hb dX0_note_59 rfl ?_
                        obtain rfl := Option.some.inj hf
                        exact hret _ _ _ _ rfl dX0_note_60 hP hD hS
