theorem dX6_init_0 : decode cX6_init 0 = .ok (.aload_n 0, 1) := by decide +kernel
theorem dX6_init_1 : decode cX6_init 1 = .ok (.invokespecial 3, 3) := by decide +kernel
theorem dX6_init_4 : decode cX6_init 4 = .ok (.aload_n 0, 1) := by decide +kernel
theorem dX6_init_5 : decode cX6_init 5 = .ok (.iconst (-1), 1) := by decide +kernel
theorem dX6_init_6 : decode cX6_init 6 = .ok (.putfield 9, 3) := by decide +kernel
theorem dX6_init_9 : decode cX6_init 9 = .ok (.aload_n 0, 1) := by decide +kernel
theorem dX6_init_10 : decode cX6_init 10 = .ok (.iconst (-1), 1) := by decide +kernel
theorem dX6_init_11 : decode cX6_init 11 = .ok (.putfield 15, 3) := by decide +kernel
theorem dX6_init_14 : decode cX6_init 14 = .ok (.aload_n 0, 1) := by decide +kernel
theorem dX6_init_15 : decode cX6_init 15 = .ok (.iconst (-1), 1) := by decide +kernel
theorem dX6_init_16 : decode cX6_init 16 = .ok (.putfield 18, 3) := by decide +kernel
theorem dX6_init_19 : decode cX6_init 19 = .ok (.aload_n 0, 1) := by decide +kernel
theorem dX6_init_20 : decode cX6_init 20 = .ok (.sipush 6720, 3) := by decide +kernel
theorem dX6_init_23 : decode cX6_init 23 = .ok (.newarray .int, 2) := by decide +kernel
theorem dX6_init_25 : decode cX6_init 25 = .ok (.putfield 23, 3) := by decide +kernel
theorem dX6_init_28 : decode cX6_init 28 = .ok (.return_, 1) := by decide +kernel
abbrev w_Plan_init : List Cond := .code yX6_init cX6_init 1 none :: zall
abbrev rm_Plan_init : Room := { frames := 1, cells := 1, slots := 6720, locals := 12 }
set_option maxHeartbeats 4000000 in
set_option maxRecDepth 100000 in
theorem n_Plan (l : Launch) (ev : zEv) (dC : Nat → ClassId) (dI : Nat → Nat → Nat) (cA : Nat → ClassId) (h0 : Nat) : xn_V l ev (dC, dI) vwCl (tyl cA) yX6_init w_Plan_init rm_Plan_init [.ref h0] [(h0, .inr (6, [.int (Int32.ofInt 0), .int (Int32.ofInt 0), .int (Int32.ofInt 0), .null]))] (fun A H => ∃ (q1 : Nat), va_P (dC, dI) vwCl [(h0, .inr (6, [.int (Int32.ofInt (-1)), .int (Int32.ofInt (-1)), .int (Int32.ofInt (-1)), .ref q1])), (q1, .inl (cA 0, 6720, .inl (za (fun _ => 0))))] H ∧ va_D A [(h0, .inr (6, [.int (Int32.ofInt (-1)), .int (Int32.ofInt (-1)), .int (Int32.ofInt (-1)), .ref q1])), (q1, .inl (cA 0, 6720, .inl (za (fun _ => 0))))]) 1 6720 := by
  refine xn_start (cc := cX6_init) (maxL := 1) (by decide +kernel) rfl rfl (Nat.le_of_ble_eq_true rfl) ?_
  intro p e s m args below meth c A Q H ls hx hb hml hts hown hK hA hP hD hS hl hE hin hret
  have hown : s.vm.findClass "HillSchool$Plan" = some m.cls := hown
  have hz : ∀ w ∈ zall, w.before args s = true := fun w h => hts w (List.mem_cons_of_mem _ h)
  have hl : lv_has ls 1 [(0, .ref h0)] := hl
  generalize hlocs : ([] : List Loc) = locs at hS ⊢
  refine lv_aload_n hx hb dX6_init_0 rfl (lv_at hl 0 rfl) ?_
  refine W.objInit hx hb hown (hz _ zw_327) (hz _ zw_129) (hz _ zw_130) (g := F0 m 1 ls [.ref h0]) rfl (hl.1.trans hml.symm) rfl dX6_init_1 (Nat.le_of_ble_eq_true rfl) (Nat.le_of_ble_eq_true rfl) ?_
  refine lv_aload_n hx hb dX6_init_4 rfl (lv_at hl 0 rfl) ?_
  refine lv_iconst (v := Int32.ofInt (-1)) hx hb dX6_init_5 rfl ?_
  refine va_put (D := (dC, dI)) (ci := 6) (v := .int (Int32.ofInt (-1))) (ty := .int) (C := RX6) (T := TX6) (N := 4) hx hb hz zi_X6 tyX6 tyX6_ok nmX6 hown hK hP hD hS 0 rfl rfl 0 (by decide) (hz _ zw_328) (fun _ h9 => h9) rfl (by decide +kernel) rfl rfl (Nat.le_of_ble_eq_true rfl) dX6_init_6 (fun H locs hP hD hS => ?_)
  have hP : va_P (dC, dI) vwCl [(h0, .inr (6, [.int (Int32.ofInt (-1)), .int (Int32.ofInt 0), .int (Int32.ofInt 0), .null]))] H := hP
  have hD : va_D A [(h0, .inr (6, [.int (Int32.ofInt (-1)), .int (Int32.ofInt 0), .int (Int32.ofInt 0), .null]))] := hD
  refine lv_aload_n hx hb dX6_init_9 rfl (lv_at hl 0 rfl) ?_
  refine lv_iconst (v := Int32.ofInt (-1)) hx hb dX6_init_10 rfl ?_
  refine va_put (D := (dC, dI)) (ci := 6) (v := .int (Int32.ofInt (-1))) (ty := .int) (C := RX6) (T := TX6) (N := 4) hx hb hz zi_X6 tyX6 tyX6_ok nmX6 hown hK hP hD hS 0 rfl rfl 1 (by decide) (hz _ zw_330) (fun _ h9 => h9) rfl (by decide +kernel) rfl rfl (Nat.le_of_ble_eq_true rfl) dX6_init_11 (fun H locs hP hD hS => ?_)
  have hP : va_P (dC, dI) vwCl [(h0, .inr (6, [.int (Int32.ofInt (-1)), .int (Int32.ofInt (-1)), .int (Int32.ofInt 0), .null]))] H := hP
  have hD : va_D A [(h0, .inr (6, [.int (Int32.ofInt (-1)), .int (Int32.ofInt (-1)), .int (Int32.ofInt 0), .null]))] := hD
  refine lv_aload_n hx hb dX6_init_14 rfl (lv_at hl 0 rfl) ?_
  refine lv_iconst (v := Int32.ofInt (-1)) hx hb dX6_init_15 rfl ?_
  refine va_put (D := (dC, dI)) (ci := 6) (v := .int (Int32.ofInt (-1))) (ty := .int) (C := RX6) (T := TX6) (N := 4) hx hb hz zi_X6 tyX6 tyX6_ok nmX6 hown hK hP hD hS 0 rfl rfl 2 (by decide) (hz _ zw_333) (fun _ h9 => h9) rfl (by decide +kernel) rfl rfl (Nat.le_of_ble_eq_true rfl) dX6_init_16 (fun H locs hP hD hS => ?_)
  have hP : va_P (dC, dI) vwCl [(h0, .inr (6, [.int (Int32.ofInt (-1)), .int (Int32.ofInt (-1)), .int (Int32.ofInt (-1)), .null]))] H := hP
  have hD : va_D A [(h0, .inr (6, [.int (Int32.ofInt (-1)), .int (Int32.ofInt (-1)), .int (Int32.ofInt (-1)), .null]))] := hD
  refine lv_aload_n hx hb dX6_init_19 rfl (lv_at hl 0 rfl) ?_
  refine lv_sipush (v := Int32.ofInt 6720) hx hb dX6_init_20 (by decide) ?_
  refine xn_newi hx hb (hz _ zw_158) hK hP hD hS hA 0 rfl 6720 (by decide) (by decide +kernel) (Nat.le_of_ble_eq_true rfl) (Nat.le_of_ble_eq_true rfl) (Nat.le_of_ble_eq_true rfl) dX6_init_23 (fun q1 H hP hD hS => ?_)
  have hP : va_P (dC, dI) vwCl [(h0, .inr (6, [.int (Int32.ofInt (-1)), .int (Int32.ofInt (-1)), .int (Int32.ofInt (-1)), .null])), (q1, .inl (cA 0, 6720, .inl (za (fun _ => 0))))] H := hP
  have hD : va_D A [(h0, .inr (6, [.int (Int32.ofInt (-1)), .int (Int32.ofInt (-1)), .int (Int32.ofInt (-1)), .null])), (q1, .inl (cA 0, 6720, .inl (za (fun _ => 0))))] := hD
  refine va_putF (D := (dC, dI)) (ci := 6) (v := .ref q1) (ty := (.array .int)) (C := RX6) (T := TX6) (N := 4) hx hb hz zi_X6 tyX6 tyX6_ok nmX6 hown hK hP hD hS 0 rfl rfl 3 (by decide) (hz _ zw_336) (fun _ h9 => h9) rfl hin rfl (by decide +kernel) rfl rfl (Nat.le_of_ble_eq_true rfl) dX6_init_25 (fun H locs hP hD hS => ?_)
  have hP : va_P (dC, dI) vwCl [(h0, .inr (6, [.int (Int32.ofInt (-1)), .int (Int32.ofInt (-1)), .int (Int32.ofInt (-1)), .ref q1])), (q1, .inl (cA 0, 6720, .inl (za (fun _ => 0))))] H := hP
  have hD : va_D A [(h0, .inr (6, [.int (Int32.ofInt (-1)), .int (Int32.ofInt (-1)), .int (Int32.ofInt (-1)), .ref q1])), (q1, .inl (cA 0, 6720, .inl (za (fun _ => 0))))] := hD
  refine W.widen (k := 1) (n := 6720) (by decide) (by decide) ?_
  exact hret _ _ _ _ dX6_init_28 ⟨q1, hP, hD⟩ hS
