theorem dX3_init_0 : decode cX3_init 0 = .ok (.aload_n 0, 1) := by decide +kernel
theorem dX3_init_1 : decode cX3_init 1 = .ok (.invokespecial 3, 3) := by decide +kernel
theorem dX3_init_4 : decode cX3_init 4 = .ok (.aload_n 0, 1) := by decide +kernel
theorem dX3_init_5 : decode cX3_init 5 = .ok (.bipush 8, 2) := by decide +kernel
theorem dX3_init_7 : decode cX3_init 7 = .ok (.newarray .int, 2) := by decide +kernel
theorem dX3_init_9 : decode cX3_init 9 = .ok (.putfield 11, 3) := by decide +kernel
theorem dX3_init_12 : decode cX3_init 12 = .ok (.aload_n 0, 1) := by decide +kernel
theorem dX3_init_13 : decode cX3_init 13 = .ok (.bipush 32, 2) := by decide +kernel
theorem dX3_init_15 : decode cX3_init 15 = .ok (.newarray .int, 2) := by decide +kernel
theorem dX3_init_17 : decode cX3_init 17 = .ok (.putfield 15, 3) := by decide +kernel
theorem dX3_init_20 : decode cX3_init 20 = .ok (.aload_n 0, 1) := by decide +kernel
theorem dX3_init_21 : decode cX3_init 21 = .ok (.iconst 0, 1) := by decide +kernel
theorem dX3_init_22 : decode cX3_init 22 = .ok (.putfield 18, 3) := by decide +kernel
theorem dX3_init_25 : decode cX3_init 25 = .ok (.aload_n 0, 1) := by decide +kernel
theorem dX3_init_26 : decode cX3_init 26 = .ok (.iconst 0, 1) := by decide +kernel
theorem dX3_init_27 : decode cX3_init 27 = .ok (.putfield 22, 3) := by decide +kernel
theorem dX3_init_30 : decode cX3_init 30 = .ok (.aload_n 0, 1) := by decide +kernel
theorem dX3_init_31 : decode cX3_init 31 = .ok (.iconst 0, 1) := by decide +kernel
theorem dX3_init_32 : decode cX3_init 32 = .ok (.putfield 25, 3) := by decide +kernel
theorem dX3_init_35 : decode cX3_init 35 = .ok (.aload_n 0, 1) := by decide +kernel
theorem dX3_init_36 : decode cX3_init 36 = .ok (.aload_n 1, 1) := by decide +kernel
theorem dX3_init_37 : decode cX3_init 37 = .ok (.putfield 29, 3) := by decide +kernel
theorem dX3_init_40 : decode cX3_init 40 = .ok (.return_, 1) := by decide +kernel
abbrev w_Judge_init : List Cond := .code yX3_init cX3_init 2 none :: zall
abbrev rm_Judge_init : Room := { frames := 1, cells := 2, slots := 40, locals := 12 }
set_option maxHeartbeats 4000000 in
set_option maxRecDepth 100000 in
theorem n_Judge (l : Launch) (ev : zEv) (dC : Nat → ClassId) (dI : Nat → Nat → Nat) (cA : Nat → ClassId) (h0 p0 : Nat) : xn_V l ev (dC, dI) vwCl (tyl cA) yX3_init w_Judge_init rm_Judge_init [.ref h0, .ref p0] [(h0, .inr (3, [.null, .null, .null, .int (Int32.ofInt 0), .int (Int32.ofInt 0), .int (Int32.ofInt 0)]))] (fun A H => ∃ (q1 q2 : Nat), va_P (dC, dI) vwCl [(h0, .inr (3, [.ref p0, .ref q1, .ref q2, .int (Int32.ofInt 0), .int (Int32.ofInt 0), .int (Int32.ofInt 0)])), (q1, .inl (cA 0, 8, .inl (za (fun _ => 0)))), (q2, .inl (cA 0, 32, .inl (za (fun _ => 0))))] H ∧ va_D A [(h0, .inr (3, [.ref p0, .ref q1, .ref q2, .int (Int32.ofInt 0), .int (Int32.ofInt 0), .int (Int32.ofInt 0)])), (q1, .inl (cA 0, 8, .inl (za (fun _ => 0)))), (q2, .inl (cA 0, 32, .inl (za (fun _ => 0))))]) 2 40 := by
  refine xn_start (cc := cX3_init) (maxL := 2) (by decide +kernel) rfl rfl (Nat.le_of_ble_eq_true rfl) ?_
  intro p e s m args below meth c A Q H ls hx hb hml hts hown hK hA hP hD hS hl hE hin hret
  have hown : s.vm.findClass "HillSchool$Judge" = some m.cls := hown
  have hz : ∀ w ∈ zall, w.before args s = true := fun w h => hts w (List.mem_cons_of_mem _ h)
  have hl : lv_has ls 2 [(0, .ref h0), (1, .ref p0)] := hl
  generalize hlocs : ([] : List Loc) = locs at hS ⊢
  refine lv_aload_n hx hb dX3_init_0 rfl (lv_at hl 0 rfl) ?_
  refine W.objInit hx hb hown (hz _ zw_278) (hz _ zw_129) (hz _ zw_130) (g := F0 m 1 ls [.ref h0]) rfl (hl.1.trans hml.symm) rfl dX3_init_1 (Nat.le_of_ble_eq_true rfl) (Nat.le_of_ble_eq_true rfl) ?_
  refine lv_aload_n hx hb dX3_init_4 rfl (lv_at hl 0 rfl) ?_
  refine lv_bipush (v := Int32.ofInt 8) hx hb dX3_init_5 (by decide) ?_
  refine xn_newi hx hb (hz _ zw_158) hK hP hD hS hA 0 rfl 8 (by decide) (by decide +kernel) (Nat.le_of_ble_eq_true rfl) (Nat.le_of_ble_eq_true rfl) (Nat.le_of_ble_eq_true rfl) dX3_init_7 (fun q1 H hP hD hS => ?_)
  have hP : va_P (dC, dI) vwCl [(h0, .inr (3, [.null, .null, .null, .int (Int32.ofInt 0), .int (Int32.ofInt 0), .int (Int32.ofInt 0)])), (q1, .inl (cA 0, 8, .inl (za (fun _ => 0))))] H := hP
  have hD : va_D A [(h0, .inr (3, [.null, .null, .null, .int (Int32.ofInt 0), .int (Int32.ofInt 0), .int (Int32.ofInt 0)])), (q1, .inl (cA 0, 8, .inl (za (fun _ => 0))))] := hD
  refine va_putF (D := (dC, dI)) (ci := 3) (v := .ref q1) (ty := (.array .int)) (C := RX3) (T := TX3) (N := 6) hx hb hz zi_X3 tyX3 tyX3_ok nmX3 hown hK hP hD hS 0 rfl rfl 1 (by decide) (hz _ zw_280) (fun _ h9 => h9) rfl hin rfl (by decide +kernel) rfl rfl (Nat.le_of_ble_eq_true rfl) dX3_init_9 (fun H locs hP hD hS => ?_)
  have hP : va_P (dC, dI) vwCl [(h0, .inr (3, [.null, .ref q1, .null, .int (Int32.ofInt 0), .int (Int32.ofInt 0), .int (Int32.ofInt 0)])), (q1, .inl (cA 0, 8, .inl (za (fun _ => 0))))] H := hP
  have hD : va_D A [(h0, .inr (3, [.null, .ref q1, .null, .int (Int32.ofInt 0), .int (Int32.ofInt 0), .int (Int32.ofInt 0)])), (q1, .inl (cA 0, 8, .inl (za (fun _ => 0))))] := hD
  refine lv_aload_n hx hb dX3_init_12 rfl (lv_at hl 0 rfl) ?_
  refine lv_bipush (v := Int32.ofInt 32) hx hb dX3_init_13 (by decide) ?_
  refine xn_newi hx hb (hz _ zw_158) hK hP hD hS hA 0 rfl 32 (by decide) (by decide +kernel) (Nat.le_of_ble_eq_true rfl) (Nat.le_of_ble_eq_true rfl) (Nat.le_of_ble_eq_true rfl) dX3_init_15 (fun q2 H hP hD hS => ?_)
  have hP : va_P (dC, dI) vwCl [(h0, .inr (3, [.null, .ref q1, .null, .int (Int32.ofInt 0), .int (Int32.ofInt 0), .int (Int32.ofInt 0)])), (q1, .inl (cA 0, 8, .inl (za (fun _ => 0)))), (q2, .inl (cA 0, 32, .inl (za (fun _ => 0))))] H := hP
  have hD : va_D A [(h0, .inr (3, [.null, .ref q1, .null, .int (Int32.ofInt 0), .int (Int32.ofInt 0), .int (Int32.ofInt 0)])), (q1, .inl (cA 0, 8, .inl (za (fun _ => 0)))), (q2, .inl (cA 0, 32, .inl (za (fun _ => 0))))] := hD
  refine va_putF (D := (dC, dI)) (ci := 3) (v := .ref q2) (ty := (.array .int)) (C := RX3) (T := TX3) (N := 6) hx hb hz zi_X3 tyX3 tyX3_ok nmX3 hown hK hP hD hS 0 rfl rfl 2 (by decide) (hz _ zw_281) (fun _ h9 => h9) rfl hin rfl (by decide +kernel) rfl rfl (Nat.le_of_ble_eq_true rfl) dX3_init_17 (fun H locs hP hD hS => ?_)
  have hP : va_P (dC, dI) vwCl [(h0, .inr (3, [.null, .ref q1, .ref q2, .int (Int32.ofInt 0), .int (Int32.ofInt 0), .int (Int32.ofInt 0)])), (q1, .inl (cA 0, 8, .inl (za (fun _ => 0)))), (q2, .inl (cA 0, 32, .inl (za (fun _ => 0))))] H := hP
  have hD : va_D A [(h0, .inr (3, [.null, .ref q1, .ref q2, .int (Int32.ofInt 0), .int (Int32.ofInt 0), .int (Int32.ofInt 0)])), (q1, .inl (cA 0, 8, .inl (za (fun _ => 0)))), (q2, .inl (cA 0, 32, .inl (za (fun _ => 0))))] := hD
  refine lv_aload_n hx hb dX3_init_20 rfl (lv_at hl 0 rfl) ?_
  refine lv_iconst (v := Int32.ofInt 0) hx hb dX3_init_21 rfl ?_
  refine va_put (D := (dC, dI)) (ci := 3) (v := .int (Int32.ofInt 0)) (ty := .int) (C := RX3) (T := TX3) (N := 6) hx hb hz zi_X3 tyX3 tyX3_ok nmX3 hown hK hP hD hS 0 rfl rfl 3 (by decide) (hz _ zw_282) (fun _ h9 => h9) rfl (by decide +kernel) rfl rfl (Nat.le_of_ble_eq_true rfl) dX3_init_22 (fun H locs hP hD hS => ?_)
  have hP : va_P (dC, dI) vwCl [(h0, .inr (3, [.null, .ref q1, .ref q2, .int (Int32.ofInt 0), .int (Int32.ofInt 0), .int (Int32.ofInt 0)])), (q1, .inl (cA 0, 8, .inl (za (fun _ => 0)))), (q2, .inl (cA 0, 32, .inl (za (fun _ => 0))))] H := hP
  have hD : va_D A [(h0, .inr (3, [.null, .ref q1, .ref q2, .int (Int32.ofInt 0), .int (Int32.ofInt 0), .int (Int32.ofInt 0)])), (q1, .inl (cA 0, 8, .inl (za (fun _ => 0)))), (q2, .inl (cA 0, 32, .inl (za (fun _ => 0))))] := hD
  refine lv_aload_n hx hb dX3_init_25 rfl (lv_at hl 0 rfl) ?_
  refine lv_iconst (v := Int32.ofInt 0) hx hb dX3_init_26 rfl ?_
  refine va_put (D := (dC, dI)) (ci := 3) (v := .int (Int32.ofInt 0)) (ty := .int) (C := RX3) (T := TX3) (N := 6) hx hb hz zi_X3 tyX3 tyX3_ok nmX3 hown hK hP hD hS 0 rfl rfl 4 (by decide) (hz _ zw_283) (fun _ h9 => h9) rfl (by decide +kernel) rfl rfl (Nat.le_of_ble_eq_true rfl) dX3_init_27 (fun H locs hP hD hS => ?_)
  have hP : va_P (dC, dI) vwCl [(h0, .inr (3, [.null, .ref q1, .ref q2, .int (Int32.ofInt 0), .int (Int32.ofInt 0), .int (Int32.ofInt 0)])), (q1, .inl (cA 0, 8, .inl (za (fun _ => 0)))), (q2, .inl (cA 0, 32, .inl (za (fun _ => 0))))] H := hP
  have hD : va_D A [(h0, .inr (3, [.null, .ref q1, .ref q2, .int (Int32.ofInt 0), .int (Int32.ofInt 0), .int (Int32.ofInt 0)])), (q1, .inl (cA 0, 8, .inl (za (fun _ => 0)))), (q2, .inl (cA 0, 32, .inl (za (fun _ => 0))))] := hD
  refine lv_aload_n hx hb dX3_init_30 rfl (lv_at hl 0 rfl) ?_
  refine lv_iconst (v := Int32.ofInt 0) hx hb dX3_init_31 rfl ?_
  refine va_put (D := (dC, dI)) (ci := 3) (v := .int (Int32.ofInt 0)) (ty := .boolean) (C := RX3) (T := TX3) (N := 6) hx hb hz zi_X3 tyX3 tyX3_ok nmX3 hown hK hP hD hS 0 rfl rfl 5 (by decide) (hz _ zw_284) (fun _ h9 => h9) rfl (by decide +kernel) (by decide +kernel) (by decide +kernel) (Nat.le_of_ble_eq_true rfl) dX3_init_32 (fun H locs hP hD hS => ?_)
  have hP : va_P (dC, dI) vwCl [(h0, .inr (3, [.null, .ref q1, .ref q2, .int (Int32.ofInt 0), .int (Int32.ofInt 0), .int (Int32.ofInt 0)])), (q1, .inl (cA 0, 8, .inl (za (fun _ => 0)))), (q2, .inl (cA 0, 32, .inl (za (fun _ => 0))))] H := hP
  have hD : va_D A [(h0, .inr (3, [.null, .ref q1, .ref q2, .int (Int32.ofInt 0), .int (Int32.ofInt 0), .int (Int32.ofInt 0)])), (q1, .inl (cA 0, 8, .inl (za (fun _ => 0)))), (q2, .inl (cA 0, 32, .inl (za (fun _ => 0))))] := hD
  refine lv_aload_n hx hb dX3_init_35 rfl (lv_at hl 0 rfl) ?_
  refine lv_aload_n hx hb dX3_init_36 rfl (lv_at hl 1 rfl) ?_
  refine va_putF (D := (dC, dI)) (ci := 3) (v := .ref p0) (ty := (.object "HillSchool$Hill")) (C := RX3) (T := TX3) (N := 6) hx hb hz zi_X3 tyX3 tyX3_ok nmX3 hown hK hP hD hS 0 rfl rfl 0 (by decide) (hz _ zw_279) (fun _ h9 => h9) rfl hin rfl (by decide +kernel) rfl rfl (Nat.le_of_ble_eq_true rfl) dX3_init_37 (fun H locs hP hD hS => ?_)
  have hP : va_P (dC, dI) vwCl [(h0, .inr (3, [.ref p0, .ref q1, .ref q2, .int (Int32.ofInt 0), .int (Int32.ofInt 0), .int (Int32.ofInt 0)])), (q1, .inl (cA 0, 8, .inl (za (fun _ => 0)))), (q2, .inl (cA 0, 32, .inl (za (fun _ => 0))))] H := hP
  have hD : va_D A [(h0, .inr (3, [.ref p0, .ref q1, .ref q2, .int (Int32.ofInt 0), .int (Int32.ofInt 0), .int (Int32.ofInt 0)])), (q1, .inl (cA 0, 8, .inl (za (fun _ => 0)))), (q2, .inl (cA 0, 32, .inl (za (fun _ => 0))))] := hD
  refine W.widen (k := 2) (n := 40) (by decide) (by decide) ?_
  exact hret _ _ _ _ dX3_init_40 ⟨q1, q2, hP, hD⟩ hS
