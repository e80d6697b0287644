theorem dX4_init_0 : decode cX4_init 0 = .ok (.aload_n 0, 1) := by decide +kernel
theorem dX4_init_1 : decode cX4_init 1 = .ok (.invokespecial 3, 3) := by decide +kernel
theorem dX4_init_4 : decode cX4_init 4 = .ok (.aload_n 0, 1) := by decide +kernel
theorem dX4_init_5 : decode cX4_init 5 = .ok (.sipush 424, 3) := by decide +kernel
theorem dX4_init_8 : decode cX4_init 8 = .ok (.newarray .int, 2) := by decide +kernel
theorem dX4_init_10 : decode cX4_init 10 = .ok (.putfield 11, 3) := by decide +kernel
theorem dX4_init_13 : decode cX4_init 13 = .ok (.aload_n 0, 1) := by decide +kernel
theorem dX4_init_14 : decode cX4_init 14 = .ok (.iconst 0, 1) := by decide +kernel
theorem dX4_init_15 : decode cX4_init 15 = .ok (.putfield 15, 3) := by decide +kernel
theorem dX4_init_18 : decode cX4_init 18 = .ok (.aload_n 0, 1) := by decide +kernel
theorem dX4_init_19 : decode cX4_init 19 = .ok (.sipush 401, 3) := by decide +kernel
theorem dX4_init_22 : decode cX4_init 22 = .ok (.newarray .int, 2) := by decide +kernel
theorem dX4_init_24 : decode cX4_init 24 = .ok (.putfield 19, 3) := by decide +kernel
theorem dX4_init_27 : decode cX4_init 27 = .ok (.aload_n 0, 1) := by decide +kernel
theorem dX4_init_28 : decode cX4_init 28 = .ok (.sipush 401, 3) := by decide +kernel
theorem dX4_init_31 : decode cX4_init 31 = .ok (.newarray .int, 2) := by decide +kernel
theorem dX4_init_33 : decode cX4_init 33 = .ok (.putfield 22, 3) := by decide +kernel
theorem dX4_init_36 : decode cX4_init 36 = .ok (.aload_n 0, 1) := by decide +kernel
theorem dX4_init_37 : decode cX4_init 37 = .ok (.sipush 401, 3) := by decide +kernel
theorem dX4_init_40 : decode cX4_init 40 = .ok (.newarray .int, 2) := by decide +kernel
theorem dX4_init_42 : decode cX4_init 42 = .ok (.putfield 25, 3) := by decide +kernel
theorem dX4_init_45 : decode cX4_init 45 = .ok (.aload_n 0, 1) := by decide +kernel
theorem dX4_init_46 : decode cX4_init 46 = .ok (.iconst 0, 1) := by decide +kernel
theorem dX4_init_47 : decode cX4_init 47 = .ok (.putfield 28, 3) := by decide +kernel
theorem dX4_init_50 : decode cX4_init 50 = .ok (.aload_n 0, 1) := by decide +kernel
theorem dX4_init_51 : decode cX4_init 51 = .ok (.iconst 0, 1) := by decide +kernel
theorem dX4_init_52 : decode cX4_init 52 = .ok (.putfield 31, 3) := by decide +kernel
theorem dX4_init_55 : decode cX4_init 55 = .ok (.return_, 1) := by decide +kernel
abbrev w_LawReader_init : List Cond := .code yX4_init cX4_init 1 none :: zall
abbrev rm_LawReader_init : Room := { frames := 1, cells := 4, slots := 1627, locals := 12 }
set_option maxHeartbeats 4000000 in
set_option maxRecDepth 100000 in
theorem n_LawReader (l : Launch) (ev : zEv) (dC : Nat → ClassId) (dI : Nat → Nat → Nat) (cA : Nat → ClassId) (h0 : Nat) : xn_V l ev (dC, dI) vwCl (tyl cA) yX4_init w_LawReader_init rm_LawReader_init [.ref h0] [(h0, .inr (4, [.null, .int (Int32.ofInt 0), .null, .null, .null, .int (Int32.ofInt 0), .int (Int32.ofInt 0)]))] (fun A H => ∃ (q1 q2 q3 q4 : Nat), va_P (dC, dI) vwCl [(h0, .inr (4, [.ref q1, .int (Int32.ofInt 0), .ref q2, .ref q3, .ref q4, .int (Int32.ofInt 0), .int (Int32.ofInt 0)])), (q1, .inl (cA 0, 424, .inl (za (fun _ => 0)))), (q2, .inl (cA 0, 401, .inl (za (fun _ => 0)))), (q3, .inl (cA 0, 401, .inl (za (fun _ => 0)))), (q4, .inl (cA 0, 401, .inl (za (fun _ => 0))))] H ∧ va_D A [(h0, .inr (4, [.ref q1, .int (Int32.ofInt 0), .ref q2, .ref q3, .ref q4, .int (Int32.ofInt 0), .int (Int32.ofInt 0)])), (q1, .inl (cA 0, 424, .inl (za (fun _ => 0)))), (q2, .inl (cA 0, 401, .inl (za (fun _ => 0)))), (q3, .inl (cA 0, 401, .inl (za (fun _ => 0)))), (q4, .inl (cA 0, 401, .inl (za (fun _ => 0))))]) 4 1627 := by
  refine xn_start (cc := cX4_init) (maxL := 1) (by decide +kernel) rfl rfl (Nat.le_of_ble_eq_true rfl) ?_
  intro p e s m args below meth c A Q H ls hx hb hml hts hown hK hA hP hD hS hl hE hin hret
  have hown : s.vm.findClass "HillSchool$LawReader" = some m.cls := hown
  have hz : ∀ w ∈ zall, w.before args s = true := fun w h => hts w (List.mem_cons_of_mem _ h)
  have hl : lv_has ls 1 [(0, .ref h0)] := hl
  generalize hlocs : ([] : List Loc) = locs at hS ⊢
  refine lv_aload_n hx hb dX4_init_0 rfl (lv_at hl 0 rfl) ?_
  refine W.objInit hx hb hown (hz _ zw_247) (hz _ zw_129) (hz _ zw_130) (g := F0 m 1 ls [.ref h0]) rfl (hl.1.trans hml.symm) rfl dX4_init_1 (Nat.le_of_ble_eq_true rfl) (Nat.le_of_ble_eq_true rfl) ?_
  refine lv_aload_n hx hb dX4_init_4 rfl (lv_at hl 0 rfl) ?_
  refine lv_sipush (v := Int32.ofInt 424) hx hb dX4_init_5 (by decide) ?_
  refine xn_newi hx hb (hz _ zw_158) hK hP hD hS hA 0 rfl 424 (by decide) (by decide +kernel) (Nat.le_of_ble_eq_true rfl) (Nat.le_of_ble_eq_true rfl) (Nat.le_of_ble_eq_true rfl) dX4_init_8 (fun q1 H hP hD hS => ?_)
  have hP : va_P (dC, dI) vwCl [(h0, .inr (4, [.null, .int (Int32.ofInt 0), .null, .null, .null, .int (Int32.ofInt 0), .int (Int32.ofInt 0)])), (q1, .inl (cA 0, 424, .inl (za (fun _ => 0))))] H := hP
  have hD : va_D A [(h0, .inr (4, [.null, .int (Int32.ofInt 0), .null, .null, .null, .int (Int32.ofInt 0), .int (Int32.ofInt 0)])), (q1, .inl (cA 0, 424, .inl (za (fun _ => 0))))] := hD
  refine va_putF (D := (dC, dI)) (ci := 4) (v := .ref q1) (ty := (.array .int)) (C := RX4) (T := TX4) (N := 7) hx hb hz zi_X4 tyX4 tyX4_ok nmX4 hown hK hP hD hS 0 rfl rfl 0 (by decide) (hz _ zw_248) (fun _ h9 => h9) rfl hin rfl (by decide +kernel) rfl rfl (Nat.le_of_ble_eq_true rfl) dX4_init_10 (fun H locs hP hD hS => ?_)
  have hP : va_P (dC, dI) vwCl [(h0, .inr (4, [.ref q1, .int (Int32.ofInt 0), .null, .null, .null, .int (Int32.ofInt 0), .int (Int32.ofInt 0)])), (q1, .inl (cA 0, 424, .inl (za (fun _ => 0))))] H := hP
  have hD : va_D A [(h0, .inr (4, [.ref q1, .int (Int32.ofInt 0), .null, .null, .null, .int (Int32.ofInt 0), .int (Int32.ofInt 0)])), (q1, .inl (cA 0, 424, .inl (za (fun _ => 0))))] := hD
  refine lv_aload_n hx hb dX4_init_13 rfl (lv_at hl 0 rfl) ?_
  refine lv_iconst (v := Int32.ofInt 0) hx hb dX4_init_14 rfl ?_
  refine va_put (D := (dC, dI)) (ci := 4) (v := .int (Int32.ofInt 0)) (ty := .int) (C := RX4) (T := TX4) (N := 7) hx hb hz zi_X4 tyX4 tyX4_ok nmX4 hown hK hP hD hS 0 rfl rfl 1 (by decide) (hz _ zw_250) (fun _ h9 => h9) rfl (by decide +kernel) rfl rfl (Nat.le_of_ble_eq_true rfl) dX4_init_15 (fun H locs hP hD hS => ?_)
  have hP : va_P (dC, dI) vwCl [(h0, .inr (4, [.ref q1, .int (Int32.ofInt 0), .null, .null, .null, .int (Int32.ofInt 0), .int (Int32.ofInt 0)])), (q1, .inl (cA 0, 424, .inl (za (fun _ => 0))))] H := hP
  have hD : va_D A [(h0, .inr (4, [.ref q1, .int (Int32.ofInt 0), .null, .null, .null, .int (Int32.ofInt 0), .int (Int32.ofInt 0)])), (q1, .inl (cA 0, 424, .inl (za (fun _ => 0))))] := hD
  refine lv_aload_n hx hb dX4_init_18 rfl (lv_at hl 0 rfl) ?_
  refine lv_sipush (v := Int32.ofInt 401) hx hb dX4_init_19 (by decide) ?_
  refine xn_newi hx hb (hz _ zw_158) hK hP hD hS hA 0 rfl 401 (by decide) (by decide +kernel) (Nat.le_of_ble_eq_true rfl) (Nat.le_of_ble_eq_true rfl) (Nat.le_of_ble_eq_true rfl) dX4_init_22 (fun q2 H hP hD hS => ?_)
  have hP : va_P (dC, dI) vwCl [(h0, .inr (4, [.ref q1, .int (Int32.ofInt 0), .null, .null, .null, .int (Int32.ofInt 0), .int (Int32.ofInt 0)])), (q1, .inl (cA 0, 424, .inl (za (fun _ => 0)))), (q2, .inl (cA 0, 401, .inl (za (fun _ => 0))))] H := hP
  have hD : va_D A [(h0, .inr (4, [.ref q1, .int (Int32.ofInt 0), .null, .null, .null, .int (Int32.ofInt 0), .int (Int32.ofInt 0)])), (q1, .inl (cA 0, 424, .inl (za (fun _ => 0)))), (q2, .inl (cA 0, 401, .inl (za (fun _ => 0))))] := hD
  refine va_putF (D := (dC, dI)) (ci := 4) (v := .ref q2) (ty := (.array .int)) (C := RX4) (T := TX4) (N := 7) hx hb hz zi_X4 tyX4 tyX4_ok nmX4 hown hK hP hD hS 0 rfl rfl 2 (by decide) (hz _ zw_252) (fun _ h9 => h9) rfl hin rfl (by decide +kernel) rfl rfl (Nat.le_of_ble_eq_true rfl) dX4_init_24 (fun H locs hP hD hS => ?_)
  have hP : va_P (dC, dI) vwCl [(h0, .inr (4, [.ref q1, .int (Int32.ofInt 0), .ref q2, .null, .null, .int (Int32.ofInt 0), .int (Int32.ofInt 0)])), (q1, .inl (cA 0, 424, .inl (za (fun _ => 0)))), (q2, .inl (cA 0, 401, .inl (za (fun _ => 0))))] H := hP
  have hD : va_D A [(h0, .inr (4, [.ref q1, .int (Int32.ofInt 0), .ref q2, .null, .null, .int (Int32.ofInt 0), .int (Int32.ofInt 0)])), (q1, .inl (cA 0, 424, .inl (za (fun _ => 0)))), (q2, .inl (cA 0, 401, .inl (za (fun _ => 0))))] := hD
  refine lv_aload_n hx hb dX4_init_27 rfl (lv_at hl 0 rfl) ?_
  refine lv_sipush (v := Int32.ofInt 401) hx hb dX4_init_28 (by decide) ?_
  refine xn_newi hx hb (hz _ zw_158) hK hP hD hS hA 0 rfl 401 (by decide) (by decide +kernel) (Nat.le_of_ble_eq_true rfl) (Nat.le_of_ble_eq_true rfl) (Nat.le_of_ble_eq_true rfl) dX4_init_31 (fun q3 H hP hD hS => ?_)
  have hP : va_P (dC, dI) vwCl [(h0, .inr (4, [.ref q1, .int (Int32.ofInt 0), .ref q2, .null, .null, .int (Int32.ofInt 0), .int (Int32.ofInt 0)])), (q1, .inl (cA 0, 424, .inl (za (fun _ => 0)))), (q2, .inl (cA 0, 401, .inl (za (fun _ => 0)))), (q3, .inl (cA 0, 401, .inl (za (fun _ => 0))))] H := hP
  have hD : va_D A [(h0, .inr (4, [.ref q1, .int (Int32.ofInt 0), .ref q2, .null, .null, .int (Int32.ofInt 0), .int (Int32.ofInt 0)])), (q1, .inl (cA 0, 424, .inl (za (fun _ => 0)))), (q2, .inl (cA 0, 401, .inl (za (fun _ => 0)))), (q3, .inl (cA 0, 401, .inl (za (fun _ => 0))))] := hD
  refine va_putF (D := (dC, dI)) (ci := 4) (v := .ref q3) (ty := (.array .int)) (C := RX4) (T := TX4) (N := 7) hx hb hz zi_X4 tyX4 tyX4_ok nmX4 hown hK hP hD hS 0 rfl rfl 3 (by decide) (hz _ zw_253) (fun _ h9 => h9) rfl hin rfl (by decide +kernel) rfl rfl (Nat.le_of_ble_eq_true rfl) dX4_init_33 (fun H locs hP hD hS => ?_)
  have hP : va_P (dC, dI) vwCl [(h0, .inr (4, [.ref q1, .int (Int32.ofInt 0), .ref q2, .ref q3, .null, .int (Int32.ofInt 0), .int (Int32.ofInt 0)])), (q1, .inl (cA 0, 424, .inl (za (fun _ => 0)))), (q2, .inl (cA 0, 401, .inl (za (fun _ => 0)))), (q3, .inl (cA 0, 401, .inl (za (fun _ => 0))))] H := hP
  have hD : va_D A [(h0, .inr (4, [.ref q1, .int (Int32.ofInt 0), .ref q2, .ref q3, .null, .int (Int32.ofInt 0), .int (Int32.ofInt 0)])), (q1, .inl (cA 0, 424, .inl (za (fun _ => 0)))), (q2, .inl (cA 0, 401, .inl (za (fun _ => 0)))), (q3, .inl (cA 0, 401, .inl (za (fun _ => 0))))] := hD
  refine lv_aload_n hx hb dX4_init_36 rfl (lv_at hl 0 rfl) ?_
  refine lv_sipush (v := Int32.ofInt 401) hx hb dX4_init_37 (by decide) ?_
  refine xn_newi hx hb (hz _ zw_158) hK hP hD hS hA 0 rfl 401 (by decide) (by decide +kernel) (Nat.le_of_ble_eq_true rfl) (Nat.le_of_ble_eq_true rfl) (Nat.le_of_ble_eq_true rfl) dX4_init_40 (fun q4 H hP hD hS => ?_)
  have hP : va_P (dC, dI) vwCl [(h0, .inr (4, [.ref q1, .int (Int32.ofInt 0), .ref q2, .ref q3, .null, .int (Int32.ofInt 0), .int (Int32.ofInt 0)])), (q1, .inl (cA 0, 424, .inl (za (fun _ => 0)))), (q2, .inl (cA 0, 401, .inl (za (fun _ => 0)))), (q3, .inl (cA 0, 401, .inl (za (fun _ => 0)))), (q4, .inl (cA 0, 401, .inl (za (fun _ => 0))))] H := hP
  have hD : va_D A [(h0, .inr (4, [.ref q1, .int (Int32.ofInt 0), .ref q2, .ref q3, .null, .int (Int32.ofInt 0), .int (Int32.ofInt 0)])), (q1, .inl (cA 0, 424, .inl (za (fun _ => 0)))), (q2, .inl (cA 0, 401, .inl (za (fun _ => 0)))), (q3, .inl (cA 0, 401, .inl (za (fun _ => 0)))), (q4, .inl (cA 0, 401, .inl (za (fun _ => 0))))] := hD
  refine va_putF (D := (dC, dI)) (ci := 4) (v := .ref q4) (ty := (.array .int)) (C := RX4) (T := TX4) (N := 7) hx hb hz zi_X4 tyX4 tyX4_ok nmX4 hown hK hP hD hS 0 rfl rfl 4 (by decide) (hz _ zw_254) (fun _ h9 => h9) rfl hin rfl (by decide +kernel) rfl rfl (Nat.le_of_ble_eq_true rfl) dX4_init_42 (fun H locs hP hD hS => ?_)
  have hP : va_P (dC, dI) vwCl [(h0, .inr (4, [.ref q1, .int (Int32.ofInt 0), .ref q2, .ref q3, .ref q4, .int (Int32.ofInt 0), .int (Int32.ofInt 0)])), (q1, .inl (cA 0, 424, .inl (za (fun _ => 0)))), (q2, .inl (cA 0, 401, .inl (za (fun _ => 0)))), (q3, .inl (cA 0, 401, .inl (za (fun _ => 0)))), (q4, .inl (cA 0, 401, .inl (za (fun _ => 0))))] H := hP
  have hD : va_D A [(h0, .inr (4, [.ref q1, .int (Int32.ofInt 0), .ref q2, .ref q3, .ref q4, .int (Int32.ofInt 0), .int (Int32.ofInt 0)])), (q1, .inl (cA 0, 424, .inl (za (fun _ => 0)))), (q2, .inl (cA 0, 401, .inl (za (fun _ => 0)))), (q3, .inl (cA 0, 401, .inl (za (fun _ => 0)))), (q4, .inl (cA 0, 401, .inl (za (fun _ => 0))))] := hD
  refine lv_aload_n hx hb dX4_init_45 rfl (lv_at hl 0 rfl) ?_
  refine lv_iconst (v := Int32.ofInt 0) hx hb dX4_init_46 rfl ?_
  refine va_put (D := (dC, dI)) (ci := 4) (v := .int (Int32.ofInt 0)) (ty := .int) (C := RX4) (T := TX4) (N := 7) hx hb hz zi_X4 tyX4 tyX4_ok nmX4 hown hK hP hD hS 0 rfl rfl 5 (by decide) (hz _ zw_255) (fun _ h9 => h9) rfl (by decide +kernel) rfl rfl (Nat.le_of_ble_eq_true rfl) dX4_init_47 (fun H locs hP hD hS => ?_)
  have hP : va_P (dC, dI) vwCl [(h0, .inr (4, [.ref q1, .int (Int32.ofInt 0), .ref q2, .ref q3, .ref q4, .int (Int32.ofInt 0), .int (Int32.ofInt 0)])), (q1, .inl (cA 0, 424, .inl (za (fun _ => 0)))), (q2, .inl (cA 0, 401, .inl (za (fun _ => 0)))), (q3, .inl (cA 0, 401, .inl (za (fun _ => 0)))), (q4, .inl (cA 0, 401, .inl (za (fun _ => 0))))] H := hP
  have hD : va_D A [(h0, .inr (4, [.ref q1, .int (Int32.ofInt 0), .ref q2, .ref q3, .ref q4, .int (Int32.ofInt 0), .int (Int32.ofInt 0)])), (q1, .inl (cA 0, 424, .inl (za (fun _ => 0)))), (q2, .inl (cA 0, 401, .inl (za (fun _ => 0)))), (q3, .inl (cA 0, 401, .inl (za (fun _ => 0)))), (q4, .inl (cA 0, 401, .inl (za (fun _ => 0))))] := hD
  refine lv_aload_n hx hb dX4_init_50 rfl (lv_at hl 0 rfl) ?_
  refine lv_iconst (v := Int32.ofInt 0) hx hb dX4_init_51 rfl ?_
  refine va_put (D := (dC, dI)) (ci := 4) (v := .int (Int32.ofInt 0)) (ty := .int) (C := RX4) (T := TX4) (N := 7) hx hb hz zi_X4 tyX4 tyX4_ok nmX4 hown hK hP hD hS 0 rfl rfl 6 (by decide) (hz _ zw_256) (fun _ h9 => h9) rfl (by decide +kernel) rfl rfl (Nat.le_of_ble_eq_true rfl) dX4_init_52 (fun H locs hP hD hS => ?_)
  have hP : va_P (dC, dI) vwCl [(h0, .inr (4, [.ref q1, .int (Int32.ofInt 0), .ref q2, .ref q3, .ref q4, .int (Int32.ofInt 0), .int (Int32.ofInt 0)])), (q1, .inl (cA 0, 424, .inl (za (fun _ => 0)))), (q2, .inl (cA 0, 401, .inl (za (fun _ => 0)))), (q3, .inl (cA 0, 401, .inl (za (fun _ => 0)))), (q4, .inl (cA 0, 401, .inl (za (fun _ => 0))))] H := hP
  have hD : va_D A [(h0, .inr (4, [.ref q1, .int (Int32.ofInt 0), .ref q2, .ref q3, .ref q4, .int (Int32.ofInt 0), .int (Int32.ofInt 0)])), (q1, .inl (cA 0, 424, .inl (za (fun _ => 0)))), (q2, .inl (cA 0, 401, .inl (za (fun _ => 0)))), (q3, .inl (cA 0, 401, .inl (za (fun _ => 0)))), (q4, .inl (cA 0, 401, .inl (za (fun _ => 0))))] := hD
  refine W.widen (k := 4) (n := 1627) (by decide) (by decide) ?_
  exact hret _ _ _ _ dX4_init_55 ⟨q1, q2, q3, q4, hP, hD⟩ hS
