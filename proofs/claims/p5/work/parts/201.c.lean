theorem dX1_init_0 : decode cX1_init 0 = .ok (.aload_n 0, 1) := by decide +kernel
theorem dX1_init_1 : decode cX1_init 1 = .ok (.invokespecial 3, 3) := by decide +kernel
theorem dX1_init_4 : decode cX1_init 4 = .ok (.aload_n 0, 1) := by decide +kernel
theorem dX1_init_5 : decode cX1_init 5 = .ok (.iconst 0, 1) := by decide +kernel
theorem dX1_init_6 : decode cX1_init 6 = .ok (.putfield 9, 3) := by decide +kernel
theorem dX1_init_9 : decode cX1_init 9 = .ok (.aload_n 0, 1) := by decide +kernel
theorem dX1_init_10 : decode cX1_init 10 = .ok (.bipush 12, 2) := by decide +kernel
theorem dX1_init_12 : decode cX1_init 12 = .ok (.newarray .int, 2) := by decide +kernel
theorem dX1_init_14 : decode cX1_init 14 = .ok (.putfield 15, 3) := by decide +kernel
theorem dX1_init_17 : decode cX1_init 17 = .ok (.aload_n 0, 1) := by decide +kernel
theorem dX1_init_18 : decode cX1_init 18 = .ok (.bipush 120, 2) := by decide +kernel
theorem dX1_init_20 : decode cX1_init 20 = .ok (.newarray .int, 2) := by decide +kernel
theorem dX1_init_22 : decode cX1_init 22 = .ok (.putfield 19, 3) := by decide +kernel
theorem dX1_init_25 : decode cX1_init 25 = .ok (.return_, 1) := by decide +kernel
abbrev w_Columns_init : List Cond := .code yX1_init cX1_init 1 none :: zall
abbrev rm_Columns_init : Room := { frames := 1, cells := 2, slots := 132, locals := 12 }
set_option maxHeartbeats 4000000 in
set_option maxRecDepth 100000 in
theorem n_Columns (l : Launch) (ev : zEv) (dC : Nat → ClassId) (dI : Nat → Nat → Nat) (cA : Nat → ClassId) (h0 : Nat) : xn_V l ev (dC, dI) vwCl (tyl cA) yX1_init w_Columns_init rm_Columns_init [.ref h0] [(h0, .inr (1, [.int (Int32.ofInt 0), .null, .null]))] (fun A H => ∃ (q1 q2 : Nat), va_P (dC, dI) vwCl [(h0, .inr (1, [.int (Int32.ofInt 0), .ref q1, .ref q2])), (q1, .inl (cA 0, 12, .inl (za (fun _ => 0)))), (q2, .inl (cA 0, 120, .inl (za (fun _ => 0))))] H ∧ va_D A [(h0, .inr (1, [.int (Int32.ofInt 0), .ref q1, .ref q2])), (q1, .inl (cA 0, 12, .inl (za (fun _ => 0)))), (q2, .inl (cA 0, 120, .inl (za (fun _ => 0))))]) 2 132 := by
  refine xn_start (cc := cX1_init) (maxL := 1) (by decide +kernel) rfl rfl (Nat.le_of_ble_eq_true rfl) ?_
  intro p e s m args below meth c A Q H ls hx hb hml hts hown hK hA hP hD hS hl hE hin hret
  have hown : s.vm.findClass "HillSchool$Columns" = some m.cls := hown
  have hz : ∀ w ∈ zall, w.before args s = true := fun w h => hts w (List.mem_cons_of_mem _ h)
  have hl : lv_has ls 1 [(0, .ref h0)] := hl
  generalize hlocs : ([] : List Loc) = locs at hS ⊢
  refine lv_aload_n hx hb dX1_init_0 rfl (lv_at hl 0 rfl) ?_
  refine W.objInit hx hb hown (hz _ zw_142) (hz _ zw_129) (hz _ zw_130) (g := F0 m 1 ls [.ref h0]) rfl (hl.1.trans hml.symm) rfl dX1_init_1 (Nat.le_of_ble_eq_true rfl) (Nat.le_of_ble_eq_true rfl) ?_
  refine lv_aload_n hx hb dX1_init_4 rfl (lv_at hl 0 rfl) ?_
  refine lv_iconst (v := Int32.ofInt 0) hx hb dX1_init_5 rfl ?_
  refine va_put (D := (dC, dI)) (ci := 1) (v := .int (Int32.ofInt 0)) (ty := .int) (C := RX1) (T := TX1) (N := 3) hx hb hz zi_X1 tyX1 tyX1_ok nmX1 hown hK hP hD hS 0 rfl rfl 0 (by decide) (hz _ zw_143) (fun _ h9 => h9) rfl (by decide +kernel) rfl rfl (Nat.le_of_ble_eq_true rfl) dX1_init_6 (fun H locs hP hD hS => ?_)
  have hP : va_P (dC, dI) vwCl [(h0, .inr (1, [.int (Int32.ofInt 0), .null, .null]))] H := hP
  have hD : va_D A [(h0, .inr (1, [.int (Int32.ofInt 0), .null, .null]))] := hD
  refine lv_aload_n hx hb dX1_init_9 rfl (lv_at hl 0 rfl) ?_
  refine lv_bipush (v := Int32.ofInt 12) hx hb dX1_init_10 (by decide) ?_
  refine xn_newi hx hb (hz _ zw_158) hK hP hD hS hA 0 rfl 12 (by decide) (by decide +kernel) (Nat.le_of_ble_eq_true rfl) (Nat.le_of_ble_eq_true rfl) (Nat.le_of_ble_eq_true rfl) dX1_init_12 (fun q1 H hP hD hS => ?_)
  have hP : va_P (dC, dI) vwCl [(h0, .inr (1, [.int (Int32.ofInt 0), .null, .null])), (q1, .inl (cA 0, 12, .inl (za (fun _ => 0))))] H := hP
  have hD : va_D A [(h0, .inr (1, [.int (Int32.ofInt 0), .null, .null])), (q1, .inl (cA 0, 12, .inl (za (fun _ => 0))))] := hD
  refine va_putF (D := (dC, dI)) (ci := 1) (v := .ref q1) (ty := (.array .int)) (C := RX1) (T := TX1) (N := 3) hx hb hz zi_X1 tyX1 tyX1_ok nmX1 hown hK hP hD hS 0 rfl rfl 1 (by decide) (hz _ zw_149) (fun _ h9 => h9) rfl hin rfl (by decide +kernel) rfl rfl (Nat.le_of_ble_eq_true rfl) dX1_init_14 (fun H locs hP hD hS => ?_)
  have hP : va_P (dC, dI) vwCl [(h0, .inr (1, [.int (Int32.ofInt 0), .ref q1, .null])), (q1, .inl (cA 0, 12, .inl (za (fun _ => 0))))] H := hP
  have hD : va_D A [(h0, .inr (1, [.int (Int32.ofInt 0), .ref q1, .null])), (q1, .inl (cA 0, 12, .inl (za (fun _ => 0))))] := hD
  refine lv_aload_n hx hb dX1_init_17 rfl (lv_at hl 0 rfl) ?_
  refine lv_bipush (v := Int32.ofInt 120) hx hb dX1_init_18 (by decide) ?_
  refine xn_newi hx hb (hz _ zw_158) hK hP hD hS hA 0 rfl 120 (by decide) (by decide +kernel) (Nat.le_of_ble_eq_true rfl) (Nat.le_of_ble_eq_true rfl) (Nat.le_of_ble_eq_true rfl) dX1_init_20 (fun q2 H hP hD hS => ?_)
  have hP : va_P (dC, dI) vwCl [(h0, .inr (1, [.int (Int32.ofInt 0), .ref q1, .null])), (q1, .inl (cA 0, 12, .inl (za (fun _ => 0)))), (q2, .inl (cA 0, 120, .inl (za (fun _ => 0))))] H := hP
  have hD : va_D A [(h0, .inr (1, [.int (Int32.ofInt 0), .ref q1, .null])), (q1, .inl (cA 0, 12, .inl (za (fun _ => 0)))), (q2, .inl (cA 0, 120, .inl (za (fun _ => 0))))] := hD
  refine va_putF (D := (dC, dI)) (ci := 1) (v := .ref q2) (ty := (.array .int)) (C := RX1) (T := TX1) (N := 3) hx hb hz zi_X1 tyX1 tyX1_ok nmX1 hown hK hP hD hS 0 rfl rfl 2 (by decide) (hz _ zw_150) (fun _ h9 => h9) rfl hin rfl (by decide +kernel) rfl rfl (Nat.le_of_ble_eq_true rfl) dX1_init_22 (fun H locs hP hD hS => ?_)
  have hP : va_P (dC, dI) vwCl [(h0, .inr (1, [.int (Int32.ofInt 0), .ref q1, .ref q2])), (q1, .inl (cA 0, 12, .inl (za (fun _ => 0)))), (q2, .inl (cA 0, 120, .inl (za (fun _ => 0))))] H := hP
  have hD : va_D A [(h0, .inr (1, [.int (Int32.ofInt 0), .ref q1, .ref q2])), (q1, .inl (cA 0, 12, .inl (za (fun _ => 0)))), (q2, .inl (cA 0, 120, .inl (za (fun _ => 0))))] := hD
  refine W.widen (k := 2) (n := 132) (by decide) (by decide) ?_
  exact hret _ _ _ _ dX1_init_25 ⟨q1, q2, hP, hD⟩ hS
