theorem dX0_init_0 : decode cX0_init 0 = .ok (.aload_n 0, 1) := by decide +kernel
theorem dX0_init_1 : decode cX0_init 1 = .ok (.invokespecial 5, 3) := by decide +kernel
theorem dX0_init_4 : decode cX0_init 4 = .ok (.aload_n 0, 1) := by decide +kernel
theorem dX0_init_5 : decode cX0_init 5 = .ok (.ldc 11, 2) := by decide +kernel
theorem dX0_init_7 : decode cX0_init 7 = .ok (.newarray .int, 2) := by decide +kernel
theorem dX0_init_9 : decode cX0_init 9 = .ok (.putfield 12, 3) := by decide +kernel
theorem dX0_init_12 : decode cX0_init 12 = .ok (.aload_n 0, 1) := by decide +kernel
theorem dX0_init_13 : decode cX0_init 13 = .ok (.aload_n 1, 1) := by decide +kernel
theorem dX0_init_14 : decode cX0_init 14 = .ok (.putfield 16, 3) := by decide +kernel
theorem dX0_init_17 : decode cX0_init 17 = .ok (.aload_n 0, 1) := by decide +kernel
theorem dX0_init_18 : decode cX0_init 18 = .ok (.aload_n 2, 1) := by decide +kernel
theorem dX0_init_19 : decode cX0_init 19 = .ok (.putfield 20, 3) := by decide +kernel
theorem dX0_init_22 : decode cX0_init 22 = .ok (.return_, 1) := by decide +kernel
abbrev w_Carriers_init : List Cond := .code yX0_init cX0_init 3 none :: zall
abbrev rm_Carriers_init : Room := { frames := 1, cells := 1, slots := 48000, locals := 12 }
set_option maxHeartbeats 4000000 in
set_option maxRecDepth 100000 in
theorem n_Carriers (l : Launch) (ev : zEv) (dC : Nat → ClassId) (dI : Nat → Nat → Nat) (cA : Nat → ClassId) (h0 p0 p1 : Nat) : xn_V l ev (dC, dI) vwCl (tyl cA) yX0_init w_Carriers_init rm_Carriers_init [.ref h0, .ref p0, .ref p1] [(h0, .inr (0, [.null, .null, .null]))] (fun A H => ∃ (q1 : Nat), va_P (dC, dI) vwCl [(h0, .inr (0, [.ref p0, .ref p1, .ref q1])), (q1, .inl (cA 0, 48000, .inl (za (fun _ => 0))))] H ∧ va_D A [(h0, .inr (0, [.ref p0, .ref p1, .ref q1])), (q1, .inl (cA 0, 48000, .inl (za (fun _ => 0))))]) 1 48000 := by
  refine xn_start (cc := cX0_init) (maxL := 3) (by decide +kernel) rfl rfl (Nat.le_of_ble_eq_true rfl) ?_
  intro p e s m args below meth c A Q H ls hx hb hml hts hown hK hA hP hD hS hl hE hin hret
  have hown : s.vm.findClass "HillSchool$Carriers" = some m.cls := hown
  have hz : ∀ w ∈ zall, w.before args s = true := fun w h => hts w (List.mem_cons_of_mem _ h)
  have hl : lv_has ls 3 [(0, .ref h0), (1, .ref p0), (2, .ref p1)] := hl
  generalize hlocs : ([] : List Loc) = locs at hS ⊢
  refine lv_aload_n hx hb dX0_init_0 rfl (lv_at hl 0 rfl) ?_
  refine W.objInit hx hb hown (hz _ zw_303) (hz _ zw_129) (hz _ zw_130) (g := F0 m 1 ls [.ref h0]) rfl (hl.1.trans hml.symm) rfl dX0_init_1 (Nat.le_of_ble_eq_true rfl) (Nat.le_of_ble_eq_true rfl) ?_
  refine lv_aload_n hx hb dX0_init_4 rfl (lv_at hl 0 rfl) ?_
  refine lv_ldc (v := Int32.ofInt 48000) hx hb hown (hz _ zw_304) dX0_init_5 ?_
  refine xn_newi hx hb (hz _ zw_158) hK hP hD hS hA 0 rfl 48000 (by decide) (by decide +kernel) (Nat.le_of_ble_eq_true rfl) (Nat.le_of_ble_eq_true rfl) (Nat.le_of_ble_eq_true rfl) dX0_init_7 (fun q1 H hP hD hS => ?_)
  have hP : va_P (dC, dI) vwCl [(h0, .inr (0, [.null, .null, .null])), (q1, .inl (cA 0, 48000, .inl (za (fun _ => 0))))] H := hP
  have hD : va_D A [(h0, .inr (0, [.null, .null, .null])), (q1, .inl (cA 0, 48000, .inl (za (fun _ => 0))))] := hD
  refine va_putF (D := (dC, dI)) (ci := 0) (v := .ref q1) (ty := (.array .int)) (C := RX0) (T := TX0) (N := 3) hx hb hz zi_X0 tyX0 tyX0_ok nmX0 hown hK hP hD hS 0 rfl rfl 2 (by decide) (hz _ zw_307) (fun _ h9 => h9) rfl hin rfl (by decide +kernel) rfl rfl (Nat.le_of_ble_eq_true rfl) dX0_init_9 (fun H locs hP hD hS => ?_)
  have hP : va_P (dC, dI) vwCl [(h0, .inr (0, [.null, .null, .ref q1])), (q1, .inl (cA 0, 48000, .inl (za (fun _ => 0))))] H := hP
  have hD : va_D A [(h0, .inr (0, [.null, .null, .ref q1])), (q1, .inl (cA 0, 48000, .inl (za (fun _ => 0))))] := hD
  refine lv_aload_n hx hb dX0_init_12 rfl (lv_at hl 0 rfl) ?_
  refine lv_aload_n hx hb dX0_init_13 rfl (lv_at hl 1 rfl) ?_
  refine va_putF (D := (dC, dI)) (ci := 0) (v := .ref p0) (ty := (.object "HillSchool$Hill")) (C := RX0) (T := TX0) (N := 3) hx hb hz zi_X0 tyX0 tyX0_ok nmX0 hown hK hP hD hS 0 rfl rfl 0 (by decide) (hz _ zw_305) (fun _ h9 => h9) rfl hin rfl (by decide +kernel) rfl rfl (Nat.le_of_ble_eq_true rfl) dX0_init_14 (fun H locs hP hD hS => ?_)
  have hP : va_P (dC, dI) vwCl [(h0, .inr (0, [.ref p0, .null, .ref q1])), (q1, .inl (cA 0, 48000, .inl (za (fun _ => 0))))] H := hP
  have hD : va_D A [(h0, .inr (0, [.ref p0, .null, .ref q1])), (q1, .inl (cA 0, 48000, .inl (za (fun _ => 0))))] := hD
  refine lv_aload_n hx hb dX0_init_17 rfl (lv_at hl 0 rfl) ?_
  refine lv_aload_n hx hb dX0_init_18 rfl (lv_at hl 2 rfl) ?_
  refine va_putF (D := (dC, dI)) (ci := 0) (v := .ref p1) (ty := (.object "HillSchool$Judge")) (C := RX0) (T := TX0) (N := 3) hx hb hz zi_X0 tyX0 tyX0_ok nmX0 hown hK hP hD hS 0 rfl rfl 1 (by decide) (hz _ zw_306) (fun _ h9 => h9) rfl hin rfl (by decide +kernel) rfl rfl (Nat.le_of_ble_eq_true rfl) dX0_init_19 (fun H locs hP hD hS => ?_)
  have hP : va_P (dC, dI) vwCl [(h0, .inr (0, [.ref p0, .ref p1, .ref q1])), (q1, .inl (cA 0, 48000, .inl (za (fun _ => 0))))] H := hP
  have hD : va_D A [(h0, .inr (0, [.ref p0, .ref p1, .ref q1])), (q1, .inl (cA 0, 48000, .inl (za (fun _ => 0))))] := hD
  refine W.widen (k := 1) (n := 48000) (by decide) (by decide) ?_
  exact hret _ _ _ _ dX0_init_22 ⟨q1, hP, hD⟩ hS
