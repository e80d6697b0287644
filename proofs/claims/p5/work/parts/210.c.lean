theorem dX5_init_0 : decode cX5_init 0 = .ok (.aload_n 0, 1) := by decide +kernel
theorem dX5_init_1 : decode cX5_init 1 = .ok (.invokespecial 1, 3) := by decide +kernel
theorem dX5_init_4 : decode cX5_init 4 = .ok (.aload_n 0, 1) := by decide +kernel
theorem dX5_init_5 : decode cX5_init 5 = .ok (.new 7, 3) := by decide +kernel
theorem dX5_init_8 : decode cX5_init 8 = .ok (.dup, 1) := by decide +kernel
theorem dX5_init_9 : decode cX5_init 9 = .ok (.invokespecial 9, 3) := by decide +kernel
theorem dX5_init_12 : decode cX5_init 12 = .ok (.putfield 10, 3) := by decide +kernel
theorem dX5_init_15 : decode cX5_init 15 = .ok (.return_, 1) := by decide +kernel
abbrev w_Paper_init : List Cond := .code yX5_init cX5_init 1 none :: zall
abbrev rm_Paper_init : Room := { frames := 2, cells := 3, slots := 135, locals := 32 }
set_option maxHeartbeats 4000000 in
set_option maxRecDepth 100000 in
theorem n_Paper (l : Launch) (ev : zEv) (dC : Nat → ClassId) (dI : Nat → Nat → Nat) (cA : Nat → ClassId) (h0 : Nat) : xn_V l ev (dC, dI) vwCl (tyl cA) yX5_init w_Paper_init rm_Paper_init [.ref h0] [(h0, .inr (5, [.null]))] (fun A H => ∃ (q1 q2 q3 : Nat), va_P (dC, dI) vwCl [(h0, .inr (5, [.ref q1])), (q1, .inr (1, [.int (Int32.ofInt 0), .ref q2, .ref q3])), (q2, .inl (cA 0, 12, .inl (za (fun _ => 0)))), (q3, .inl (cA 0, 120, .inl (za (fun _ => 0))))] H ∧ va_D A [(h0, .inr (5, [.ref q1])), (q1, .inr (1, [.int (Int32.ofInt 0), .ref q2, .ref q3])), (q2, .inl (cA 0, 12, .inl (za (fun _ => 0)))), (q3, .inl (cA 0, 120, .inl (za (fun _ => 0))))]) 3 135 := by
  refine xn_start (cc := cX5_init) (maxL := 1) (by decide +kernel) rfl rfl (Nat.le_of_ble_eq_true rfl) ?_
  intro p e s m args below meth c A Q H ls hx hb hml hts hown hK hA hP hD hS hl hE hin hret
  have hown : s.vm.findClass "HillSchool$Paper" = some m.cls := hown
  have hz : ∀ w ∈ zall, w.before args s = true := fun w h => hts w (List.mem_cons_of_mem _ h)
  have hl : lv_has ls 1 [(0, .ref h0)] := hl
  generalize hlocs : ([] : List Loc) = locs at hS ⊢
  refine lv_aload_n hx hb dX5_init_0 rfl (lv_at hl 0 rfl) ?_
  refine W.objInit hx hb hown (hz _ zw_469) (hz _ zw_129) (hz _ zw_130) (g := F0 m 1 ls [.ref h0]) rfl (hl.1.trans hml.symm) rfl dX5_init_1 (Nat.le_of_ble_eq_true rfl) (Nat.le_of_ble_eq_true rfl) ?_
  refine lv_aload_n hx hb dX5_init_4 rfl (lv_at hl 0 rfl) ?_
  refine va_new (ci := 1) (fs := [.int (Int32.ofInt 0), .null, .null]) (C := RX1) (T := TX1) (N := 3) hx hb hz zi_X1 tyX1 tyX1_ok hown (hz _ zw_470) (hz _ zw_138) (hz _ zw_106) hK hP hD hS hA rfl (zdf_X1) (Nat.le_of_ble_eq_true rfl) (Nat.le_of_ble_eq_true rfl) dX5_init_5 (fun q1 H hP hD hS => ?_)
  have hP : va_P (dC, dI) vwCl [(h0, .inr (5, [.null])), (q1, .inr (1, [.int (Int32.ofInt 0), .null, .null]))] H := hP
  have hD : va_D A [(h0, .inr (5, [.null])), (q1, .inr (1, [.int (Int32.ofInt 0), .null, .null]))] := hD
  refine lv_dup hx hb dX5_init_8 rfl ?_
  have hC : ([1] : List Nat).map (fun i => ([(h0, .inr (5, [.null])), (q1, .inr (1, [.int (Int32.ofInt 0), .null, .null]))] : va_W)[i]?) = ([(q1, .inr (1, [.int (Int32.ofInt 0), .null, .null]))] : va_W).map some := rfl
  have hF := va_free hD hS hA [1] hC
  refine va_callv (va_runIN (As := []) (rest := [.ref q1, .ref h0]) ⟨hx, hb, hml, hown, hts⟩ (n_Columns l ev dC dI cA q1 H.size) ⟨va_cnB 0 hts (zgA zw_141) rfl rfl rfl (hE.1.1 _ zw_471) (hz _ zw_106) (by decide +kernel) ⟨Nat.le_of_ble_eq_true rfl, Nat.le_of_ble_eq_true rfl⟩, rfl, hz _ zw_140⟩ (xv_preS hE hA hS hK hP hD (isC := [1]) (by decide +kernel) hC) rfl rfl hl.1 rfl (lv_room (Nat.le_of_ble_eq_true rfl)) dX5_init_9 ⟨Nat.le_of_ble_eq_true rfl, Nat.le_of_ble_eq_true rfl⟩) hS (fun q _ h => hF q h) hF (fun u t H1 locs ht hvm hw hB hz1 hk1 hS => ?_)
  refine Exists.elim hB fun q2 hB => Exists.elim hB fun q3 hB => ?_
  have hP1 := hB.1
  have hD1 := hB.2
  rw [ht] at hP1
  obtain ⟨hP, hD⟩ := va_join (wr := [(h0, .inr (5, [.null]))]) (w1 := [(q1, .inr (1, [.int (Int32.ofInt 0), .ref q2, .ref q3])), (q2, .inl (cA 0, 12, .inl (za (fun _ => 0)))), (q3, .inl (cA 0, 120, .inl (za (fun _ => 0))))]) hP hD [1] [0] hC rfl (by decide +kernel) (by decide +kernel) hk1 hF hP1 hD1
  generalize H1 = H at hP hS ⊢
  have hP : va_P (dC, dI) vwCl [(h0, .inr (5, [.null])), (q1, .inr (1, [.int (Int32.ofInt 0), .ref q2, .ref q3])), (q2, .inl (cA 0, 12, .inl (za (fun _ => 0)))), (q3, .inl (cA 0, 120, .inl (za (fun _ => 0))))] H := hP
  have hD : va_D A [(h0, .inr (5, [.null])), (q1, .inr (1, [.int (Int32.ofInt 0), .ref q2, .ref q3])), (q2, .inl (cA 0, 12, .inl (za (fun _ => 0)))), (q3, .inl (cA 0, 120, .inl (za (fun _ => 0))))] := hD
  refine va_putF (D := (dC, dI)) (ci := 5) (v := .ref q1) (ty := (.object "HillSchool$Columns")) (C := RX5) (T := TX5) (N := 1) hx hb hz zi_X5 tyX5 tyX5_ok nmX5 hown hK hP hD hS 0 rfl rfl 0 (by decide) (hz _ zw_472) (fun _ h9 => h9) rfl hin rfl (by decide +kernel) rfl rfl (Nat.le_of_ble_eq_true rfl) dX5_init_12 (fun H locs hP hD hS => ?_)
  have hP : va_P (dC, dI) vwCl [(h0, .inr (5, [.ref q1])), (q1, .inr (1, [.int (Int32.ofInt 0), .ref q2, .ref q3])), (q2, .inl (cA 0, 12, .inl (za (fun _ => 0)))), (q3, .inl (cA 0, 120, .inl (za (fun _ => 0))))] H := hP
  have hD : va_D A [(h0, .inr (5, [.ref q1])), (q1, .inr (1, [.int (Int32.ofInt 0), .ref q2, .ref q3])), (q2, .inl (cA 0, 12, .inl (za (fun _ => 0)))), (q3, .inl (cA 0, 120, .inl (za (fun _ => 0))))] := hD
  refine W.widen (k := 3) (n := 135) (by decide) (by decide) ?_
  exact hret _ _ _ _ dX5_init_15 ⟨q1, q2, q3, hP, hD⟩ hS
