theorem dX9_init_0 : decode cX9_init 0 = .ok (.aload_n 0, 1) := by decide +kernel
theorem dX9_init_1 : decode cX9_init 1 = .ok (.invokespecial 3, 3) := by decide +kernel
theorem dX9_init_4 : decode cX9_init 4 = .ok (.aload_n 0, 1) := by decide +kernel
theorem dX9_init_5 : decode cX9_init 5 = .ok (.new 9, 3) := by decide +kernel
theorem dX9_init_8 : decode cX9_init 8 = .ok (.dup, 1) := by decide +kernel
theorem dX9_init_9 : decode cX9_init 9 = .ok (.invokespecial 11, 3) := by decide +kernel
theorem dX9_init_12 : decode cX9_init 12 = .ok (.putfield 12, 3) := by decide +kernel
theorem dX9_init_15 : decode cX9_init 15 = .ok (.aload_n 0, 1) := by decide +kernel
theorem dX9_init_16 : decode cX9_init 16 = .ok (.iconst 5, 1) := by decide +kernel
theorem dX9_init_17 : decode cX9_init 17 = .ok (.newarray .int, 2) := by decide +kernel
theorem dX9_init_19 : decode cX9_init 19 = .ok (.putfield 18, 3) := by decide +kernel
theorem dX9_init_22 : decode cX9_init 22 = .ok (.aload_n 0, 1) := by decide +kernel
theorem dX9_init_23 : decode cX9_init 23 = .ok (.iconst 5, 1) := by decide +kernel
theorem dX9_init_24 : decode cX9_init 24 = .ok (.newarray .int, 2) := by decide +kernel
theorem dX9_init_26 : decode cX9_init 26 = .ok (.putfield 22, 3) := by decide +kernel
theorem dX9_init_29 : decode cX9_init 29 = .ok (.aload_n 0, 1) := by decide +kernel
theorem dX9_init_30 : decode cX9_init 30 = .ok (.iconst (-1), 1) := by decide +kernel
theorem dX9_init_31 : decode cX9_init 31 = .ok (.putfield 25, 3) := by decide +kernel
theorem dX9_init_34 : decode cX9_init 34 = .ok (.aload_n 0, 1) := by decide +kernel
theorem dX9_init_35 : decode cX9_init 35 = .ok (.iconst 0, 1) := by decide +kernel
theorem dX9_init_36 : decode cX9_init 36 = .ok (.putfield 29, 3) := by decide +kernel
theorem dX9_init_39 : decode cX9_init 39 = .ok (.aload_n 0, 1) := by decide +kernel
theorem dX9_init_40 : decode cX9_init 40 = .ok (.iconst 0, 1) := by decide +kernel
theorem dX9_init_41 : decode cX9_init 41 = .ok (.putfield 32, 3) := by decide +kernel
theorem dX9_init_44 : decode cX9_init 44 = .ok (.aload_n 0, 1) := by decide +kernel
theorem dX9_init_45 : decode cX9_init 45 = .ok (.iconst 0, 1) := by decide +kernel
theorem dX9_init_46 : decode cX9_init 46 = .ok (.putfield 35, 3) := by decide +kernel
theorem dX9_init_49 : decode cX9_init 49 = .ok (.aload_n 0, 1) := by decide +kernel
theorem dX9_init_50 : decode cX9_init 50 = .ok (.aload_n 1, 1) := by decide +kernel
theorem dX9_init_51 : decode cX9_init 51 = .ok (.putfield 38, 3) := by decide +kernel
theorem dX9_init_54 : decode cX9_init 54 = .ok (.aload_n 0, 1) := by decide +kernel
theorem dX9_init_55 : decode cX9_init 55 = .ok (.aload_n 2, 1) := by decide +kernel
theorem dX9_init_56 : decode cX9_init 56 = .ok (.putfield 42, 3) := by decide +kernel
theorem dX9_init_59 : decode cX9_init 59 = .ok (.return_, 1) := by decide +kernel
abbrev w_Schools_init : List Cond := .code yX9_init cX9_init 3 none :: zall
abbrev rm_Schools_init : Room := { frames := 2, cells := 5, slots := 145, locals := 32 }
set_option maxHeartbeats 4000000 in
set_option maxRecDepth 100000 in
theorem n_Schools (l : Launch) (ev : zEv) (dC : Nat → ClassId) (dI : Nat → Nat → Nat) (cA : Nat → ClassId) (h0 p0 p1 : Nat) : xn_V l ev (dC, dI) vwCl (tyl cA) yX9_init w_Schools_init rm_Schools_init [.ref h0, .ref p0, .ref p1] [(h0, .inr (9, [.null, .null, .null, .null, .null, .int (Int32.ofInt 0), .int (Int32.ofInt 0), .int (Int32.ofInt 0), .int (Int32.ofInt 0)]))] (fun A H => ∃ (q1 q2 q3 q4 q5 : Nat), va_P (dC, dI) vwCl [(h0, .inr (9, [.ref p0, .ref p1, .ref q1, .ref q4, .ref q5, .int (Int32.ofInt (-1)), .int (Int32.ofInt 0), .int (Int32.ofInt 0), .int (Int32.ofInt 0)])), (q1, .inr (1, [.int (Int32.ofInt 0), .ref q2, .ref q3])), (q2, .inl (cA 0, 12, .inl (za (fun _ => 0)))), (q3, .inl (cA 0, 120, .inl (za (fun _ => 0)))), (q4, .inl (cA 0, 5, .inl (za (fun _ => 0)))), (q5, .inl (cA 0, 5, .inl (za (fun _ => 0))))] H ∧ va_D A [(h0, .inr (9, [.ref p0, .ref p1, .ref q1, .ref q4, .ref q5, .int (Int32.ofInt (-1)), .int (Int32.ofInt 0), .int (Int32.ofInt 0), .int (Int32.ofInt 0)])), (q1, .inr (1, [.int (Int32.ofInt 0), .ref q2, .ref q3])), (q2, .inl (cA 0, 12, .inl (za (fun _ => 0)))), (q3, .inl (cA 0, 120, .inl (za (fun _ => 0)))), (q4, .inl (cA 0, 5, .inl (za (fun _ => 0)))), (q5, .inl (cA 0, 5, .inl (za (fun _ => 0))))]) 5 145 := by
  refine xn_start (cc := cX9_init) (maxL := 3) (by decide +kernel) rfl rfl (Nat.le_of_ble_eq_true rfl) ?_
  intro p e s m args below meth c A Q H ls hx hb hml hts hown hK hA hP hD hS hl hE hin hret
  have hown : s.vm.findClass "HillSchool$Schools" = some m.cls := hown
  have hz : ∀ w ∈ zall, w.before args s = true := fun w h => hts w (List.mem_cons_of_mem _ h)
  have hl : lv_has ls 3 [(0, .ref h0), (1, .ref p0), (2, .ref p1)] := hl
  generalize hlocs : ([] : List Loc) = locs at hS ⊢
  refine lv_aload_n hx hb dX9_init_0 rfl (lv_at hl 0 rfl) ?_
  refine W.objInit hx hb hown (hz _ zw_402) (hz _ zw_129) (hz _ zw_130) (g := F0 m 1 ls [.ref h0]) rfl (hl.1.trans hml.symm) rfl dX9_init_1 (Nat.le_of_ble_eq_true rfl) (Nat.le_of_ble_eq_true rfl) ?_
  refine lv_aload_n hx hb dX9_init_4 rfl (lv_at hl 0 rfl) ?_
  refine va_new (ci := 1) (fs := [.int (Int32.ofInt 0), .null, .null]) (C := RX1) (T := TX1) (N := 3) hx hb hz zi_X1 tyX1 tyX1_ok hown (hz _ zw_403) (hz _ zw_138) (hz _ zw_106) hK hP hD hS hA rfl (zdf_X1) (Nat.le_of_ble_eq_true rfl) (Nat.le_of_ble_eq_true rfl) dX9_init_5 (fun q1 H hP hD hS => ?_)
  have hP : va_P (dC, dI) vwCl [(h0, .inr (9, [.null, .null, .null, .null, .null, .int (Int32.ofInt 0), .int (Int32.ofInt 0), .int (Int32.ofInt 0), .int (Int32.ofInt 0)])), (q1, .inr (1, [.int (Int32.ofInt 0), .null, .null]))] H := hP
  have hD : va_D A [(h0, .inr (9, [.null, .null, .null, .null, .null, .int (Int32.ofInt 0), .int (Int32.ofInt 0), .int (Int32.ofInt 0), .int (Int32.ofInt 0)])), (q1, .inr (1, [.int (Int32.ofInt 0), .null, .null]))] := hD
  refine lv_dup hx hb dX9_init_8 rfl ?_
  have hC : ([1] : List Nat).map (fun i => ([(h0, .inr (9, [.null, .null, .null, .null, .null, .int (Int32.ofInt 0), .int (Int32.ofInt 0), .int (Int32.ofInt 0), .int (Int32.ofInt 0)])), (q1, .inr (1, [.int (Int32.ofInt 0), .null, .null]))] : va_W)[i]?) = ([(q1, .inr (1, [.int (Int32.ofInt 0), .null, .null]))] : va_W).map some := rfl
  have hF := va_free hD hS hA [1] hC
  refine va_callv (va_runIN (As := []) (rest := [.ref q1, .ref h0]) ⟨hx, hb, hml, hown, hts⟩ (n_Columns l ev dC dI cA q1 H.size) ⟨va_cnB 0 hts (zgA zw_141) rfl rfl rfl (hE.1.1 _ zw_404) (hz _ zw_106) (by decide +kernel) ⟨Nat.le_of_ble_eq_true rfl, Nat.le_of_ble_eq_true rfl⟩, rfl, hz _ zw_140⟩ (xv_preS hE hA hS hK hP hD (isC := [1]) (by decide +kernel) hC) rfl rfl hl.1 rfl (lv_room (Nat.le_of_ble_eq_true rfl)) dX9_init_9 ⟨Nat.le_of_ble_eq_true rfl, Nat.le_of_ble_eq_true rfl⟩) hS (fun q _ h => hF q h) hF (fun u t H1 locs ht hvm hw hB hz1 hk1 hS => ?_)
  refine Exists.elim hB fun q2 hB => Exists.elim hB fun q3 hB => ?_
  have hP1 := hB.1
  have hD1 := hB.2
  rw [ht] at hP1
  obtain ⟨hP, hD⟩ := va_join (wr := [(h0, .inr (9, [.null, .null, .null, .null, .null, .int (Int32.ofInt 0), .int (Int32.ofInt 0), .int (Int32.ofInt 0), .int (Int32.ofInt 0)]))]) (w1 := [(q1, .inr (1, [.int (Int32.ofInt 0), .ref q2, .ref q3])), (q2, .inl (cA 0, 12, .inl (za (fun _ => 0)))), (q3, .inl (cA 0, 120, .inl (za (fun _ => 0))))]) hP hD [1] [0] hC rfl (by decide +kernel) (by decide +kernel) hk1 hF hP1 hD1
  generalize H1 = H at hP hS ⊢
  have hP : va_P (dC, dI) vwCl [(h0, .inr (9, [.null, .null, .null, .null, .null, .int (Int32.ofInt 0), .int (Int32.ofInt 0), .int (Int32.ofInt 0), .int (Int32.ofInt 0)])), (q1, .inr (1, [.int (Int32.ofInt 0), .ref q2, .ref q3])), (q2, .inl (cA 0, 12, .inl (za (fun _ => 0)))), (q3, .inl (cA 0, 120, .inl (za (fun _ => 0))))] H := hP
  have hD : va_D A [(h0, .inr (9, [.null, .null, .null, .null, .null, .int (Int32.ofInt 0), .int (Int32.ofInt 0), .int (Int32.ofInt 0), .int (Int32.ofInt 0)])), (q1, .inr (1, [.int (Int32.ofInt 0), .ref q2, .ref q3])), (q2, .inl (cA 0, 12, .inl (za (fun _ => 0)))), (q3, .inl (cA 0, 120, .inl (za (fun _ => 0))))] := hD
  refine va_putF (D := (dC, dI)) (ci := 9) (v := .ref q1) (ty := (.object "HillSchool$Columns")) (C := RX9) (T := TX9) (N := 9) hx hb hz zi_X9 tyX9 tyX9_ok nmX9 hown hK hP hD hS 0 rfl rfl 2 (by decide) (hz _ zw_407) (fun _ h9 => h9) rfl hin rfl (by decide +kernel) rfl rfl (Nat.le_of_ble_eq_true rfl) dX9_init_12 (fun H locs hP hD hS => ?_)
  have hP : va_P (dC, dI) vwCl [(h0, .inr (9, [.null, .null, .ref q1, .null, .null, .int (Int32.ofInt 0), .int (Int32.ofInt 0), .int (Int32.ofInt 0), .int (Int32.ofInt 0)])), (q1, .inr (1, [.int (Int32.ofInt 0), .ref q2, .ref q3])), (q2, .inl (cA 0, 12, .inl (za (fun _ => 0)))), (q3, .inl (cA 0, 120, .inl (za (fun _ => 0))))] H := hP
  have hD : va_D A [(h0, .inr (9, [.null, .null, .ref q1, .null, .null, .int (Int32.ofInt 0), .int (Int32.ofInt 0), .int (Int32.ofInt 0), .int (Int32.ofInt 0)])), (q1, .inr (1, [.int (Int32.ofInt 0), .ref q2, .ref q3])), (q2, .inl (cA 0, 12, .inl (za (fun _ => 0)))), (q3, .inl (cA 0, 120, .inl (za (fun _ => 0))))] := hD
  refine lv_aload_n hx hb dX9_init_15 rfl (lv_at hl 0 rfl) ?_
  refine lv_iconst (v := Int32.ofInt 5) hx hb dX9_init_16 rfl ?_
  refine xn_newi hx hb (hz _ zw_158) hK hP hD hS hA 0 rfl 5 (by decide) (by decide +kernel) (Nat.le_of_ble_eq_true rfl) (Nat.le_of_ble_eq_true rfl) (Nat.le_of_ble_eq_true rfl) dX9_init_17 (fun q4 H hP hD hS => ?_)
  have hP : va_P (dC, dI) vwCl [(h0, .inr (9, [.null, .null, .ref q1, .null, .null, .int (Int32.ofInt 0), .int (Int32.ofInt 0), .int (Int32.ofInt 0), .int (Int32.ofInt 0)])), (q1, .inr (1, [.int (Int32.ofInt 0), .ref q2, .ref q3])), (q2, .inl (cA 0, 12, .inl (za (fun _ => 0)))), (q3, .inl (cA 0, 120, .inl (za (fun _ => 0)))), (q4, .inl (cA 0, 5, .inl (za (fun _ => 0))))] H := hP
  have hD : va_D A [(h0, .inr (9, [.null, .null, .ref q1, .null, .null, .int (Int32.ofInt 0), .int (Int32.ofInt 0), .int (Int32.ofInt 0), .int (Int32.ofInt 0)])), (q1, .inr (1, [.int (Int32.ofInt 0), .ref q2, .ref q3])), (q2, .inl (cA 0, 12, .inl (za (fun _ => 0)))), (q3, .inl (cA 0, 120, .inl (za (fun _ => 0)))), (q4, .inl (cA 0, 5, .inl (za (fun _ => 0))))] := hD
  refine va_putF (D := (dC, dI)) (ci := 9) (v := .ref q4) (ty := (.array .int)) (C := RX9) (T := TX9) (N := 9) hx hb hz zi_X9 tyX9 tyX9_ok nmX9 hown hK hP hD hS 0 rfl rfl 3 (by decide) (hz _ zw_408) (fun _ h9 => h9) rfl hin rfl (by decide +kernel) rfl rfl (Nat.le_of_ble_eq_true rfl) dX9_init_19 (fun H locs hP hD hS => ?_)
  have hP : va_P (dC, dI) vwCl [(h0, .inr (9, [.null, .null, .ref q1, .ref q4, .null, .int (Int32.ofInt 0), .int (Int32.ofInt 0), .int (Int32.ofInt 0), .int (Int32.ofInt 0)])), (q1, .inr (1, [.int (Int32.ofInt 0), .ref q2, .ref q3])), (q2, .inl (cA 0, 12, .inl (za (fun _ => 0)))), (q3, .inl (cA 0, 120, .inl (za (fun _ => 0)))), (q4, .inl (cA 0, 5, .inl (za (fun _ => 0))))] H := hP
  have hD : va_D A [(h0, .inr (9, [.null, .null, .ref q1, .ref q4, .null, .int (Int32.ofInt 0), .int (Int32.ofInt 0), .int (Int32.ofInt 0), .int (Int32.ofInt 0)])), (q1, .inr (1, [.int (Int32.ofInt 0), .ref q2, .ref q3])), (q2, .inl (cA 0, 12, .inl (za (fun _ => 0)))), (q3, .inl (cA 0, 120, .inl (za (fun _ => 0)))), (q4, .inl (cA 0, 5, .inl (za (fun _ => 0))))] := hD
  refine lv_aload_n hx hb dX9_init_22 rfl (lv_at hl 0 rfl) ?_
  refine lv_iconst (v := Int32.ofInt 5) hx hb dX9_init_23 rfl ?_
  refine xn_newi hx hb (hz _ zw_158) hK hP hD hS hA 0 rfl 5 (by decide) (by decide +kernel) (Nat.le_of_ble_eq_true rfl) (Nat.le_of_ble_eq_true rfl) (Nat.le_of_ble_eq_true rfl) dX9_init_24 (fun q5 H hP hD hS => ?_)
  have hP : va_P (dC, dI) vwCl [(h0, .inr (9, [.null, .null, .ref q1, .ref q4, .null, .int (Int32.ofInt 0), .int (Int32.ofInt 0), .int (Int32.ofInt 0), .int (Int32.ofInt 0)])), (q1, .inr (1, [.int (Int32.ofInt 0), .ref q2, .ref q3])), (q2, .inl (cA 0, 12, .inl (za (fun _ => 0)))), (q3, .inl (cA 0, 120, .inl (za (fun _ => 0)))), (q4, .inl (cA 0, 5, .inl (za (fun _ => 0)))), (q5, .inl (cA 0, 5, .inl (za (fun _ => 0))))] H := hP
  have hD : va_D A [(h0, .inr (9, [.null, .null, .ref q1, .ref q4, .null, .int (Int32.ofInt 0), .int (Int32.ofInt 0), .int (Int32.ofInt 0), .int (Int32.ofInt 0)])), (q1, .inr (1, [.int (Int32.ofInt 0), .ref q2, .ref q3])), (q2, .inl (cA 0, 12, .inl (za (fun _ => 0)))), (q3, .inl (cA 0, 120, .inl (za (fun _ => 0)))), (q4, .inl (cA 0, 5, .inl (za (fun _ => 0)))), (q5, .inl (cA 0, 5, .inl (za (fun _ => 0))))] := hD
  refine va_putF (D := (dC, dI)) (ci := 9) (v := .ref q5) (ty := (.array .int)) (C := RX9) (T := TX9) (N := 9) hx hb hz zi_X9 tyX9 tyX9_ok nmX9 hown hK hP hD hS 0 rfl rfl 4 (by decide) (hz _ zw_409) (fun _ h9 => h9) rfl hin rfl (by decide +kernel) rfl rfl (Nat.le_of_ble_eq_true rfl) dX9_init_26 (fun H locs hP hD hS => ?_)
  have hP : va_P (dC, dI) vwCl [(h0, .inr (9, [.null, .null, .ref q1, .ref q4, .ref q5, .int (Int32.ofInt 0), .int (Int32.ofInt 0), .int (Int32.ofInt 0), .int (Int32.ofInt 0)])), (q1, .inr (1, [.int (Int32.ofInt 0), .ref q2, .ref q3])), (q2, .inl (cA 0, 12, .inl (za (fun _ => 0)))), (q3, .inl (cA 0, 120, .inl (za (fun _ => 0)))), (q4, .inl (cA 0, 5, .inl (za (fun _ => 0)))), (q5, .inl (cA 0, 5, .inl (za (fun _ => 0))))] H := hP
  have hD : va_D A [(h0, .inr (9, [.null, .null, .ref q1, .ref q4, .ref q5, .int (Int32.ofInt 0), .int (Int32.ofInt 0), .int (Int32.ofInt 0), .int (Int32.ofInt 0)])), (q1, .inr (1, [.int (Int32.ofInt 0), .ref q2, .ref q3])), (q2, .inl (cA 0, 12, .inl (za (fun _ => 0)))), (q3, .inl (cA 0, 120, .inl (za (fun _ => 0)))), (q4, .inl (cA 0, 5, .inl (za (fun _ => 0)))), (q5, .inl (cA 0, 5, .inl (za (fun _ => 0))))] := hD
  refine lv_aload_n hx hb dX9_init_29 rfl (lv_at hl 0 rfl) ?_
  refine lv_iconst (v := Int32.ofInt (-1)) hx hb dX9_init_30 rfl ?_
  refine va_put (D := (dC, dI)) (ci := 9) (v := .int (Int32.ofInt (-1))) (ty := .int) (C := RX9) (T := TX9) (N := 9) hx hb hz zi_X9 tyX9 tyX9_ok nmX9 hown hK hP hD hS 0 rfl rfl 5 (by decide) (hz _ zw_410) (fun _ h9 => h9) rfl (by decide +kernel) rfl rfl (Nat.le_of_ble_eq_true rfl) dX9_init_31 (fun H locs hP hD hS => ?_)
  have hP : va_P (dC, dI) vwCl [(h0, .inr (9, [.null, .null, .ref q1, .ref q4, .ref q5, .int (Int32.ofInt (-1)), .int (Int32.ofInt 0), .int (Int32.ofInt 0), .int (Int32.ofInt 0)])), (q1, .inr (1, [.int (Int32.ofInt 0), .ref q2, .ref q3])), (q2, .inl (cA 0, 12, .inl (za (fun _ => 0)))), (q3, .inl (cA 0, 120, .inl (za (fun _ => 0)))), (q4, .inl (cA 0, 5, .inl (za (fun _ => 0)))), (q5, .inl (cA 0, 5, .inl (za (fun _ => 0))))] H := hP
  have hD : va_D A [(h0, .inr (9, [.null, .null, .ref q1, .ref q4, .ref q5, .int (Int32.ofInt (-1)), .int (Int32.ofInt 0), .int (Int32.ofInt 0), .int (Int32.ofInt 0)])), (q1, .inr (1, [.int (Int32.ofInt 0), .ref q2, .ref q3])), (q2, .inl (cA 0, 12, .inl (za (fun _ => 0)))), (q3, .inl (cA 0, 120, .inl (za (fun _ => 0)))), (q4, .inl (cA 0, 5, .inl (za (fun _ => 0)))), (q5, .inl (cA 0, 5, .inl (za (fun _ => 0))))] := hD
  refine lv_aload_n hx hb dX9_init_34 rfl (lv_at hl 0 rfl) ?_
  refine lv_iconst (v := Int32.ofInt 0) hx hb dX9_init_35 rfl ?_
  refine va_put (D := (dC, dI)) (ci := 9) (v := .int (Int32.ofInt 0)) (ty := .int) (C := RX9) (T := TX9) (N := 9) hx hb hz zi_X9 tyX9 tyX9_ok nmX9 hown hK hP hD hS 0 rfl rfl 6 (by decide) (hz _ zw_411) (fun _ h9 => h9) rfl (by decide +kernel) rfl rfl (Nat.le_of_ble_eq_true rfl) dX9_init_36 (fun H locs hP hD hS => ?_)
  have hP : va_P (dC, dI) vwCl [(h0, .inr (9, [.null, .null, .ref q1, .ref q4, .ref q5, .int (Int32.ofInt (-1)), .int (Int32.ofInt 0), .int (Int32.ofInt 0), .int (Int32.ofInt 0)])), (q1, .inr (1, [.int (Int32.ofInt 0), .ref q2, .ref q3])), (q2, .inl (cA 0, 12, .inl (za (fun _ => 0)))), (q3, .inl (cA 0, 120, .inl (za (fun _ => 0)))), (q4, .inl (cA 0, 5, .inl (za (fun _ => 0)))), (q5, .inl (cA 0, 5, .inl (za (fun _ => 0))))] H := hP
  have hD : va_D A [(h0, .inr (9, [.null, .null, .ref q1, .ref q4, .ref q5, .int (Int32.ofInt (-1)), .int (Int32.ofInt 0), .int (Int32.ofInt 0), .int (Int32.ofInt 0)])), (q1, .inr (1, [.int (Int32.ofInt 0), .ref q2, .ref q3])), (q2, .inl (cA 0, 12, .inl (za (fun _ => 0)))), (q3, .inl (cA 0, 120, .inl (za (fun _ => 0)))), (q4, .inl (cA 0, 5, .inl (za (fun _ => 0)))), (q5, .inl (cA 0, 5, .inl (za (fun _ => 0))))] := hD
  refine lv_aload_n hx hb dX9_init_39 rfl (lv_at hl 0 rfl) ?_
  refine lv_iconst (v := Int32.ofInt 0) hx hb dX9_init_40 rfl ?_
  refine va_put (D := (dC, dI)) (ci := 9) (v := .int (Int32.ofInt 0)) (ty := .int) (C := RX9) (T := TX9) (N := 9) hx hb hz zi_X9 tyX9 tyX9_ok nmX9 hown hK hP hD hS 0 rfl rfl 7 (by decide) (hz _ zw_412) (fun _ h9 => h9) rfl (by decide +kernel) rfl rfl (Nat.le_of_ble_eq_true rfl) dX9_init_41 (fun H locs hP hD hS => ?_)
  have hP : va_P (dC, dI) vwCl [(h0, .inr (9, [.null, .null, .ref q1, .ref q4, .ref q5, .int (Int32.ofInt (-1)), .int (Int32.ofInt 0), .int (Int32.ofInt 0), .int (Int32.ofInt 0)])), (q1, .inr (1, [.int (Int32.ofInt 0), .ref q2, .ref q3])), (q2, .inl (cA 0, 12, .inl (za (fun _ => 0)))), (q3, .inl (cA 0, 120, .inl (za (fun _ => 0)))), (q4, .inl (cA 0, 5, .inl (za (fun _ => 0)))), (q5, .inl (cA 0, 5, .inl (za (fun _ => 0))))] H := hP
  have hD : va_D A [(h0, .inr (9, [.null, .null, .ref q1, .ref q4, .ref q5, .int (Int32.ofInt (-1)), .int (Int32.ofInt 0), .int (Int32.ofInt 0), .int (Int32.ofInt 0)])), (q1, .inr (1, [.int (Int32.ofInt 0), .ref q2, .ref q3])), (q2, .inl (cA 0, 12, .inl (za (fun _ => 0)))), (q3, .inl (cA 0, 120, .inl (za (fun _ => 0)))), (q4, .inl (cA 0, 5, .inl (za (fun _ => 0)))), (q5, .inl (cA 0, 5, .inl (za (fun _ => 0))))] := hD
  refine lv_aload_n hx hb dX9_init_44 rfl (lv_at hl 0 rfl) ?_
  refine lv_iconst (v := Int32.ofInt 0) hx hb dX9_init_45 rfl ?_
  refine va_put (D := (dC, dI)) (ci := 9) (v := .int (Int32.ofInt 0)) (ty := .int) (C := RX9) (T := TX9) (N := 9) hx hb hz zi_X9 tyX9 tyX9_ok nmX9 hown hK hP hD hS 0 rfl rfl 8 (by decide) (hz _ zw_413) (fun _ h9 => h9) rfl (by decide +kernel) rfl rfl (Nat.le_of_ble_eq_true rfl) dX9_init_46 (fun H locs hP hD hS => ?_)
  have hP : va_P (dC, dI) vwCl [(h0, .inr (9, [.null, .null, .ref q1, .ref q4, .ref q5, .int (Int32.ofInt (-1)), .int (Int32.ofInt 0), .int (Int32.ofInt 0), .int (Int32.ofInt 0)])), (q1, .inr (1, [.int (Int32.ofInt 0), .ref q2, .ref q3])), (q2, .inl (cA 0, 12, .inl (za (fun _ => 0)))), (q3, .inl (cA 0, 120, .inl (za (fun _ => 0)))), (q4, .inl (cA 0, 5, .inl (za (fun _ => 0)))), (q5, .inl (cA 0, 5, .inl (za (fun _ => 0))))] H := hP
  have hD : va_D A [(h0, .inr (9, [.null, .null, .ref q1, .ref q4, .ref q5, .int (Int32.ofInt (-1)), .int (Int32.ofInt 0), .int (Int32.ofInt 0), .int (Int32.ofInt 0)])), (q1, .inr (1, [.int (Int32.ofInt 0), .ref q2, .ref q3])), (q2, .inl (cA 0, 12, .inl (za (fun _ => 0)))), (q3, .inl (cA 0, 120, .inl (za (fun _ => 0)))), (q4, .inl (cA 0, 5, .inl (za (fun _ => 0)))), (q5, .inl (cA 0, 5, .inl (za (fun _ => 0))))] := hD
  refine lv_aload_n hx hb dX9_init_49 rfl (lv_at hl 0 rfl) ?_
  refine lv_aload_n hx hb dX9_init_50 rfl (lv_at hl 1 rfl) ?_
  refine va_putF (D := (dC, dI)) (ci := 9) (v := .ref p0) (ty := (.object "HillSchool$Hill")) (C := RX9) (T := TX9) (N := 9) hx hb hz zi_X9 tyX9 tyX9_ok nmX9 hown hK hP hD hS 0 rfl rfl 0 (by decide) (hz _ zw_405) (fun _ h9 => h9) rfl hin rfl (by decide +kernel) rfl rfl (Nat.le_of_ble_eq_true rfl) dX9_init_51 (fun H locs hP hD hS => ?_)
  have hP : va_P (dC, dI) vwCl [(h0, .inr (9, [.ref p0, .null, .ref q1, .ref q4, .ref q5, .int (Int32.ofInt (-1)), .int (Int32.ofInt 0), .int (Int32.ofInt 0), .int (Int32.ofInt 0)])), (q1, .inr (1, [.int (Int32.ofInt 0), .ref q2, .ref q3])), (q2, .inl (cA 0, 12, .inl (za (fun _ => 0)))), (q3, .inl (cA 0, 120, .inl (za (fun _ => 0)))), (q4, .inl (cA 0, 5, .inl (za (fun _ => 0)))), (q5, .inl (cA 0, 5, .inl (za (fun _ => 0))))] H := hP
  have hD : va_D A [(h0, .inr (9, [.ref p0, .null, .ref q1, .ref q4, .ref q5, .int (Int32.ofInt (-1)), .int (Int32.ofInt 0), .int (Int32.ofInt 0), .int (Int32.ofInt 0)])), (q1, .inr (1, [.int (Int32.ofInt 0), .ref q2, .ref q3])), (q2, .inl (cA 0, 12, .inl (za (fun _ => 0)))), (q3, .inl (cA 0, 120, .inl (za (fun _ => 0)))), (q4, .inl (cA 0, 5, .inl (za (fun _ => 0)))), (q5, .inl (cA 0, 5, .inl (za (fun _ => 0))))] := hD
  refine lv_aload_n hx hb dX9_init_54 rfl (lv_at hl 0 rfl) ?_
  refine lv_aload_n hx hb dX9_init_55 rfl (lv_at hl 2 rfl) ?_
  refine va_putF (D := (dC, dI)) (ci := 9) (v := .ref p1) (ty := (.object "HillSchool$Carriers")) (C := RX9) (T := TX9) (N := 9) hx hb hz zi_X9 tyX9 tyX9_ok nmX9 hown hK hP hD hS 0 rfl rfl 1 (by decide) (hz _ zw_406) (fun _ h9 => h9) rfl hin rfl (by decide +kernel) rfl rfl (Nat.le_of_ble_eq_true rfl) dX9_init_56 (fun H locs hP hD hS => ?_)
  have hP : va_P (dC, dI) vwCl [(h0, .inr (9, [.ref p0, .ref p1, .ref q1, .ref q4, .ref q5, .int (Int32.ofInt (-1)), .int (Int32.ofInt 0), .int (Int32.ofInt 0), .int (Int32.ofInt 0)])), (q1, .inr (1, [.int (Int32.ofInt 0), .ref q2, .ref q3])), (q2, .inl (cA 0, 12, .inl (za (fun _ => 0)))), (q3, .inl (cA 0, 120, .inl (za (fun _ => 0)))), (q4, .inl (cA 0, 5, .inl (za (fun _ => 0)))), (q5, .inl (cA 0, 5, .inl (za (fun _ => 0))))] H := hP
  have hD : va_D A [(h0, .inr (9, [.ref p0, .ref p1, .ref q1, .ref q4, .ref q5, .int (Int32.ofInt (-1)), .int (Int32.ofInt 0), .int (Int32.ofInt 0), .int (Int32.ofInt 0)])), (q1, .inr (1, [.int (Int32.ofInt 0), .ref q2, .ref q3])), (q2, .inl (cA 0, 12, .inl (za (fun _ => 0)))), (q3, .inl (cA 0, 120, .inl (za (fun _ => 0)))), (q4, .inl (cA 0, 5, .inl (za (fun _ => 0)))), (q5, .inl (cA 0, 5, .inl (za (fun _ => 0))))] := hD
  refine W.widen (k := 5) (n := 145) (by decide) (by decide) ?_
  exact hret _ _ _ _ dX9_init_59 ⟨q1, q2, q3, q4, q5, hP, hD⟩ hS
