set_option maxHeartbeats 4000000 in
theorem s_Planner_write (x2 : Int) (i_costs : Nat → Int) (i_before : Nat → Int) (i_by : Nat → Int) (i_a1_length : Int) (i_a1_tiring : Int) (i_a1_row : Nat → Int) (b_x2 : (-1) ≤ x2 ∧ x2 ≤ 6719) (h_i_before : zR i_before (-1) 6719) (h_i_by : zR i_by 0 150) (b_i_a1_length : (-1000000000) ≤ i_a1_length ∧ i_a1_length ≤ 8191) (b_i_a1_tiring : (-9223372036854775808) ≤ i_a1_tiring ∧ i_a1_tiring ≤ 9223372036854775807) (h_i_a1_row : zR i_a1_row 0 150) : zok (f_Planner_write x2 i_costs i_before i_by i_a1_length i_a1_tiring i_a1_row) (fun o => ((-1000000000) ≤ o.1 ∧ o.1 ≤ 8191) ∧ ((-9223372036854775808) ≤ o.2.1 ∧ o.2.1 ≤ 9223372036854775807) ∧ zR o.2.2 0 150) := by
  unfold f_Planner_write
  refine zk_ifc (zci_ne (by omega) (by omega)) (fun hc => ?_) (fun hc => ?_)
  · refine zk_gv (by omega) (by decide) (fun v1 h_v1 => ?_)
    refine zk_g0zl_w (by omega) ?_
    refine zk_nE (fun v2 h_v2 => ?_)
    have r_v2 := zl_rem_g v1 (y := 8192) (by omega); rw [← h_v2] at r_v2
    refine zk_gv (by omega) (by decide) (fun v3 h_v3 => ?_)
    refine zk_g0zl_w (by omega) ?_
    refine zk_nE (fun v4 h_v4 => ?_)
    have r_v4 := zl_div_f v3 8192; rw [← h_v4] at r_v4
    refine zk_n ?_
    exact s_Planner_write_56 _ _ _ h_i_before h_i_by zfu _ _ _ _ _ (by omega) (by omega) (by omega) (by omega) h_i_a1_row (by unfold zfu; omega)
  · refine zk_ret ?_
    try dsimp only
    exact ⟨by omega, by omega, h_i_a1_row⟩
set_option maxHeartbeats 4000000 in
theorem s_Arrays_fill_n16384_5   : ∀ (n : Nat) (x1 : Int) (x2 : Int) (x3 : Int) (i_a0 : Nat → Int), (0 ≤ x1 ∧ x1 ≤ 0) → (0 ≤ x2 ∧ x2 ≤ 16384) → (16384 ≤ x3 ∧ x3 ≤ 16384) → (zR i_a0 0 6720) → (16385 - x2) < (n : Int) → zok (f_Arrays_fill_n16384_5  n x1 x2 x3 i_a0) (fun o => zR o 0 6720) := by
  intro n
  induction n with
  | zero => intro x1 x2 x3 i_a0 b_x1 b_x2 b_x3 h_i_a0 hm; exfalso; omega
  | succ n ih =>
    intro x1 x2 x3 i_a0 b_x1 b_x2 b_x3 h_i_a0 hm
    show zok (f_Arrays_fill_n16384_5_b  (f_Arrays_fill_n16384_5  n) x1 x2 x3 i_a0) _
    unfold f_Arrays_fill_n16384_5_b
    refine zk_ifc (zci_le (by omega) (by omega)) (fun hc => ?_) (fun hc => ?_)
    · exact zk_ret h_i_a0
    · refine zk_sv (by omega) (by decide) (fun a1 h_a1 => ?_)
      have i_a1 : zR a1 0 6720 := by rw [h_a1]; exact zR_zu h_i_a0 (by decide) (by decide) (by omega)
      refine zk_n ?_
      exact ih _ _ _ _ (by omega) (by omega) (by omega) i_a1 (by omega)
set_option maxHeartbeats 4000000 in
theorem s_Arrays_fill_n16384 (x1 : Int) (i_a0 : Nat → Int) (b_x1 : 0 ≤ x1 ∧ x1 ≤ 0) (h_i_a0 : zR i_a0 0 6720) : zok (f_Arrays_fill_n16384 x1 i_a0) (fun o => zR o 0 6720) := by
  unfold f_Arrays_fill_n16384
  exact s_Arrays_fill_n16384_5 zfu _ _ _ _ (by omega) (by omega) (by omega) h_i_a0 (by unfold zfu; omega)
set_option maxHeartbeats 4000000 in
theorem s_Carriers_tiring (x0 : Int) (b_x0 : (-2147483648) ≤ x0 ∧ x0 ≤ 2147483647) : zok (f_Carriers_tiring x0) (fun o => ((-33554432) ≤ o ∧ o ≤ 33554431) ∧ ((True))) := by
  unfold f_Carriers_tiring
  refine zk_nE (fun v1 h_v1 => ?_)
  rw [show (6 : Int) = ((6 : Nat) : Int) from rfl, zi_shr_k 6 64 (by decide) (by decide) (by omega)] at h_v1
  exact zk_ret ⟨by omega, trivial⟩
set_option maxHeartbeats 4000000 in
theorem s_Carriers_leastTired (x0 : Int) (b_x0 : (-2147483648) ≤ x0 ∧ x0 ≤ 2147483647) : zok (f_Carriers_leastTired x0) (fun o => (0 ≤ o ∧ o ≤ 7) ∧ ((True))) := by
  unfold f_Carriers_leastTired
  refine zk_nE (fun v1 h_v1 => ?_)
  rw [show (3 : Int) = ((3 : Nat) : Int) from rfl, zi_shr_k 3 8 (by decide) (by decide) (by omega)] at h_v1
  refine zk_nE (fun v2 h_v2 => ?_)
  have r_v2 := zi_and_m v1 (m := 7) (by decide); rw [← h_v2] at r_v2
  exact zk_ret ⟨by omega, trivial⟩
set_option maxHeartbeats 4000000 in
theorem s_Planner_swap (x1 : Int) (x2 : Int) (i_queue : Nat → Int) (i_queuedAt : Nat → Int) (b_x1 : 0 ≤ x1 ∧ x1 ≤ 6719) (b_x2 : 0 ≤ x2 ∧ x2 ≤ 6719) (h_i_queue : zR i_queue 0 6719) (h_i_queuedAt : zR i_queuedAt 0 6719) : zok (f_Planner_swap x1 x2 i_queue i_queuedAt) (fun o => zR o.1 0 6719 ∧ zR o.2 0 6719) := by
  unfold f_Planner_swap
  refine zk_gv (by omega) (by decide) (fun v1 h_v1 => ?_)
  have r_v1 := h_i_queue (x1.toNat)
  refine zk_gv (by omega) (by decide) (fun v2 h_v2 => ?_)
  have r_v2 := h_i_queue (x2.toNat)
  refine zk_sv (by omega) (by decide) (fun a3 h_a3 => ?_)
  have i_a3 : zR a3 0 6719 := by rw [h_a3]; exact zR_zu h_i_queue (by decide) (by decide) (by omega)
  refine zk_sv (by omega) (by decide) (fun a4 h_a4 => ?_)
  have i_a4 : zR a4 0 6719 := by rw [h_a4]; exact zR_zu i_a3 (by decide) (by decide) (by omega)
  refine zk_gv (by omega) (by decide) (fun v5 h_v5 => ?_)
  have r_v5 := i_a4 (x1.toNat)
  refine zk_sv (by omega) (by decide) (fun a6 h_a6 => ?_)
  have i_a6 : zR a6 0 6719 := by rw [h_a6]; exact zR_zu h_i_queuedAt (by decide) (by decide) (by omega)
  refine zk_gv (by omega) (by decide) (fun v7 h_v7 => ?_)
  have z_v7_a4 := zu_rd h_a4 (x2.toNat)
  have z_v7_a3 := zu_rd h_a3 (x2.toNat)
  have r_v7 := i_a4 (x2.toNat)
  refine zk_sv (by omega) (by decide) (fun a8 h_a8 => ?_)
  have i_a8 : zR a8 0 6719 := by rw [h_a8]; exact zR_zu i_a6 (by decide) (by decide) (by omega)
  refine zk_ret ?_
  try dsimp only
  exact ⟨i_a4, i_a8⟩
set_option maxHeartbeats 4000000 in
theorem s_Planner_rise_4 (i_queued : Int) (i_costs : Nat → Int) (b_i_queued : 0 ≤ i_queued ∧ i_queued ≤ 6720) : ∀ (n : Nat) (x2 : Int) (x3 : Int) (i_queue : Nat → Int) (i_queuedAt : Nat → Int), (0 ≤ x2 ∧ x2 ≤ 6719) → (0 ≤ x3 ∧ x3 ≤ 14) → (zR i_queue 0 6719) → (zR i_queuedAt 0 6719) → (15 - x3) < (n : Int) → zok (f_Planner_rise_4 i_queued i_costs n x2 x3 i_queue i_queuedAt) (fun o => zR o.1 0 6719 ∧ zR o.2 0 6719) := by
  intro n
  induction n with
  | zero => intro x2 x3 i_queue i_queuedAt b_x2 b_x3 h_i_queue h_i_queuedAt hm; exfalso; omega
  | succ n ih =>
    intro x2 x3 i_queue i_queuedAt b_x2 b_x3 h_i_queue h_i_queuedAt hm
    show zok (f_Planner_rise_4_b i_queued i_costs (f_Planner_rise_4 i_queued i_costs n) x2 x3 i_queue i_queuedAt) _
    unfold f_Planner_rise_4_b
    refine zk_ifc (zci_le (by omega) (by omega)) (fun hc => ?_) (fun hc => ?_)
    · refine zk_ret ?_
      try dsimp only
      exact ⟨h_i_queue, h_i_queuedAt⟩
    · refine zk_ifc (zci_ler (by omega)) (fun hc_2 => ?_) (fun hc_2 => ?_)
      · refine zk_ret ?_
        try dsimp only
        exact ⟨h_i_queue, h_i_queuedAt⟩
      · refine zk_ifc (zci_le (by omega) (by omega)) (fun hc_3 => ?_) (fun hc_3 => ?_)
        · refine zk_ret ?_
          try dsimp only
          exact ⟨h_i_queue, h_i_queuedAt⟩
        · refine zk_n ?_
          refine zk_g0zi_w (by omega) ?_
          refine zk_nE (fun v2 h_v2 => ?_)
          rw [zi_div_n (by omega) (by omega)] at h_v2
          refine zk_gv (by omega) (by decide) (fun v3 h_v3 => ?_)
          have r_v3 := h_i_queue (v2.toNat)
          refine zk_gv (by omega) (by decide) (fun v4 h_v4 => ?_)
          refine zk_gv (by omega) (by decide) (fun v5 h_v5 => ?_)
          have r_v5 := h_i_queue (x2.toNat)
          refine zk_gv (by omega) (by decide) (fun v6 h_v6 => ?_)
          refine zk_if (fun hc_4 => ?_) (fun hc_4 => ?_)
          · refine zk_d2 (s_Planner_swap _ _ _ _ (by omega) (by omega) h_i_queue h_i_queuedAt) (fun a7 a8 hp => ?_)
            try dsimp only at hp
            obtain ⟨hpp0, hpp1⟩ := hp
            refine zk_n ?_
            exact ih _ _ _ _ (by omega) (by omega) hpp0 hpp1 (by omega)
          · refine zk_ret ?_
            try dsimp only
            exact ⟨h_i_queue, h_i_queuedAt⟩
set_option maxHeartbeats 4000000 in
theorem s_Planner_rise (x1 : Int) (i_queued : Int) (i_costs : Nat → Int) (i_queue : Nat → Int) (i_queuedAt : Nat → Int) (b_x1 : 0 ≤ x1 ∧ x1 ≤ 6719) (b_i_queued : 0 ≤ i_queued ∧ i_queued ≤ 6720) (h_i_queue : zR i_queue 0 6719) (h_i_queuedAt : zR i_queuedAt 0 6719) : zok (f_Planner_rise x1 i_queued i_costs i_queue i_queuedAt) (fun o => zR o.1 0 6719 ∧ zR o.2 0 6719) := by
  unfold f_Planner_rise
  exact s_Planner_rise_4 _ _ (by omega) zfu _ _ _ _ (by omega) (by omega) h_i_queue h_i_queuedAt (by unfold zfu; omega)
set_option maxHeartbeats 4000000 in
theorem s_Planner_slotOf_13 (i_slots : Nat → Int) (i_states : Nat → Int) (h_i_slots : zR i_slots 0 6720) (h_i_states : zR i_states (-9223372036854775808) 9223372036854775807) : ∀ (n : Nat) (x1 : Int) (x3 : Int) (x4 : Int), ((-9223372036854775808) ≤ x1 ∧ x1 ≤ 9223372036854775807) → (0 ≤ x3 ∧ x3 ≤ 16383) → (0 ≤ x4 ∧ x4 ≤ 16384) → (16385 - x4) < (n : Int) → zok (f_Planner_slotOf_13 i_slots i_states n x1 x3 x4) (fun o => ((-1) ≤ o ∧ o ≤ 16383)) := by
  intro n
  induction n with
  | zero => intro x1 x3 x4 b_x1 b_x3 b_x4 hm; exfalso; omega
  | succ n ih =>
    intro x1 x3 x4 b_x1 b_x3 b_x4 hm
    show zok (f_Planner_slotOf_13_b i_slots i_states (f_Planner_slotOf_13 i_slots i_states n) x1 x3 x4) _
    unfold f_Planner_slotOf_13_b
    refine zk_ifc (zci_le (by omega) (by omega)) (fun hc => ?_) (fun hc => ?_)
    · exact zk_ret (by omega)
    · refine zk_gv (by omega) (by decide) (fun v1 h_v1 => ?_)
      have r_v1 := h_i_slots (x3.toNat)
      refine zk_ifc (zci_eqr (by omega)) (fun hc_2 => ?_) (fun hc_2 => ?_)
      · exact zk_ret (by omega)
      · refine zk_gv (by omega) (by decide) (fun v2 h_v2 => ?_)
        have r_v2 := h_i_slots (x3.toNat)
        refine zk_n ?_
        refine zk_gv (by omega) (by decide) (fun v4 h_v4 => ?_)
        have r_v4 := h_i_states ((v2 - 1).toNat)
        refine zk_ifc (zcl_ne (by omega) (by omega)) (fun hc_3 => ?_) (fun hc_3 => ?_)
        · refine zk_n ?_
          refine zk_nE (fun v6 h_v6 => ?_)
          have r_v6 := zi_and_m (x3 + 1) (m := 16383) (by decide); rw [← h_v6] at r_v6
          refine zk_n ?_
          exact ih _ _ _ (by omega) (by omega) (by omega) (by omega)
        · exact zk_ret (by omega)
set_option maxHeartbeats 4000000 in
theorem s_Planner_slotOf (x1 : Int) (i_slots : Nat → Int) (i_states : Nat → Int) (b_x1 : (-9223372036854775808) ≤ x1 ∧ x1 ≤ 9223372036854775807) (h_i_slots : zR i_slots 0 6720) (h_i_states : zR i_states (-9223372036854775808) 9223372036854775807) : zok (f_Planner_slotOf x1 i_slots i_states) (fun o => ((-1) ≤ o ∧ o ≤ 16383)) := by
  unfold f_Planner_slotOf
  refine zk_n ?_
  refine zk_nE (fun v2 h_v2 => ?_)
  have r_v2 := zl_ushr50 (x1 * (-7046029254386353131)); rw [← h_v2] at r_v2
  exact s_Planner_slotOf_13 _ _ h_i_slots h_i_states zfu _ _ _ (by omega) (by omega) (by omega) (by unfold zfu; omega)
set_option maxHeartbeats 4000000 in
theorem s_Planner_isEarlier_31 (i_before : Nat → Int) (i_by : Nat → Int) (h_i_before : zR i_before (-1) 6719) (h_i_by : zR i_by 0 150) : ∀ (n : Nat) (x4 : Int) (x5 : Int) (x6 : Int) (x7 : Int), (0 ≤ x4 ∧ x4 ≤ 1) → ((-1) ≤ x5 ∧ x5 ≤ 6719) → ((-1) ≤ x6 ∧ x6 ≤ 6719) → (0 ≤ x7 ∧ x7 ≤ 6720) → (6721 - x7) < (n : Int) → zok (f_Planner_isEarlier_31 i_before i_by n x4 x5 x6 x7) (fun o => (0 ≤ o ∧ o ≤ 1)) := by
  intro n
  induction n with
  | zero => intro x4 x5 x6 x7 b_x4 b_x5 b_x6 b_x7 hm; exfalso; omega
  | succ n ih =>
    intro x4 x5 x6 x7 b_x4 b_x5 b_x6 b_x7 hm
    show zok (f_Planner_isEarlier_31_b i_before i_by (f_Planner_isEarlier_31 i_before i_by n) x4 x5 x6 x7) _
    unfold f_Planner_isEarlier_31_b
    refine zk_ifc (zci_le (by omega) (by omega)) (fun hc => ?_) (fun hc => ?_)
    · refine zk_gb (by omega) ?_
      exact zk_ret (by omega)
    · refine zk_ifc (zci_eq (by omega) (by omega)) (fun hc_2 => ?_) (fun hc_2 => ?_)
      · refine zk_gb (by omega) ?_
        exact zk_ret (by omega)
      · refine zk_ifc (zci_ltr (by omega)) (fun hc_3 => ?_) (fun hc_3 => ?_)
        · refine zk_gb (by omega) ?_
          exact zk_ret (by omega)
        · refine zk_ifc (zci_ltr (by omega)) (fun hc_4 => ?_) (fun hc_4 => ?_)
          · refine zk_gb (by omega) ?_
            exact zk_ret (by omega)
          · refine zk_gv (by omega) (by decide) (fun v1 h_v1 => ?_)
            have r_v1 := h_i_by (x5.toNat)
            refine zk_gv (by omega) (by decide) (fun v2 h_v2 => ?_)
            have r_v2 := h_i_by (x6.toNat)
            refine zk_ifc (zci_eq (by omega) (by omega)) (fun hc_5 => ?_) (fun hc_5 => ?_)
            · unfold f_Planner_isEarlier_97
              refine zk_gv (by omega) (by decide) (fun v1_2 h_v1_2 => ?_)
              have r_v1_2 := h_i_before (x5.toNat)
              refine zk_gv (by omega) (by decide) (fun v2_2 h_v2_2 => ?_)
              have r_v2_2 := h_i_before (x6.toNat)
              refine zk_n ?_
              exact ih _ _ _ _ (by omega) (by omega) (by omega) (by omega) (by omega)
            · refine zk_gv (by omega) (by decide) (fun v3_2 h_v3_2 => ?_)
              have r_v3_2 := h_i_by (x5.toNat)
              refine zk_gv (by omega) (by decide) (fun v4 h_v4 => ?_)
              have r_v4 := h_i_by (x6.toNat)
              refine zk_ifc (zci_le (by omega) (by omega)) (fun hc_6 => ?_) (fun hc_6 => ?_)
              · unfold f_Planner_isEarlier_95
                unfold f_Planner_isEarlier_97
                refine zk_gv (by omega) (by decide) (fun v1_3 h_v1_3 => ?_)
                have r_v1_3 := h_i_before (x5.toNat)
                refine zk_gv (by omega) (by decide) (fun v2_3 h_v2_3 => ?_)
                have r_v2_3 := h_i_before (x6.toNat)
                refine zk_n ?_
                exact ih _ _ _ _ (by omega) (by omega) (by omega) (by omega) (by omega)
              · unfold f_Planner_isEarlier_95
                unfold f_Planner_isEarlier_97
                refine zk_gv (by omega) (by decide) (fun v1_4 h_v1_4 => ?_)
                have r_v1_4 := h_i_before (x5.toNat)
                refine zk_gv (by omega) (by decide) (fun v2_4 h_v2_4 => ?_)
                have r_v2_4 := h_i_before (x6.toNat)
                refine zk_n ?_
                exact ih _ _ _ _ (by omega) (by omega) (by omega) (by omega) (by omega)
set_option maxHeartbeats 4000000 in
theorem s_Planner_isEarlier (x1 : Int) (x2 : Int) (x3 : Int) (i_before : Nat → Int) (i_by : Nat → Int) (b_x1 : (-1) ≤ x1 ∧ x1 ≤ 6719) (b_x2 : 0 ≤ x2 ∧ x2 ≤ 150) (b_x3 : 0 ≤ x3 ∧ x3 ≤ 6719) (h_i_before : zR i_before (-1) 6719) (h_i_by : zR i_by 0 150) : zok (f_Planner_isEarlier x1 x2 x3 i_before i_by) (fun o => (0 ≤ o ∧ o ≤ 1)) := by
  unfold f_Planner_isEarlier
  refine zk_gv (by omega) (by decide) (fun v1 h_v1 => ?_)
  have r_v1 := h_i_by (x3.toNat)
  refine zk_ifc (zci_le (by omega) (by omega)) (fun hc => ?_) (fun hc => ?_)
  · unfold f_Planner_isEarlier_15
    refine zk_gv (by omega) (by decide) (fun v1_2 h_v1_2 => ?_)
    have r_v1_2 := h_i_before (x3.toNat)
    exact s_Planner_isEarlier_31 _ _ h_i_before h_i_by zfu _ _ _ _ (by omega) (by omega) (by omega) (by omega) (by unfold zfu; omega)
  · unfold f_Planner_isEarlier_15
    refine zk_gv (by omega) (by decide) (fun v1_3 h_v1_3 => ?_)
    have r_v1_3 := h_i_before (x3.toNat)
    exact s_Planner_isEarlier_31 _ _ h_i_before h_i_by zfu _ _ _ _ (by omega) (by omega) (by omega) (by omega) (by unfold zfu; omega)
set_option maxHeartbeats 4000000 in
theorem s_Planner_come (x1 : Int) (x3 : Int) (x4 : Int) (x5 : Int) (i_found : Int) (i_queued : Int) (i_slots : Nat → Int) (i_states : Nat → Int) (i_costs : Nat → Int) (i_before : Nat → Int) (i_by : Nat → Int) (i_queue : Nat → Int) (i_queuedAt : Nat → Int) (b_x1 : (-9223372036854775808) ≤ x1 ∧ x1 ≤ 9223372036854775807) (b_x3 : (-1) ≤ x3 ∧ x3 ≤ 6719) (b_x4 : 0 ≤ x4 ∧ x4 ≤ 150) (b_i_found : 0 ≤ i_found ∧ i_found ≤ 6720) (b_i_queued : 0 ≤ i_queued ∧ i_queued ≤ 6720) (h_i_slots : zR i_slots 0 6720) (h_i_states : zR i_states (-9223372036854775808) 9223372036854775807) (h_i_before : zR i_before (-1) 6719) (h_i_by : zR i_by 0 150) (h_i_queue : zR i_queue 0 6719) (h_i_queuedAt : zR i_queuedAt 0 6719) (p_0 : i_queued ≤ i_found) : zok (f_Planner_come x1 x3 x4 x5 i_found i_queued i_slots i_states i_costs i_before i_by i_queue i_queuedAt) (fun o => (0 ≤ o.1 ∧ o.1 ≤ 6720) ∧ (0 ≤ o.2.1 ∧ o.2.1 ≤ 6720) ∧ zR o.2.2.1 0 6720 ∧ zR o.2.2.2.1 (-9223372036854775808) 9223372036854775807 ∧ zR o.2.2.2.2.2.1 (-1) 6719 ∧ zR o.2.2.2.2.2.2.1 0 150 ∧ zR o.2.2.2.2.2.2.2.1 0 6719 ∧ zR o.2.2.2.2.2.2.2.2 0 6719 ∧ (o.2.1 ≤ o.1)) := by
  unfold f_Planner_come
  refine zk_d1 (s_Planner_slotOf _ _ _ (by omega) h_i_slots h_i_states) (fun v1 hp => ?_)
  try dsimp only at hp
  have hpp0 := hp
  refine zk_ifc (zci_ne (by omega) (by omega)) (fun hc => ?_) (fun hc => ?_)
  · refine zk_gv (by omega) (by decide) (fun v2 h_v2 => ?_)
    have r_v2 := h_i_slots (v1.toNat)
    refine zk_n ?_
    refine zk_ifc (zci_lel (by omega)) (fun hc_2 => ?_) (fun hc_2 => ?_)
    · refine zk_gv (by omega) (by decide) (fun v4 h_v4 => ?_)
      refine zk_if (fun hc_3 => ?_) (fun hc_3 => ?_)
      · refine zk_ret ?_
        try dsimp only
        exact ⟨by omega, by omega, h_i_slots, h_i_states, h_i_before, h_i_by, h_i_queue, h_i_queuedAt, by omega⟩
      · refine zk_gv (by omega) (by decide) (fun v5 h_v5 => ?_)
        refine zk_if (fun hc_4 => ?_) (fun hc_4 => ?_)
        · unfold f_Planner_come_150
          refine zk_sv (by omega) (by decide) (fun a1 h_a1 => ?_)
          refine zk_sv (by omega) (by decide) (fun a2 h_a2 => ?_)
          have i_a2 : zR a2 (-1) 6719 := by rw [h_a2]; exact zR_zu h_i_before (by decide) (by decide) (by omega)
          refine zk_sv (by omega) (by decide) (fun a3 h_a3 => ?_)
          have i_a3 : zR a3 0 150 := by rw [h_a3]; exact zR_zu h_i_by (by decide) (by decide) (by omega)
          refine zk_gv (by omega) (by decide) (fun v4_2 h_v4_2 => ?_)
          have r_v4_2 := h_i_queuedAt ((v2 - 1).toNat)
          refine zk_d2 (s_Planner_rise _ _ _ _ _ (by omega) (by omega) h_i_queue h_i_queuedAt) (fun a5 a6 hp_2 => ?_)
          try dsimp only at hp_2
          obtain ⟨hp_2p0, hp_2p1⟩ := hp_2
          refine zk_ret ?_
          try dsimp only
          exact ⟨by omega, by omega, h_i_slots, h_i_states, i_a2, i_a3, hp_2p0, hp_2p1, by omega⟩
        · refine zk_d1 (s_Planner_isEarlier _ _ _ _ _ (by omega) (by omega) (by omega) h_i_before h_i_by) (fun v6 hp_3 => ?_)
          try dsimp only at hp_3
          have hp_3p0 := hp_3
          refine zk_ifc (zci_ner (by omega)) (fun hc_5 => ?_) (fun hc_5 => ?_)
          · unfold f_Planner_come_150
            refine zk_sv (by omega) (by decide) (fun a1_2 h_a1_2 => ?_)
            refine zk_sv (by omega) (by decide) (fun a2_2 h_a2_2 => ?_)
            have i_a2_2 : zR a2_2 (-1) 6719 := by rw [h_a2_2]; exact zR_zu h_i_before (by decide) (by decide) (by omega)
            refine zk_sv (by omega) (by decide) (fun a3_2 h_a3_2 => ?_)
            have i_a3_2 : zR a3_2 0 150 := by rw [h_a3_2]; exact zR_zu h_i_by (by decide) (by decide) (by omega)
            refine zk_gv (by omega) (by decide) (fun v4_3 h_v4_3 => ?_)
            have r_v4_3 := h_i_queuedAt ((v2 - 1).toNat)
            refine zk_d2 (s_Planner_rise _ _ _ _ _ (by omega) (by omega) h_i_queue h_i_queuedAt) (fun a5_2 a6_2 hp_4 => ?_)
            try dsimp only at hp_4
            obtain ⟨hp_4p0, hp_4p1⟩ := hp_4
            refine zk_ret ?_
            try dsimp only
            exact ⟨by omega, by omega, h_i_slots, h_i_states, i_a2_2, i_a3_2, hp_4p0, hp_4p1, by omega⟩
          · refine zk_ret ?_
            try dsimp only
            exact ⟨by omega, by omega, h_i_slots, h_i_states, h_i_before, h_i_by, h_i_queue, h_i_queuedAt, by omega⟩
    · refine zk_ifc (zci_lt (by omega) (by omega)) (fun hc_6 => ?_) (fun hc_6 => ?_)
      · refine zk_n ?_
        refine zk_sv (by omega) (by decide) (fun a8 h_a8 => ?_)
        have i_a8 : zR a8 0 6720 := by rw [h_a8]; exact zR_zu h_i_slots (by decide) (by decide) (by omega)
        refine zk_sv (by omega) (by decide) (fun a9 h_a9 => ?_)
        have i_a9 : zR a9 (-9223372036854775808) 9223372036854775807 := by rw [h_a9]; exact zR_zu h_i_states (by decide) (by decide) (by omega)
        refine zk_sv (by omega) (by decide) (fun a10 h_a10 => ?_)
        have i_a10 : zR a10 0 6719 := by rw [h_a10]; exact zR_zu h_i_queue (by decide) (by decide) (by omega)
        refine zk_sv (by omega) (by decide) (fun a11 h_a11 => ?_)
        have i_a11 : zR a11 0 6719 := by rw [h_a11]; exact zR_zu h_i_queuedAt (by decide) (by decide) (by omega)
        refine zk_n ?_
        unfold f_Planner_come_150
        refine zk_sv (by omega) (by decide) (fun a1_3 h_a1_3 => ?_)
        refine zk_sv (by omega) (by decide) (fun a2_3 h_a2_3 => ?_)
        have i_a2_3 : zR a2_3 (-1) 6719 := by rw [h_a2_3]; exact zR_zu h_i_before (by decide) (by decide) (by omega)
        refine zk_sv (by omega) (by decide) (fun a3_3 h_a3_3 => ?_)
        have i_a3_3 : zR a3_3 0 150 := by rw [h_a3_3]; exact zR_zu h_i_by (by decide) (by decide) (by omega)
        refine zk_gv (by omega) (by decide) (fun v4_4 h_v4_4 => ?_)
        have r_v4_4 := i_a11 (i_found.toNat)
        refine zk_d2 (s_Planner_rise _ _ _ _ _ (by omega) (by omega) i_a10 i_a11) (fun a5_3 a6_3 hp_5 => ?_)
        try dsimp only at hp_5
        obtain ⟨hp_5p0, hp_5p1⟩ := hp_5
        refine zk_ret ?_
        try dsimp only
        exact ⟨by omega, by omega, i_a8, i_a9, i_a2_3, i_a3_3, hp_5p0, hp_5p1, by omega⟩
      · refine zk_ret ?_
        try dsimp only
        exact ⟨by omega, by omega, h_i_slots, h_i_states, h_i_before, h_i_by, h_i_queue, h_i_queuedAt, by omega⟩
  · refine zk_ret ?_
    try dsimp only
    exact ⟨by omega, by omega, h_i_slots, h_i_states, h_i_before, h_i_by, h_i_queue, h_i_queuedAt, by omega⟩
set_option maxHeartbeats 4000000 in
theorem s_Carriers_lowest (x0 : Int) (b_x0 : (-2147483648) ≤ x0 ∧ x0 ≤ 2147483647) : zok (f_Carriers_lowest x0) (fun o => (0 ≤ o ∧ o ≤ 7) ∧ ((True))) := by
  unfold f_Carriers_lowest
  refine zk_nE (fun v1 h_v1 => ?_)
  have r_v1 := zi_and_m x0 (m := 7) (by decide); rw [← h_v1] at r_v1
  exact zk_ret ⟨by omega, trivial⟩
set_option maxHeartbeats 4000000 in
theorem s_Carriers_note_166 (i_hill_children : Int) (i_hill_laws : Int) (i_hill_inForce : Int) (i_hill_changes : Int) (i_hill_strengths : Nat → Int) (i_hill_expelled : Nat → Int) (i_hill_terms : Nat → Int) (i_hill_orders : Nat → Int) (i_hill_ordered : Nat → Int) (b_i_hill_children : 0 ≤ i_hill_children ∧ i_hill_children ≤ 6) (b_i_hill_laws : 0 ≤ i_hill_laws ∧ i_hill_laws ≤ 6) (b_i_hill_inForce : (-1) ≤ i_hill_inForce ∧ i_hill_inForce ≤ 5) (h_i_hill_strengths : zR i_hill_strengths 0 60) (h_i_hill_expelled : zR i_hill_expelled 0 1) (h_i_hill_terms : zR i_hill_terms 0 99) (h_i_hill_orders : zR i_hill_orders (-2147483648) 2147483647) (h_i_hill_ordered : zR i_hill_ordered 0 424) : ∀ (n : Nat) (x1 : Int) (x2 : Int) (x3 : Int) (x4 : Int) (x5 : Int) (x7 : Int) (x8 : Int) (x9 : Int) (x10 : Int) (x11 : Int) (x12 : Int) (i_judge_piled : Int) (i_judge_tiring : Int) (i_judge_barred : Int) (i_notes : Nat → Int) (i_judge_words : Nat → Int) (i_judge_pile : Nat → Int), (0 ≤ x1 ∧ x1 ≤ 3) → (0 ≤ x2 ∧ x2 ≤ 3) → (1 ≤ x3 ∧ x3 ≤ 30) → (1 ≤ x4 ∧ x4 ≤ 10) → (0 ≤ x5 ∧ x5 ≤ 9) → (0 ≤ x7 ∧ x7 ≤ 47999) → ((-524285) ≤ x8 ∧ x8 ≤ 524287) → (0 ≤ x9 ∧ x9 ≤ 7) → (0 ≤ x10 ∧ x10 ≤ 7) → (0 ≤ x11 ∧ x11 ≤ 2147483647) → (0 ≤ x12 ∧ x12 ≤ 6) → (0 ≤ i_judge_piled ∧ i_judge_piled ≤ 32) → (0 ≤ i_judge_tiring ∧ i_judge_tiring ≤ 2147483647) → (0 ≤ i_judge_barred ∧ i_judge_barred ≤ 1) → (zR i_notes (-2147483648) 2147483647) → (zR i_judge_words 0 99) → (7 - x12) < (n : Int) → zok (f_Carriers_note_166 i_hill_children i_hill_laws i_hill_inForce i_hill_changes i_hill_strengths i_hill_expelled i_hill_terms i_hill_orders i_hill_ordered n x1 x2 x3 x4 x5 x7 x8 x9 x10 x11 x12 i_judge_piled i_judge_tiring i_judge_barred i_notes i_judge_words i_judge_pile) (fun o => ((-2147483648) ≤ o.1 ∧ o.1 ≤ 2147483647) ∧ (0 ≤ o.2.1 ∧ o.2.1 ≤ 32) ∧ (0 ≤ o.2.2.1 ∧ o.2.2.1 ≤ 2147483647) ∧ (0 ≤ o.2.2.2.1 ∧ o.2.2.2.1 ≤ 1) ∧ zR o.2.2.2.2.1 (-2147483648) 2147483647 ∧ zR o.2.2.2.2.2.1 0 99) := by
  intro n
  induction n with
  | zero => intro x1 x2 x3 x4 x5 x7 x8 x9 x10 x11 x12 i_judge_piled i_judge_tiring i_judge_barred i_notes i_judge_words i_judge_pile b_x1 b_x2 b_x3 b_x4 b_x5 b_x7 b_x8 b_x9 b_x10 b_x11 b_x12 b_i_judge_piled b_i_judge_tiring b_i_judge_barred h_i_notes h_i_judge_words hm; exfalso; omega
  | succ n ih =>
    intro x1 x2 x3 x4 x5 x7 x8 x9 x10 x11 x12 i_judge_piled i_judge_tiring i_judge_barred i_notes i_judge_words i_judge_pile b_x1 b_x2 b_x3 b_x4 b_x5 b_x7 b_x8 b_x9 b_x10 b_x11 b_x12 b_i_judge_piled b_i_judge_tiring b_i_judge_barred h_i_notes h_i_judge_words hm
    show zok (f_Carriers_note_166_b i_hill_children i_hill_laws i_hill_inForce i_hill_changes i_hill_strengths i_hill_expelled i_hill_terms i_hill_orders i_hill_ordered (f_Carriers_note_166 i_hill_children i_hill_laws i_hill_inForce i_hill_changes i_hill_strengths i_hill_expelled i_hill_terms i_hill_orders i_hill_ordered n) x1 x2 x3 x4 x5 x7 x8 x9 x10 x11 x12 i_judge_piled i_judge_tiring i_judge_barred i_notes i_judge_words i_judge_pile) _
    unfold f_Carriers_note_166_b
    refine zk_ifc (zci_le (by omega) (by omega)) (fun hc => ?_) (fun hc => ?_)
    · refine zk_nE (fun v1 h_v1 => ?_)
      have r_v1 := zi_shl_f x11 3; rw [← h_v1] at r_v1
      refine zk_nE (fun v2 h_v2 => ?_)
      have r_v2 := zi_or_f v1 x10; rw [← h_v2] at r_v2
      refine zk_nE (fun v3 h_v3 => ?_)
      have r_v3 := zi_shl_f v2 3; rw [← h_v3] at r_v3
      refine zk_nE (fun v4 h_v4 => ?_)
      have r_v4 := zi_or_f v3 x9; rw [← h_v4] at r_v4
      refine zk_nE (fun v5 h_v5 => ?_)
      have r_v5 := zi_shl_f x8 13; rw [← h_v5] at r_v5
      refine zk_nE (fun v6 h_v6 => ?_)
      have r_v6 := zi_or_f v5 v4; rw [← h_v6] at r_v6
      refine zk_sv (by omega) (by decide) (fun a7 h_a7 => ?_)
      have i_a7 : zR a7 (-2147483648) 2147483647 := by rw [h_a7]; exact zR_zu h_i_notes (by decide) (by decide) (by omega)
      refine zk_ifc (zci_ne (by omega) (by omega)) (fun hc_2 => ?_) (fun hc_2 => ?_)
      · refine zk_ret ?_
        try dsimp only
        exact ⟨by omega, by omega, by omega, by omega, i_a7, h_i_judge_words⟩
      · refine zk_ret ?_
        try dsimp only
        exact ⟨by omega, by omega, by omega, by omega, i_a7, h_i_judge_words⟩
    · refine zk_d6 (s_Judge_effort _ _ _ _ _ _ _ _ _ _ _ _ _ _ _ _ _ _ _ (by omega) (by omega) (by omega) (by omega) (by omega) (by omega) (by omega) (by omega) (by omega) h_i_hill_strengths h_i_hill_expelled h_i_hill_terms h_i_hill_orders h_i_hill_ordered (by omega) (by omega) (by omega) h_i_judge_words) (fun v8 v9 v10 v11 a12 a13 hp => ?_)
      try dsimp only at hp
      obtain ⟨hpp0, hpp1, hpp2, hpp3, hpp4⟩ := hp
      refine zk_ifc (zci_ne (by omega) (by omega)) (fun hc_3 => ?_) (fun hc_3 => ?_)
      · refine zk_ifc (zci_ne (by omega) (by omega)) (fun hc_4 => ?_) (fun hc_4 => ?_)
        · unfold f_Carriers_note_216
          refine zk_ifc (zci_eq (by omega) (by omega)) (fun hc_5 => ?_) (fun hc_5 => ?_)
          · unfold f_Carriers_note_230
            unfold f_Carriers_note_238
            refine zk_n ?_
            exact ih _ _ _ _ _ _ _ _ _ _ _ _ _ _ _ _ _ (by omega) (by omega) (by omega) (by omega) (by omega) (by omega) (by omega) (by omega) (by omega) (by omega) (by omega) (by omega) (by omega) (by omega) h_i_notes hpp4 (by omega)
          · refine zk_ifc (zci_le (by omega) (by omega)) (fun hc_6 => ?_) (fun hc_6 => ?_)
            · unfold f_Carriers_note_238
              refine zk_n ?_
              exact ih _ _ _ _ _ _ _ _ _ _ _ _ _ _ _ _ _ (by omega) (by omega) (by omega) (by omega) (by omega) (by omega) (by omega) (by omega) (by omega) (by omega) (by omega) (by omega) (by omega) (by omega) h_i_notes hpp4 (by omega)
            · unfold f_Carriers_note_230
              unfold f_Carriers_note_238
              refine zk_n ?_
              exact ih _ _ _ _ _ _ _ _ _ _ _ _ _ _ _ _ _ (by omega) (by omega) (by omega) (by omega) (by omega) (by omega) (by omega) (by omega) (by omega) (by omega) (by omega) (by omega) (by omega) (by omega) h_i_notes hpp4 (by omega)
        · unfold f_Carriers_note_216
          refine zk_ifc (zci_eq (by omega) (by omega)) (fun hc_7 => ?_) (fun hc_7 => ?_)
          · unfold f_Carriers_note_230
            unfold f_Carriers_note_238
            refine zk_n ?_
            exact ih _ _ _ _ _ _ _ _ _ _ _ _ _ _ _ _ _ (by omega) (by omega) (by omega) (by omega) (by omega) (by omega) (by omega) (by omega) (by omega) (by omega) (by omega) (by omega) (by omega) (by omega) h_i_notes hpp4 (by omega)
          · refine zk_ifc (zci_le (by omega) (by omega)) (fun hc_8 => ?_) (fun hc_8 => ?_)
            · unfold f_Carriers_note_238
              refine zk_n ?_
              exact ih _ _ _ _ _ _ _ _ _ _ _ _ _ _ _ _ _ (by omega) (by omega) (by omega) (by omega) (by omega) (by omega) (by omega) (by omega) (by omega) (by omega) (by omega) (by omega) (by omega) (by omega) h_i_notes hpp4 (by omega)
            · unfold f_Carriers_note_230
              unfold f_Carriers_note_238
              refine zk_n ?_
              exact ih _ _ _ _ _ _ _ _ _ _ _ _ _ _ _ _ _ (by omega) (by omega) (by omega) (by omega) (by omega) (by omega) (by omega) (by omega) (by omega) (by omega) (by omega) (by omega) (by omega) (by omega) h_i_notes hpp4 (by omega)
      · unfold f_Carriers_note_238
        refine zk_n ?_
        exact ih _ _ _ _ _ _ _ _ _ _ _ _ _ _ _ _ _ (by omega) (by omega) (by omega) (by omega) (by omega) (by omega) (by omega) (by omega) (by omega) (by omega) (by omega) (by omega) (by omega) (by omega) h_i_notes hpp4 (by omega)
