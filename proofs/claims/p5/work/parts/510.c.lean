set_option maxHeartbeats 4000000 in
theorem s_Planner_rise_4 (i_queued : Int) (i_costs : Nat → Int) (b_i_queued : 0 ≤ i_queued ∧ i_queued ≤ 6720) : ∀ (n : Nat) (x2 : Int) (x3 : Int) (i_queue : Nat → Int) (i_queuedAt : Nat → Int), (0 ≤ x2 ∧ x2 ≤ 6719) → (0 ≤ x3 ∧ x3 ≤ 14) → (zR i_queue 0 6719) → (zR i_queuedAt 0 6719) → (15 - x3) < (n : Int) → zok (f_Planner_rise_4 i_queued i_costs n x2 x3 i_queue i_queuedAt) (fun o => zR o.1 0 6719 ∧ zR o.2 0 6719) := by
  intro n
  induction n with
  | zero => intro x2 x3 i_queue i_queuedAt b_x2 b_x3 h_i_queue h_i_queuedAt hm; exfalso; omega
  | succ n ih =>
    intro x2 x3 i_queue i_queuedAt b_x2 b_x3 h_i_queue h_i_queuedAt hm
    show zok (f_Planner_rise_4_b i_queued i_costs (f_Planner_rise_4 i_queued i_costs n) x2 x3 i_queue i_queuedAt) _
    unfold f_Planner_rise_4_b
    refine zk_ifc (zci_le (by omega) (by omega)) (fun hc => ?_) (fun hc => ?_)
    · refine zk_ret ?_
      try dsimp only
      exact ⟨h_i_queue, h_i_queuedAt⟩
    · refine zk_ifc (zci_ler (by omega)) (fun hc_2 => ?_) (fun hc_2 => ?_)
      · refine zk_ret ?_
        try dsimp only
        exact ⟨h_i_queue, h_i_queuedAt⟩
      · refine zk_ifc (zci_le (by omega) (by omega)) (fun hc_3 => ?_) (fun hc_3 => ?_)
        · refine zk_ret ?_
          try dsimp only
          exact ⟨h_i_queue, h_i_queuedAt⟩
        · refine zk_n ?_
          refine zk_g0zi_w (by omega) ?_
          refine zk_nE (fun v2 h_v2 => ?_)
          rw [zi_div_n (by omega) (by omega)] at h_v2
          refine zk_gv (by omega) (by decide) (fun v3 h_v3 => ?_)
          have r_v3 := h_i_queue (v2.toNat)
          refine zk_gv (by omega) (by decide) (fun v4 h_v4 => ?_)
          refine zk_gv (by omega) (by decide) (fun v5 h_v5 => ?_)
          have r_v5 := h_i_queue (x2.toNat)
          refine zk_gv (by omega) (by decide) (fun v6 h_v6 => ?_)
          refine zk_if (fun hc_4 => ?_) (fun hc_4 => ?_)
          · refine zk_d2 (s_Planner_swap _ _ _ _ (by omega) (by omega) h_i_queue h_i_queuedAt) (fun a7 a8 hp => ?_)
            try dsimp only at hp
            obtain ⟨hpp0, hpp1⟩ := hp
            refine zk_n ?_
            exact ih _ _ _ _ (by omega) (by omega) hpp0 hpp1 (by omega)
          · refine zk_ret ?_
            try dsimp only
            exact ⟨h_i_queue, h_i_queuedAt⟩
set_option maxHeartbeats 4000000 in
theorem s_Planner_rise (x1 : Int) (i_queued : Int) (i_costs : Nat → Int) (i_queue : Nat → Int) (i_queuedAt : Nat → Int) (b_x1 : 0 ≤ x1 ∧ x1 ≤ 6719) (b_i_queued : 0 ≤ i_queued ∧ i_queued ≤ 6720) (h_i_queue : zR i_queue 0 6719) (h_i_queuedAt : zR i_queuedAt 0 6719) : zok (f_Planner_rise x1 i_queued i_costs i_queue i_queuedAt) (fun o => zR o.1 0 6719 ∧ zR o.2 0 6719) := by
  unfold f_Planner_rise
  exact s_Planner_rise_4 _ _ (by omega) zfu _ _ _ _ (by omega) (by omega) h_i_queue h_i_queuedAt (by unfold zfu; omega)
set_option maxHeartbeats 4000000 in
theorem s_Planner_slotOf_13 (i_slots : Nat → Int) (i_states : Nat → Int) (h_i_slots : zR i_slots 0 6720) (h_i_states : zR i_states (-9223372036854775808) 9223372036854775807) : ∀ (n : Nat) (x1 : Int) (x3 : Int) (x4 : Int), ((-9223372036854775808) ≤ x1 ∧ x1 ≤ 9223372036854775807) → (0 ≤ x3 ∧ x3 ≤ 16383) → (0 ≤ x4 ∧ x4 ≤ 16384) → (16385 - x4) < (n : Int) → zok (f_Planner_slotOf_13 i_slots i_states n x1 x3 x4) (fun o => ((-1) ≤ o ∧ o ≤ 16383)) := by
  intro n
  induction n with
  | zero => intro x1 x3 x4 b_x1 b_x3 b_x4 hm; exfalso; omega
  | succ n ih =>
    intro x1 x3 x4 b_x1 b_x3 b_x4 hm
    show zok (f_Planner_slotOf_13_b i_slots i_states (f_Planner_slotOf_13 i_slots i_states n) x1 x3 x4) _
    unfold f_Planner_slotOf_13_b
    refine zk_ifc (zci_le (by omega) (by omega)) (fun hc => ?_) (fun hc => ?_)
    · exact zk_ret (by omega)
    · refine zk_gv (by omega) (by decide) (fun v1 h_v1 => ?_)
      have r_v1 := h_i_slots (x3.toNat)
      refine zk_ifc (zci_eqr (by omega)) (fun hc_2 => ?_) (fun hc_2 => ?_)
      · exact zk_ret (by omega)
      · refine zk_gv (by omega) (by decide) (fun v2 h_v2 => ?_)
        have r_v2 := h_i_slots (x3.toNat)
        refine zk_n ?_
        refine zk_gv (by omega) (by decide) (fun v4 h_v4 => ?_)
        have r_v4 := h_i_states ((v2 - 1).toNat)
        refine zk_ifc (zcl_ne (by omega) (by omega)) (fun hc_3 => ?_) (fun hc_3 => ?_)
        · refine zk_n ?_
          refine zk_nE (fun v6 h_v6 => ?_)
          have r_v6 := zi_and_m (x3 + 1) (m := 16383) (by decide); rw [← h_v6] at r_v6
          refine zk_n ?_
          exact ih _ _ _ (by omega) (by omega) (by omega) (by omega)
        · exact zk_ret (by omega)
set_option maxHeartbeats 4000000 in
theorem s_Planner_slotOf (x1 : Int) (i_slots : Nat → Int) (i_states : Nat → Int) (b_x1 : (-9223372036854775808) ≤ x1 ∧ x1 ≤ 9223372036854775807) (h_i_slots : zR i_slots 0 6720) (h_i_states : zR i_states (-9223372036854775808) 9223372036854775807) : zok (f_Planner_slotOf x1 i_slots i_states) (fun o => ((-1) ≤ o ∧ o ≤ 16383)) := by
  unfold f_Planner_slotOf
  refine zk_n ?_
  refine zk_nE (fun v2 h_v2 => ?_)
  have r_v2 := zl_ushr50 (x1 * (-7046029254386353131)); rw [← h_v2] at r_v2
  exact s_Planner_slotOf_13 _ _ h_i_slots h_i_states zfu _ _ _ (by omega) (by omega) (by omega) (by unfold zfu; omega)
set_option maxHeartbeats 4000000 in
theorem s_Planner_come (x1 : Int) (x3 : Int) (x4 : Int) (x5 : Int) (i_found : Int) (i_queued : Int) (i_slots : Nat → Int) (i_states : Nat → Int) (i_costs : Nat → Int) (i_before : Nat → Int) (i_by : Nat → Int) (i_queue : Nat → Int) (i_queuedAt : Nat → Int) (b_x1 : (-9223372036854775808) ≤ x1 ∧ x1 ≤ 9223372036854775807) (b_x3 : (-1) ≤ x3 ∧ x3 ≤ 6719) (b_x4 : 0 ≤ x4 ∧ x4 ≤ 150) (b_i_found : 0 ≤ i_found ∧ i_found ≤ 6720) (b_i_queued : 0 ≤ i_queued ∧ i_queued ≤ 6720) (h_i_slots : zR i_slots 0 6720) (h_i_states : zR i_states (-9223372036854775808) 9223372036854775807) (h_i_before : zR i_before (-1) 6719) (h_i_by : zR i_by 0 150) (h_i_queue : zR i_queue 0 6719) (h_i_queuedAt : zR i_queuedAt 0 6719) (p_0 : i_queued ≤ i_found) : zok (f_Planner_come x1 x3 x4 x5 i_found i_queued i_slots i_states i_costs i_before i_by i_queue i_queuedAt) (fun o => (0 ≤ o.1 ∧ o.1 ≤ 6720) ∧ (0 ≤ o.2.1 ∧ o.2.1 ≤ 6720) ∧ zR o.2.2.1 0 6720 ∧ zR o.2.2.2.1 (-9223372036854775808) 9223372036854775807 ∧ zR o.2.2.2.2.2.1 (-1) 6719 ∧ zR o.2.2.2.2.2.2.1 0 150 ∧ zR o.2.2.2.2.2.2.2.1 0 6719 ∧ zR o.2.2.2.2.2.2.2.2 0 6719 ∧ (o.2.1 ≤ o.1)) := by
  unfold f_Planner_come
  refine zk_d1 (s_Planner_slotOf _ _ _ (by omega) h_i_slots h_i_states) (fun v1 hp => ?_)
  try dsimp only at hp
  have hpp0 := hp
  refine zk_ifc (zci_ne (by omega) (by omega)) (fun hc => ?_) (fun hc => ?_)
  · refine zk_gv (by omega) (by decide) (fun v2 h_v2 => ?_)
    have r_v2 := h_i_slots (v1.toNat)
    refine zk_n ?_
    refine zk_ifc (zci_lel (by omega)) (fun hc_2 => ?_) (fun hc_2 => ?_)
    · refine zk_gv (by omega) (by decide) (fun v4 h_v4 => ?_)
      refine zk_if (fun hc_3 => ?_) (fun hc_3 => ?_)
      · refine zk_ret ?_
        try dsimp only
        exact ⟨by omega, by omega, h_i_slots, h_i_states, h_i_before, h_i_by, h_i_queue, h_i_queuedAt, by omega⟩
      · refine zk_gv (by omega) (by decide) (fun v5 h_v5 => ?_)
        refine zk_if (fun hc_4 => ?_) (fun hc_4 => ?_)
        · unfold f_Planner_come_150
          refine zk_sv (by omega) (by decide) (fun a1 h_a1 => ?_)
          refine zk_sv (by omega) (by decide) (fun a2 h_a2 => ?_)
          have i_a2 : zR a2 (-1) 6719 := by rw [h_a2]; exact zR_zu h_i_before (by decide) (by decide) (by omega)
          refine zk_sv (by omega) (by decide) (fun a3 h_a3 => ?_)
          have i_a3 : zR a3 0 150 := by rw [h_a3]; exact zR_zu h_i_by (by decide) (by decide) (by omega)
          refine zk_gv (by omega) (by decide) (fun v4_2 h_v4_2 => ?_)
          have r_v4_2 := h_i_queuedAt ((v2 - 1).toNat)
          refine zk_d2 (s_Planner_rise _ _ _ _ _ (by omega) (by omega) h_i_queue h_i_queuedAt) (fun a5 a6 hp_2 => ?_)
          try dsimp only at hp_2
          obtain ⟨hp_2p0, hp_2p1⟩ := hp_2
          refine zk_ret ?_
          try dsimp only
          exact ⟨by omega, by omega, h_i_slots, h_i_states, i_a2, i_a3, hp_2p0, hp_2p1, by omega⟩
        · refine zk_d1 (s_Planner_isEarlier _ _ _ _ _ (by omega) (by omega) (by omega) h_i_before h_i_by) (fun v6 hp_3 => ?_)
          try dsimp only at hp_3
          have hp_3p0 := hp_3
          refine zk_ifc (zci_ner (by omega)) (fun hc_5 => ?_) (fun hc_5 => ?_)
          · unfold f_Planner_come_150
            refine zk_sv (by omega) (by decide) (fun a1_2 h_a1_2 => ?_)
            refine zk_sv (by omega) (by decide) (fun a2_2 h_a2_2 => ?_)
            have i_a2_2 : zR a2_2 (-1) 6719 := by rw [h_a2_2]; exact zR_zu h_i_before (by decide) (by decide) (by omega)
            refine zk_sv (by omega) (by decide) (fun a3_2 h_a3_2 => ?_)
            have i_a3_2 : zR a3_2 0 150 := by rw [h_a3_2]; exact zR_zu h_i_by (by decide) (by decide) (by omega)
            refine zk_gv (by omega) (by decide) (fun v4_3 h_v4_3 => ?_)
            have r_v4_3 := h_i_queuedAt ((v2 - 1).toNat)
            refine zk_d2 (s_Planner_rise _ _ _ _ _ (by omega) (by omega) h_i_queue h_i_queuedAt) (fun a5_2 a6_2 hp_4 => ?_)
            try dsimp only at hp_4
            obtain ⟨hp_4p0, hp_4p1⟩ := hp_4
            refine zk_ret ?_
            try dsimp only
            exact ⟨by omega, by omega, h_i_slots, h_i_states, i_a2_2, i_a3_2, hp_4p0, hp_4p1, by omega⟩
          · refine zk_ret ?_
            try dsimp only
            exact ⟨by omega, by omega, h_i_slots, h_i_states, h_i_before, h_i_by, h_i_queue, h_i_queuedAt, by omega⟩
    · refine zk_ifc (zci_lt (by omega) (by omega)) (fun hc_6 => ?_) (fun hc_6 => ?_)
      · refine zk_n ?_
        refine zk_sv (by omega) (by decide) (fun a8 h_a8 => ?_)
        have i_a8 : zR a8 0 6720 := by rw [h_a8]; exact zR_zu h_i_slots (by decide) (by decide) (by omega)
        refine zk_sv (by omega) (by decide) (fun a9 h_a9 => ?_)
        have i_a9 : zR a9 (-9223372036854775808) 9223372036854775807 := by rw [h_a9]; exact zR_zu h_i_states (by decide) (by decide) (by omega)
        refine zk_sv (by omega) (by decide) (fun a10 h_a10 => ?_)
        have i_a10 : zR a10 0 6719 := by rw [h_a10]; exact zR_zu h_i_queue (by decide) (by decide) (by omega)
        refine zk_sv (by omega) (by decide) (fun a11 h_a11 => ?_)
        have i_a11 : zR a11 0 6719 := by rw [h_a11]; exact zR_zu h_i_queuedAt (by decide) (by decide) (by omega)
        refine zk_n ?_
        unfold f_Planner_come_150
        refine zk_sv (by omega) (by decide) (fun a1_3 h_a1_3 => ?_)
        refine zk_sv (by omega) (by decide) (fun a2_3 h_a2_3 => ?_)
        have i_a2_3 : zR a2_3 (-1) 6719 := by rw [h_a2_3]; exact zR_zu h_i_before (by decide) (by decide) (by omega)
        refine zk_sv (by omega) (by decide) (fun a3_3 h_a3_3 => ?_)
        have i_a3_3 : zR a3_3 0 150 := by rw [h_a3_3]; exact zR_zu h_i_by (by decide) (by decide) (by omega)
        refine zk_gv (by omega) (by decide) (fun v4_4 h_v4_4 => ?_)
        have r_v4_4 := i_a11 (i_found.toNat)
        refine zk_d2 (s_Planner_rise _ _ _ _ _ (by omega) (by omega) i_a10 i_a11) (fun a5_3 a6_3 hp_5 => ?_)
        try dsimp only at hp_5
        obtain ⟨hp_5p0, hp_5p1⟩ := hp_5
        refine zk_ret ?_
        try dsimp only
        exact ⟨by omega, by omega, i_a8, i_a9, i_a2_3, i_a3_3, hp_5p0, hp_5p1, by omega⟩
      · refine zk_ret ?_
        try dsimp only
        exact ⟨by omega, by omega, h_i_slots, h_i_states, h_i_before, h_i_by, h_i_queue, h_i_queuedAt, by omega⟩
  · refine zk_ret ?_
    try dsimp only
    exact ⟨by omega, by omega, h_i_slots, h_i_states, h_i_before, h_i_by, h_i_queue, h_i_queuedAt, by omega⟩
set_option maxHeartbeats 4000000 in
theorem s_Planner_goOn_55 (i_hill_children : Int) (i_hill_laws : Int) (i_hill_inForce : Int) (i_hill_changes : Int) (i_weights : Nat → Int) (i_tops : Nat → Int) (i_hill_columns_many : Int) (i_hill_strengths : Nat → Int) (i_hill_expelled : Nat → Int) (i_hill_terms : Nat → Int) (i_hill_orders : Nat → Int) (i_hill_ordered : Nat → Int) (k18 : Int → Int → Int → Int → Int → Int → (Nat → Int) → (Nat → Int) → (Nat → Int) → (Nat → Int) → (Nat → Int) → (Nat → Int) → (Nat → Int) → (Nat → Int) → Int → Int → Int → (Nat → Int) → (Nat → Int) → (Nat → Int) → Option (Int × Int × (Nat → Int) × (Nat → Int) × (Nat → Int) × (Nat → Int) × (Nat → Int) × (Nat → Int) × (Nat → Int) × (Nat → Int) × Int × Int × Int × (Nat → Int) × (Nat → Int) × (Nat → Int))) (Nk18 : Nat) (hk18 : ∀ (x1 : Int) (x2 : Int) (x3 : Int) (x4 : Int) (i_found : Int) (i_queued : Int) (i_slots : Nat → Int) (i_states : Nat → Int) (i_costs : Nat → Int) (i_before : Nat → Int) (i_by : Nat → Int) (i_queue : Nat → Int) (i_queuedAt : Nat → Int) (i_heights : Nat → Int) (i_carriers_judge_piled : Int) (i_carriers_judge_tiring : Int) (i_carriers_judge_barred : Int) (i_carriers_notes : Nat → Int) (i_carriers_judge_words : Nat → Int) (i_carriers_judge_pile : Nat → Int), (0 ≤ x1 ∧ x1 ≤ 6719) → (0 ≤ x2 ∧ x2 ≤ 2) → (0 ≤ x3 ∧ x3 ≤ 4) → (0 ≤ x4 ∧ x4 ≤ 4) → (0 ≤ i_found ∧ i_found ≤ 6720) → (0 ≤ i_queued ∧ i_queued ≤ 6720) → (zR i_slots 0 6720) → (zR i_states (-9223372036854775808) 9223372036854775807) → (zR i_before (-1) 6719) → (zR i_by 0 150) → (zR i_queue 0 6719) → (zR i_queuedAt 0 6719) → (zR i_heights 0 5) → (0 ≤ i_carriers_judge_piled ∧ i_carriers_judge_piled ≤ 32) → (0 ≤ i_carriers_judge_tiring ∧ i_carriers_judge_tiring ≤ 2147483647) → (0 ≤ i_carriers_judge_barred ∧ i_carriers_judge_barred ≤ 1) → (zR i_carriers_notes (-2147483648) 2147483647) → (zR i_carriers_judge_words 0 99) → (i_queued ≤ i_found) → (5 - x4) < (Nk18 : Int) → zok (k18 x1 x2 x3 x4 i_found i_queued i_slots i_states i_costs i_before i_by i_queue i_queuedAt i_heights i_carriers_judge_piled i_carriers_judge_tiring i_carriers_judge_barred i_carriers_notes i_carriers_judge_words i_carriers_judge_pile) (fun o => (0 ≤ o.1 ∧ o.1 ≤ 6720) ∧ (0 ≤ o.2.1 ∧ o.2.1 ≤ 6720) ∧ (0 ≤ o.2.2.2.2.2.2.2.2.2.2.1 ∧ o.2.2.2.2.2.2.2.2.2.2.1 ≤ 32) ∧ (0 ≤ o.2.2.2.2.2.2.2.2.2.2.2.1 ∧ o.2.2.2.2.2.2.2.2.2.2.2.1 ≤ 2147483647) ∧ (0 ≤ o.2.2.2.2.2.2.2.2.2.2.2.2.1 ∧ o.2.2.2.2.2.2.2.2.2.2.2.2.1 ≤ 1) ∧ zR o.2.2.1 0 6720 ∧ zR o.2.2.2.1 (-9223372036854775808) 9223372036854775807 ∧ zR o.2.2.2.2.2.1 (-1) 6719 ∧ zR o.2.2.2.2.2.2.1 0 150 ∧ zR o.2.2.2.2.2.2.2.1 0 6719 ∧ zR o.2.2.2.2.2.2.2.2.1 0 6719 ∧ zR o.2.2.2.2.2.2.2.2.2.1 0 5 ∧ zR o.2.2.2.2.2.2.2.2.2.2.2.2.2.1 (-2147483648) 2147483647 ∧ zR o.2.2.2.2.2.2.2.2.2.2.2.2.2.2.1 0 99 ∧ (o.2.1 ≤ o.1))) (b_i_hill_children : 0 ≤ i_hill_children ∧ i_hill_children ≤ 6) (b_i_hill_laws : 0 ≤ i_hill_laws ∧ i_hill_laws ≤ 6) (b_i_hill_inForce : (-1) ≤ i_hill_inForce ∧ i_hill_inForce ≤ 5) (h_i_weights : zR i_weights 0 30) (h_i_tops : zR i_tops 0 7) (b_i_hill_columns_many : 0 ≤ i_hill_columns_many ∧ i_hill_columns_many ≤ 12) (h_i_hill_strengths : zR i_hill_strengths 0 60) (h_i_hill_expelled : zR i_hill_expelled 0 1) (h_i_hill_terms : zR i_hill_terms 0 99) (h_i_hill_orders : zR i_hill_orders (-2147483648) 2147483647) (h_i_hill_ordered : zR i_hill_ordered 0 424) : ∀ (n : Nat) (x1 : Int) (x2 : Int) (x3 : Int) (x4 : Int) (x6 : Int) (x7 : Int) (i_found : Int) (i_queued : Int) (i_slots : Nat → Int) (i_states : Nat → Int) (i_costs : Nat → Int) (i_before : Nat → Int) (i_by : Nat → Int) (i_queue : Nat → Int) (i_queuedAt : Nat → Int) (i_heights : Nat → Int) (i_carriers_judge_piled : Int) (i_carriers_judge_tiring : Int) (i_carriers_judge_barred : Int) (i_carriers_notes : Nat → Int) (i_carriers_judge_words : Nat → Int) (i_carriers_judge_pile : Nat → Int), (0 ≤ x1 ∧ x1 ≤ 6719) → (0 ≤ x2 ∧ x2 ≤ 2) → (1 ≤ x3 ∧ x3 ≤ 4) → (0 ≤ x4 ∧ x4 ≤ 3) → (0 ≤ x6 ∧ x6 ≤ 30) → (0 ≤ x7 ∧ x7 ≤ 4) → (0 ≤ i_found ∧ i_found ≤ 6720) → (0 ≤ i_queued ∧ i_queued ≤ 6720) → (zR i_slots 0 6720) → (zR i_states (-9223372036854775808) 9223372036854775807) → (zR i_before (-1) 6719) → (zR i_by 0 150) → (zR i_queue 0 6719) → (zR i_queuedAt 0 6719) → (zR i_heights 0 5) → (0 ≤ i_carriers_judge_piled ∧ i_carriers_judge_piled ≤ 32) → (0 ≤ i_carriers_judge_tiring ∧ i_carriers_judge_tiring ≤ 2147483647) → (0 ≤ i_carriers_judge_barred ∧ i_carriers_judge_barred ≤ 1) → (zR i_carriers_notes (-2147483648) 2147483647) → (zR i_carriers_judge_words 0 99) → (i_queued ≤ i_found) → (5 - x4) < (Nk18 : Int) + 1 → (5 - x7) < (n : Int) → zok (f_Planner_goOn_55 i_hill_children i_hill_laws i_hill_inForce i_hill_changes i_weights i_tops i_hill_columns_many i_hill_strengths i_hill_expelled i_hill_terms i_hill_orders i_hill_ordered k18 n x1 x2 x3 x4 x6 x7 i_found i_queued i_slots i_states i_costs i_before i_by i_queue i_queuedAt i_heights i_carriers_judge_piled i_carriers_judge_tiring i_carriers_judge_barred i_carriers_notes i_carriers_judge_words i_carriers_judge_pile) (fun o => (0 ≤ o.1 ∧ o.1 ≤ 6720) ∧ (0 ≤ o.2.1 ∧ o.2.1 ≤ 6720) ∧ (0 ≤ o.2.2.2.2.2.2.2.2.2.2.1 ∧ o.2.2.2.2.2.2.2.2.2.2.1 ≤ 32) ∧ (0 ≤ o.2.2.2.2.2.2.2.2.2.2.2.1 ∧ o.2.2.2.2.2.2.2.2.2.2.2.1 ≤ 2147483647) ∧ (0 ≤ o.2.2.2.2.2.2.2.2.2.2.2.2.1 ∧ o.2.2.2.2.2.2.2.2.2.2.2.2.1 ≤ 1) ∧ zR o.2.2.1 0 6720 ∧ zR o.2.2.2.1 (-9223372036854775808) 9223372036854775807 ∧ zR o.2.2.2.2.2.1 (-1) 6719 ∧ zR o.2.2.2.2.2.2.1 0 150 ∧ zR o.2.2.2.2.2.2.2.1 0 6719 ∧ zR o.2.2.2.2.2.2.2.2.1 0 6719 ∧ zR o.2.2.2.2.2.2.2.2.2.1 0 5 ∧ zR o.2.2.2.2.2.2.2.2.2.2.2.2.2.1 (-2147483648) 2147483647 ∧ zR o.2.2.2.2.2.2.2.2.2.2.2.2.2.2.1 0 99 ∧ (o.2.1 ≤ o.1)) := by
  intro n
  induction n with
  | zero => intro x1 x2 x3 x4 x6 x7 i_found i_queued i_slots i_states i_costs i_before i_by i_queue i_queuedAt i_heights i_carriers_judge_piled i_carriers_judge_tiring i_carriers_judge_barred i_carriers_notes i_carriers_judge_words i_carriers_judge_pile b_x1 b_x2 b_x3 b_x4 b_x6 b_x7 b_i_found b_i_queued h_i_slots h_i_states h_i_before h_i_by h_i_queue h_i_queuedAt h_i_heights b_i_carriers_judge_piled b_i_carriers_judge_tiring b_i_carriers_judge_barred h_i_carriers_notes h_i_carriers_judge_words p_0 mk18 hm; exfalso; omega
  | succ n ih =>
    intro x1 x2 x3 x4 x6 x7 i_found i_queued i_slots i_states i_costs i_before i_by i_queue i_queuedAt i_heights i_carriers_judge_piled i_carriers_judge_tiring i_carriers_judge_barred i_carriers_notes i_carriers_judge_words i_carriers_judge_pile b_x1 b_x2 b_x3 b_x4 b_x6 b_x7 b_i_found b_i_queued h_i_slots h_i_states h_i_before h_i_by h_i_queue h_i_queuedAt h_i_heights b_i_carriers_judge_piled b_i_carriers_judge_tiring b_i_carriers_judge_barred h_i_carriers_notes h_i_carriers_judge_words p_0 mk18 hm
    show zok (f_Planner_goOn_55_b i_hill_children i_hill_laws i_hill_inForce i_hill_changes i_weights i_tops i_hill_columns_many i_hill_strengths i_hill_expelled i_hill_terms i_hill_orders i_hill_ordered k18 (f_Planner_goOn_55 i_hill_children i_hill_laws i_hill_inForce i_hill_changes i_weights i_tops i_hill_columns_many i_hill_strengths i_hill_expelled i_hill_terms i_hill_orders i_hill_ordered k18 n) x1 x2 x3 x4 x6 x7 i_found i_queued i_slots i_states i_costs i_before i_by i_queue i_queuedAt i_heights i_carriers_judge_piled i_carriers_judge_tiring i_carriers_judge_barred i_carriers_notes i_carriers_judge_words i_carriers_judge_pile) _
    unfold f_Planner_goOn_55_b
    refine zk_ifc (zci_le (by omega) (by omega)) (fun hc => ?_) (fun hc => ?_)
    · unfold f_Planner_goOn_230
      refine zk_n ?_
      exact hk18 _ _ _ _ _ _ _ _ _ _ _ _ _ _ _ _ _ _ _ _ (by omega) (by omega) (by omega) (by omega) (by omega) (by omega) h_i_slots h_i_states h_i_before h_i_by h_i_queue h_i_queuedAt h_i_heights (by omega) (by omega) (by omega) h_i_carriers_notes h_i_carriers_judge_words (by omega) (by omega)
    · refine zk_gv (by omega) (by decide) (fun v1_2 h_v1_2 => ?_)
      have r_v1_2 := h_i_heights (x4.toNat)
      refine zk_ifc (zci_ler (by omega)) (fun hc_2 => ?_) (fun hc_2 => ?_)
      · unfold f_Planner_goOn_230
        refine zk_n ?_
        exact hk18 _ _ _ _ _ _ _ _ _ _ _ _ _ _ _ _ _ _ _ _ (by omega) (by omega) (by omega) (by omega) (by omega) (by omega) h_i_slots h_i_states h_i_before h_i_by h_i_queue h_i_queuedAt h_i_heights (by omega) (by omega) (by omega) h_i_carriers_notes h_i_carriers_judge_words (by omega) (by omega)
      · refine zk_gv (by omega) (by decide) (fun v2 h_v2 => ?_)
        have r_v2 := h_i_heights (x4.toNat)
        refine zk_gv (by omega) (by decide) (fun v3 h_v3 => ?_)
        have r_v3 := h_i_heights (x7.toNat)
        refine zk_d7 (s_Carriers_note _ _ _ _ _ _ _ _ _ _ _ _ _ _ _ _ _ _ _ _ (by omega) (by omega) (by omega) (by omega) (by omega) (by omega) (by omega) (by omega) h_i_hill_strengths h_i_hill_expelled h_i_hill_terms h_i_hill_orders h_i_hill_ordered (by omega) (by omega) (by omega) h_i_carriers_notes h_i_carriers_judge_words) (fun v4 v5 v6 v7 a8 a9 a10 hp => ?_)
        try dsimp only at hp
        obtain ⟨hpp0, hpp1, hpp2, hpp3, hpp4, hpp5⟩ := hp
        refine zk_ifc (zci_eq (by omega) (by omega)) (fun hc_3 => ?_) (fun hc_3 => ?_)
        · unfold f_Planner_goOn_224
          refine zk_n ?_
          exact ih _ _ _ _ _ _ _ _ _ _ _ _ _ _ _ _ _ _ _ _ _ _ (by omega) (by omega) (by omega) (by omega) (by omega) (by omega) (by omega) (by omega) h_i_slots h_i_states h_i_before h_i_by h_i_queue h_i_queuedAt h_i_heights (by omega) (by omega) (by omega) hpp4 hpp5 (by omega) (by omega) (by omega)
        · refine zk_ifc (zci_ne (by omega) (by omega)) (fun hc_4 => ?_) (fun hc_4 => ?_)
          · unfold f_Planner_goOn_123
            refine zk_ifc (zci_ne (by omega) (by omega)) (fun hc_5 => ?_) (fun hc_5 => ?_)
            · unfold f_Planner_goOn_133
              refine zk_ifc (zci_eqr (by omega)) (fun hc_6 => ?_) (fun hc_6 => ?_)
              · refine zk_d1 (s_Carriers_lowest _ (by omega)) (fun v1_5 hp_2 => ?_)
                try dsimp only at hp_2
                obtain ⟨hp_2p0, hp_2p1⟩ := hp_2
                unfold f_Planner_goOn_153
                refine zk_ifc (zci_eqr (by omega)) (fun hc_7 => ?_) (fun hc_7 => ?_)
                · unfold f_Planner_goOn_176
                  refine zk_n ?_
                  refine zk_n ?_
                  refine zk_n ?_
                  refine zk_n ?_
                  refine zk_gv (by omega) (by decide) (fun v5_2 h_v5_2 => ?_)
                  have r_v5_2 := h_i_states (x1.toNat)
                  refine zk_d1 (s_Planner_carried _ _ _ _ _ (by omega) (by omega) (by omega) h_i_heights h_i_tops) (fun v6_2 hp_3 => ?_)
                  try dsimp only at hp_3
                  have hp_3p0 := hp_3
                  refine zk_gv (by omega) (by decide) (fun v7_2 h_v7_2 => ?_)
                  refine zk_n ?_
                  refine zk_d9 (s_Planner_come _ _ _ _ _ _ _ _ _ _ _ _ _ (by omega) (by omega) (by omega) (by omega) (by omega) h_i_slots h_i_states h_i_before h_i_by h_i_queue h_i_queuedAt (by omega)) (fun v9 v10 a11 a12 a13 a14 a15 a16 a17 hp_4 => ?_)
                  try dsimp only at hp_4
                  obtain ⟨hp_4p0, hp_4p1, hp_4p2, hp_4p3, hp_4p4, hp_4p5, hp_4p6, hp_4p7, hp_4p8⟩ := hp_4
                  unfold f_Planner_goOn_224
                  refine zk_n ?_
                  exact ih _ _ _ _ _ _ _ _ _ _ _ _ _ _ _ _ _ _ _ _ _ _ (by omega) (by omega) (by omega) (by omega) (by omega) (by omega) (by omega) (by omega) hp_4p2 hp_4p3 hp_4p4 hp_4p5 hp_4p6 hp_4p7 h_i_heights (by omega) (by omega) (by omega) hpp4 hpp5 (by omega) (by omega) (by omega)
                · exfalso; omega
              · exfalso; omega
            · unfold f_Planner_goOn_133
              refine zk_ifc (zci_eqr (by omega)) (fun hc_8 => ?_) (fun hc_8 => ?_)
              · exfalso; omega
              · refine zk_d1 (s_Carriers_leastTired _ (by omega)) (fun v2_3 hp_5 => ?_)
                try dsimp only at hp_5
                obtain ⟨hp_5p0, hp_5p1⟩ := hp_5
                unfold f_Planner_goOn_153
                refine zk_ifc (zci_eqr (by omega)) (fun hc_9 => ?_) (fun hc_9 => ?_)
                · exfalso; omega
                · refine zk_d1 (s_Carriers_tiring _ (by omega)) (fun v1_8 hp_6 => ?_)
                  try dsimp only at hp_6
                  obtain ⟨hp_6p0, hp_6p1⟩ := hp_6
                  refine zk_nE (fun v2_4 h_v2_4 => ?_)
                  rw [zwi (by omega)] at h_v2_4
                  replace h_v2_4 := h_v2_4.symm
                  subst h_v2_4
                  refine zk_n ?_
                  refine zk_n ?_
                  unfold f_Planner_goOn_176
                  refine zk_n ?_
                  refine zk_n ?_
                  refine zk_n ?_
                  refine zk_n ?_
                  refine zk_gv (by omega) (by decide) (fun v5_3 h_v5_3 => ?_)
                  have r_v5_3 := h_i_states (x1.toNat)
                  refine zk_d1 (s_Planner_carried _ _ _ _ _ (by omega) (by omega) (by omega) h_i_heights h_i_tops) (fun v6_3 hp_7 => ?_)
                  try dsimp only at hp_7
                  have hp_7p0 := hp_7
                  refine zk_gv (by omega) (by decide) (fun v7_3 h_v7_3 => ?_)
                  refine zk_n ?_
                  refine zk_d9 (s_Planner_come _ _ _ _ _ _ _ _ _ _ _ _ _ (by omega) (by omega) (by omega) (by omega) (by omega) h_i_slots h_i_states h_i_before h_i_by h_i_queue h_i_queuedAt (by omega)) (fun v9_2 v10_2 a11_2 a12_2 a13_2 a14_2 a15_2 a16_2 a17_2 hp_8 => ?_)
                  try dsimp only at hp_8
                  obtain ⟨hp_8p0, hp_8p1, hp_8p2, hp_8p3, hp_8p4, hp_8p5, hp_8p6, hp_8p7, hp_8p8⟩ := hp_8
                  unfold f_Planner_goOn_224
                  refine zk_n ?_
                  exact ih _ _ _ _ _ _ _ _ _ _ _ _ _ _ _ _ _ _ _ _ _ _ (by omega) (by omega) (by omega) (by omega) (by omega) (by omega) (by omega) (by omega) hp_8p2 hp_8p3 hp_8p4 hp_8p5 hp_8p6 hp_8p7 h_i_heights (by omega) (by omega) (by omega) hpp4 hpp5 (by omega) (by omega) (by omega)
          · refine zk_d2 (s_Planner_isSafe _ _ _ _ _ (by omega) (by omega) (by omega) h_i_hill_terms h_i_heights) (fun v11 a12_3 hp_9 => ?_)
            try dsimp only at hp_9
            obtain ⟨hp_9p0, hp_9p1⟩ := hp_9
            refine zk_ifc (zci_eqr (by omega)) (fun hc_10 => ?_) (fun hc_10 => ?_)
            · unfold f_Planner_goOn_224
              refine zk_n ?_
              exact ih _ _ _ _ _ _ _ _ _ _ _ _ _ _ _ _ _ _ _ _ _ _ (by omega) (by omega) (by omega) (by omega) (by omega) (by omega) (by omega) (by omega) h_i_slots h_i_states h_i_before h_i_by h_i_queue h_i_queuedAt hp_9p1 (by omega) (by omega) (by omega) hpp4 hpp5 (by omega) (by omega) (by omega)
            · unfold f_Planner_goOn_123
              refine zk_ifc (zci_ne (by omega) (by omega)) (fun hc_11 => ?_) (fun hc_11 => ?_)
              · unfold f_Planner_goOn_133
                refine zk_ifc (zci_eqr (by omega)) (fun hc_12 => ?_) (fun hc_12 => ?_)
                · refine zk_d1 (s_Carriers_lowest _ (by omega)) (fun v1_12 hp_10 => ?_)
                  try dsimp only at hp_10
                  obtain ⟨hp_10p0, hp_10p1⟩ := hp_10
                  unfold f_Planner_goOn_153
                  refine zk_ifc (zci_eqr (by omega)) (fun hc_13 => ?_) (fun hc_13 => ?_)
                  · unfold f_Planner_goOn_176
                    refine zk_n ?_
                    refine zk_n ?_
                    refine zk_n ?_
                    refine zk_n ?_
                    refine zk_gv (by omega) (by decide) (fun v5_4 h_v5_4 => ?_)
                    have r_v5_4 := h_i_states (x1.toNat)
                    refine zk_d1 (s_Planner_carried _ _ _ _ _ (by omega) (by omega) (by omega) hp_9p1 h_i_tops) (fun v6_4 hp_11 => ?_)
                    try dsimp only at hp_11
                    have hp_11p0 := hp_11
                    refine zk_gv (by omega) (by decide) (fun v7_4 h_v7_4 => ?_)
                    refine zk_n ?_
                    refine zk_d9 (s_Planner_come _ _ _ _ _ _ _ _ _ _ _ _ _ (by omega) (by omega) (by omega) (by omega) (by omega) h_i_slots h_i_states h_i_before h_i_by h_i_queue h_i_queuedAt (by omega)) (fun v9_3 v10_3 a11_3 a12_4 a13_3 a14_3 a15_3 a16_3 a17_3 hp_12 => ?_)
                    try dsimp only at hp_12
                    obtain ⟨hp_12p0, hp_12p1, hp_12p2, hp_12p3, hp_12p4, hp_12p5, hp_12p6, hp_12p7, hp_12p8⟩ := hp_12
                    unfold f_Planner_goOn_224
                    refine zk_n ?_
                    exact ih _ _ _ _ _ _ _ _ _ _ _ _ _ _ _ _ _ _ _ _ _ _ (by omega) (by omega) (by omega) (by omega) (by omega) (by omega) (by omega) (by omega) hp_12p2 hp_12p3 hp_12p4 hp_12p5 hp_12p6 hp_12p7 hp_9p1 (by omega) (by omega) (by omega) hpp4 hpp5 (by omega) (by omega) (by omega)
                  · exfalso; omega
                · exfalso; omega
              · exfalso; omega
set_option maxHeartbeats 4000000 in
theorem s_Planner_goOn_18 (i_hill_children : Int) (i_hill_laws : Int) (i_hill_inForce : Int) (i_hill_changes : Int) (i_weights : Nat → Int) (i_tops : Nat → Int) (i_hill_columns_many : Int) (i_hill_strengths : Nat → Int) (i_hill_expelled : Nat → Int) (i_hill_terms : Nat → Int) (i_hill_orders : Nat → Int) (i_hill_ordered : Nat → Int) (b_i_hill_children : 0 ≤ i_hill_children ∧ i_hill_children ≤ 6) (b_i_hill_laws : 0 ≤ i_hill_laws ∧ i_hill_laws ≤ 6) (b_i_hill_inForce : (-1) ≤ i_hill_inForce ∧ i_hill_inForce ≤ 5) (h_i_weights : zR i_weights 0 30) (h_i_tops : zR i_tops 0 7) (b_i_hill_columns_many : 0 ≤ i_hill_columns_many ∧ i_hill_columns_many ≤ 12) (h_i_hill_strengths : zR i_hill_strengths 0 60) (h_i_hill_expelled : zR i_hill_expelled 0 1) (h_i_hill_terms : zR i_hill_terms 0 99) (h_i_hill_orders : zR i_hill_orders (-2147483648) 2147483647) (h_i_hill_ordered : zR i_hill_ordered 0 424) : ∀ (n : Nat) (x1 : Int) (x2 : Int) (x3 : Int) (x4 : Int) (i_found : Int) (i_queued : Int) (i_slots : Nat → Int) (i_states : Nat → Int) (i_costs : Nat → Int) (i_before : Nat → Int) (i_by : Nat → Int) (i_queue : Nat → Int) (i_queuedAt : Nat → Int) (i_heights : Nat → Int) (i_carriers_judge_piled : Int) (i_carriers_judge_tiring : Int) (i_carriers_judge_barred : Int) (i_carriers_notes : Nat → Int) (i_carriers_judge_words : Nat → Int) (i_carriers_judge_pile : Nat → Int), (0 ≤ x1 ∧ x1 ≤ 6719) → (0 ≤ x2 ∧ x2 ≤ 2) → (0 ≤ x3 ∧ x3 ≤ 4) → (0 ≤ x4 ∧ x4 ≤ 4) → (0 ≤ i_found ∧ i_found ≤ 6720) → (0 ≤ i_queued ∧ i_queued ≤ 6720) → (zR i_slots 0 6720) → (zR i_states (-9223372036854775808) 9223372036854775807) → (zR i_before (-1) 6719) → (zR i_by 0 150) → (zR i_queue 0 6719) → (zR i_queuedAt 0 6719) → (zR i_heights 0 5) → (0 ≤ i_carriers_judge_piled ∧ i_carriers_judge_piled ≤ 32) → (0 ≤ i_carriers_judge_tiring ∧ i_carriers_judge_tiring ≤ 2147483647) → (0 ≤ i_carriers_judge_barred ∧ i_carriers_judge_barred ≤ 1) → (zR i_carriers_notes (-2147483648) 2147483647) → (zR i_carriers_judge_words 0 99) → (i_queued ≤ i_found) → (5 - x4) < (n : Int) → zok (f_Planner_goOn_18 i_hill_children i_hill_laws i_hill_inForce i_hill_changes i_weights i_tops i_hill_columns_many i_hill_strengths i_hill_expelled i_hill_terms i_hill_orders i_hill_ordered n x1 x2 x3 x4 i_found i_queued i_slots i_states i_costs i_before i_by i_queue i_queuedAt i_heights i_carriers_judge_piled i_carriers_judge_tiring i_carriers_judge_barred i_carriers_notes i_carriers_judge_words i_carriers_judge_pile) (fun o => (0 ≤ o.1 ∧ o.1 ≤ 6720) ∧ (0 ≤ o.2.1 ∧ o.2.1 ≤ 6720) ∧ (0 ≤ o.2.2.2.2.2.2.2.2.2.2.1 ∧ o.2.2.2.2.2.2.2.2.2.2.1 ≤ 32) ∧ (0 ≤ o.2.2.2.2.2.2.2.2.2.2.2.1 ∧ o.2.2.2.2.2.2.2.2.2.2.2.1 ≤ 2147483647) ∧ (0 ≤ o.2.2.2.2.2.2.2.2.2.2.2.2.1 ∧ o.2.2.2.2.2.2.2.2.2.2.2.2.1 ≤ 1) ∧ zR o.2.2.1 0 6720 ∧ zR o.2.2.2.1 (-9223372036854775808) 9223372036854775807 ∧ zR o.2.2.2.2.2.1 (-1) 6719 ∧ zR o.2.2.2.2.2.2.1 0 150 ∧ zR o.2.2.2.2.2.2.2.1 0 6719 ∧ zR o.2.2.2.2.2.2.2.2.1 0 6719 ∧ zR o.2.2.2.2.2.2.2.2.2.1 0 5 ∧ zR o.2.2.2.2.2.2.2.2.2.2.2.2.2.1 (-2147483648) 2147483647 ∧ zR o.2.2.2.2.2.2.2.2.2.2.2.2.2.2.1 0 99 ∧ (o.2.1 ≤ o.1)) := by
  intro n
  induction n with
  | zero => intro x1 x2 x3 x4 i_found i_queued i_slots i_states i_costs i_before i_by i_queue i_queuedAt i_heights i_carriers_judge_piled i_carriers_judge_tiring i_carriers_judge_barred i_carriers_notes i_carriers_judge_words i_carriers_judge_pile b_x1 b_x2 b_x3 b_x4 b_i_found b_i_queued h_i_slots h_i_states h_i_before h_i_by h_i_queue h_i_queuedAt h_i_heights b_i_carriers_judge_piled b_i_carriers_judge_tiring b_i_carriers_judge_barred h_i_carriers_notes h_i_carriers_judge_words p_0 hm; exfalso; omega
  | succ n ih =>
    intro x1 x2 x3 x4 i_found i_queued i_slots i_states i_costs i_before i_by i_queue i_queuedAt i_heights i_carriers_judge_piled i_carriers_judge_tiring i_carriers_judge_barred i_carriers_notes i_carriers_judge_words i_carriers_judge_pile b_x1 b_x2 b_x3 b_x4 b_i_found b_i_queued h_i_slots h_i_states h_i_before h_i_by h_i_queue h_i_queuedAt h_i_heights b_i_carriers_judge_piled b_i_carriers_judge_tiring b_i_carriers_judge_barred h_i_carriers_notes h_i_carriers_judge_words p_0 hm
    show zok (f_Planner_goOn_18_b i_hill_children i_hill_laws i_hill_inForce i_hill_changes i_weights i_tops i_hill_columns_many i_hill_strengths i_hill_expelled i_hill_terms i_hill_orders i_hill_ordered (f_Planner_goOn_18 i_hill_children i_hill_laws i_hill_inForce i_hill_changes i_weights i_tops i_hill_columns_many i_hill_strengths i_hill_expelled i_hill_terms i_hill_orders i_hill_ordered n) x1 x2 x3 x4 i_found i_queued i_slots i_states i_costs i_before i_by i_queue i_queuedAt i_heights i_carriers_judge_piled i_carriers_judge_tiring i_carriers_judge_barred i_carriers_notes i_carriers_judge_words i_carriers_judge_pile) _
    unfold f_Planner_goOn_18_b
    refine zk_ifc (zci_le (by omega) (by omega)) (fun hc => ?_) (fun hc => ?_)
    · refine zk_ret ?_
      try dsimp only
      exact ⟨by omega, by omega, by omega, by omega, by omega, h_i_slots, h_i_states, h_i_before, h_i_by, h_i_queue, h_i_queuedAt, h_i_heights, h_i_carriers_notes, h_i_carriers_judge_words, by omega⟩
    · refine zk_gv (by omega) (by decide) (fun v1 h_v1 => ?_)
      have r_v1 := h_i_tops (x4.toNat)
      refine zk_ifc (zci_lt (by omega) (by omega)) (fun hc_2 => ?_) (fun hc_2 => ?_)
      · unfold f_Planner_goOn_50
        exact s_Planner_goOn_55 _ _ _ _ _ _ _ _ _ _ _ _ _ n ih (by omega) (by omega) (by omega) h_i_weights h_i_tops (by omega) h_i_hill_strengths h_i_hill_expelled h_i_hill_terms h_i_hill_orders h_i_hill_ordered zfu _ _ _ _ _ _ _ _ _ _ _ _ _ _ _ _ _ _ _ _ _ _ (by omega) (by omega) (by omega) (by omega) (by omega) (by omega) (by omega) (by omega) h_i_slots h_i_states h_i_before h_i_by h_i_queue h_i_queuedAt h_i_heights (by omega) (by omega) (by omega) h_i_carriers_notes h_i_carriers_judge_words (by omega) (by omega) (by unfold zfu; omega)
      · refine zk_gv (by omega) (by decide) (fun v2 h_v2 => ?_)
        have r_v2 := h_i_weights (v1.toNat)
        unfold f_Planner_goOn_50
        exact s_Planner_goOn_55 _ _ _ _ _ _ _ _ _ _ _ _ _ n ih (by omega) (by omega) (by omega) h_i_weights h_i_tops (by omega) h_i_hill_strengths h_i_hill_expelled h_i_hill_terms h_i_hill_orders h_i_hill_ordered zfu _ _ _ _ _ _ _ _ _ _ _ _ _ _ _ _ _ _ _ _ _ _ (by omega) (by omega) (by omega) (by omega) (by omega) (by omega) (by omega) (by omega) h_i_slots h_i_states h_i_before h_i_by h_i_queue h_i_queuedAt h_i_heights (by omega) (by omega) (by omega) h_i_carriers_notes h_i_carriers_judge_words (by omega) (by omega) (by unfold zfu; omega)
