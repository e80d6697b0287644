set_option maxHeartbeats 4000000 in
theorem s_Planner_goalsAreSo_2 (i_heights : Nat → Int) (i_hill_columns_many : Int) (i_hill_goals : Nat → Int) (h_i_heights : zR i_heights 0 5) (b_i_hill_columns_many : 0 ≤ i_hill_columns_many ∧ i_hill_columns_many ≤ 12) (h_i_hill_goals : zR i_hill_goals (-1) 10) : ∀ (n : Nat) (x1 : Int), (0 ≤ x1 ∧ x1 ≤ 4) → (5 - x1) < (n : Int) → zok (f_Planner_goalsAreSo_2 i_heights i_hill_columns_many i_hill_goals n x1) (fun o => (0 ≤ o ∧ o ≤ 1)) := by
  intro n
  induction n with
  | zero => intro x1 b_x1 hm; exfalso; omega
  | succ n ih =>
    intro x1 b_x1 hm
    show zok (f_Planner_goalsAreSo_2_b i_heights i_hill_columns_many i_hill_goals (f_Planner_goalsAreSo_2 i_heights i_hill_columns_many i_hill_goals n) x1) _
    unfold f_Planner_goalsAreSo_2_b
    refine zk_ifc (zci_le (by omega) (by omega)) (fun hc => ?_) (fun hc => ?_)
    · exact zk_ret (by omega)
    · refine zk_ifc (zci_le (by omega) (by omega)) (fun hc_2 => ?_) (fun hc_2 => ?_)
      · exact zk_ret (by omega)
      · refine zk_gv (by omega) (by decide) (fun v1 h_v1 => ?_)
        have r_v1 := h_i_hill_goals (x1.toNat)
        refine zk_ifc (zci_eq (by omega) (by omega)) (fun hc_3 => ?_) (fun hc_3 => ?_)
        · unfold f_Planner_goalsAreSo_54
          refine zk_n ?_
          exact ih _ (by omega) (by omega)
        · refine zk_gv (by omega) (by decide) (fun v2 h_v2 => ?_)
          have r_v2 := h_i_hill_goals (x1.toNat)
          refine zk_gv (by omega) (by decide) (fun v3 h_v3 => ?_)
          have r_v3 := h_i_heights (x1.toNat)
          refine zk_ifc (zci_eq (by omega) (by omega)) (fun hc_4 => ?_) (fun hc_4 => ?_)
          · unfold f_Planner_goalsAreSo_54
            refine zk_n ?_
            exact ih _ (by omega) (by omega)
          · exact zk_ret (by omega)
set_option maxHeartbeats 4000000 in
theorem s_Planner_goalsAreSo (i_heights : Nat → Int) (i_hill_columns_many : Int) (i_hill_goals : Nat → Int) (h_i_heights : zR i_heights 0 5) (b_i_hill_columns_many : 0 ≤ i_hill_columns_many ∧ i_hill_columns_many ≤ 12) (h_i_hill_goals : zR i_hill_goals (-1) 10) : zok (f_Planner_goalsAreSo i_heights i_hill_columns_many i_hill_goals) (fun o => (0 ≤ o ∧ o ≤ 1)) := by
  unfold f_Planner_goalsAreSo
  exact s_Planner_goalsAreSo_2 _ _ _ h_i_heights (by omega) h_i_hill_goals zfu _ (by omega) (by unfold zfu; omega)
set_option maxHeartbeats 4000000 in
theorem s_Planner_swap (x1 : Int) (x2 : Int) (i_queue : Nat → Int) (i_queuedAt : Nat → Int) (b_x1 : 0 ≤ x1 ∧ x1 ≤ 6719) (b_x2 : 0 ≤ x2 ∧ x2 ≤ 6719) (h_i_queue : zR i_queue 0 6719) (h_i_queuedAt : zR i_queuedAt 0 6719) : zok (f_Planner_swap x1 x2 i_queue i_queuedAt) (fun o => zR o.1 0 6719 ∧ zR o.2 0 6719) := by
  unfold f_Planner_swap
  refine zk_gv (by omega) (by decide) (fun v1 h_v1 => ?_)
  have r_v1 := h_i_queue (x1.toNat)
  refine zk_gv (by omega) (by decide) (fun v2 h_v2 => ?_)
  have r_v2 := h_i_queue (x2.toNat)
  refine zk_sv (by omega) (by decide) (fun a3 h_a3 => ?_)
  have i_a3 : zR a3 0 6719 := by rw [h_a3]; exact zR_zu h_i_queue (by decide) (by decide) (by omega)
  refine zk_sv (by omega) (by decide) (fun a4 h_a4 => ?_)
  have i_a4 : zR a4 0 6719 := by rw [h_a4]; exact zR_zu i_a3 (by decide) (by decide) (by omega)
  refine zk_gv (by omega) (by decide) (fun v5 h_v5 => ?_)
  have r_v5 := i_a4 (x1.toNat)
  refine zk_sv (by omega) (by decide) (fun a6 h_a6 => ?_)
  have i_a6 : zR a6 0 6719 := by rw [h_a6]; exact zR_zu h_i_queuedAt (by decide) (by decide) (by omega)
  refine zk_gv (by omega) (by decide) (fun v7 h_v7 => ?_)
  have z_v7_a4 := zu_rd h_a4 (x2.toNat)
  have z_v7_a3 := zu_rd h_a3 (x2.toNat)
  have r_v7 := i_a4 (x2.toNat)
  refine zk_sv (by omega) (by decide) (fun a8 h_a8 => ?_)
  have i_a8 : zR a8 0 6719 := by rw [h_a8]; exact zR_zu i_a6 (by decide) (by decide) (by omega)
  refine zk_ret ?_
  try dsimp only
  exact ⟨i_a4, i_a8⟩
set_option maxHeartbeats 4000000 in
theorem s_Planner_leave_30 (i_costs : Nat → Int)  : ∀ (n : Nat) (x1 : Int) (x2 : Int) (x3 : Int) (i_queued : Int) (i_queue : Nat → Int) (i_queuedAt : Nat → Int), (0 ≤ x1 ∧ x1 ≤ 6719) → (0 ≤ x2 ∧ x2 ≤ 6719) → (0 ≤ x3 ∧ x3 ≤ 14) → (0 ≤ i_queued ∧ i_queued ≤ 6719) → (zR i_queue 0 6719) → (zR i_queuedAt 0 6719) → (15 - x3) < (n : Int) → zok (f_Planner_leave_30 i_costs n x1 x2 x3 i_queued i_queue i_queuedAt) (fun o => (0 ≤ o.1 ∧ o.1 ≤ 6719) ∧ (0 ≤ o.2.1 ∧ o.2.1 ≤ 6719) ∧ zR o.2.2.1 0 6719 ∧ zR o.2.2.2 0 6719 ∧ (o.2.1 ≤ i_queued)) := by
  intro n
  induction n with
  | zero => intro x1 x2 x3 i_queued i_queue i_queuedAt b_x1 b_x2 b_x3 b_i_queued h_i_queue h_i_queuedAt hm; exfalso; omega
  | succ n ih =>
    intro x1 x2 x3 i_queued i_queue i_queuedAt b_x1 b_x2 b_x3 b_i_queued h_i_queue h_i_queuedAt hm
    show zok (f_Planner_leave_30_b i_costs (f_Planner_leave_30 i_costs n) x1 x2 x3 i_queued i_queue i_queuedAt) _
    unfold f_Planner_leave_30_b
    refine zk_ifc (zci_le (by omega) (by omega)) (fun hc => ?_) (fun hc => ?_)
    · refine zk_ret ?_
      try dsimp only
      exact ⟨by omega, by omega, h_i_queue, h_i_queuedAt, by omega⟩
    · refine zk_n ?_
      refine zk_n ?_
      refine zk_n ?_
      refine zk_ifc (zci_le (by omega) (by omega)) (fun hc_2 => ?_) (fun hc_2 => ?_)
      · unfold f_Planner_leave_87
        refine zk_ifc (zci_le (by omega) (by omega)) (fun hc_3 => ?_) (fun hc_3 => ?_)
        · refine zk_ret ?_
          try dsimp only
          exact ⟨by omega, by omega, h_i_queue, h_i_queuedAt, by omega⟩
        · refine zk_gv (by omega) (by decide) (fun v1_2 h_v1_2 => ?_)
          have r_v1_2 := h_i_queue (x2.toNat)
          refine zk_gv (by omega) (by decide) (fun v2_2 h_v2_2 => ?_)
          refine zk_gv (by omega) (by decide) (fun v3_2 h_v3_2 => ?_)
          have r_v3_2 := h_i_queue (((2 * x2) + 1).toNat)
          refine zk_gv (by omega) (by decide) (fun v4 h_v4 => ?_)
          refine zk_if (fun hc_4 => ?_) (fun hc_4 => ?_)
          · refine zk_d2 (s_Planner_swap _ _ _ _ (by omega) (by omega) h_i_queue h_i_queuedAt) (fun a5 a6 hp => ?_)
            try dsimp only at hp
            obtain ⟨hpp0, hpp1⟩ := hp
            refine zk_n ?_
            refine zok_mono (ih _ _ _ _ _ _ (by omega) (by omega) (by omega) (by omega) hpp0 hpp1 (by omega)) (fun o ho => ?_)
            try dsimp only at ho
            obtain ⟨ho_0, ho_1, ho_2, ho_3, ho_4⟩ := ho
            exact ⟨by omega, by omega, ho_2, ho_3, by omega⟩
          · refine zk_ret ?_
            try dsimp only
            exact ⟨by omega, by omega, h_i_queue, h_i_queuedAt, by omega⟩
      · refine zk_n ?_
        refine zk_gv (by omega) (by decide) (fun v5 h_v5 => ?_)
        have r_v5 := h_i_queue ((((2 * x2) + 1) + 1).toNat)
        refine zk_gv (by omega) (by decide) (fun v6 h_v6 => ?_)
        refine zk_gv (by omega) (by decide) (fun v7_2 h_v7_2 => ?_)
        have r_v7_2 := h_i_queue (((2 * x2) + 1).toNat)
        refine zk_gv (by omega) (by decide) (fun v8 h_v8 => ?_)
        refine zk_if (fun hc_5 => ?_) (fun hc_5 => ?_)
        · unfold f_Planner_leave_87
          refine zk_ifc (zci_le (by omega) (by omega)) (fun hc_6 => ?_) (fun hc_6 => ?_)
          · refine zk_ret ?_
            try dsimp only
            exact ⟨by omega, by omega, h_i_queue, h_i_queuedAt, by omega⟩
          · refine zk_gv (by omega) (by decide) (fun v1_3 h_v1_3 => ?_)
            have r_v1_3 := h_i_queue (x2.toNat)
            refine zk_gv (by omega) (by decide) (fun v2_3 h_v2_3 => ?_)
            refine zk_gv (by omega) (by decide) (fun v3_3 h_v3_3 => ?_)
            have r_v3_3 := h_i_queue (((2 * x2) + 1).toNat)
            refine zk_gv (by omega) (by decide) (fun v4_3 h_v4_3 => ?_)
            refine zk_if (fun hc_7 => ?_) (fun hc_7 => ?_)
            · refine zk_d2 (s_Planner_swap _ _ _ _ (by omega) (by omega) h_i_queue h_i_queuedAt) (fun a5_2 a6_2 hp_2 => ?_)
              try dsimp only at hp_2
              obtain ⟨hp_2p0, hp_2p1⟩ := hp_2
              refine zk_n ?_
              refine zok_mono (ih _ _ _ _ _ _ (by omega) (by omega) (by omega) (by omega) hp_2p0 hp_2p1 (by omega)) (fun o ho => ?_)
              try dsimp only at ho
              obtain ⟨ho_0, ho_1, ho_2, ho_3, ho_4⟩ := ho
              exact ⟨by omega, by omega, ho_2, ho_3, by omega⟩
            · refine zk_ret ?_
              try dsimp only
              exact ⟨by omega, by omega, h_i_queue, h_i_queuedAt, by omega⟩
        · refine zk_n ?_
          unfold f_Planner_leave_87
          refine zk_ifc (zci_le (by omega) (by omega)) (fun hc_8 => ?_) (fun hc_8 => ?_)
          · refine zk_ret ?_
            try dsimp only
            exact ⟨by omega, by omega, h_i_queue, h_i_queuedAt, by omega⟩
          · refine zk_gv (by omega) (by decide) (fun v1_4 h_v1_4 => ?_)
            have r_v1_4 := h_i_queue (x2.toNat)
            refine zk_gv (by omega) (by decide) (fun v2_4 h_v2_4 => ?_)
            refine zk_gv (by omega) (by decide) (fun v3_4 h_v3_4 => ?_)
            have r_v3_4 := h_i_queue ((((2 * x2) + 1) + 1).toNat)
            refine zk_gv (by omega) (by decide) (fun v4_4 h_v4_4 => ?_)
            refine zk_if (fun hc_9 => ?_) (fun hc_9 => ?_)
            · refine zk_d2 (s_Planner_swap _ _ _ _ (by omega) (by omega) h_i_queue h_i_queuedAt) (fun a5_3 a6_3 hp_3 => ?_)
              try dsimp only at hp_3
              obtain ⟨hp_3p0, hp_3p1⟩ := hp_3
              refine zk_n ?_
              refine zok_mono (ih _ _ _ _ _ _ (by omega) (by omega) (by omega) (by omega) hp_3p0 hp_3p1 (by omega)) (fun o ho => ?_)
              try dsimp only at ho
              obtain ⟨ho_0, ho_1, ho_2, ho_3, ho_4⟩ := ho
              exact ⟨by omega, by omega, ho_2, ho_3, by omega⟩
            · refine zk_ret ?_
              try dsimp only
              exact ⟨by omega, by omega, h_i_queue, h_i_queuedAt, by omega⟩
set_option maxHeartbeats 4000000 in
theorem s_Planner_leave (i_costs : Nat → Int) (i_queued : Int) (i_queue : Nat → Int) (i_queuedAt : Nat → Int) (b_i_queued : 1 ≤ i_queued ∧ i_queued ≤ 6720) (h_i_queue : zR i_queue 0 6719) (h_i_queuedAt : zR i_queuedAt 0 6719) : zok (f_Planner_leave i_costs i_queued i_queue i_queuedAt) (fun o => (0 ≤ o.1 ∧ o.1 ≤ 6719) ∧ (0 ≤ o.2.1 ∧ o.2.1 ≤ 6719) ∧ zR o.2.2.1 0 6719 ∧ zR o.2.2.2 0 6719 ∧ (o.2.1 ≤ i_queued)) := by
  unfold f_Planner_leave
  refine zk_gl 0 rfl (by decide) (by decide) (fun v1 h_v1 => ?_)
  have r_v1 := h_i_queue (0)
  refine zk_n ?_
  refine zk_d2 (s_Planner_swap _ _ _ _ (by omega) (by omega) h_i_queue h_i_queuedAt) (fun a3 a4 hp => ?_)
  try dsimp only at hp
  obtain ⟨hpp0, hpp1⟩ := hp
  refine zok_mono (s_Planner_leave_30 _ zfu _ _ _ _ _ _ (by omega) (by omega) (by omega) (by omega) hpp0 hpp1 (by unfold zfu; omega)) (fun o ho => ?_)
  try dsimp only at ho
  obtain ⟨ho_0, ho_1, ho_2, ho_3, ho_4⟩ := ho
  exact ⟨by omega, by omega, ho_2, ho_3, by omega⟩
set_option maxHeartbeats 4000000 in
theorem s_Planner_isEarlier_31 (i_before : Nat → Int) (i_by : Nat → Int) (h_i_before : zR i_before (-1) 6719) (h_i_by : zR i_by 0 150) : ∀ (n : Nat) (x4 : Int) (x5 : Int) (x6 : Int) (x7 : Int), (0 ≤ x4 ∧ x4 ≤ 1) → ((-1) ≤ x5 ∧ x5 ≤ 6719) → ((-1) ≤ x6 ∧ x6 ≤ 6719) → (0 ≤ x7 ∧ x7 ≤ 6720) → (6721 - x7) < (n : Int) → zok (f_Planner_isEarlier_31 i_before i_by n x4 x5 x6 x7) (fun o => (0 ≤ o ∧ o ≤ 1)) := by
  intro n
  induction n with
  | zero => intro x4 x5 x6 x7 b_x4 b_x5 b_x6 b_x7 hm; exfalso; omega
  | succ n ih =>
    intro x4 x5 x6 x7 b_x4 b_x5 b_x6 b_x7 hm
    show zok (f_Planner_isEarlier_31_b i_before i_by (f_Planner_isEarlier_31 i_before i_by n) x4 x5 x6 x7) _
    unfold f_Planner_isEarlier_31_b
    refine zk_ifc (zci_le (by omega) (by omega)) (fun hc => ?_) (fun hc => ?_)
    · refine zk_gb (by omega) ?_
      exact zk_ret (by omega)
    · refine zk_ifc (zci_eq (by omega) (by omega)) (fun hc_2 => ?_) (fun hc_2 => ?_)
      · refine zk_gb (by omega) ?_
        exact zk_ret (by omega)
      · refine zk_ifc (zci_ltr (by omega)) (fun hc_3 => ?_) (fun hc_3 => ?_)
        · refine zk_gb (by omega) ?_
          exact zk_ret (by omega)
        · refine zk_ifc (zci_ltr (by omega)) (fun hc_4 => ?_) (fun hc_4 => ?_)
          · refine zk_gb (by omega) ?_
            exact zk_ret (by omega)
          · refine zk_gv (by omega) (by decide) (fun v1 h_v1 => ?_)
            have r_v1 := h_i_by (x5.toNat)
            refine zk_gv (by omega) (by decide) (fun v2 h_v2 => ?_)
            have r_v2 := h_i_by (x6.toNat)
            refine zk_ifc (zci_eq (by omega) (by omega)) (fun hc_5 => ?_) (fun hc_5 => ?_)
            · unfold f_Planner_isEarlier_97
              refine zk_gv (by omega) (by decide) (fun v1_2 h_v1_2 => ?_)
              have r_v1_2 := h_i_before (x5.toNat)
              refine zk_gv (by omega) (by decide) (fun v2_2 h_v2_2 => ?_)
              have r_v2_2 := h_i_before (x6.toNat)
              refine zk_n ?_
              exact ih _ _ _ _ (by omega) (by omega) (by omega) (by omega) (by omega)
            · refine zk_gv (by omega) (by decide) (fun v3_2 h_v3_2 => ?_)
              have r_v3_2 := h_i_by (x5.toNat)
              refine zk_gv (by omega) (by decide) (fun v4 h_v4 => ?_)
              have r_v4 := h_i_by (x6.toNat)
              refine zk_ifc (zci_le (by omega) (by omega)) (fun hc_6 => ?_) (fun hc_6 => ?_)
              · unfold f_Planner_isEarlier_95
                unfold f_Planner_isEarlier_97
                refine zk_gv (by omega) (by decide) (fun v1_3 h_v1_3 => ?_)
                have r_v1_3 := h_i_before (x5.toNat)
                refine zk_gv (by omega) (by decide) (fun v2_3 h_v2_3 => ?_)
                have r_v2_3 := h_i_before (x6.toNat)
                refine zk_n ?_
                exact ih _ _ _ _ (by omega) (by omega) (by omega) (by omega) (by omega)
              · unfold f_Planner_isEarlier_95
                unfold f_Planner_isEarlier_97
                refine zk_gv (by omega) (by decide) (fun v1_4 h_v1_4 => ?_)
                have r_v1_4 := h_i_before (x5.toNat)
                refine zk_gv (by omega) (by decide) (fun v2_4 h_v2_4 => ?_)
                have r_v2_4 := h_i_before (x6.toNat)
                refine zk_n ?_
                exact ih _ _ _ _ (by omega) (by omega) (by omega) (by omega) (by omega)
set_option maxHeartbeats 4000000 in
theorem s_Planner_isEarlier (x1 : Int) (x2 : Int) (x3 : Int) (i_before : Nat → Int) (i_by : Nat → Int) (b_x1 : (-1) ≤ x1 ∧ x1 ≤ 6719) (b_x2 : 0 ≤ x2 ∧ x2 ≤ 150) (b_x3 : 0 ≤ x3 ∧ x3 ≤ 6719) (h_i_before : zR i_before (-1) 6719) (h_i_by : zR i_by 0 150) : zok (f_Planner_isEarlier x1 x2 x3 i_before i_by) (fun o => (0 ≤ o ∧ o ≤ 1)) := by
  unfold f_Planner_isEarlier
  refine zk_gv (by omega) (by decide) (fun v1 h_v1 => ?_)
  have r_v1 := h_i_by (x3.toNat)
  refine zk_ifc (zci_le (by omega) (by omega)) (fun hc => ?_) (fun hc => ?_)
  · unfold f_Planner_isEarlier_15
    refine zk_gv (by omega) (by decide) (fun v1_2 h_v1_2 => ?_)
    have r_v1_2 := h_i_before (x3.toNat)
    exact s_Planner_isEarlier_31 _ _ h_i_before h_i_by zfu _ _ _ _ (by omega) (by omega) (by omega) (by omega) (by unfold zfu; omega)
  · unfold f_Planner_isEarlier_15
    refine zk_gv (by omega) (by decide) (fun v1_3 h_v1_3 => ?_)
    have r_v1_3 := h_i_before (x3.toNat)
    exact s_Planner_isEarlier_31 _ _ h_i_before h_i_by zfu _ _ _ _ (by omega) (by omega) (by omega) (by omega) (by unfold zfu; omega)
set_option maxHeartbeats 4000000 in
theorem s_Arrays_fill_n16384_5   : ∀ (n : Nat) (x1 : Int) (x2 : Int) (x3 : Int) (i_a0 : Nat → Int), (0 ≤ x1 ∧ x1 ≤ 0) → (0 ≤ x2 ∧ x2 ≤ 16384) → (16384 ≤ x3 ∧ x3 ≤ 16384) → (zR i_a0 0 6720) → (16385 - x2) < (n : Int) → zok (f_Arrays_fill_n16384_5  n x1 x2 x3 i_a0) (fun o => zR o 0 6720) := by
  intro n
  induction n with
  | zero => intro x1 x2 x3 i_a0 b_x1 b_x2 b_x3 h_i_a0 hm; exfalso; omega
  | succ n ih =>
    intro x1 x2 x3 i_a0 b_x1 b_x2 b_x3 h_i_a0 hm
    show zok (f_Arrays_fill_n16384_5_b  (f_Arrays_fill_n16384_5  n) x1 x2 x3 i_a0) _
    unfold f_Arrays_fill_n16384_5_b
    refine zk_ifc (zci_le (by omega) (by omega)) (fun hc => ?_) (fun hc => ?_)
    · exact zk_ret h_i_a0
    · refine zk_sv (by omega) (by decide) (fun a1 h_a1 => ?_)
      have i_a1 : zR a1 0 6720 := by rw [h_a1]; exact zR_zu h_i_a0 (by decide) (by decide) (by omega)
      refine zk_n ?_
      exact ih _ _ _ _ (by omega) (by omega) (by omega) i_a1 (by omega)
set_option maxHeartbeats 4000000 in
theorem s_Arrays_fill_n16384 (x1 : Int) (i_a0 : Nat → Int) (b_x1 : 0 ≤ x1 ∧ x1 ≤ 0) (h_i_a0 : zR i_a0 0 6720) : zok (f_Arrays_fill_n16384 x1 i_a0) (fun o => zR o 0 6720) := by
  unfold f_Arrays_fill_n16384
  exact s_Arrays_fill_n16384_5 zfu _ _ _ _ (by omega) (by omega) (by omega) h_i_a0 (by unfold zfu; omega)
set_option maxHeartbeats 4000000 in
theorem s_Planner_kindOf_2   : ∀ (n : Nat) (x1 : Int) (x2 : Int) (i_kinds : Int) (i_weights : Nat → Int), (0 ≤ x1 ∧ x1 ≤ 30) → (1 ≤ x2 ∧ x2 ≤ 6) → (0 ≤ i_kinds ∧ i_kinds ≤ 5) → (zR i_weights 0 30) → (7 - x2) < (n : Int) → zok (f_Planner_kindOf_2  n x1 x2 i_kinds i_weights) (fun o => (1 ≤ o.1 ∧ o.1 ≤ 5) ∧ (1 ≤ o.2.1 ∧ o.2.1 ≤ 5) ∧ zR o.2.2 0 30) := by
  intro n
  induction n with
  | zero => intro x1 x2 i_kinds i_weights b_x1 b_x2 b_i_kinds h_i_weights hm; exfalso; omega
  | succ n ih =>
    intro x1 x2 i_kinds i_weights b_x1 b_x2 b_i_kinds h_i_weights hm
    show zok (f_Planner_kindOf_2_b  (f_Planner_kindOf_2  n) x1 x2 i_kinds i_weights) _
    unfold f_Planner_kindOf_2_b
    refine zk_ifc (zci_lt (by omega) (by omega)) (fun hc => ?_) (fun hc => ?_)
    · refine zk_ifc (zci_lt (by omega) (by omega)) (fun hc_2 => ?_) (fun hc_2 => ?_)
      · refine zk_n ?_
        refine zk_sv (by omega) (by decide) (fun a2 h_a2 => ?_)
        have i_a2 : zR a2 0 30 := by rw [h_a2]; exact zR_zu h_i_weights (by decide) (by decide) (by omega)
        refine zk_ret ?_
        try dsimp only
        exact ⟨by omega, by omega, i_a2⟩
      · refine zk_ret ?_
        try dsimp only
        exact ⟨by omega, by omega, h_i_weights⟩
    · refine zk_gv (by omega) (by decide) (fun v3 h_v3 => ?_)
      have r_v3 := h_i_weights (x2.toNat)
      refine zk_ifc (zci_ne (by omega) (by omega)) (fun hc_3 => ?_) (fun hc_3 => ?_)
      · refine zk_n ?_
        exact ih _ _ _ _ (by omega) (by omega) (by omega) h_i_weights (by omega)
      · refine zk_ret ?_
        try dsimp only
        exact ⟨by omega, by omega, h_i_weights⟩
set_option maxHeartbeats 4000000 in
theorem s_Planner_kindOf (x1 : Int) (i_kinds : Int) (i_weights : Nat → Int) (b_x1 : 0 ≤ x1 ∧ x1 ≤ 30) (b_i_kinds : 0 ≤ i_kinds ∧ i_kinds ≤ 5) (h_i_weights : zR i_weights 0 30) : zok (f_Planner_kindOf x1 i_kinds i_weights) (fun o => (1 ≤ o.1 ∧ o.1 ≤ 5) ∧ (1 ≤ o.2.1 ∧ o.2.1 ≤ 5) ∧ zR o.2.2 0 30) := by
  unfold f_Planner_kindOf
  exact s_Planner_kindOf_2 zfu _ _ _ _ (by omega) (by omega) (by omega) h_i_weights (by unfold zfu; omega)
set_option maxHeartbeats 4000000 in
theorem s_Planner_firstState_48 (i_hill_columns_many : Int) (i_hill_columns_heights : Nat → Int) (i_hill_columns_weights : Nat → Int) (k9 : Int → Int → Int → (Nat → Int) → Option (Int × Int × (Nat → Int))) (Nk9 : Nat) (hk9 : ∀ (x1 : Int) (x3 : Int) (i_kinds : Int) (i_weights : Nat → Int), ((-9223372036854775808) ≤ x1 ∧ x1 ≤ 9223372036854775807) → (0 ≤ x3 ∧ x3 ≤ 4) → (0 ≤ i_kinds ∧ i_kinds ≤ 5) → (zR i_weights 0 30) → (5 - x3) < (Nk9 : Int) → zok (k9 x1 x3 i_kinds i_weights) (fun o => ((-9223372036854775808) ≤ o.1 ∧ o.1 ≤ 9223372036854775807) ∧ (0 ≤ o.2.1 ∧ o.2.1 ≤ 5) ∧ zR o.2.2 0 30)) (b_i_hill_columns_many : 1 ≤ i_hill_columns_many ∧ i_hill_columns_many ≤ 12) (h_i_hill_columns_heights : zR i_hill_columns_heights 0 10) (h_i_hill_columns_weights : zR i_hill_columns_weights 0 30) : ∀ (n : Nat) (x1 : Int) (x3 : Int) (x4 : Int) (x5 : Int) (i_kinds : Int) (i_weights : Nat → Int), ((-9223372036854775808) ≤ x1 ∧ x1 ≤ 9223372036854775807) → (0 ≤ x3 ∧ x3 ≤ 3) → (0 ≤ x4 ∧ x4 ≤ 5) → (0 ≤ x5 ∧ x5 ≤ 5) → (0 ≤ i_kinds ∧ i_kinds ≤ 5) → (zR i_weights 0 30) → (5 - x3) < (Nk9 : Int) + 1 → (6 - x5) < (n : Int) → zok (f_Planner_firstState_48 i_hill_columns_many i_hill_columns_heights i_hill_columns_weights k9 n x1 x3 x4 x5 i_kinds i_weights) (fun o => ((-9223372036854775808) ≤ o.1 ∧ o.1 ≤ 9223372036854775807) ∧ (0 ≤ o.2.1 ∧ o.2.1 ≤ 5) ∧ zR o.2.2 0 30) := by
  intro n
  induction n with
  | zero => intro x1 x3 x4 x5 i_kinds i_weights b_x1 b_x3 b_x4 b_x5 b_i_kinds h_i_weights mk9 hm; exfalso; omega
  | succ n ih =>
    intro x1 x3 x4 x5 i_kinds i_weights b_x1 b_x3 b_x4 b_x5 b_i_kinds h_i_weights mk9 hm
    show zok (f_Planner_firstState_48_b i_hill_columns_many i_hill_columns_heights i_hill_columns_weights k9 (f_Planner_firstState_48 i_hill_columns_many i_hill_columns_heights i_hill_columns_weights k9 n) x1 x3 x4 x5 i_kinds i_weights) _
    unfold f_Planner_firstState_48_b
    refine zk_ifc (zci_le (by omega) (by omega)) (fun hc => ?_) (fun hc => ?_)
    · refine zk_n ?_
      exact hk9 _ _ _ _ (by omega) (by omega) (by omega) h_i_weights (by omega)
    · refine zk_d1 (s_Columns_heft _ _ _ _ _ (by omega) (by omega) (by omega) h_i_hill_columns_heights h_i_hill_columns_weights) (fun v2 hp => ?_)
      try dsimp only at hp
      have hpp0 := hp
      refine zk_d3 (s_Planner_kindOf _ _ _ (by omega) (by omega) h_i_weights) (fun v3 v4 a5 hp_2 => ?_)
      try dsimp only at hp_2
      obtain ⟨hp_2p0, hp_2p1, hp_2p2⟩ := hp_2
      refine zk_nE (fun v6 h_v6 => ?_)
      rw [zwi (by omega)] at h_v6
      replace h_v6 := h_v6.symm
      subst h_v6
      refine zk_n ?_
      refine zk_n ?_
      refine zk_n ?_
      refine zk_nE (fun v10 h_v10 => ?_)
      have r_v10 := zl_shl_f v3 ((15 * x3) + (3 * x5)); rw [← h_v10] at r_v10
      refine zk_nE (fun v11 h_v11 => ?_)
      have r_v11 := zl_or_f x1 v10; rw [← h_v11] at r_v11
      refine zk_n ?_
      exact ih _ _ _ _ _ _ (by omega) (by omega) (by omega) (by omega) (by omega) hp_2p2 (by omega) (by omega)
set_option maxHeartbeats 4000000 in
theorem s_Planner_firstState_9 (i_hill_columns_many : Int) (i_hill_columns_heights : Nat → Int) (i_hill_columns_weights : Nat → Int) (b_i_hill_columns_many : 0 ≤ i_hill_columns_many ∧ i_hill_columns_many ≤ 12) (h_i_hill_columns_heights : zR i_hill_columns_heights 0 10) (h_i_hill_columns_weights : zR i_hill_columns_weights 0 30) : ∀ (n : Nat) (x1 : Int) (x3 : Int) (i_kinds : Int) (i_weights : Nat → Int), ((-9223372036854775808) ≤ x1 ∧ x1 ≤ 9223372036854775807) → (0 ≤ x3 ∧ x3 ≤ 4) → (0 ≤ i_kinds ∧ i_kinds ≤ 5) → (zR i_weights 0 30) → (5 - x3) < (n : Int) → zok (f_Planner_firstState_9 i_hill_columns_many i_hill_columns_heights i_hill_columns_weights n x1 x3 i_kinds i_weights) (fun o => ((-9223372036854775808) ≤ o.1 ∧ o.1 ≤ 9223372036854775807) ∧ (0 ≤ o.2.1 ∧ o.2.1 ≤ 5) ∧ zR o.2.2 0 30) := by
  intro n
  induction n with
  | zero => intro x1 x3 i_kinds i_weights b_x1 b_x3 b_i_kinds h_i_weights hm; exfalso; omega
  | succ n ih =>
    intro x1 x3 i_kinds i_weights b_x1 b_x3 b_i_kinds h_i_weights hm
    show zok (f_Planner_firstState_9_b i_hill_columns_many i_hill_columns_heights i_hill_columns_weights (f_Planner_firstState_9 i_hill_columns_many i_hill_columns_heights i_hill_columns_weights n) x1 x3 i_kinds i_weights) _
    unfold f_Planner_firstState_9_b
    refine zk_ifc (zci_le (by omega) (by omega)) (fun hc => ?_) (fun hc => ?_)
    · refine zk_ret ?_
      try dsimp only
      exact ⟨by omega, by omega, h_i_weights⟩
    · refine zk_ifc (zci_le (by omega) (by omega)) (fun hc_2 => ?_) (fun hc_2 => ?_)
      · refine zk_ret ?_
        try dsimp only
        exact ⟨by omega, by omega, h_i_weights⟩
      · refine zk_d1 (s_Columns_high _ _ _ (by omega) (by omega) h_i_hill_columns_heights) (fun v1 hp => ?_)
        try dsimp only at hp
        obtain ⟨hpp0, hpp1⟩ := hp
        refine zk_nE (fun v2 h_v2 => ?_)
        have r_v2 := zi_min_f (5) (by omega) (v1) (by omega); rw [← h_v2] at r_v2
        exact s_Planner_firstState_48 _ _ _ _ n ih (by omega) h_i_hill_columns_heights h_i_hill_columns_weights zfu _ _ _ _ _ _ (by omega) (by omega) (by omega) (by omega) (by omega) h_i_weights (by omega) (by unfold zfu; omega)
