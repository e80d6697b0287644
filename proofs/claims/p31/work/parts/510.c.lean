set_option maxHeartbeats 4000000 in
theorem s_Planner_goOn (x1 : Int) (x2 : Int) (i_hill_children : Int) (i_hill_laws : Int) (i_hill_inForce : Int) (i_hill_changes : Int) (i_weights : Nat → Int) (i_tops : Nat → Int) (i_hill_columns_many : Int) (i_hill_strengths : Nat → Int) (i_hill_expelled : Nat → Int) (i_hill_terms : Nat → Int) (i_hill_orders : Nat → Int) (i_hill_ordered : Nat → Int) (i_found : Int) (i_queued : Int) (i_slots : Nat → Int) (i_states : Nat → Int) (i_costs : Nat → Int) (i_before : Nat → Int) (i_by : Nat → Int) (i_queue : Nat → Int) (i_queuedAt : Nat → Int) (i_heights : Nat → Int) (i_carriers_judge_piled : Int) (i_carriers_judge_tiring : Int) (i_carriers_judge_barred : Int) (i_carriers_notes : Nat → Int) (i_carriers_judge_words : Nat → Int) (i_carriers_judge_pile : Nat → Int) (b_x1 : 0 ≤ x1 ∧ x1 ≤ 6719) (b_x2 : 0 ≤ x2 ∧ x2 ≤ 2) (b_i_hill_children : 0 ≤ i_hill_children ∧ i_hill_children ≤ 6) (b_i_hill_laws : 0 ≤ i_hill_laws ∧ i_hill_laws ≤ 6) (b_i_hill_inForce : (-1) ≤ i_hill_inForce ∧ i_hill_inForce ≤ 5) (h_i_weights : zR i_weights 0 30) (h_i_tops : zR i_tops 0 7) (b_i_hill_columns_many : 0 ≤ i_hill_columns_many ∧ i_hill_columns_many ≤ 12) (h_i_hill_strengths : zR i_hill_strengths 0 60) (h_i_hill_expelled : zR i_hill_expelled 0 1) (h_i_hill_terms : zR i_hill_terms 0 99) (h_i_hill_orders : zR i_hill_orders (-2147483648) 2147483647) (h_i_hill_ordered : zR i_hill_ordered 0 424) (b_i_found : 0 ≤ i_found ∧ i_found ≤ 6720) (b_i_queued : 0 ≤ i_queued ∧ i_queued ≤ 6719) (h_i_slots : zR i_slots 0 6720) (h_i_states : zR i_states (-9223372036854775808) 9223372036854775807) (h_i_before : zR i_before (-1) 6719) (h_i_by : zR i_by 0 150) (h_i_queue : zR i_queue 0 6719) (h_i_queuedAt : zR i_queuedAt 0 6719) (h_i_heights : zR i_heights 0 5) (b_i_carriers_judge_piled : 0 ≤ i_carriers_judge_piled ∧ i_carriers_judge_piled ≤ 32) (b_i_carriers_judge_tiring : 0 ≤ i_carriers_judge_tiring ∧ i_carriers_judge_tiring ≤ 2147483647) (b_i_carriers_judge_barred : 0 ≤ i_carriers_judge_barred ∧ i_carriers_judge_barred ≤ 1) (h_i_carriers_notes : zR i_carriers_notes (-2147483648) 2147483647) (h_i_carriers_judge_words : zR i_carriers_judge_words 0 99) (p_0 : i_queued ≤ i_found) : zok (f_Planner_goOn x1 x2 i_hill_children i_hill_laws i_hill_inForce i_hill_changes i_weights i_tops i_hill_columns_many i_hill_strengths i_hill_expelled i_hill_terms i_hill_orders i_hill_ordered i_found i_queued i_slots i_states i_costs i_before i_by i_queue i_queuedAt i_heights i_carriers_judge_piled i_carriers_judge_tiring i_carriers_judge_barred i_carriers_notes i_carriers_judge_words i_carriers_judge_pile) (fun o => (0 ≤ o.1 ∧ o.1 ≤ 6720) ∧ (0 ≤ o.2.1 ∧ o.2.1 ≤ 6720) ∧ (0 ≤ o.2.2.2.2.2.2.2.2.2.2.1 ∧ o.2.2.2.2.2.2.2.2.2.2.1 ≤ 32) ∧ (0 ≤ o.2.2.2.2.2.2.2.2.2.2.2.1 ∧ o.2.2.2.2.2.2.2.2.2.2.2.1 ≤ 2147483647) ∧ (0 ≤ o.2.2.2.2.2.2.2.2.2.2.2.2.1 ∧ o.2.2.2.2.2.2.2.2.2.2.2.2.1 ≤ 1) ∧ zR o.2.2.1 0 6720 ∧ zR o.2.2.2.1 (-9223372036854775808) 9223372036854775807 ∧ zR o.2.2.2.2.2.1 (-1) 6719 ∧ zR o.2.2.2.2.2.2.1 0 150 ∧ zR o.2.2.2.2.2.2.2.1 0 6719 ∧ zR o.2.2.2.2.2.2.2.2.1 0 6719 ∧ zR o.2.2.2.2.2.2.2.2.2.1 0 5 ∧ zR o.2.2.2.2.2.2.2.2.2.2.2.2.2.1 (-2147483648) 2147483647 ∧ zR o.2.2.2.2.2.2.2.2.2.2.2.2.2.2.1 0 99 ∧ (o.2.1 ≤ o.1)) := by
  unfold f_Planner_goOn
  refine zk_nE (fun v1 h_v1 => ?_)
  have r_v1 := zi_min_f (4) (by omega) (i_hill_columns_many) (by omega); rw [← h_v1] at r_v1
  exact s_Planner_goOn_18 _ _ _ _ _ _ _ _ _ _ _ _ (by omega) (by omega) (by omega) h_i_weights h_i_tops (by omega) h_i_hill_strengths h_i_hill_expelled h_i_hill_terms h_i_hill_orders h_i_hill_ordered zfu _ _ _ _ _ _ _ _ _ _ _ _ _ _ _ _ _ _ _ _ (by omega) (by omega) (by omega) (by omega) (by omega) (by omega) h_i_slots h_i_states h_i_before h_i_by h_i_queue h_i_queuedAt h_i_heights (by omega) (by omega) (by omega) h_i_carriers_notes h_i_carriers_judge_words (by omega) (by unfold zfu; omega)
set_option maxHeartbeats 4000000 in
theorem s_Planner_goalsAreSo_2 (i_heights : Nat → Int) (i_hill_columns_many : Int) (i_hill_goals : Nat → Int) (h_i_heights : zR i_heights 0 5) (b_i_hill_columns_many : 0 ≤ i_hill_columns_many ∧ i_hill_columns_many ≤ 12) (h_i_hill_goals : zR i_hill_goals (-1) 10) : ∀ (n : Nat) (x1 : Int), (0 ≤ x1 ∧ x1 ≤ 4) → (5 - x1) < (n : Int) → zok (f_Planner_goalsAreSo_2 i_heights i_hill_columns_many i_hill_goals n x1) (fun o => (0 ≤ o ∧ o ≤ 1)) := by
  intro n
  induction n with
  | zero => intro x1 b_x1 hm; exfalso; omega
  | succ n ih =>
    intro x1 b_x1 hm
    show zok (f_Planner_goalsAreSo_2_b i_heights i_hill_columns_many i_hill_goals (f_Planner_goalsAreSo_2 i_heights i_hill_columns_many i_hill_goals n) x1) _
    unfold f_Planner_goalsAreSo_2_b
    refine zk_ifc (zci_le (by omega) (by omega)) (fun hc => ?_) (fun hc => ?_)
    · exact zk_ret (by omega)
    · refine zk_ifc (zci_le (by omega) (by omega)) (fun hc_2 => ?_) (fun hc_2 => ?_)
      · exact zk_ret (by omega)
      · refine zk_gv (by omega) (by decide) (fun v1 h_v1 => ?_)
        have r_v1 := h_i_hill_goals (x1.toNat)
        refine zk_ifc (zci_eq (by omega) (by omega)) (fun hc_3 => ?_) (fun hc_3 => ?_)
        · unfold f_Planner_goalsAreSo_54
          refine zk_n ?_
          exact ih _ (by omega) (by omega)
        · refine zk_gv (by omega) (by decide) (fun v2 h_v2 => ?_)
          have r_v2 := h_i_hill_goals (x1.toNat)
          refine zk_gv (by omega) (by decide) (fun v3 h_v3 => ?_)
          have r_v3 := h_i_heights (x1.toNat)
          refine zk_ifc (zci_eq (by omega) (by omega)) (fun hc_4 => ?_) (fun hc_4 => ?_)
          · unfold f_Planner_goalsAreSo_54
            refine zk_n ?_
            exact ih _ (by omega) (by omega)
          · exact zk_ret (by omega)
set_option maxHeartbeats 4000000 in
theorem s_Planner_goalsAreSo (i_heights : Nat → Int) (i_hill_columns_many : Int) (i_hill_goals : Nat → Int) (h_i_heights : zR i_heights 0 5) (b_i_hill_columns_many : 0 ≤ i_hill_columns_many ∧ i_hill_columns_many ≤ 12) (h_i_hill_goals : zR i_hill_goals (-1) 10) : zok (f_Planner_goalsAreSo i_heights i_hill_columns_many i_hill_goals) (fun o => (0 ≤ o ∧ o ≤ 1)) := by
  unfold f_Planner_goalsAreSo
  exact s_Planner_goalsAreSo_2 _ _ _ h_i_heights (by omega) h_i_hill_goals zfu _ (by omega) (by unfold zfu; omega)
set_option maxHeartbeats 4000000 in
theorem s_Planner_kindOf_2   : ∀ (n : Nat) (x1 : Int) (x2 : Int) (i_kinds : Int) (i_weights : Nat → Int), (0 ≤ x1 ∧ x1 ≤ 30) → (1 ≤ x2 ∧ x2 ≤ 6) → (0 ≤ i_kinds ∧ i_kinds ≤ 5) → (zR i_weights 0 30) → (7 - x2) < (n : Int) → zok (f_Planner_kindOf_2  n x1 x2 i_kinds i_weights) (fun o => (1 ≤ o.1 ∧ o.1 ≤ 5) ∧ (1 ≤ o.2.1 ∧ o.2.1 ≤ 5) ∧ zR o.2.2 0 30) := by
  intro n
  induction n with
  | zero => intro x1 x2 i_kinds i_weights b_x1 b_x2 b_i_kinds h_i_weights hm; exfalso; omega
  | succ n ih =>
    intro x1 x2 i_kinds i_weights b_x1 b_x2 b_i_kinds h_i_weights hm
    show zok (f_Planner_kindOf_2_b  (f_Planner_kindOf_2  n) x1 x2 i_kinds i_weights) _
    unfold f_Planner_kindOf_2_b
    refine zk_ifc (zci_lt (by omega) (by omega)) (fun hc => ?_) (fun hc => ?_)
    · refine zk_ifc (zci_lt (by omega) (by omega)) (fun hc_2 => ?_) (fun hc_2 => ?_)
      · refine zk_n ?_
        refine zk_sv (by omega) (by decide) (fun a2 h_a2 => ?_)
        have i_a2 : zR a2 0 30 := by rw [h_a2]; exact zR_zu h_i_weights (by decide) (by decide) (by omega)
        refine zk_ret ?_
        try dsimp only
        exact ⟨by omega, by omega, i_a2⟩
      · refine zk_ret ?_
        try dsimp only
        exact ⟨by omega, by omega, h_i_weights⟩
    · refine zk_gv (by omega) (by decide) (fun v3 h_v3 => ?_)
      have r_v3 := h_i_weights (x2.toNat)
      refine zk_ifc (zci_ne (by omega) (by omega)) (fun hc_3 => ?_) (fun hc_3 => ?_)
      · refine zk_n ?_
        exact ih _ _ _ _ (by omega) (by omega) (by omega) h_i_weights (by omega)
      · refine zk_ret ?_
        try dsimp only
        exact ⟨by omega, by omega, h_i_weights⟩
set_option maxHeartbeats 4000000 in
theorem s_Planner_kindOf (x1 : Int) (i_kinds : Int) (i_weights : Nat → Int) (b_x1 : 0 ≤ x1 ∧ x1 ≤ 30) (b_i_kinds : 0 ≤ i_kinds ∧ i_kinds ≤ 5) (h_i_weights : zR i_weights 0 30) : zok (f_Planner_kindOf x1 i_kinds i_weights) (fun o => (1 ≤ o.1 ∧ o.1 ≤ 5) ∧ (1 ≤ o.2.1 ∧ o.2.1 ≤ 5) ∧ zR o.2.2 0 30) := by
  unfold f_Planner_kindOf
  exact s_Planner_kindOf_2 zfu _ _ _ _ (by omega) (by omega) (by omega) h_i_weights (by unfold zfu; omega)
set_option maxHeartbeats 4000000 in
theorem s_Planner_firstState_48 (i_hill_columns_many : Int) (i_hill_columns_heights : Nat → Int) (i_hill_columns_weights : Nat → Int) (k9 : Int → Int → Int → (Nat → Int) → Option (Int × Int × (Nat → Int))) (Nk9 : Nat) (hk9 : ∀ (x1 : Int) (x3 : Int) (i_kinds : Int) (i_weights : Nat → Int), ((-9223372036854775808) ≤ x1 ∧ x1 ≤ 9223372036854775807) → (0 ≤ x3 ∧ x3 ≤ 4) → (0 ≤ i_kinds ∧ i_kinds ≤ 5) → (zR i_weights 0 30) → (5 - x3) < (Nk9 : Int) → zok (k9 x1 x3 i_kinds i_weights) (fun o => ((-9223372036854775808) ≤ o.1 ∧ o.1 ≤ 9223372036854775807) ∧ (0 ≤ o.2.1 ∧ o.2.1 ≤ 5) ∧ zR o.2.2 0 30)) (b_i_hill_columns_many : 1 ≤ i_hill_columns_many ∧ i_hill_columns_many ≤ 12) (h_i_hill_columns_heights : zR i_hill_columns_heights 0 10) (h_i_hill_columns_weights : zR i_hill_columns_weights 0 30) : ∀ (n : Nat) (x1 : Int) (x3 : Int) (x4 : Int) (x5 : Int) (i_kinds : Int) (i_weights : Nat → Int), ((-9223372036854775808) ≤ x1 ∧ x1 ≤ 9223372036854775807) → (0 ≤ x3 ∧ x3 ≤ 3) → (0 ≤ x4 ∧ x4 ≤ 5) → (0 ≤ x5 ∧ x5 ≤ 5) → (0 ≤ i_kinds ∧ i_kinds ≤ 5) → (zR i_weights 0 30) → (5 - x3) < (Nk9 : Int) + 1 → (6 - x5) < (n : Int) → zok (f_Planner_firstState_48 i_hill_columns_many i_hill_columns_heights i_hill_columns_weights k9 n x1 x3 x4 x5 i_kinds i_weights) (fun o => ((-9223372036854775808) ≤ o.1 ∧ o.1 ≤ 9223372036854775807) ∧ (0 ≤ o.2.1 ∧ o.2.1 ≤ 5) ∧ zR o.2.2 0 30) := by
  intro n
  induction n with
  | zero => intro x1 x3 x4 x5 i_kinds i_weights b_x1 b_x3 b_x4 b_x5 b_i_kinds h_i_weights mk9 hm; exfalso; omega
  | succ n ih =>
    intro x1 x3 x4 x5 i_kinds i_weights b_x1 b_x3 b_x4 b_x5 b_i_kinds h_i_weights mk9 hm
    show zok (f_Planner_firstState_48_b i_hill_columns_many i_hill_columns_heights i_hill_columns_weights k9 (f_Planner_firstState_48 i_hill_columns_many i_hill_columns_heights i_hill_columns_weights k9 n) x1 x3 x4 x5 i_kinds i_weights) _
    unfold f_Planner_firstState_48_b
    refine zk_ifc (zci_le (by omega) (by omega)) (fun hc => ?_) (fun hc => ?_)
    · refine zk_n ?_
      exact hk9 _ _ _ _ (by omega) (by omega) (by omega) h_i_weights (by omega)
    · refine zk_d1 (s_Columns_heft _ _ _ _ _ (by omega) (by omega) (by omega) h_i_hill_columns_heights h_i_hill_columns_weights) (fun v2 hp => ?_)
      try dsimp only at hp
      have hpp0 := hp
      refine zk_d3 (s_Planner_kindOf _ _ _ (by omega) (by omega) h_i_weights) (fun v3 v4 a5 hp_2 => ?_)
      try dsimp only at hp_2
      obtain ⟨hp_2p0, hp_2p1, hp_2p2⟩ := hp_2
      refine zk_nE (fun v6 h_v6 => ?_)
      rw [zwi (by omega)] at h_v6
      replace h_v6 := h_v6.symm
      subst h_v6
      refine zk_n ?_
      refine zk_n ?_
      refine zk_n ?_
      refine zk_nE (fun v10 h_v10 => ?_)
      have r_v10 := zl_shl_f v3 ((15 * x3) + (3 * x5)); rw [← h_v10] at r_v10
      refine zk_nE (fun v11 h_v11 => ?_)
      have r_v11 := zl_or_f x1 v10; rw [← h_v11] at r_v11
      refine zk_n ?_
      exact ih _ _ _ _ _ _ (by omega) (by omega) (by omega) (by omega) (by omega) hp_2p2 (by omega) (by omega)
set_option maxHeartbeats 4000000 in
theorem s_Planner_firstState_9 (i_hill_columns_many : Int) (i_hill_columns_heights : Nat → Int) (i_hill_columns_weights : Nat → Int) (b_i_hill_columns_many : 0 ≤ i_hill_columns_many ∧ i_hill_columns_many ≤ 12) (h_i_hill_columns_heights : zR i_hill_columns_heights 0 10) (h_i_hill_columns_weights : zR i_hill_columns_weights 0 30) : ∀ (n : Nat) (x1 : Int) (x3 : Int) (i_kinds : Int) (i_weights : Nat → Int), ((-9223372036854775808) ≤ x1 ∧ x1 ≤ 9223372036854775807) → (0 ≤ x3 ∧ x3 ≤ 4) → (0 ≤ i_kinds ∧ i_kinds ≤ 5) → (zR i_weights 0 30) → (5 - x3) < (n : Int) → zok (f_Planner_firstState_9 i_hill_columns_many i_hill_columns_heights i_hill_columns_weights n x1 x3 i_kinds i_weights) (fun o => ((-9223372036854775808) ≤ o.1 ∧ o.1 ≤ 9223372036854775807) ∧ (0 ≤ o.2.1 ∧ o.2.1 ≤ 5) ∧ zR o.2.2 0 30) := by
  intro n
  induction n with
  | zero => intro x1 x3 i_kinds i_weights b_x1 b_x3 b_i_kinds h_i_weights hm; exfalso; omega
  | succ n ih =>
    intro x1 x3 i_kinds i_weights b_x1 b_x3 b_i_kinds h_i_weights hm
    show zok (f_Planner_firstState_9_b i_hill_columns_many i_hill_columns_heights i_hill_columns_weights (f_Planner_firstState_9 i_hill_columns_many i_hill_columns_heights i_hill_columns_weights n) x1 x3 i_kinds i_weights) _
    unfold f_Planner_firstState_9_b
    refine zk_ifc (zci_le (by omega) (by omega)) (fun hc => ?_) (fun hc => ?_)
    · refine zk_ret ?_
      try dsimp only
      exact ⟨by omega, by omega, h_i_weights⟩
    · refine zk_ifc (zci_le (by omega) (by omega)) (fun hc_2 => ?_) (fun hc_2 => ?_)
      · refine zk_ret ?_
        try dsimp only
        exact ⟨by omega, by omega, h_i_weights⟩
      · refine zk_d1 (s_Columns_high _ _ _ (by omega) (by omega) h_i_hill_columns_heights) (fun v1 hp => ?_)
        try dsimp only at hp
        obtain ⟨hpp0, hpp1⟩ := hp
        refine zk_nE (fun v2 h_v2 => ?_)
        have r_v2 := zi_min_f (5) (by omega) (v1) (by omega); rw [← h_v2] at r_v2
        exact s_Planner_firstState_48 _ _ _ _ n ih (by omega) h_i_hill_columns_heights h_i_hill_columns_weights zfu _ _ _ _ _ _ (by omega) (by omega) (by omega) (by omega) (by omega) h_i_weights (by omega) (by unfold zfu; omega)
set_option maxHeartbeats 4000000 in
theorem s_Planner_firstState (i_hill_columns_many : Int) (i_hill_columns_heights : Nat → Int) (i_hill_columns_weights : Nat → Int) (i_kinds : Int) (i_weights : Nat → Int) (b_i_hill_columns_many : 0 ≤ i_hill_columns_many ∧ i_hill_columns_many ≤ 12) (h_i_hill_columns_heights : zR i_hill_columns_heights 0 10) (h_i_hill_columns_weights : zR i_hill_columns_weights 0 30) (b_i_kinds : 0 ≤ i_kinds ∧ i_kinds ≤ 5) (h_i_weights : zR i_weights 0 30) : zok (f_Planner_firstState i_hill_columns_many i_hill_columns_heights i_hill_columns_weights i_kinds i_weights) (fun o => ((-9223372036854775808) ≤ o.1 ∧ o.1 ≤ 9223372036854775807) ∧ (0 ≤ o.2.1 ∧ o.2.1 ≤ 5) ∧ zR o.2.2 0 30) := by
  unfold f_Planner_firstState
  exact s_Planner_firstState_9 _ _ _ (by omega) h_i_hill_columns_heights h_i_hill_columns_weights zfu _ _ _ _ (by omega) (by omega) (by omega) h_i_weights (by unfold zfu; omega)
set_option maxHeartbeats 4000000 in
theorem s_Planner_look_37  (k2 : Int → Int → (Nat → Int) → (Nat → Int) → Option ((Nat → Int) × (Nat → Int))) (Nk2 : Nat) (hk2 : ∀ (x1 : Int) (x3 : Int) (i_heights : Nat → Int) (i_tops : Nat → Int), ((-9223372036854775808) ≤ x1 ∧ x1 ≤ 9223372036854775807) → (0 ≤ x3 ∧ x3 ≤ 4) → (zR i_heights 0 5) → (zR i_tops 0 7) → (5 - x3) < (Nk2 : Int) → zok (k2 x1 x3 i_heights i_tops) (fun o => zR o.1 0 5 ∧ zR o.2 0 7))  : ∀ (n : Nat) (x1 : Int) (x3 : Int) (x4 : Int) (x5 : Int) (i_heights : Nat → Int) (i_tops : Nat → Int), ((-9223372036854775808) ≤ x1 ∧ x1 ≤ 9223372036854775807) → (0 ≤ x3 ∧ x3 ≤ 3) → (0 ≤ x4 ∧ x4 ≤ 32767) → (0 ≤ x5 ∧ x5 ≤ 5) → (zR i_heights 0 5) → (zR i_tops 0 7) → (i_heights x3.toNat ≤ x5) → (5 - x3) < (Nk2 : Int) + 1 → (6 - x5) < (n : Int) → zok (f_Planner_look_37 k2 n x1 x3 x4 x5 i_heights i_tops) (fun o => zR o.1 0 5 ∧ zR o.2 0 7) := by
  intro n
  induction n with
  | zero => intro x1 x3 x4 x5 i_heights i_tops b_x1 b_x3 b_x4 b_x5 h_i_heights h_i_tops p_0 mk2 hm; exfalso; omega
  | succ n ih =>
    intro x1 x3 x4 x5 i_heights i_tops b_x1 b_x3 b_x4 b_x5 h_i_heights h_i_tops p_0 mk2 hm
    show zok (f_Planner_look_37_b k2 (f_Planner_look_37 k2 n) x1 x3 x4 x5 i_heights i_tops) _
    unfold f_Planner_look_37_b
    refine zk_ifc (zci_le (by omega) (by omega)) (fun hc => ?_) (fun hc => ?_)
    · unfold f_Planner_look_81
      refine zk_n ?_
      exact hk2 _ _ _ _ (by omega) (by omega) h_i_heights h_i_tops (by omega)
    · refine zk_ifc (zci_eqr (by omega)) (fun hc_2 => ?_) (fun hc_2 => ?_)
      · unfold f_Planner_look_81
        refine zk_n ?_
        exact hk2 _ _ _ _ (by omega) (by omega) h_i_heights h_i_tops (by omega)
      · refine zk_gv (by omega) (by decide) (fun v1_3 h_v1_3 => ?_)
        have r_v1_3 := h_i_heights (x3.toNat)
        refine zk_n ?_
        refine zk_sv (by omega) (by decide) (fun a3 h_a3 => ?_)
        have i_a3 : zR a3 0 5 := by rw [h_a3]; exact zR_zu h_i_heights (by decide) (by decide) (by omega)
        have m_a3 := zu_rd h_a3 x3.toNat
        refine zk_nE (fun v4 h_v4 => ?_)
        have r_v4 := zi_and_m x4 (m := 7) (by decide); rw [← h_v4] at r_v4
        refine zk_sv (by omega) (by decide) (fun a5 h_a5 => ?_)
        have i_a5 : zR a5 0 7 := by rw [h_a5]; exact zR_zu h_i_tops (by decide) (by decide) (by omega)
        refine zk_nE (fun v6 h_v6 => ?_)
        rw [show (3 : Int) = ((3 : Nat) : Int) from rfl, zi_shr_k 3 8 (by decide) (by decide) (by omega)] at h_v6
        refine zk_n ?_
        exact ih _ _ _ _ _ _ (by omega) (by omega) (by omega) (by omega) i_a3 i_a5 (by omega) (by omega) (by omega)
set_option maxHeartbeats 4000000 in
theorem s_Planner_look_2   : ∀ (n : Nat) (x1 : Int) (x3 : Int) (i_heights : Nat → Int) (i_tops : Nat → Int), ((-9223372036854775808) ≤ x1 ∧ x1 ≤ 9223372036854775807) → (0 ≤ x3 ∧ x3 ≤ 4) → (zR i_heights 0 5) → (zR i_tops 0 7) → (5 - x3) < (n : Int) → zok (f_Planner_look_2  n x1 x3 i_heights i_tops) (fun o => zR o.1 0 5 ∧ zR o.2 0 7) := by
  intro n
  induction n with
  | zero => intro x1 x3 i_heights i_tops b_x1 b_x3 h_i_heights h_i_tops hm; exfalso; omega
  | succ n ih =>
    intro x1 x3 i_heights i_tops b_x1 b_x3 h_i_heights h_i_tops hm
    show zok (f_Planner_look_2_b  (f_Planner_look_2  n) x1 x3 i_heights i_tops) _
    unfold f_Planner_look_2_b
    refine zk_ifc (zci_le (by omega) (by omega)) (fun hc => ?_) (fun hc => ?_)
    · refine zk_ret ?_
      try dsimp only
      exact ⟨h_i_heights, h_i_tops⟩
    · refine zk_n ?_
      refine zk_nE (fun v2 h_v2 => ?_)
      have r_v2 := zl_ushr_f x1 (15 * x3); rw [← h_v2] at r_v2
      refine zk_nE (fun v3 h_v3 => ?_)
      have r_v3 := zi_and_m v2 (m := 32767) (by decide); rw [← h_v3] at r_v3
      refine zk_sv (by omega) (by decide) (fun a4 h_a4 => ?_)
      have i_a4 : zR a4 0 5 := by rw [h_a4]; exact zR_zu h_i_heights (by decide) (by decide) (by omega)
      have m_a4 := zu_rd h_a4 x3.toNat
      refine zk_sv (by omega) (by decide) (fun a5 h_a5 => ?_)
      have i_a5 : zR a5 0 7 := by rw [h_a5]; exact zR_zu h_i_tops (by decide) (by decide) (by omega)
      exact s_Planner_look_37 _ n ih zfu _ _ _ _ _ _ (by omega) (by omega) (by omega) (by omega) i_a4 i_a5 (by omega) (by omega) (by unfold zfu; omega)
set_option maxHeartbeats 4000000 in
theorem s_Planner_look (x1 : Int) (i_heights : Nat → Int) (i_tops : Nat → Int) (b_x1 : (-9223372036854775808) ≤ x1 ∧ x1 ≤ 9223372036854775807) (h_i_heights : zR i_heights 0 5) (h_i_tops : zR i_tops 0 7) : zok (f_Planner_look x1 i_heights i_tops) (fun o => zR o.1 0 5 ∧ zR o.2 0 7) := by
  unfold f_Planner_look
  exact s_Planner_look_2 zfu _ _ _ _ (by omega) (by omega) h_i_heights h_i_tops (by unfold zfu; omega)
set_option maxHeartbeats 4000000 in
theorem s_Planner_leave_30 (i_costs : Nat → Int)  : ∀ (n : Nat) (x1 : Int) (x2 : Int) (x3 : Int) (i_queued : Int) (i_queue : Nat → Int) (i_queuedAt : Nat → Int), (0 ≤ x1 ∧ x1 ≤ 6719) → (0 ≤ x2 ∧ x2 ≤ 6719) → (0 ≤ x3 ∧ x3 ≤ 14) → (0 ≤ i_queued ∧ i_queued ≤ 6719) → (zR i_queue 0 6719) → (zR i_queuedAt 0 6719) → (15 - x3) < (n : Int) → zok (f_Planner_leave_30 i_costs n x1 x2 x3 i_queued i_queue i_queuedAt) (fun o => (0 ≤ o.1 ∧ o.1 ≤ 6719) ∧ (0 ≤ o.2.1 ∧ o.2.1 ≤ 6719) ∧ zR o.2.2.1 0 6719 ∧ zR o.2.2.2 0 6719 ∧ (o.2.1 ≤ i_queued)) := by
  intro n
  induction n with
  | zero => intro x1 x2 x3 i_queued i_queue i_queuedAt b_x1 b_x2 b_x3 b_i_queued h_i_queue h_i_queuedAt hm; exfalso; omega
  | succ n ih =>
    intro x1 x2 x3 i_queued i_queue i_queuedAt b_x1 b_x2 b_x3 b_i_queued h_i_queue h_i_queuedAt hm
    show zok (f_Planner_leave_30_b i_costs (f_Planner_leave_30 i_costs n) x1 x2 x3 i_queued i_queue i_queuedAt) _
    unfold f_Planner_leave_30_b
    refine zk_ifc (zci_le (by omega) (by omega)) (fun hc => ?_) (fun hc => ?_)
    · refine zk_ret ?_
      try dsimp only
      exact ⟨by omega, by omega, h_i_queue, h_i_queuedAt, by omega⟩
    · refine zk_n ?_
      refine zk_n ?_
      refine zk_n ?_
      refine zk_ifc (zci_le (by omega) (by omega)) (fun hc_2 => ?_) (fun hc_2 => ?_)
      · unfold f_Planner_leave_87
        refine zk_ifc (zci_le (by omega) (by omega)) (fun hc_3 => ?_) (fun hc_3 => ?_)
        · refine zk_ret ?_
          try dsimp only
          exact ⟨by omega, by omega, h_i_queue, h_i_queuedAt, by omega⟩
        · refine zk_gv (by omega) (by decide) (fun v1_2 h_v1_2 => ?_)
          have r_v1_2 := h_i_queue (x2.toNat)
          refine zk_gv (by omega) (by decide) (fun v2_2 h_v2_2 => ?_)
          refine zk_gv (by omega) (by decide) (fun v3_2 h_v3_2 => ?_)
          have r_v3_2 := h_i_queue (((2 * x2) + 1).toNat)
          refine zk_gv (by omega) (by decide) (fun v4 h_v4 => ?_)
          refine zk_if (fun hc_4 => ?_) (fun hc_4 => ?_)
          · refine zk_d2 (s_Planner_swap _ _ _ _ (by omega) (by omega) h_i_queue h_i_queuedAt) (fun a5 a6 hp => ?_)
            try dsimp only at hp
            obtain ⟨hpp0, hpp1⟩ := hp
            refine zk_n ?_
            refine zok_mono (ih _ _ _ _ _ _ (by omega) (by omega) (by omega) (by omega) hpp0 hpp1 (by omega)) (fun o ho => ?_)
            try dsimp only at ho
            obtain ⟨ho_0, ho_1, ho_2, ho_3, ho_4⟩ := ho
            exact ⟨by omega, by omega, ho_2, ho_3, by omega⟩
          · refine zk_ret ?_
            try dsimp only
            exact ⟨by omega, by omega, h_i_queue, h_i_queuedAt, by omega⟩
      · refine zk_n ?_
        refine zk_gv (by omega) (by decide) (fun v5 h_v5 => ?_)
        have r_v5 := h_i_queue ((((2 * x2) + 1) + 1).toNat)
        refine zk_gv (by omega) (by decide) (fun v6 h_v6 => ?_)
        refine zk_gv (by omega) (by decide) (fun v7_2 h_v7_2 => ?_)
        have r_v7_2 := h_i_queue (((2 * x2) + 1).toNat)
        refine zk_gv (by omega) (by decide) (fun v8 h_v8 => ?_)
        refine zk_if (fun hc_5 => ?_) (fun hc_5 => ?_)
        · unfold f_Planner_leave_87
          refine zk_ifc (zci_le (by omega) (by omega)) (fun hc_6 => ?_) (fun hc_6 => ?_)
          · refine zk_ret ?_
            try dsimp only
            exact ⟨by omega, by omega, h_i_queue, h_i_queuedAt, by omega⟩
          · refine zk_gv (by omega) (by decide) (fun v1_3 h_v1_3 => ?_)
            have r_v1_3 := h_i_queue (x2.toNat)
            refine zk_gv (by omega) (by decide) (fun v2_3 h_v2_3 => ?_)
            refine zk_gv (by omega) (by decide) (fun v3_3 h_v3_3 => ?_)
            have r_v3_3 := h_i_queue (((2 * x2) + 1).toNat)
            refine zk_gv (by omega) (by decide) (fun v4_3 h_v4_3 => ?_)
            refine zk_if (fun hc_7 => ?_) (fun hc_7 => ?_)
            · refine zk_d2 (s_Planner_swap _ _ _ _ (by omega) (by omega) h_i_queue h_i_queuedAt) (fun a5_2 a6_2 hp_2 => ?_)
              try dsimp only at hp_2
              obtain ⟨hp_2p0, hp_2p1⟩ := hp_2
              refine zk_n ?_
              refine zok_mono (ih _ _ _ _ _ _ (by omega) (by omega) (by omega) (by omega) hp_2p0 hp_2p1 (by omega)) (fun o ho => ?_)
              try dsimp only at ho
              obtain ⟨ho_0, ho_1, ho_2, ho_3, ho_4⟩ := ho
              exact ⟨by omega, by omega, ho_2, ho_3, by omega⟩
            · refine zk_ret ?_
              try dsimp only
              exact ⟨by omega, by omega, h_i_queue, h_i_queuedAt, by omega⟩
        · refine zk_n ?_
          unfold f_Planner_leave_87
          refine zk_ifc (zci_le (by omega) (by omega)) (fun hc_8 => ?_) (fun hc_8 => ?_)
          · refine zk_ret ?_
            try dsimp only
            exact ⟨by omega, by omega, h_i_queue, h_i_queuedAt, by omega⟩
          · refine zk_gv (by omega) (by decide) (fun v1_4 h_v1_4 => ?_)
            have r_v1_4 := h_i_queue (x2.toNat)
            refine zk_gv (by omega) (by decide) (fun v2_4 h_v2_4 => ?_)
            refine zk_gv (by omega) (by decide) (fun v3_4 h_v3_4 => ?_)
            have r_v3_4 := h_i_queue ((((2 * x2) + 1) + 1).toNat)
            refine zk_gv (by omega) (by decide) (fun v4_4 h_v4_4 => ?_)
            refine zk_if (fun hc_9 => ?_) (fun hc_9 => ?_)
            · refine zk_d2 (s_Planner_swap _ _ _ _ (by omega) (by omega) h_i_queue h_i_queuedAt) (fun a5_3 a6_3 hp_3 => ?_)
              try dsimp only at hp_3
              obtain ⟨hp_3p0, hp_3p1⟩ := hp_3
              refine zk_n ?_
              refine zok_mono (ih _ _ _ _ _ _ (by omega) (by omega) (by omega) (by omega) hp_3p0 hp_3p1 (by omega)) (fun o ho => ?_)
              try dsimp only at ho
              obtain ⟨ho_0, ho_1, ho_2, ho_3, ho_4⟩ := ho
              exact ⟨by omega, by omega, ho_2, ho_3, by omega⟩
            · refine zk_ret ?_
              try dsimp only
              exact ⟨by omega, by omega, h_i_queue, h_i_queuedAt, by omega⟩
set_option maxHeartbeats 4000000 in
theorem s_Planner_leave (i_costs : Nat → Int) (i_queued : Int) (i_queue : Nat → Int) (i_queuedAt : Nat → Int) (b_i_queued : 1 ≤ i_queued ∧ i_queued ≤ 6720) (h_i_queue : zR i_queue 0 6719) (h_i_queuedAt : zR i_queuedAt 0 6719) : zok (f_Planner_leave i_costs i_queued i_queue i_queuedAt) (fun o => (0 ≤ o.1 ∧ o.1 ≤ 6719) ∧ (0 ≤ o.2.1 ∧ o.2.1 ≤ 6719) ∧ zR o.2.2.1 0 6719 ∧ zR o.2.2.2 0 6719 ∧ (o.2.1 ≤ i_queued)) := by
  unfold f_Planner_leave
  refine zk_gl 0 rfl (by decide) (by decide) (fun v1 h_v1 => ?_)
  have r_v1 := h_i_queue (0)
  refine zk_n ?_
  refine zk_d2 (s_Planner_swap _ _ _ _ (by omega) (by omega) h_i_queue h_i_queuedAt) (fun a3 a4 hp => ?_)
  try dsimp only at hp
  obtain ⟨hpp0, hpp1⟩ := hp
  refine zok_mono (s_Planner_leave_30 _ zfu _ _ _ _ _ _ (by omega) (by omega) (by omega) (by omega) hpp0 hpp1 (by unfold zfu; omega)) (fun o ho => ?_)
  try dsimp only at ho
  obtain ⟨ho_0, ho_1, ho_2, ho_3, ho_4⟩ := ho
  exact ⟨by omega, by omega, ho_2, ho_3, by omega⟩
set_option maxHeartbeats 4000000 in
theorem s_Planner_search_33 (i_hill_children : Int) (i_hill_laws : Int) (i_hill_inForce : Int) (i_hill_changes : Int) (i_hill_columns_many : Int) (i_hill_strengths : Nat → Int) (i_hill_expelled : Nat → Int) (i_hill_terms : Nat → Int) (i_hill_goals : Nat → Int) (i_hill_orders : Nat → Int) (i_hill_ordered : Nat → Int) (i_hill_columns_heights : Nat → Int) (i_hill_columns_weights : Nat → Int) (b_i_hill_children : 0 ≤ i_hill_children ∧ i_hill_children ≤ 6) (b_i_hill_laws : 0 ≤ i_hill_laws ∧ i_hill_laws ≤ 6) (b_i_hill_inForce : (-1) ≤ i_hill_inForce ∧ i_hill_inForce ≤ 5) (b_i_hill_columns_many : 0 ≤ i_hill_columns_many ∧ i_hill_columns_many ≤ 12) (h_i_hill_strengths : zR i_hill_strengths 0 60) (h_i_hill_expelled : zR i_hill_expelled 0 1) (h_i_hill_terms : zR i_hill_terms 0 99) (h_i_hill_goals : zR i_hill_goals (-1) 10) (h_i_hill_orders : zR i_hill_orders (-2147483648) 2147483647) (h_i_hill_ordered : zR i_hill_ordered 0 424) (h_i_hill_columns_heights : zR i_hill_columns_heights 0 10) (h_i_hill_columns_weights : zR i_hill_columns_weights 0 30) : ∀ (n : Nat) (x1 : Int) (x2 : Int) (x3 : Int) (i_kinds : Int) (i_found : Int) (i_queued : Int) (i_slots : Nat → Int) (i_states : Nat → Int) (i_costs : Nat → Int) (i_before : Nat → Int) (i_by : Nat → Int) (i_queue : Nat → Int) (i_queuedAt : Nat → Int) (i_weights : Nat → Int) (i_heights : Nat → Int) (i_tops : Nat → Int) (i_carriers_judge_piled : Int) (i_carriers_judge_tiring : Int) (i_carriers_judge_barred : Int) (i_carriers_notes : Nat → Int) (i_carriers_judge_words : Nat → Int) (i_carriers_judge_pile : Nat → Int), (0 ≤ x1 ∧ x1 ≤ 2) → ((-1) ≤ x2 ∧ x2 ≤ 6719) → (0 ≤ x3 ∧ x3 ≤ 6720) → (0 ≤ i_kinds ∧ i_kinds ≤ 5) → (0 ≤ i_found ∧ i_found ≤ 6720) → (0 ≤ i_queued ∧ i_queued ≤ 6720) → (zR i_slots 0 6720) → (zR i_states (-9223372036854775808) 9223372036854775807) → (zR i_before (-1) 6719) → (zR i_by 0 150) → (zR i_queue 0 6719) → (zR i_queuedAt 0 6719) → (zR i_weights 0 30) → (zR i_heights 0 5) → (zR i_tops 0 7) → (0 ≤ i_carriers_judge_piled ∧ i_carriers_judge_piled ≤ 32) → (0 ≤ i_carriers_judge_tiring ∧ i_carriers_judge_tiring ≤ 2147483647) → (0 ≤ i_carriers_judge_barred ∧ i_carriers_judge_barred ≤ 1) → (zR i_carriers_notes (-2147483648) 2147483647) → (zR i_carriers_judge_words 0 99) → (i_queued ≤ i_found) → (6721 - x3) < (n : Int) → zok (f_Planner_search_33 i_hill_children i_hill_laws i_hill_inForce i_hill_changes i_hill_columns_many i_hill_strengths i_hill_expelled i_hill_terms i_hill_goals i_hill_orders i_hill_ordered i_hill_columns_heights i_hill_columns_weights n x1 x2 x3 i_kinds i_found i_queued i_slots i_states i_costs i_before i_by i_queue i_queuedAt i_weights i_heights i_tops i_carriers_judge_piled i_carriers_judge_tiring i_carriers_judge_barred i_carriers_notes i_carriers_judge_words i_carriers_judge_pile) (fun o => ((-1) ≤ o.1 ∧ o.1 ≤ 6719) ∧ (0 ≤ o.2.1 ∧ o.2.1 ≤ 5) ∧ (0 ≤ o.2.2.1 ∧ o.2.2.1 ≤ 6720) ∧ (0 ≤ o.2.2.2.1 ∧ o.2.2.2.1 ≤ 6720) ∧ (0 ≤ o.2.2.2.2.2.2.2.2.2.2.2.2.2.2.1 ∧ o.2.2.2.2.2.2.2.2.2.2.2.2.2.2.1 ≤ 32) ∧ (0 ≤ o.2.2.2.2.2.2.2.2.2.2.2.2.2.2.2.1 ∧ o.2.2.2.2.2.2.2.2.2.2.2.2.2.2.2.1 ≤ 2147483647) ∧ (0 ≤ o.2.2.2.2.2.2.2.2.2.2.2.2.2.2.2.2.1 ∧ o.2.2.2.2.2.2.2.2.2.2.2.2.2.2.2.2.1 ≤ 1) ∧ zR o.2.2.2.2.1 0 6720 ∧ zR o.2.2.2.2.2.1 (-9223372036854775808) 9223372036854775807 ∧ zR o.2.2.2.2.2.2.2.1 (-1) 6719 ∧ zR o.2.2.2.2.2.2.2.2.1 0 150 ∧ zR o.2.2.2.2.2.2.2.2.2.1 0 6719 ∧ zR o.2.2.2.2.2.2.2.2.2.2.1 0 6719 ∧ zR o.2.2.2.2.2.2.2.2.2.2.2.1 0 30 ∧ zR o.2.2.2.2.2.2.2.2.2.2.2.2.1 0 5 ∧ zR o.2.2.2.2.2.2.2.2.2.2.2.2.2.1 0 7 ∧ zR o.2.2.2.2.2.2.2.2.2.2.2.2.2.2.2.2.2.1 (-2147483648) 2147483647 ∧ zR o.2.2.2.2.2.2.2.2.2.2.2.2.2.2.2.2.2.2.1 0 99) := by
  intro n
  induction n with
  | zero => intro x1 x2 x3 i_kinds i_found i_queued i_slots i_states i_costs i_before i_by i_queue i_queuedAt i_weights i_heights i_tops i_carriers_judge_piled i_carriers_judge_tiring i_carriers_judge_barred i_carriers_notes i_carriers_judge_words i_carriers_judge_pile b_x1 b_x2 b_x3 b_i_kinds b_i_found b_i_queued h_i_slots h_i_states h_i_before h_i_by h_i_queue h_i_queuedAt h_i_weights h_i_heights h_i_tops b_i_carriers_judge_piled b_i_carriers_judge_tiring b_i_carriers_judge_barred h_i_carriers_notes h_i_carriers_judge_words p_0 hm; exfalso; omega
  | succ n ih =>
    intro x1 x2 x3 i_kinds i_found i_queued i_slots i_states i_costs i_before i_by i_queue i_queuedAt i_weights i_heights i_tops i_carriers_judge_piled i_carriers_judge_tiring i_carriers_judge_barred i_carriers_notes i_carriers_judge_words i_carriers_judge_pile b_x1 b_x2 b_x3 b_i_kinds b_i_found b_i_queued h_i_slots h_i_states h_i_before h_i_by h_i_queue h_i_queuedAt h_i_weights h_i_heights h_i_tops b_i_carriers_judge_piled b_i_carriers_judge_tiring b_i_carriers_judge_barred h_i_carriers_notes h_i_carriers_judge_words p_0 hm
    show zok (f_Planner_search_33_b i_hill_children i_hill_laws i_hill_inForce i_hill_changes i_hill_columns_many i_hill_strengths i_hill_expelled i_hill_terms i_hill_goals i_hill_orders i_hill_ordered i_hill_columns_heights i_hill_columns_weights (f_Planner_search_33 i_hill_children i_hill_laws i_hill_inForce i_hill_changes i_hill_columns_many i_hill_strengths i_hill_expelled i_hill_terms i_hill_goals i_hill_orders i_hill_ordered i_hill_columns_heights i_hill_columns_weights n) x1 x2 x3 i_kinds i_found i_queued i_slots i_states i_costs i_before i_by i_queue i_queuedAt i_weights i_heights i_tops i_carriers_judge_piled i_carriers_judge_tiring i_carriers_judge_barred i_carriers_notes i_carriers_judge_words i_carriers_judge_pile) _
    unfold f_Planner_search_33_b
    refine zk_ifc (zci_le (by omega) (by omega)) (fun hc => ?_) (fun hc => ?_)
    · refine zk_ret ?_
      try dsimp only
      exact ⟨by omega, by omega, by omega, by omega, by omega, by omega, by omega, h_i_slots, h_i_states, h_i_before, h_i_by, h_i_queue, h_i_queuedAt, h_i_weights, h_i_heights, h_i_tops, h_i_carriers_notes, h_i_carriers_judge_words⟩
    · refine zk_ifc (zci_ler (by omega)) (fun hc_2 => ?_) (fun hc_2 => ?_)
      · refine zk_ret ?_
        try dsimp only
        exact ⟨by omega, by omega, by omega, by omega, by omega, by omega, by omega, h_i_slots, h_i_states, h_i_before, h_i_by, h_i_queue, h_i_queuedAt, h_i_weights, h_i_heights, h_i_tops, h_i_carriers_notes, h_i_carriers_judge_words⟩
      · refine zk_d4 (s_Planner_leave _ _ _ _ (by omega) h_i_queue h_i_queuedAt) (fun v1 v2 a3 a4 hp => ?_)
        try dsimp only at hp
        obtain ⟨hpp0, hpp1, hpp2, hpp3, hpp4⟩ := hp
        refine zk_ifc (zci_eq (by omega) (by omega)) (fun hc_3 => ?_) (fun hc_3 => ?_)
        · unfold f_Planner_search_77
          refine zk_gv (by omega) (by decide) (fun v1_2 h_v1_2 => ?_)
          have r_v1_2 := h_i_states (v1.toNat)
          refine zk_d2 (s_Planner_look _ _ _ (by omega) h_i_heights h_i_tops) (fun a2 a3_2 hp_2 => ?_)
          try dsimp only at hp_2
          obtain ⟨hp_2p0, hp_2p1⟩ := hp_2
          refine zk_d1 (s_Planner_goalsAreSo _ _ _ hp_2p0 (by omega) h_i_hill_goals) (fun v4 hp_3 => ?_)
          try dsimp only at hp_3
          have hp_3p0 := hp_3
          refine zk_ifc (zci_eqr (by omega)) (fun hc_4 => ?_) (fun hc_4 => ?_)
          · refine zk_ifc (zci_ne (by omega) (by omega)) (fun hc_5 => ?_) (fun hc_5 => ?_)
            · exfalso; omega
            · refine zk_d16 (s_Planner_goOn _ _ _ _ _ _ _ _ _ _ _ _ _ _ _ _ _ _ _ _ _ _ _ _ _ _ _ _ _ _ (by omega) (by omega) (by omega) (by omega) (by omega) h_i_weights hp_2p1 (by omega) h_i_hill_strengths h_i_hill_expelled h_i_hill_terms h_i_hill_orders h_i_hill_ordered (by omega) (by omega) h_i_slots h_i_states h_i_before h_i_by hpp2 hpp3 hp_2p0 (by omega) (by omega) (by omega) h_i_carriers_notes h_i_carriers_judge_words (by omega)) (fun v5 v6 a7 a8 a9 a10 a11 a12 a13 a14 v15 v16 v17 a18 a19 a20 hp_4 => ?_)
              try dsimp only at hp_4
              obtain ⟨hp_4p0, hp_4p1, hp_4p2, hp_4p3, hp_4p4, hp_4p5, hp_4p6, hp_4p7, hp_4p8, hp_4p9, hp_4p10, hp_4p11, hp_4p12, hp_4p13, hp_4p14⟩ := hp_4
              unfold f_Planner_search_140
              refine zk_n ?_
              exact ih _ _ _ _ _ _ _ _ _ _ _ _ _ _ _ _ _ _ _ _ _ _ (by omega) (by omega) (by omega) (by omega) (by omega) (by omega) hp_4p5 hp_4p6 hp_4p7 hp_4p8 hp_4p9 hp_4p10 h_i_weights hp_4p11 hp_2p1 (by omega) (by omega) (by omega) hp_4p12 hp_4p13 (by omega) (by omega)
          · refine zk_ifc (zci_eq (by omega) (by omega)) (fun hc_6 => ?_) (fun hc_6 => ?_)
            · unfold f_Planner_search_122
              unfold f_Planner_search_140
              refine zk_n ?_
              exact ih _ _ _ _ _ _ _ _ _ _ _ _ _ _ _ _ _ _ _ _ _ _ (by omega) (by omega) (by omega) (by omega) (by omega) (by omega) h_i_slots h_i_states h_i_before h_i_by hpp2 hpp3 h_i_weights hp_2p0 hp_2p1 (by omega) (by omega) (by omega) h_i_carriers_notes h_i_carriers_judge_words (by omega) (by omega)
            · exfalso; omega
        · refine zk_gv (by omega) (by decide) (fun v5_2 h_v5_2 => ?_)
          refine zk_gv (by omega) (by decide) (fun v6_2 h_v6_2 => ?_)
          refine zk_if (fun hc_7 => ?_) (fun hc_7 => ?_)
          · unfold f_Planner_search_77
            refine zk_gv (by omega) (by decide) (fun v1_5 h_v1_5 => ?_)
            have r_v1_5 := h_i_states (v1.toNat)
            refine zk_d2 (s_Planner_look _ _ _ (by omega) h_i_heights h_i_tops) (fun a2_2 a3_3 hp_5 => ?_)
            try dsimp only at hp_5
            obtain ⟨hp_5p0, hp_5p1⟩ := hp_5
            refine zk_d1 (s_Planner_goalsAreSo _ _ _ hp_5p0 (by omega) h_i_hill_goals) (fun v4_2 hp_6 => ?_)
            try dsimp only at hp_6
            have hp_6p0 := hp_6
            refine zk_ifc (zci_eqr (by omega)) (fun hc_8 => ?_) (fun hc_8 => ?_)
            · refine zk_ifc (zci_ne (by omega) (by omega)) (fun hc_9 => ?_) (fun hc_9 => ?_)
              · unfold f_Planner_search_140
                refine zk_n ?_
                exact ih _ _ _ _ _ _ _ _ _ _ _ _ _ _ _ _ _ _ _ _ _ _ (by omega) (by omega) (by omega) (by omega) (by omega) (by omega) h_i_slots h_i_states h_i_before h_i_by hpp2 hpp3 h_i_weights hp_5p0 hp_5p1 (by omega) (by omega) (by omega) h_i_carriers_notes h_i_carriers_judge_words (by omega) (by omega)
              · exfalso; omega
            · refine zk_ifc (zci_eq (by omega) (by omega)) (fun hc_10 => ?_) (fun hc_10 => ?_)
              · exfalso; omega
              · refine zk_gv (by omega) (by decide) (fun v21 h_v21 => ?_)
                have r_v21 := h_i_before (v1.toNat)
                refine zk_gv (by omega) (by decide) (fun v22 h_v22 => ?_)
                have r_v22 := h_i_by (v1.toNat)
                refine zk_d1 (s_Planner_isEarlier _ _ _ _ _ (by omega) (by omega) (by omega) h_i_before h_i_by) (fun v23 hp_7 => ?_)
                try dsimp only at hp_7
                have hp_7p0 := hp_7
                refine zk_ifc (zci_eqr (by omega)) (fun hc_11 => ?_) (fun hc_11 => ?_)
                · unfold f_Planner_search_140
                  refine zk_n ?_
                  exact ih _ _ _ _ _ _ _ _ _ _ _ _ _ _ _ _ _ _ _ _ _ _ (by omega) (by omega) (by omega) (by omega) (by omega) (by omega) h_i_slots h_i_states h_i_before h_i_by hpp2 hpp3 h_i_weights hp_5p0 hp_5p1 (by omega) (by omega) (by omega) h_i_carriers_notes h_i_carriers_judge_words (by omega) (by omega)
                · unfold f_Planner_search_122
                  unfold f_Planner_search_140
                  refine zk_n ?_
                  exact ih _ _ _ _ _ _ _ _ _ _ _ _ _ _ _ _ _ _ _ _ _ _ (by omega) (by omega) (by omega) (by omega) (by omega) (by omega) h_i_slots h_i_states h_i_before h_i_by hpp2 hpp3 h_i_weights hp_5p0 hp_5p1 (by omega) (by omega) (by omega) h_i_carriers_notes h_i_carriers_judge_words (by omega) (by omega)
          · refine zk_ret ?_
            try dsimp only
            exact ⟨by omega, by omega, by omega, by omega, by omega, by omega, by omega, h_i_slots, h_i_states, h_i_before, h_i_by, hpp2, hpp3, h_i_weights, h_i_heights, h_i_tops, h_i_carriers_notes, h_i_carriers_judge_words⟩
