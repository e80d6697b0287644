theorem s_HM_findCosts_61 (i_row : Nat → Int) (i_weights : Nat → Int) (k2 : Int → Int → Int → Int → Int → Int → (Nat → Int) → (Nat → Int) → (Nat → Int) → Option (Int × Int × Int × Int × (Nat → Int) × (Nat → Int) × (Nat → Int))) (Nk2 : Nat) (hk2 : ∀ (x1 : Int) (x2 : Int) (i_law : Int) (i_broken : Int) (i_value : Int) (i_sum : Int) (i_set : Nat → Int) (i_rest : Nat → Int) (i_costs : Nat → Int), (0 ≤ x1 ∧ x1 ≤ 5) → (0 ≤ x2 ∧ x2 ≤ 6) → (zR i_costs (-1) 99) → (7 - x2) < (Nk2 : Int) → zok (k2 x1 x2 i_law i_broken i_value i_sum i_set i_rest i_costs) (fun o => zR o.2.2.2.2.2.2 (-1) 99)) (k14 : Int → Int → Int → Int → Int → Int → Int → (Nat → Int) → (Nat → Int) → (Nat → Int) → Option (Int × Int × Int × Int × (Nat → Int) × (Nat → Int) × (Nat → Int))) (Nk14 : Nat) (hk14 : ∀ (x1 : Int) (x2 : Int) (x3 : Int) (i_law : Int) (i_broken : Int) (i_value : Int) (i_sum : Int) (i_set : Nat → Int) (i_rest : Nat → Int) (i_costs : Nat → Int), (0 ≤ x1 ∧ x1 ≤ 5) → (0 ≤ x2 ∧ x2 ≤ 5) → (0 ≤ x3 ∧ x3 ≤ 5) → (zR i_costs (-1) 99) → (7 - x2) < (Nk2 : Int) + 1 → (6 - x3) < (Nk14 : Int) → zok (k14 x1 x2 x3 i_law i_broken i_value i_sum i_set i_rest i_costs) (fun o => zR o.2.2.2.2.2.2 (-1) 99)) (k22 : Int → Int → Int → Int → Int → Int → Int → Int → (Nat → Int) → (Nat → Int) → (Nat → Int) → Option (Int × Int × Int × Int × (Nat → Int) × (Nat → Int) × (Nat → Int))) (Nk22 : Nat) (hk22 : ∀ (x1 : Int) (x2 : Int) (x3 : Int) (x4 : Int) (i_law : Int) (i_broken : Int) (i_value : Int) (i_sum : Int) (i_set : Nat → Int) (i_rest : Nat → Int) (i_costs : Nat → Int), (0 ≤ x1 ∧ x1 ≤ 5) → (0 ≤ x2 ∧ x2 ≤ 5) → (0 ≤ x3 ∧ x3 ≤ 4) → (0 ≤ x4 ∧ x4 ≤ 16) → (zR i_costs (-1) 99) → (7 - x2) < (Nk2 : Int) + 1 → (6 - x3) < (Nk14 : Int) + 1 → (17 - x4) < (Nk22 : Int) → zok (k22 x1 x2 x3 x4 i_law i_broken i_value i_sum i_set i_rest i_costs) (fun o => zR o.2.2.2.2.2.2 (-1) 99)) (h_i_row : RI i_row) (h_i_weights : zR i_weights 0 30) : ∀ (n : Nat) (x1 : Int) (x2 : Int) (x3 : Int) (x4 : Int) (x5 : Int) (x6 : Int) (i_law : Int) (i_broken : Int) (i_value : Int) (i_sum : Int) (i_set : Nat → Int) (i_rest : Nat → Int) (i_costs : Nat → Int), (0 ≤ x1 ∧ x1 ≤ 5) → (0 ≤ x2 ∧ x2 ≤ 5) → (0 ≤ x3 ∧ x3 ≤ 4) → (0 ≤ x4 ∧ x4 ≤ 15) → (0 ≤ x5 ∧ x5 ≤ 1) → (0 ≤ x6 ∧ x6 ≤ 25) → (zR i_costs (-1) 99) → (7 - x2) < (Nk2 : Int) + 1 → (6 - x3) < (Nk14 : Int) + 1 → (17 - x4) < (Nk22 : Int) + 1 → (26 - x6) < (n : Int) → zok (f_HM_findCosts_61 i_row i_weights k2 k14 k22 n x1 x2 x3 x4 x5 x6 i_law i_broken i_value i_sum i_set i_rest i_costs) (fun o => zR o.2.2.2.2.2.2 (-1) 99) := by
  intro n
  induction n with
  | zero => intro x1 x2 x3 x4 x5 x6 i_law i_broken i_value i_sum i_set i_rest i_costs b_x1 b_x2 b_x3 b_x4 b_x5 b_x6 h_i_costs mk2 mk14 mk22 hm; exfalso; omega
  | succ n ih =>
    intro x1 x2 x3 x4 x5 x6 i_law i_broken i_value i_sum i_set i_rest i_costs b_x1 b_x2 b_x3 b_x4 b_x5 b_x6 h_i_costs mk2 mk14 mk22 hm
    show zok (f_HM_findCosts_61_b i_row i_weights k2 k14 k22 (f_HM_findCosts_61 i_row i_weights k2 k14 k22 n) x1 x2 x3 x4 x5 x6 i_law i_broken i_value i_sum i_set i_rest i_costs) _
    unfold f_HM_findCosts_61_b
    refine zk_ifc (zci_le (by omega) (by omega)) (fun hc => ?_) (fun hc => ?_)
    · refine zk_n ?_
      exact hk22 _ _ _ _ _ _ _ _ _ _ _ (by omega) (by omega) (by omega) (by omega) h_i_costs (by omega) (by omega) (by omega)
    · refine zk_n ?_
      refine zk_n ?_
      refine zk_n ?_
      refine zk_n ?_
      refine zk_n ?_
      refine zk_n ?_
      refine zk_ifc (zci_eqr (by omega)) (fun hc_2 => ?_) (fun hc_2 => ?_)
      · unfold f_HM_findCosts_127
        refine zk_sv (by omega) (by decide) (fun a1 h_a1 => ?_)
        have i_a1 : zR a1 (-1) 99 := by rw [h_a1]; exact zR_zu h_i_costs (by decide) (by decide) (by omega)
        refine zk_n ?_
        exact ih _ _ _ _ _ _ _ _ _ _ _ _ _ (by omega) (by omega) (by omega) (by omega) (by omega) (by omega) i_a1 (by omega) (by omega) (by omega) (by omega)
      · refine zk_gv (by omega) (by decide) (fun v8 h_v8 => ?_)
        have r_v8 := h_i_weights (x3.toNat)
        refine zk_g0zi_w (by omega) ?_
        refine zk_nE (fun v9 h_v9 => ?_)
        rw [zi_div_n (by omega) (by omega)] at h_v9
        refine zk_g0zi_w (by omega) ?_
        refine zk_nE (fun v10 h_v10 => ?_)
        rw [zi_rem_n (by omega) (by omega)] at h_v10
        refine zk_g0zi_w (by omega) ?_
        refine zk_nE (fun v11 h_v11 => ?_)
        rw [zi_div_n (by omega) (by omega)] at h_v11
        refine zk_n ?_
        refine zk_g0zi_w (by omega) ?_
        refine zk_nE (fun v13 h_v13 => ?_)
        rw [zi_rem_n (by omega) (by omega)] at h_v13
        refine zk_d7 (s_HM_tiring _ _ _ _ _ _ _ _ _ _ _ _ _ (by omega) (by omega) (by omega) (by omega) (by omega) (by omega) h_i_row) (fun v14 v15 v16 v17 v18 a19 a20 hp => ?_)
        try dsimp only at hp
        have hpp0 := hp
        unfold f_HM_findCosts_127
        refine zk_sv (by omega) (by decide) (fun a1_2 h_a1_2 => ?_)
        have i_a1_2 : zR a1_2 (-1) 99 := by rw [h_a1_2]; exact zR_zu h_i_costs (by decide) (by decide) (by omega)
        refine zk_n ?_
        exact ih _ _ _ _ _ _ _ _ _ _ _ _ _ (by omega) (by omega) (by omega) (by omega) (by omega) (by omega) i_a1_2 (by omega) (by omega) (by omega) (by omega)
theorem s_HM_findCosts_22 (i_row : Nat → Int) (i_weights : Nat → Int) (k2 : Int → Int → Int → Int → Int → Int → (Nat → Int) → (Nat → Int) → (Nat → Int) → Option (Int × Int × Int × Int × (Nat → Int) × (Nat → Int) × (Nat → Int))) (Nk2 : Nat) (hk2 : ∀ (x1 : Int) (x2 : Int) (i_law : Int) (i_broken : Int) (i_value : Int) (i_sum : Int) (i_set : Nat → Int) (i_rest : Nat → Int) (i_costs : Nat → Int), (0 ≤ x1 ∧ x1 ≤ 5) → (0 ≤ x2 ∧ x2 ≤ 6) → (zR i_costs (-1) 99) → (7 - x2) < (Nk2 : Int) → zok (k2 x1 x2 i_law i_broken i_value i_sum i_set i_rest i_costs) (fun o => zR o.2.2.2.2.2.2 (-1) 99)) (k14 : Int → Int → Int → Int → Int → Int → Int → (Nat → Int) → (Nat → Int) → (Nat → Int) → Option (Int × Int × Int × Int × (Nat → Int) × (Nat → Int) × (Nat → Int))) (Nk14 : Nat) (hk14 : ∀ (x1 : Int) (x2 : Int) (x3 : Int) (i_law : Int) (i_broken : Int) (i_value : Int) (i_sum : Int) (i_set : Nat → Int) (i_rest : Nat → Int) (i_costs : Nat → Int), (0 ≤ x1 ∧ x1 ≤ 5) → (0 ≤ x2 ∧ x2 ≤ 5) → (0 ≤ x3 ∧ x3 ≤ 5) → (zR i_costs (-1) 99) → (7 - x2) < (Nk2 : Int) + 1 → (6 - x3) < (Nk14 : Int) → zok (k14 x1 x2 x3 i_law i_broken i_value i_sum i_set i_rest i_costs) (fun o => zR o.2.2.2.2.2.2 (-1) 99)) (h_i_row : RI i_row) (h_i_weights : zR i_weights 0 30) : ∀ (n : Nat) (x1 : Int) (x2 : Int) (x3 : Int) (x4 : Int) (i_law : Int) (i_broken : Int) (i_value : Int) (i_sum : Int) (i_set : Nat → Int) (i_rest : Nat → Int) (i_costs : Nat → Int), (0 ≤ x1 ∧ x1 ≤ 5) → (0 ≤ x2 ∧ x2 ≤ 5) → (0 ≤ x3 ∧ x3 ≤ 4) → (0 ≤ x4 ∧ x4 ≤ 16) → (zR i_costs (-1) 99) → (7 - x2) < (Nk2 : Int) + 1 → (6 - x3) < (Nk14 : Int) + 1 → (17 - x4) < (n : Int) → zok (f_HM_findCosts_22 i_row i_weights k2 k14 n x1 x2 x3 x4 i_law i_broken i_value i_sum i_set i_rest i_costs) (fun o => zR o.2.2.2.2.2.2 (-1) 99) := by
  intro n
  induction n with
  | zero => intro x1 x2 x3 x4 i_law i_broken i_value i_sum i_set i_rest i_costs b_x1 b_x2 b_x3 b_x4 h_i_costs mk2 mk14 hm; exfalso; omega
  | succ n ih =>
    intro x1 x2 x3 x4 i_law i_broken i_value i_sum i_set i_rest i_costs b_x1 b_x2 b_x3 b_x4 h_i_costs mk2 mk14 hm
    show zok (f_HM_findCosts_22_b i_row i_weights k2 k14 (f_HM_findCosts_22 i_row i_weights k2 k14 n) x1 x2 x3 x4 i_law i_broken i_value i_sum i_set i_rest i_costs) _
    unfold f_HM_findCosts_22_b
    refine zk_ifc (zci_le (by omega) (by omega)) (fun hc => ?_) (fun hc => ?_)
    · refine zk_n ?_
      exact hk14 _ _ _ _ _ _ _ _ _ _ (by omega) (by omega) (by omega) h_i_costs (by omega) (by omega)
    · refine zk_g0zi_w (by omega) ?_
      refine zk_nE (fun v2 h_v2 => ?_)
      rw [zi_div_n (by omega) (by omega)] at h_v2
      refine zk_d1 (s_HM_columns _ h_i_row) (fun v3 hp => ?_)
      try dsimp only at hp
      obtain ⟨hpp0, hpp1⟩ := hp
      refine zk_ifc (zci_le (by omega) (by omega)) (fun hc_2 => ?_) (fun hc_2 => ?_)
      · unfold f_HM_findCosts_55
        unfold f_HM_findCosts_56
        exact s_HM_findCosts_61 _ _ _ Nk2 hk2 _ Nk14 hk14 _ n ih h_i_row h_i_weights zfu _ _ _ _ _ _ _ _ _ _ _ _ _ (by omega) (by omega) (by omega) (by omega) (by omega) (by omega) h_i_costs (by omega) (by omega) (by omega) (by unfold zfu; omega)
      · refine zk_g0zi_w (by omega) ?_
        refine zk_nE (fun v4 h_v4 => ?_)
        rw [zi_rem_n (by omega) (by omega)] at h_v4
        refine zk_d1 (s_HM_columns _ h_i_row) (fun v5 hp_2 => ?_)
        try dsimp only at hp_2
        obtain ⟨hp_2p0, hp_2p1⟩ := hp_2
        refine zk_ifc (zci_le (by omega) (by omega)) (fun hc_3 => ?_) (fun hc_3 => ?_)
        · unfold f_HM_findCosts_55
          unfold f_HM_findCosts_56
          exact s_HM_findCosts_61 _ _ _ Nk2 hk2 _ Nk14 hk14 _ n ih h_i_row h_i_weights zfu _ _ _ _ _ _ _ _ _ _ _ _ _ (by omega) (by omega) (by omega) (by omega) (by omega) (by omega) h_i_costs (by omega) (by omega) (by omega) (by unfold zfu; omega)
        · unfold f_HM_findCosts_56
          exact s_HM_findCosts_61 _ _ _ Nk2 hk2 _ Nk14 hk14 _ n ih h_i_row h_i_weights zfu _ _ _ _ _ _ _ _ _ _ _ _ _ (by omega) (by omega) (by omega) (by omega) (by omega) (by omega) h_i_costs (by omega) (by omega) (by omega) (by unfold zfu; omega)
theorem s_HM_findCosts_14 (i_row : Nat → Int) (i_weights : Nat → Int) (k2 : Int → Int → Int → Int → Int → Int → (Nat → Int) → (Nat → Int) → (Nat → Int) → Option (Int × Int × Int × Int × (Nat → Int) × (Nat → Int) × (Nat → Int))) (Nk2 : Nat) (hk2 : ∀ (x1 : Int) (x2 : Int) (i_law : Int) (i_broken : Int) (i_value : Int) (i_sum : Int) (i_set : Nat → Int) (i_rest : Nat → Int) (i_costs : Nat → Int), (0 ≤ x1 ∧ x1 ≤ 5) → (0 ≤ x2 ∧ x2 ≤ 6) → (zR i_costs (-1) 99) → (7 - x2) < (Nk2 : Int) → zok (k2 x1 x2 i_law i_broken i_value i_sum i_set i_rest i_costs) (fun o => zR o.2.2.2.2.2.2 (-1) 99)) (h_i_row : RI i_row) (h_i_weights : zR i_weights 0 30) : ∀ (n : Nat) (x1 : Int) (x2 : Int) (x3 : Int) (i_law : Int) (i_broken : Int) (i_value : Int) (i_sum : Int) (i_set : Nat → Int) (i_rest : Nat → Int) (i_costs : Nat → Int), (0 ≤ x1 ∧ x1 ≤ 5) → (0 ≤ x2 ∧ x2 ≤ 5) → (0 ≤ x3 ∧ x3 ≤ 5) → (zR i_costs (-1) 99) → (7 - x2) < (Nk2 : Int) + 1 → (6 - x3) < (n : Int) → zok (f_HM_findCosts_14 i_row i_weights k2 n x1 x2 x3 i_law i_broken i_value i_sum i_set i_rest i_costs) (fun o => zR o.2.2.2.2.2.2 (-1) 99) := by
  intro n
  induction n with
  | zero => intro x1 x2 x3 i_law i_broken i_value i_sum i_set i_rest i_costs b_x1 b_x2 b_x3 h_i_costs mk2 hm; exfalso; omega
  | succ n ih =>
    intro x1 x2 x3 i_law i_broken i_value i_sum i_set i_rest i_costs b_x1 b_x2 b_x3 h_i_costs mk2 hm
    show zok (f_HM_findCosts_14_b i_row i_weights k2 (f_HM_findCosts_14 i_row i_weights k2 n) x1 x2 x3 i_law i_broken i_value i_sum i_set i_rest i_costs) _
    unfold f_HM_findCosts_14_b
    refine zk_ifc (zci_le (by omega) (by omega)) (fun hc => ?_) (fun hc => ?_)
    · refine zk_n ?_
      exact hk2 _ _ _ _ _ _ _ _ _ (by omega) (by omega) h_i_costs (by omega)
    · exact s_HM_findCosts_22 _ _ _ Nk2 hk2 _ n ih h_i_row h_i_weights zfu _ _ _ _ _ _ _ _ _ _ _ (by omega) (by omega) (by omega) (by omega) h_i_costs (by omega) (by omega) (by unfold zfu; omega)
theorem s_HM_findCosts_2 (i_row : Nat → Int) (i_weights : Nat → Int) (h_i_row : RI i_row) (h_i_weights : zR i_weights 0 30) : ∀ (n : Nat) (x1 : Int) (x2 : Int) (i_law : Int) (i_broken : Int) (i_value : Int) (i_sum : Int) (i_set : Nat → Int) (i_rest : Nat → Int) (i_costs : Nat → Int), (0 ≤ x1 ∧ x1 ≤ 5) → (0 ≤ x2 ∧ x2 ≤ 6) → (zR i_costs (-1) 99) → (7 - x2) < (n : Int) → zok (f_HM_findCosts_2 i_row i_weights n x1 x2 i_law i_broken i_value i_sum i_set i_rest i_costs) (fun o => zR o.2.2.2.2.2.2 (-1) 99) := by
  intro n
  induction n with
  | zero => intro x1 x2 i_law i_broken i_value i_sum i_set i_rest i_costs b_x1 b_x2 h_i_costs hm; exfalso; omega
  | succ n ih =>
    intro x1 x2 i_law i_broken i_value i_sum i_set i_rest i_costs b_x1 b_x2 h_i_costs hm
    show zok (f_HM_findCosts_2_b i_row i_weights (f_HM_findCosts_2 i_row i_weights n) x1 x2 i_law i_broken i_value i_sum i_set i_rest i_costs) _
    unfold f_HM_findCosts_2_b
    refine zk_gl 1 rfl (by decide) (by decide) (fun v1 h_v1 => ?_)
    have r_v1 := RI_1 h_i_row
    refine zk_ifc (zci_le (by omega) (by omega)) (fun hc => ?_) (fun hc => ?_)
    · refine zk_ret ?_
      try dsimp only
      all_goals exact h_i_costs
    · exact s_HM_findCosts_14 _ _ _ n ih h_i_row h_i_weights zfu _ _ _ _ _ _ _ _ _ _ (by omega) (by omega) (by omega) h_i_costs (by omega) (by unfold zfu; omega)
theorem s_HM_findCosts (x1 : Int) (i_row : Nat → Int) (i_weights : Nat → Int) (i_law : Int) (i_broken : Int) (i_value : Int) (i_sum : Int) (i_set : Nat → Int) (i_rest : Nat → Int) (i_costs : Nat → Int) (b_x1 : 0 ≤ x1 ∧ x1 ≤ 5) (h_i_row : RI i_row) (h_i_weights : zR i_weights 0 30) (h_i_costs : zR i_costs (-1) 99) : zok (f_HM_findCosts x1 i_row i_weights i_law i_broken i_value i_sum i_set i_rest i_costs) (fun o => zR o.2.2.2.2.2.2 (-1) 99) := by
  unfold f_HM_findCosts
  exact s_HM_findCosts_2 _ _ h_i_row h_i_weights zfu _ _ _ _ _ _ _ _ _ (by omega) (by omega) h_i_costs (by unfold zfu; omega)
