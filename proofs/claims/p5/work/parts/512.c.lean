set_option maxHeartbeats 4000000 in
theorem s_Arrays_fill_n3601_5   : ∀ (n : Nat) (x1 : Int) (x2 : Int) (x3 : Int) (i_a0 : Nat → Int), (0 ≤ x1 ∧ x1 ≤ 0) → (0 ≤ x2 ∧ x2 ≤ 5580) → (3601 ≤ x3 ∧ x3 ≤ 3601) → (zR i_a0 0 1000000000) → (5581 - x2) < (n : Int) → zok (f_Arrays_fill_n3601_5  n x1 x2 x3 i_a0) (fun o => zR o 0 1000000000) := by
  intro n
  induction n with
  | zero => intro x1 x2 x3 i_a0 b_x1 b_x2 b_x3 h_i_a0 hm; exfalso; omega
  | succ n ih =>
    intro x1 x2 x3 i_a0 b_x1 b_x2 b_x3 h_i_a0 hm
    show zok (f_Arrays_fill_n3601_5_b  (f_Arrays_fill_n3601_5  n) x1 x2 x3 i_a0) _
    unfold f_Arrays_fill_n3601_5_b
    refine zk_ifc (zci_le (by omega) (by omega)) (fun hc => ?_) (fun hc => ?_)
    · exact zk_ret h_i_a0
    · refine zk_sv (by omega) (by decide) (fun a1 h_a1 => ?_)
      have i_a1 : zR a1 0 1000000000 := by rw [h_a1]; exact zR_zu h_i_a0 (by decide) (by decide) (by omega)
      refine zk_n ?_
      exact ih _ _ _ _ (by omega) (by omega) (by omega) i_a1 (by omega)
set_option maxHeartbeats 4000000 in
theorem s_Arrays_fill_n3601 (x1 : Int) (i_a0 : Nat → Int) (b_x1 : 0 ≤ x1 ∧ x1 ≤ 0) (h_i_a0 : zR i_a0 0 1000000000) : zok (f_Arrays_fill_n3601 x1 i_a0) (fun o => zR o 0 1000000000) := by
  unfold f_Arrays_fill_n3601
  exact s_Arrays_fill_n3601_5 zfu _ _ _ _ (by omega) (by omega) (by omega) h_i_a0 (by unfold zfu; omega)
set_option maxHeartbeats 4000000 in
theorem s_Scales_weighAll_78 (i_hill_columns_many : Int) (i_hill_columns_heights : Nat → Int) (i_hill_columns_weights : Nat → Int) (k19 : Int → Int → (Nat → Int) → Option ((Nat → Int))) (Nk19 : Nat) (hk19 : ∀ (x1 : Int) (x2 : Int) (i_setsBy : Nat → Int), (0 ≤ x1 ∧ x1 ≤ 3600) → (0 ≤ x2 ∧ x2 ≤ 12) → (zR i_setsBy 0 1000000000) → (13 - x2) < (Nk19 : Int) → zok (k19 x1 x2 i_setsBy) (fun o => zR o 0 1000000000)) (k35 : Int → Int → Int → (Nat → Int) → Option ((Nat → Int))) (Nk35 : Nat) (hk35 : ∀ (x1 : Int) (x2 : Int) (x3 : Int) (i_setsBy : Nat → Int), (0 ≤ x1 ∧ x1 ≤ 3600) → (0 ≤ x2 ∧ x2 ≤ 11) → (0 ≤ x3 ∧ x3 ≤ 10) → (zR i_setsBy 0 1000000000) → (13 - x2) < (Nk19 : Int) + 1 → (11 - x3) < (Nk35 : Int) → zok (k35 x1 x2 x3 i_setsBy) (fun o => zR o 0 1000000000)) (b_i_hill_columns_many : 1 ≤ i_hill_columns_many ∧ i_hill_columns_many ≤ 12) (h_i_hill_columns_heights : zR i_hill_columns_heights 0 10) (h_i_hill_columns_weights : zR i_hill_columns_weights 0 30) : ∀ (n : Nat) (x1 : Int) (x2 : Int) (x3 : Int) (x4 : Int) (x5 : Int) (i_setsBy : Nat → Int), (0 ≤ x1 ∧ x1 ≤ 3600) → (0 ≤ x2 ∧ x2 ≤ 11) → (0 ≤ x3 ∧ x3 ≤ 9) → (0 ≤ x4 ∧ x4 ≤ 30) → ((-1) ≤ x5 ∧ x5 ≤ 3600) → (zR i_setsBy 0 1000000000) → (13 - x2) < (Nk19 : Int) + 1 → (11 - x3) < (Nk35 : Int) + 1 → (x5 - (-2)) < (n : Int) → zok (f_Scales_weighAll_78 i_hill_columns_many i_hill_columns_heights i_hill_columns_weights k19 k35 n x1 x2 x3 x4 x5 i_setsBy) (fun o => zR o 0 1000000000) := by
  intro n
  induction n with
  | zero => intro x1 x2 x3 x4 x5 i_setsBy b_x1 b_x2 b_x3 b_x4 b_x5 h_i_setsBy mk19 mk35 hm; exfalso; omega
  | succ n ih =>
    intro x1 x2 x3 x4 x5 i_setsBy b_x1 b_x2 b_x3 b_x4 b_x5 h_i_setsBy mk19 mk35 hm
    show zok (f_Scales_weighAll_78_b i_hill_columns_many i_hill_columns_heights i_hill_columns_weights k19 k35 (f_Scales_weighAll_78 i_hill_columns_many i_hill_columns_heights i_hill_columns_weights k19 k35 n) x1 x2 x3 x4 x5 i_setsBy) _
    unfold f_Scales_weighAll_78_b
    refine zk_ifc (zci_lt (by omega) (by omega)) (fun hc => ?_) (fun hc => ?_)
    · refine zk_n ?_
      exact hk35 _ _ _ _ (by omega) (by omega) (by omega) h_i_setsBy (by omega) (by omega)
    · refine zk_gv (by omega) (by decide) (fun v2 h_v2 => ?_)
      have r_v2 := h_i_setsBy (x5.toNat)
      refine zk_n ?_
      refine zk_gv (by omega) (by decide) (fun v4 h_v4 => ?_)
      have r_v4 := h_i_setsBy ((x5 - x4).toNat)
      refine zk_n ?_
      refine zk_nE (fun v6 h_v6 => ?_)
      have r_v6 := zi_min_f (1000000000) (by omega) ((v2 + v4)) (by omega); rw [← h_v6] at r_v6
      refine zk_sv (by omega) (by decide) (fun a7 h_a7 => ?_)
      have i_a7 : zR a7 0 1000000000 := by rw [h_a7]; exact zR_zu h_i_setsBy (by decide) (by decide) (by omega)
      refine zk_n ?_
      exact ih _ _ _ _ _ _ (by omega) (by omega) (by omega) (by omega) (by omega) i_a7 (by omega) (by omega) (by omega)
set_option maxHeartbeats 4000000 in
theorem s_Scales_weighAll_35 (i_hill_columns_many : Int) (i_hill_columns_heights : Nat → Int) (i_hill_columns_weights : Nat → Int) (k19 : Int → Int → (Nat → Int) → Option ((Nat → Int))) (Nk19 : Nat) (hk19 : ∀ (x1 : Int) (x2 : Int) (i_setsBy : Nat → Int), (0 ≤ x1 ∧ x1 ≤ 3600) → (0 ≤ x2 ∧ x2 ≤ 12) → (zR i_setsBy 0 1000000000) → (13 - x2) < (Nk19 : Int) → zok (k19 x1 x2 i_setsBy) (fun o => zR o 0 1000000000)) (b_i_hill_columns_many : 1 ≤ i_hill_columns_many ∧ i_hill_columns_many ≤ 12) (h_i_hill_columns_heights : zR i_hill_columns_heights 0 10) (h_i_hill_columns_weights : zR i_hill_columns_weights 0 30) : ∀ (n : Nat) (x1 : Int) (x2 : Int) (x3 : Int) (i_setsBy : Nat → Int), (0 ≤ x1 ∧ x1 ≤ 3600) → (0 ≤ x2 ∧ x2 ≤ 11) → (0 ≤ x3 ∧ x3 ≤ 10) → (zR i_setsBy 0 1000000000) → (13 - x2) < (Nk19 : Int) + 1 → (11 - x3) < (n : Int) → zok (f_Scales_weighAll_35 i_hill_columns_many i_hill_columns_heights i_hill_columns_weights k19 n x1 x2 x3 i_setsBy) (fun o => zR o 0 1000000000) := by
  intro n
  induction n with
  | zero => intro x1 x2 x3 i_setsBy b_x1 b_x2 b_x3 h_i_setsBy mk19 hm; exfalso; omega
  | succ n ih =>
    intro x1 x2 x3 i_setsBy b_x1 b_x2 b_x3 h_i_setsBy mk19 hm
    show zok (f_Scales_weighAll_35_b i_hill_columns_many i_hill_columns_heights i_hill_columns_weights k19 (f_Scales_weighAll_35 i_hill_columns_many i_hill_columns_heights i_hill_columns_weights k19 n) x1 x2 x3 i_setsBy) _
    unfold f_Scales_weighAll_35_b
    refine zk_d1 (s_Columns_high _ _ _ (by omega) (by omega) h_i_hill_columns_heights) (fun v1 hp => ?_)
    try dsimp only at hp
    obtain ⟨hpp0, hpp1⟩ := hp
    refine zk_ifc (zci_le (by omega) (by omega)) (fun hc => ?_) (fun hc => ?_)
    · refine zk_n ?_
      exact hk19 _ _ _ (by omega) (by omega) h_i_setsBy (by omega)
    · refine zk_d1 (s_Columns_heft _ _ _ _ _ (by omega) (by omega) (by omega) h_i_hill_columns_heights h_i_hill_columns_weights) (fun v3 hp_2 => ?_)
      try dsimp only at hp_2
      have hp_2p0 := hp_2
      refine zk_n ?_
      refine zk_nE (fun v5 h_v5 => ?_)
      have r_v5 := zi_min_f (3600) (by omega) ((x1 + v3)) (by omega); rw [← h_v5] at r_v5
      exact s_Scales_weighAll_78 _ _ _ _ Nk19 hk19 _ n ih (by omega) h_i_hill_columns_heights h_i_hill_columns_weights zfu _ _ _ _ _ _ (by omega) (by omega) (by omega) (by omega) (by omega) h_i_setsBy (by omega) (by omega) (by unfold zfu; omega)
set_option maxHeartbeats 4000000 in
theorem s_Scales_weighAll_19 (i_hill_columns_many : Int) (i_hill_columns_heights : Nat → Int) (i_hill_columns_weights : Nat → Int) (b_i_hill_columns_many : 0 ≤ i_hill_columns_many ∧ i_hill_columns_many ≤ 12) (h_i_hill_columns_heights : zR i_hill_columns_heights 0 10) (h_i_hill_columns_weights : zR i_hill_columns_weights 0 30) : ∀ (n : Nat) (x1 : Int) (x2 : Int) (i_setsBy : Nat → Int), (0 ≤ x1 ∧ x1 ≤ 3600) → (0 ≤ x2 ∧ x2 ≤ 12) → (zR i_setsBy 0 1000000000) → (13 - x2) < (n : Int) → zok (f_Scales_weighAll_19 i_hill_columns_many i_hill_columns_heights i_hill_columns_weights n x1 x2 i_setsBy) (fun o => zR o 0 1000000000) := by
  intro n
  induction n with
  | zero => intro x1 x2 i_setsBy b_x1 b_x2 h_i_setsBy hm; exfalso; omega
  | succ n ih =>
    intro x1 x2 i_setsBy b_x1 b_x2 h_i_setsBy hm
    show zok (f_Scales_weighAll_19_b i_hill_columns_many i_hill_columns_heights i_hill_columns_weights (f_Scales_weighAll_19 i_hill_columns_many i_hill_columns_heights i_hill_columns_weights n) x1 x2 i_setsBy) _
    unfold f_Scales_weighAll_19_b
    refine zk_ifc (zci_le (by omega) (by omega)) (fun hc => ?_) (fun hc => ?_)
    · exact zk_ret h_i_setsBy
    · exact s_Scales_weighAll_35 _ _ _ _ n ih (by omega) h_i_hill_columns_heights h_i_hill_columns_weights zfu _ _ _ _ (by omega) (by omega) (by omega) h_i_setsBy (by omega) (by unfold zfu; omega)
set_option maxHeartbeats 4000000 in
theorem s_Scales_weighAll (i_hill_columns_many : Int) (i_hill_columns_heights : Nat → Int) (i_hill_columns_weights : Nat → Int) (i_setsBy : Nat → Int) (b_i_hill_columns_many : 0 ≤ i_hill_columns_many ∧ i_hill_columns_many ≤ 12) (h_i_hill_columns_heights : zR i_hill_columns_heights 0 10) (h_i_hill_columns_weights : zR i_hill_columns_weights 0 30) (h_i_setsBy : zR i_setsBy 0 1000000000) : zok (f_Scales_weighAll i_hill_columns_many i_hill_columns_heights i_hill_columns_weights i_setsBy) (fun o => zR o 0 1000000000) := by
  unfold f_Scales_weighAll
  refine zk_d1 (s_Arrays_fill_n3601 _ _ (by omega) h_i_setsBy) (fun a1 hp => ?_)
  try dsimp only at hp
  have hpp0 := hp
  refine zk_sl 0 rfl (by decide) (by decide) (fun a2 h_a2 => ?_)
  have i_a2 : zR a2 0 1000000000 := by rw [h_a2]; exact zR_zu hpp0 (by decide) (by decide) (by omega)
  exact s_Scales_weighAll_19 _ _ _ (by omega) h_i_hill_columns_heights h_i_hill_columns_weights zfu _ _ _ (by omega) (by omega) i_a2 (by unfold zfu; omega)
set_option maxHeartbeats 4000000 in
theorem s_Scales_sets (x1 : Int) (i_hill_changes : Int) (i_hill_columns_many : Int) (i_hill_columns_heights : Nat → Int) (i_hill_columns_weights : Nat → Int) (i_version : Int) (i_setsBy : Nat → Int) (b_x1 : (-2147483648) ≤ x1 ∧ x1 ≤ 2147483647) (b_i_hill_columns_many : 0 ≤ i_hill_columns_many ∧ i_hill_columns_many ≤ 12) (h_i_hill_columns_heights : zR i_hill_columns_heights 0 10) (h_i_hill_columns_weights : zR i_hill_columns_weights 0 30) (h_i_setsBy : zR i_setsBy 0 1000000000) : zok (f_Scales_sets x1 i_hill_changes i_hill_columns_many i_hill_columns_heights i_hill_columns_weights i_version i_setsBy) (fun o => ((-1) ≤ o.1 ∧ o.1 ≤ 1000000000) ∧ zR o.2.2 0 1000000000) := by
  unfold f_Scales_sets
  refine zk_ifc (zci_ltr (by omega)) (fun hc => ?_) (fun hc => ?_)
  · refine zk_ret ?_
    try dsimp only
    exact ⟨by omega, h_i_setsBy⟩
  · refine zk_ifc (zci_le (by omega) (by omega)) (fun hc_2 => ?_) (fun hc_2 => ?_)
    · refine zk_if (fun hc_3 => ?_) (fun hc_3 => ?_)
      · refine zk_gv (by omega) (by decide) (fun v1 h_v1 => ?_)
        have r_v1 := h_i_setsBy (x1.toNat)
        refine zk_ret ?_
        try dsimp only
        exact ⟨by omega, h_i_setsBy⟩
      · refine zk_d1 (s_Scales_weighAll _ _ _ _ (by omega) h_i_hill_columns_heights h_i_hill_columns_weights h_i_setsBy) (fun a2 hp => ?_)
        try dsimp only at hp
        have hpp0 := hp
        refine zk_gv (by omega) (by decide) (fun v3 h_v3 => ?_)
        have r_v3 := hpp0 (x1.toNat)
        refine zk_ret ?_
        try dsimp only
        exact ⟨by omega, hpp0⟩
    · refine zk_ret ?_
      try dsimp only
      exact ⟨by omega, h_i_setsBy⟩
set_option maxHeartbeats 4000000 in
theorem s_HS_weighs (x1 : Int) (i_hill_changes : Int) (i_hill_columns_many : Int) (i_hill_columns_heights : Nat → Int) (i_hill_columns_weights : Nat → Int) (i_scales_version : Int) (i_scales_setsBy : Nat → Int) (b_x1 : (-2147483648) ≤ x1 ∧ x1 ≤ 2147483647) (b_i_hill_columns_many : 0 ≤ i_hill_columns_many ∧ i_hill_columns_many ≤ 12) (h_i_hill_columns_heights : zR i_hill_columns_heights 0 10) (h_i_hill_columns_weights : zR i_hill_columns_weights 0 30) (h_i_scales_setsBy : zR i_scales_setsBy 0 1000000000) : zok (f_HS_weighs x1 i_hill_changes i_hill_columns_many i_hill_columns_heights i_hill_columns_weights i_scales_version i_scales_setsBy) (fun o => ((-1) ≤ o.1 ∧ o.1 ≤ 1000000000) ∧ zR o.2.2 0 1000000000) := by
  unfold f_HS_weighs
  refine zk_d3 (s_Scales_sets _ _ _ _ _ _ _ (by omega) (by omega) h_i_hill_columns_heights h_i_hill_columns_weights h_i_scales_setsBy) (fun v1 v2 a3 hp => ?_)
  try dsimp only at hp
  obtain ⟨hpp0, hpp1⟩ := hp
  refine zk_ret ?_
  try dsimp only
  exact ⟨by omega, hpp1⟩
set_option maxHeartbeats 4000000 in
theorem s_HS_trips (x1 : Int) (x2 : Int) (i_hill_children : Int) (i_latestStatus : Int) (i_hill_changes : Int) (i_refusals : Nat → Int) (i_hill_trips : Nat → Int) (b_x1 : (-2147483648) ≤ x1 ∧ x1 ≤ 2147483647) (b_x2 : (-2147483648) ≤ x2 ∧ x2 ≤ 2147483647) (b_i_hill_children : 0 ≤ i_hill_children ∧ i_hill_children ≤ 6) (b_i_latestStatus : (-6) ≤ i_latestStatus ∧ i_latestStatus ≤ 0) (h_i_hill_trips : zR i_hill_trips 0 20) : zok (f_HS_trips x1 x2 i_hill_children i_latestStatus i_hill_changes i_refusals i_hill_trips) (fun o => ((-6) ≤ o.2.1 ∧ o.2.1 ≤ 0) ∧ zR o.2.2.2.2 0 20) := by
  unfold f_HS_trips
  refine zk_ifc (zci_ltr (by omega)) (fun hc => ?_) (fun hc => ?_)
  · unfold f_HS_trips_10
    refine zk_d3 (s_HS_refuse _ _ _ (by omega) (by omega)) (fun v1 v2 a3 hp => ?_)
    try dsimp only at hp
    obtain ⟨hpp0, hpp1, hpp2, hpp3⟩ := hp
    refine zk_ret ?_
    try dsimp only
    exact ⟨by omega, h_i_hill_trips⟩
  · refine zk_ifc (zci_le (by omega) (by omega)) (fun hc_2 => ?_) (fun hc_2 => ?_)
    · refine zk_d1 (s_Hill_hasChild _ _ (by omega) (by omega)) (fun v1_2 hp_2 => ?_)
      try dsimp only at hp_2
      obtain ⟨hp_2p0, hp_2p1⟩ := hp_2
      refine zk_ifc (zci_ner (by omega)) (fun hc_3 => ?_) (fun hc_3 => ?_)
      · refine zk_gv (by omega) (by decide) (fun v2_2 h_v2_2 => ?_)
        have r_v2_2 := h_i_hill_trips (x1.toNat)
        refine zk_sv (by omega) (by decide) (fun a3_2 h_a3_2 => ?_)
        have i_a3_2 : zR a3_2 0 20 := by rw [h_a3_2]; exact zR_zu h_i_hill_trips (by decide) (by decide) (by omega)
        refine zk_d3 (s_HS_accept _ _ _ (by omega)) (fun v4 v5 v6 hp_3 => ?_)
        try dsimp only at hp_3
        obtain ⟨hp_3p0, hp_3p1, hp_3p2, hp_3p3⟩ := hp_3
        refine zk_ret ?_
        try dsimp only
        exact ⟨by omega, i_a3_2⟩
      · refine zk_d3 (s_HS_refuse _ _ _ (by omega) (by omega)) (fun v7 v8 a9 hp_4 => ?_)
        try dsimp only at hp_4
        obtain ⟨hp_4p0, hp_4p1, hp_4p2, hp_4p3⟩ := hp_4
        refine zk_ret ?_
        try dsimp only
        exact ⟨by omega, h_i_hill_trips⟩
    · unfold f_HS_trips_10
      refine zk_d3 (s_HS_refuse _ _ _ (by omega) (by omega)) (fun v1_3 v2_3 a3_3 hp_5 => ?_)
      try dsimp only at hp_5
      obtain ⟨hp_5p0, hp_5p1, hp_5p2, hp_5p3⟩ := hp_5
      refine zk_ret ?_
      try dsimp only
      exact ⟨by omega, h_i_hill_trips⟩
set_option maxHeartbeats 4000000 in
theorem s_Scales_bestToWeigh_6 (i_sets : Int) (i_hill_children : Int) (i_setsWith : Nat → Int) (b_i_hill_children : 0 ≤ i_hill_children ∧ i_hill_children ≤ 6) : ∀ (n : Nat) (x1 : Int) (x2 : Int) (x3 : Int), ((-1) ≤ x1 ∧ x1 ≤ 5) → ((-2147483648) ≤ x2 ∧ x2 ≤ 2147483647) → (0 ≤ x3 ∧ x3 ≤ 6) → (7 - x3) < (n : Int) → zok (f_Scales_bestToWeigh_6 i_sets i_hill_children i_setsWith n x1 x2 x3) (fun o => ((-1) ≤ o ∧ o ≤ 5)) := by
  intro n
  induction n with
  | zero => intro x1 x2 x3 b_x1 b_x2 b_x3 hm; exfalso; omega
  | succ n ih =>
    intro x1 x2 x3 b_x1 b_x2 b_x3 hm
    show zok (f_Scales_bestToWeigh_6_b i_sets i_hill_children i_setsWith (f_Scales_bestToWeigh_6 i_sets i_hill_children i_setsWith n) x1 x2 x3) _
    unfold f_Scales_bestToWeigh_6_b
    refine zk_ifc (zci_le (by omega) (by omega)) (fun hc => ?_) (fun hc => ?_)
    · exact zk_ret (by omega)
    · refine zk_gv (by omega) (by decide) (fun v1 h_v1 => ?_)
      refine zk_gv (by omega) (by decide) (fun v2 h_v2 => ?_)
      refine zk_n ?_
      refine zk_nE (fun v4 h_v4 => ?_)
      have r_v4 := zi_max_i v1 (i_sets - v2); rw [← h_v4] at r_v4
      refine zk_ifc (zci_eq (by omega) (by omega)) (fun hc_2 => ?_) (fun hc_2 => ?_)
      · unfold f_Scales_bestToWeigh_50
        unfold f_Scales_bestToWeigh_55
        refine zk_n ?_
        exact ih _ _ _ (by omega) (by omega) (by omega) (by omega)
      · refine zk_ifc (zci_le (by omega) (by omega)) (fun hc_3 => ?_) (fun hc_3 => ?_)
        · unfold f_Scales_bestToWeigh_55
          refine zk_n ?_
          exact ih _ _ _ (by omega) (by omega) (by omega) (by omega)
        · unfold f_Scales_bestToWeigh_50
          unfold f_Scales_bestToWeigh_55
          refine zk_n ?_
          exact ih _ _ _ (by omega) (by omega) (by omega) (by omega)
set_option maxHeartbeats 4000000 in
theorem s_Scales_bestToWeigh (i_sets : Int) (i_hill_children : Int) (i_setsWith : Nat → Int) (b_i_hill_children : 0 ≤ i_hill_children ∧ i_hill_children ≤ 6) : zok (f_Scales_bestToWeigh i_sets i_hill_children i_setsWith) (fun o => ((-1) ≤ o ∧ o ≤ 5)) := by
  unfold f_Scales_bestToWeigh
  exact s_Scales_bestToWeigh_6 _ _ _ (by omega) zfu _ _ _ (by omega) (by omega) (by omega) (by unfold zfu; omega)
set_option maxHeartbeats 4000000 in
theorem s_Scales_finding (x1 : Int) (i_sets : Int) (i_lowest : Int) (i_inAll : Int) (i_inAny : Int) (i_hill_children : Int) (i_setsWith : Nat → Int) (b_x1 : (-2147483648) ≤ x1 ∧ x1 ≤ 2147483647) (b_i_lowest : (-1) ≤ i_lowest ∧ i_lowest ≤ 63) (b_i_inAll : 0 ≤ i_inAll ∧ i_inAll ≤ 63) (b_i_inAny : 0 ≤ i_inAny ∧ i_inAny ≤ 63) (b_i_hill_children : 0 ≤ i_hill_children ∧ i_hill_children ≤ 6) : zok (f_Scales_finding x1 i_sets i_lowest i_inAll i_inAny i_hill_children i_setsWith) (fun o => True) := by
  unfold f_Scales_finding
  refine zk_ifc (zci_ner (by omega)) (fun hc => ?_) (fun hc => ?_)
  · refine zk_if (fun hc_2 => ?_) (fun hc_2 => ?_)
    · refine zk_ifc (zci_eqr (by omega)) (fun hc_3 => ?_) (fun hc_3 => ?_)
      · exact zk_ret trivial
      · refine zk_ifc (zci_eqr (by omega)) (fun hc_4 => ?_) (fun hc_4 => ?_)
        · exact zk_ret trivial
        · refine zk_ifc (zci_eqr (by omega)) (fun hc_5 => ?_) (fun hc_5 => ?_)
          · refine zk_nE (fun v1 h_v1 => ?_)
            have r_v1 := zi_shl1 (y := i_hill_children) (by omega); rw [← h_v1] at r_v1
            refine zk_n ?_
            refine zk_nE (fun v3 h_v3 => ?_)
            have r_v3 := zi_xor_f i_inAny (-1); rw [← h_v3] at r_v3
            refine zk_nE (fun v4 h_v4 => ?_)
            have r_v4 := zi_and_f (v1 - 1) v3; rw [← h_v4] at r_v4
            exact zk_ret trivial
          · refine zk_ifc (zci_eqr (by omega)) (fun hc_6 => ?_) (fun hc_6 => ?_)
            · refine zk_d1 (s_Scales_bestToWeigh _ _ _ (by omega)) (fun v5 hp => ?_)
              try dsimp only at hp
              have hpp0 := hp
              exact zk_ret trivial
            · exact zk_ret trivial
    · exact zk_ret trivial
  · exact zk_ret trivial
set_option maxHeartbeats 4000000 in
theorem s_Scales_note_44 (i_hill_children : Int) (b_i_hill_children : 0 ≤ i_hill_children ∧ i_hill_children ≤ 6) : ∀ (n : Nat) (x1 : Int) (x2 : Int) (i_sets : Int) (i_lowest : Int) (i_inAll : Int) (i_inAny : Int) (i_setsWith : Nat → Int), (0 ≤ x1 ∧ x1 ≤ 63) → (0 ≤ x2 ∧ x2 ≤ 6) → ((-1) ≤ i_lowest ∧ i_lowest ≤ 63) → (0 ≤ i_inAll ∧ i_inAll ≤ 63) → (0 ≤ i_inAny ∧ i_inAny ≤ 63) → (7 - x2) < (n : Int) → zok (f_Scales_note_44 i_hill_children n x1 x2 i_sets i_lowest i_inAll i_inAny i_setsWith) (fun o => ((-1) ≤ o.2.1 ∧ o.2.1 ≤ 63) ∧ (0 ≤ o.2.2.1 ∧ o.2.2.1 ≤ 63) ∧ (0 ≤ o.2.2.2.1 ∧ o.2.2.2.1 ≤ 63)) := by
  intro n
  induction n with
  | zero => intro x1 x2 i_sets i_lowest i_inAll i_inAny i_setsWith b_x1 b_x2 b_i_lowest b_i_inAll b_i_inAny hm; exfalso; omega
  | succ n ih =>
    intro x1 x2 i_sets i_lowest i_inAll i_inAny i_setsWith b_x1 b_x2 b_i_lowest b_i_inAll b_i_inAny hm
    show zok (f_Scales_note_44_b i_hill_children (f_Scales_note_44 i_hill_children n) x1 x2 i_sets i_lowest i_inAll i_inAny i_setsWith) _
    unfold f_Scales_note_44_b
    refine zk_ifc (zci_le (by omega) (by omega)) (fun hc => ?_) (fun hc => ?_)
    · refine zk_ret ?_
      try dsimp only
      exact ⟨by omega, by omega, by omega⟩
    · refine zk_gv (by omega) (by decide) (fun v1 h_v1 => ?_)
      refine zk_nE (fun v2 h_v2 => ?_)
      have r_v2 := zi_shr_f x1 x2; rw [← h_v2] at r_v2
      refine zk_nE (fun v3 h_v3 => ?_)
      have r_v3 := zi_and_m v2 (m := 1) (by decide); rw [← h_v3] at r_v3
      refine zk_n ?_
      refine zk_sv (by omega) (by decide) (fun a5 h_a5 => ?_)
      refine zk_n ?_
      exact ih _ _ _ _ _ _ _ (by omega) (by omega) (by omega) (by omega) (by omega) (by omega)
set_option maxHeartbeats 4000000 in
theorem s_Scales_note (x1 : Int) (i_hill_children : Int) (i_sets : Int) (i_lowest : Int) (i_inAll : Int) (i_inAny : Int) (i_setsWith : Nat → Int) (b_x1 : 0 ≤ x1 ∧ x1 ≤ 63) (b_i_hill_children : 0 ≤ i_hill_children ∧ i_hill_children ≤ 6) (b_i_lowest : (-1) ≤ i_lowest ∧ i_lowest ≤ 63) (b_i_inAll : 0 ≤ i_inAll ∧ i_inAll ≤ 63) (b_i_inAny : 0 ≤ i_inAny ∧ i_inAny ≤ 63) : zok (f_Scales_note x1 i_hill_children i_sets i_lowest i_inAll i_inAny i_setsWith) (fun o => ((-1) ≤ o.2.1 ∧ o.2.1 ≤ 63) ∧ (0 ≤ o.2.2.1 ∧ o.2.2.1 ≤ 63) ∧ (0 ≤ o.2.2.2.1 ∧ o.2.2.2.1 ≤ 63)) := by
  unfold f_Scales_note
  refine zk_if (fun hc => ?_) (fun hc => ?_)
  · unfold f_Scales_note_12
    refine zk_n ?_
    refine zk_nE (fun v2 h_v2 => ?_)
    have r_v2 := zi_and_le i_inAll (m := x1) (by omega); rw [← h_v2] at r_v2
    refine zk_nE (fun v3 h_v3 => ?_)
    have r_v3 := zi_or6 (a := i_inAny) (b := x1) (by omega) (by omega); rw [← h_v3] at r_v3
    exact s_Scales_note_44 _ (by omega) zfu _ _ _ _ _ _ _ (by omega) (by omega) (by omega) (by omega) (by omega) (by unfold zfu; omega)
  · unfold f_Scales_note_12
    refine zk_n ?_
    refine zk_nE (fun v2_2 h_v2_2 => ?_)
    have r_v2_2 := zi_and_le i_inAll (m := x1) (by omega); rw [← h_v2_2] at r_v2_2
    refine zk_nE (fun v3_2 h_v3_2 => ?_)
    have r_v3_2 := zi_or6 (a := i_inAny) (b := x1) (by omega) (by omega); rw [← h_v3_2] at r_v3_2
    exact s_Scales_note_44 _ (by omega) zfu _ _ _ _ _ _ _ (by omega) (by omega) (by omega) (by omega) (by omega) (by unfold zfu; omega)
set_option maxHeartbeats 4000000 in
theorem s_Arrays_fill_n6_5   : ∀ (n : Nat) (x1 : Int) (x2 : Int) (x3 : Int) (i_a0 : Nat → Int), (0 ≤ x1 ∧ x1 ≤ 0) → (0 ≤ x2 ∧ x2 ≤ 6) → (6 ≤ x3 ∧ x3 ≤ 6) → (7 - x2) < (n : Int) → zok (f_Arrays_fill_n6_5  n x1 x2 x3 i_a0) (fun o => True) := by
  intro n
  induction n with
  | zero => intro x1 x2 x3 i_a0 b_x1 b_x2 b_x3 hm; exfalso; omega
  | succ n ih =>
    intro x1 x2 x3 i_a0 b_x1 b_x2 b_x3 hm
    show zok (f_Arrays_fill_n6_5_b  (f_Arrays_fill_n6_5  n) x1 x2 x3 i_a0) _
    unfold f_Arrays_fill_n6_5_b
    refine zk_ifc (zci_le (by omega) (by omega)) (fun hc => ?_) (fun hc => ?_)
    · exact zk_ret trivial
    · refine zk_sv (by omega) (by decide) (fun a1 h_a1 => ?_)
      refine zk_n ?_
      exact ih _ _ _ _ (by omega) (by omega) (by omega) (by omega)
set_option maxHeartbeats 4000000 in
theorem s_Arrays_fill_n6 (x1 : Int) (i_a0 : Nat → Int) (b_x1 : 0 ≤ x1 ∧ x1 ≤ 0) : zok (f_Arrays_fill_n6 x1 i_a0) (fun o => True) := by
  unfold f_Arrays_fill_n6
  exact s_Arrays_fill_n6_5 zfu _ _ _ _ (by omega) (by omega) (by omega) (by unfold zfu; omega)
set_option maxHeartbeats 4000000 in
theorem s_Scales_tripsOf_4 (i_hill_children : Int) (i_hill_trips : Nat → Int) (b_i_hill_children : 0 ≤ i_hill_children ∧ i_hill_children ≤ 6) (h_i_hill_trips : zR i_hill_trips 0 20) : ∀ (n : Nat) (x1 : Int) (x2 : Int) (x3 : Int), (0 ≤ x1 ∧ x1 ≤ 63) → (0 ≤ x3 ∧ x3 ≤ 6) → (7 - x3) < (n : Int) → zok (f_Scales_tripsOf_4 i_hill_children i_hill_trips n x1 x2 x3) (fun o => True) := by
  intro n
  induction n with
  | zero => intro x1 x2 x3 b_x1 b_x3 hm; exfalso; omega
  | succ n ih =>
    intro x1 x2 x3 b_x1 b_x3 hm
    show zok (f_Scales_tripsOf_4_b i_hill_children i_hill_trips (f_Scales_tripsOf_4 i_hill_children i_hill_trips n) x1 x2 x3) _
    unfold f_Scales_tripsOf_4_b
    refine zk_ifc (zci_le (by omega) (by omega)) (fun hc => ?_) (fun hc => ?_)
    · exact zk_ret trivial
    · refine zk_nE (fun v1 h_v1 => ?_)
      have r_v1 := zi_shr_f x1 x3; rw [← h_v1] at r_v1
      refine zk_nE (fun v2 h_v2 => ?_)
      have r_v2 := zi_and_m v1 (m := 1) (by decide); rw [← h_v2] at r_v2
      refine zk_gv (by omega) (by decide) (fun v3 h_v3 => ?_)
      have r_v3 := h_i_hill_trips (x3.toNat)
      refine zk_nE (fun v4 h_v4 => ?_)
      have r_v4 := zmulb (a := v2) (b := v3) 1 20 (by omega) (by omega); rw [← h_v4] at r_v4
      refine zk_n ?_
      refine zk_n ?_
      exact ih _ _ _ (by omega) (by omega) (by omega)
set_option maxHeartbeats 4000000 in
theorem s_Scales_tripsOf (x1 : Int) (i_hill_children : Int) (i_hill_trips : Nat → Int) (b_x1 : 0 ≤ x1 ∧ x1 ≤ 63) (b_i_hill_children : 0 ≤ i_hill_children ∧ i_hill_children ≤ 6) (h_i_hill_trips : zR i_hill_trips 0 20) : zok (f_Scales_tripsOf x1 i_hill_children i_hill_trips) (fun o => True) := by
  unfold f_Scales_tripsOf
  exact s_Scales_tripsOf_4 _ _ (by omega) h_i_hill_trips zfu _ _ _ (by omega) (by omega) (by unfold zfu; omega)
set_option maxHeartbeats 4000000 in
theorem s_Scales_suspect_43 (i_hill_children : Int) (i_hill_trips : Nat → Int) (b_i_hill_children : 0 ≤ i_hill_children ∧ i_hill_children ≤ 6) (h_i_hill_trips : zR i_hill_trips 0 20) : ∀ (n : Nat) (x1 : Int) (x2 : Int) (x3 : Int) (x4 : Int) (i_sets : Int) (i_lowest : Int) (i_inAll : Int) (i_inAny : Int) (i_setsWith : Nat → Int), (1 ≤ x1 ∧ x1 ≤ 9) → (0 ≤ x2 ∧ x2 ≤ 999) → (0 ≤ x3 ∧ x3 ≤ 63) → (0 ≤ x4 ∧ x4 ≤ 64) → ((-1) ≤ i_lowest ∧ i_lowest ≤ 63) → (0 ≤ i_inAll ∧ i_inAll ≤ 63) → (0 ≤ i_inAny ∧ i_inAny ≤ 63) → (65 - x4) < (n : Int) → zok (f_Scales_suspect_43 i_hill_children i_hill_trips n x1 x2 x3 x4 i_sets i_lowest i_inAll i_inAny i_setsWith) (fun o => ((-1) ≤ o.2.1 ∧ o.2.1 ≤ 63) ∧ (0 ≤ o.2.2.1 ∧ o.2.2.1 ≤ 63) ∧ (0 ≤ o.2.2.2.1 ∧ o.2.2.2.1 ≤ 63)) := by
  intro n
  induction n with
  | zero => intro x1 x2 x3 x4 i_sets i_lowest i_inAll i_inAny i_setsWith b_x1 b_x2 b_x3 b_x4 b_i_lowest b_i_inAll b_i_inAny hm; exfalso; omega
  | succ n ih =>
    intro x1 x2 x3 x4 i_sets i_lowest i_inAll i_inAny i_setsWith b_x1 b_x2 b_x3 b_x4 b_i_lowest b_i_inAll b_i_inAny hm
    show zok (f_Scales_suspect_43_b i_hill_children i_hill_trips (f_Scales_suspect_43 i_hill_children i_hill_trips n) x1 x2 x3 x4 i_sets i_lowest i_inAll i_inAny i_setsWith) _
    unfold f_Scales_suspect_43_b
    refine zk_ifc (zci_lt (by omega) (by omega)) (fun hc => ?_) (fun hc => ?_)
    · refine zk_ret ?_
      try dsimp only
      exact ⟨by omega, by omega, by omega⟩
    · refine zk_d1 (s_Scales_tripsOf _ _ _ (by omega) (by omega) h_i_hill_trips) (fun v1 hp => ?_)
      refine zk_nE (fun v2 h_v2 => ?_)
      refine zk_if (fun hc_2 => ?_) (fun hc_2 => ?_)
      · unfold f_Scales_suspect_67
        refine zk_n ?_
        exact ih _ _ _ _ _ _ _ _ _ (by omega) (by omega) (by omega) (by omega) (by omega) (by omega) (by omega) (by omega)
      · refine zk_d5 (s_Scales_note _ _ _ _ _ _ _ (by omega) (by omega) (by omega) (by omega) (by omega)) (fun v3 v4 v5 v6 a7 hp_2 => ?_)
        try dsimp only at hp_2
        obtain ⟨hp_2p0, hp_2p1, hp_2p2⟩ := hp_2
        unfold f_Scales_suspect_67
        refine zk_n ?_
        exact ih _ _ _ _ _ _ _ _ _ (by omega) (by omega) (by omega) (by omega) (by omega) (by omega) (by omega) (by omega)
set_option maxHeartbeats 4000000 in
theorem s_Scales_suspect (x1 : Int) (x2 : Int) (i_hill_children : Int) (i_hill_trips : Nat → Int) (i_sets : Int) (i_lowest : Int) (i_inAll : Int) (i_inAny : Int) (i_setsWith : Nat → Int) (b_x1 : 1 ≤ x1 ∧ x1 ≤ 9) (b_x2 : 0 ≤ x2 ∧ x2 ≤ 999) (b_i_hill_children : 0 ≤ i_hill_children ∧ i_hill_children ≤ 6) (h_i_hill_trips : zR i_hill_trips 0 20) (b_i_lowest : (-1) ≤ i_lowest ∧ i_lowest ≤ 63) (b_i_inAll : 0 ≤ i_inAll ∧ i_inAll ≤ 63) (b_i_inAny : 0 ≤ i_inAny ∧ i_inAny ≤ 63) : zok (f_Scales_suspect x1 x2 i_hill_children i_hill_trips i_sets i_lowest i_inAll i_inAny i_setsWith) (fun o => ((-1) ≤ o.2.1 ∧ o.2.1 ≤ 63) ∧ (0 ≤ o.2.2.1 ∧ o.2.2.1 ≤ 63) ∧ (0 ≤ o.2.2.2.1 ∧ o.2.2.2.1 ≤ 63)) := by
  unfold f_Scales_suspect
  refine zk_nE (fun v1 h_v1 => ?_)
  have r_v1 := zi_shl1 (y := i_hill_children) (by omega); rw [← h_v1] at r_v1
  refine zk_n ?_
  refine zk_d1 (s_Arrays_fill_n6 _ _ (by omega)) (fun a3 hp => ?_)
  exact s_Scales_suspect_43 _ _ (by omega) h_i_hill_trips zfu _ _ _ _ _ _ _ _ _ (by omega) (by omega) (by omega) (by omega) (by omega) (by omega) (by omega) (by unfold zfu; omega)
set_option maxHeartbeats 4000000 in
theorem s_HS_culprits (x1 : Int) (x2 : Int) (x3 : Int) (i_hill_children : Int) (i_hill_trips : Nat → Int) (i_scales_sets : Int) (i_scales_lowest : Int) (i_scales_inAll : Int) (i_scales_inAny : Int) (i_scales_setsWith : Nat → Int) (b_x1 : (-2147483648) ≤ x1 ∧ x1 ≤ 2147483647) (b_x2 : (-2147483648) ≤ x2 ∧ x2 ≤ 2147483647) (b_x3 : (-2147483648) ≤ x3 ∧ x3 ≤ 2147483647) (b_i_hill_children : 0 ≤ i_hill_children ∧ i_hill_children ≤ 6) (h_i_hill_trips : zR i_hill_trips 0 20) (b_i_scales_lowest : (-1) ≤ i_scales_lowest ∧ i_scales_lowest ≤ 63) (b_i_scales_inAll : 0 ≤ i_scales_inAll ∧ i_scales_inAll ≤ 63) (b_i_scales_inAny : 0 ≤ i_scales_inAny ∧ i_scales_inAny ≤ 63) : zok (f_HS_culprits x1 x2 x3 i_hill_children i_hill_trips i_scales_sets i_scales_lowest i_scales_inAll i_scales_inAny i_scales_setsWith) (fun o => ((-1) ≤ o.2.2.1 ∧ o.2.2.1 ≤ 63) ∧ (0 ≤ o.2.2.2.1 ∧ o.2.2.2.1 ≤ 63) ∧ (0 ≤ o.2.2.2.2.1 ∧ o.2.2.2.2.1 ≤ 63)) := by
  unfold f_HS_culprits
  refine zk_ifc (zci_lt (by omega) (by omega)) (fun hc => ?_) (fun hc => ?_)
  · refine zk_ret ?_
    try dsimp only
    exact ⟨by omega, by omega, by omega⟩
  · refine zk_ifc (zci_lt (by omega) (by omega)) (fun hc_2 => ?_) (fun hc_2 => ?_)
    · refine zk_ret ?_
      try dsimp only
      exact ⟨by omega, by omega, by omega⟩
    · refine zk_ifc (zci_ltr (by omega)) (fun hc_3 => ?_) (fun hc_3 => ?_)
      · refine zk_ret ?_
        try dsimp only
        exact ⟨by omega, by omega, by omega⟩
      · refine zk_ifc (zci_le (by omega) (by omega)) (fun hc_4 => ?_) (fun hc_4 => ?_)
        · refine zk_d5 (s_Scales_suspect _ _ _ _ _ _ _ _ _ (by omega) (by omega) (by omega) h_i_hill_trips (by omega) (by omega) (by omega)) (fun v1 v2 v3 v4 a5 hp => ?_)
          try dsimp only at hp
          obtain ⟨hpp0, hpp1, hpp2⟩ := hp
          refine zk_d1 (s_Scales_finding _ _ _ _ _ _ _ (by omega) (by omega) (by omega) (by omega) (by omega)) (fun v6 hp_2 => ?_)
          refine zk_ret ?_
          try dsimp only
          exact ⟨by omega, by omega, by omega⟩
        · refine zk_ret ?_
          try dsimp only
          exact ⟨by omega, by omega, by omega⟩
