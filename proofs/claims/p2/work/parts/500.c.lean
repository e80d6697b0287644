section
set_option maxHeartbeats 4000000 in
theorem s_HS_accept (x1 : Int) (i_latestStatus : Int) (i_hill_changes : Int) (b_i_latestStatus : (-6) ≤ i_latestStatus ∧ i_latestStatus ≤ 0) : zok (f_HS_accept x1 i_latestStatus i_hill_changes) (fun o => (0 ≤ o.2.1 ∧ o.2.1 ≤ 0) ∧ (o.1 = x1) ∧ (o.2.1 = 0) ∧ (o.2.2 = i_hill_changes + 1)) := by
  unfold f_HS_accept
  refine zk_n ?_
  refine zk_ret ?_
  try dsimp only
  exact ⟨by omega, by omega, by omega, by omega⟩
set_option maxHeartbeats 4000000 in
theorem s_HS_refuse (x1 : Int) (i_latestStatus : Int) (i_refusals : Nat → Int) (b_x1 : (-6) ≤ x1 ∧ x1 ≤ (-1)) (b_i_latestStatus : (-6) ≤ i_latestStatus ∧ i_latestStatus ≤ 0) : zok (f_HS_refuse x1 i_latestStatus i_refusals) (fun o => ((-6) ≤ o.1 ∧ o.1 ≤ (-1)) ∧ ((-6) ≤ o.2.1 ∧ o.2.1 ≤ (-1)) ∧ (o.1 = x1) ∧ (o.2.1 = x1)) := by
  unfold f_HS_refuse
  refine zk_nE (fun v1 h_v1 => ?_)
  refine zk_gv (by omega) (by decide) (fun v2 h_v2 => ?_)
  refine zk_n ?_
  refine zk_sv (by omega) (by decide) (fun a4 h_a4 => ?_)
  refine zk_ret ?_
  try dsimp only
  exact ⟨by omega, by omega, by omega, by omega⟩
set_option maxHeartbeats 4000000 in
theorem s_Columns_grow (i_many : Int) (i_heights : Nat → Int) (b_i_many : 0 ≤ i_many ∧ i_many ≤ 12) (h_i_heights : zR i_heights 0 10) : zok (f_Columns_grow i_many i_heights) (fun o => (0 ≤ o.1 ∧ o.1 ≤ 1) ∧ (1 ≤ o.2.1 ∧ o.2.1 ≤ 12) ∧ zR o.2.2 0 10) := by
  unfold f_Columns_grow
  refine zk_ifc (zci_lt (by omega) (by omega)) (fun hc => ?_) (fun hc => ?_)
  · refine zk_sv (by omega) (by decide) (fun a1 h_a1 => ?_)
    have i_a1 : zR a1 0 10 := by rw [h_a1]; exact zR_zu h_i_heights (by decide) (by decide) (by omega)
    refine zk_n ?_
    refine zk_ret ?_
    try dsimp only
    exact ⟨by omega, by omega, i_a1⟩
  · refine zk_ret ?_
    try dsimp only
    exact ⟨by omega, by omega, h_i_heights⟩
set_option maxHeartbeats 4000000 in
theorem s_HS_column (i_latestStatus : Int) (i_hill_changes : Int) (i_refusals : Nat → Int) (i_hill_columns_many : Int) (i_hill_goals : Nat → Int) (i_hill_columns_heights : Nat → Int) (b_i_latestStatus : (-6) ≤ i_latestStatus ∧ i_latestStatus ≤ 0) (b_i_hill_columns_many : 0 ≤ i_hill_columns_many ∧ i_hill_columns_many ≤ 12) (h_i_hill_goals : zR i_hill_goals (-1) 10) (h_i_hill_columns_heights : zR i_hill_columns_heights 0 10) : zok (f_HS_column i_latestStatus i_hill_changes i_refusals i_hill_columns_many i_hill_goals i_hill_columns_heights) (fun o => ((-6) ≤ o.2.1 ∧ o.2.1 ≤ 0) ∧ (1 ≤ o.2.2.2.2.1 ∧ o.2.2.2.2.1 ≤ 12) ∧ zR o.2.2.2.2.2.1 (-1) 10 ∧ zR o.2.2.2.2.2.2 0 10) := by
  unfold f_HS_column
  refine zk_d3 (s_Columns_grow _ _ (by omega) h_i_hill_columns_heights) (fun v1 v2 a3 hp => ?_)
  try dsimp only at hp
  obtain ⟨hpp0, hpp1, hpp2⟩ := hp
  refine zk_ifc (zci_ner (by omega)) (fun hc => ?_) (fun hc => ?_)
  · refine zk_n ?_
    refine zk_sv (by omega) (by decide) (fun a5 h_a5 => ?_)
    have i_a5 : zR a5 (-1) 10 := by rw [h_a5]; exact zR_zu h_i_hill_goals (by decide) (by decide) (by omega)
    refine zk_d3 (s_HS_accept _ _ _ (by omega)) (fun v6 v7 v8 hp_2 => ?_)
    try dsimp only at hp_2
    obtain ⟨hp_2p0, hp_2p1, hp_2p2, hp_2p3⟩ := hp_2
    refine zk_ret ?_
    try dsimp only
    exact ⟨by omega, by omega, i_a5, hpp2⟩
  · refine zk_d3 (s_HS_refuse _ _ _ (by omega) (by omega)) (fun v9 v10 a11 hp_3 => ?_)
    try dsimp only at hp_3
    obtain ⟨hp_3p0, hp_3p1, hp_3p2, hp_3p3⟩ := hp_3
    refine zk_ret ?_
    try dsimp only
    exact ⟨by omega, by omega, h_i_hill_goals, hpp2⟩
set_option maxHeartbeats 4000000 in
theorem s_Columns_has (x1 : Int) (i_many : Int) (b_x1 : (-2147483648) ≤ x1 ∧ x1 ≤ 2147483647) (b_i_many : 0 ≤ i_many ∧ i_many ≤ 12) : zok (f_Columns_has x1 i_many) (fun o => (0 ≤ o ∧ o ≤ 1) ∧ ((x1 < 0 ∧ o = 0) ∨ (x1 ≥ 0 ∧ i_many ≤ x1 ∧ o = 0) ∨ (x1 ≥ 0 ∧ i_many > x1 ∧ o = 1))) := by
  unfold f_Columns_has
  refine zk_ifc (zci_ltr (by omega)) (fun hc => ?_) (fun hc => ?_)
  · exact zk_ret ⟨by omega, by first | exact Or.inl (by omega) | exact Or.inr (Or.inl (by omega)) | exact Or.inr (Or.inr ((by omega)))⟩
  · refine zk_ifc (zci_le (by omega) (by omega)) (fun hc_2 => ?_) (fun hc_2 => ?_)
    · exact zk_ret ⟨by omega, by first | exact Or.inl (by omega) | exact Or.inr (Or.inl (by omega)) | exact Or.inr (Or.inr ((by omega)))⟩
    · exact zk_ret ⟨by omega, by first | exact Or.inl (by omega) | exact Or.inr (Or.inl (by omega)) | exact Or.inr (Or.inr ((by omega)))⟩
set_option maxHeartbeats 4000000 in
theorem s_Columns_put (x1 : Int) (x2 : Int) (i_many : Int) (i_heights : Nat → Int) (i_weights : Nat → Int) (b_x1 : (-1) ≤ x1 ∧ x1 ≤ 255) (b_x2 : 0 ≤ x2 ∧ x2 ≤ 30) (b_i_many : 1 ≤ i_many ∧ i_many ≤ 12) (h_i_heights : zR i_heights 0 10) (h_i_weights : zR i_weights 0 30) : zok (f_Columns_put x1 x2 i_many i_heights i_weights) (fun o => (0 ≤ o.1 ∧ o.1 ≤ 1) ∧ zR o.2.1 0 10 ∧ zR o.2.2 0 30 ∧ (∀ j, i_heights j ≤ o.2.1 j)) := by
  unfold f_Columns_put
  refine zk_d1 (s_Columns_has _ _ (by omega) (by omega)) (fun v1 hp => ?_)
  try dsimp only at hp
  obtain ⟨hpp0, hpp1⟩ := hp
  refine zk_ifc (zci_eqr (by omega)) (fun hc => ?_) (fun hc => ?_)
  · refine zk_ret ?_
    try dsimp only
    exact ⟨by omega, h_i_heights, h_i_weights, by first | exact fun j => Int.le_refl _ | exact zu_mono h_a9 (by omega)⟩
  · refine zk_gv (by omega) (by decide) (fun v2 h_v2 => ?_)
    have r_v2 := h_i_heights (x1.toNat)
    refine zk_ifc (zci_lt (by omega) (by omega)) (fun hc_2 => ?_) (fun hc_2 => ?_)
    · refine zk_n ?_
      refine zk_gv (by omega) (by decide) (fun v4 h_v4 => ?_)
      have r_v4 := h_i_heights (x1.toNat)
      refine zk_n ?_
      refine zk_sv (by omega) (by decide) (fun a6 h_a6 => ?_)
      have i_a6 : zR a6 0 30 := by rw [h_a6]; exact zR_zu h_i_weights (by decide) (by decide) (by omega)
      refine zk_gv (by omega) (by decide) (fun v7 h_v7 => ?_)
      have r_v7 := h_i_heights (x1.toNat)
      refine zk_n ?_
      refine zk_sv (by omega) (by decide) (fun a9 h_a9 => ?_)
      have i_a9 : zR a9 0 10 := by rw [h_a9]; exact zR_zu h_i_heights (by decide) (by decide) (by omega)
      refine zk_ret ?_
      try dsimp only
      exact ⟨by omega, i_a9, i_a6, by first | exact fun j => Int.le_refl _ | exact zu_mono h_a9 (by omega)⟩
    · refine zk_ret ?_
      try dsimp only
      exact ⟨by omega, h_i_heights, h_i_weights, by first | exact fun j => Int.le_refl _ | exact zu_mono h_a9 (by omega)⟩
set_option maxHeartbeats 4000000 in
theorem s_Columns_high (x1 : Int) (i_many : Int) (i_heights : Nat → Int) (b_x1 : 0 ≤ x1 ∧ x1 ≤ 11) (b_i_many : 0 ≤ i_many ∧ i_many ≤ 12) (h_i_heights : zR i_heights 0 10) : zok (f_Columns_high x1 i_many i_heights) (fun o => (0 ≤ o ∧ o ≤ 10) ∧ ((x1 < 0 ∧ o = 0) ∨ (x1 ≥ 0 ∧ i_many ≤ x1 ∧ o = 0) ∨ (x1 ≥ 0 ∧ i_many > x1 ∧ o = (i_heights (x1).toNat)))) := by
  unfold f_Columns_high
  refine zk_d1 (s_Columns_has _ _ (by omega) (by omega)) (fun v1 hp => ?_)
  try dsimp only at hp
  obtain ⟨hpp0, hpp1⟩ := hp
  refine zk_ifc (zci_eqr (by omega)) (fun hc => ?_) (fun hc => ?_)
  · exact zk_ret ⟨by omega, by first | exact Or.inl (by omega) | exact Or.inr (Or.inl (by omega)) | exact Or.inr (Or.inr ((by omega)))⟩
  · refine zk_gv (by omega) (by decide) (fun v2 h_v2 => ?_)
    have r_v2 := h_i_heights (x1.toNat)
    exact zk_ret ⟨by omega, by first | exact Or.inl (by omega) | exact Or.inr (Or.inl (by omega)) | exact Or.inr (Or.inr ((by omega)))⟩
set_option maxHeartbeats 4000000 in
theorem s_HS_stone (x1 : Int) (x2 : Int) (i_hill_columns_many : Int) (i_latestStatus : Int) (i_hill_changes : Int) (i_refusals : Nat → Int) (i_hill_columns_heights : Nat → Int) (i_hill_columns_weights : Nat → Int) (b_x1 : (-2147483648) ≤ x1 ∧ x1 ≤ 2147483647) (b_x2 : (-2147483648) ≤ x2 ∧ x2 ≤ 2147483647) (b_i_hill_columns_many : 0 ≤ i_hill_columns_many ∧ i_hill_columns_many ≤ 12) (b_i_latestStatus : (-6) ≤ i_latestStatus ∧ i_latestStatus ≤ 0) (h_i_hill_columns_heights : zR i_hill_columns_heights 0 10) (h_i_hill_columns_weights : zR i_hill_columns_weights 0 30) : zok (f_HS_stone x1 x2 i_hill_columns_many i_latestStatus i_hill_changes i_refusals i_hill_columns_heights i_hill_columns_weights) (fun o => ((-6) ≤ o.2.1 ∧ o.2.1 ≤ 0) ∧ zR o.2.2.2.2.1 0 10 ∧ zR o.2.2.2.2.2 0 30) := by
  unfold f_HS_stone
  refine zk_ifc (zci_lt (by omega) (by omega)) (fun hc => ?_) (fun hc => ?_)
  · unfold f_HS_stone_11
    refine zk_d3 (s_HS_refuse _ _ _ (by omega) (by omega)) (fun v1 v2 a3 hp => ?_)
    try dsimp only at hp
    obtain ⟨hpp0, hpp1, hpp2, hpp3⟩ := hp
    refine zk_ret ?_
    try dsimp only
    exact ⟨by omega, h_i_hill_columns_heights, h_i_hill_columns_weights⟩
  · refine zk_ifc (zci_le (by omega) (by omega)) (fun hc_2 => ?_) (fun hc_2 => ?_)
    · refine zk_d1 (s_Columns_has _ _ (by omega) (by omega)) (fun v1_2 hp_2 => ?_)
      try dsimp only at hp_2
      obtain ⟨hp_2p0, hp_2p1⟩ := hp_2
      refine zk_ifc (zci_ner (by omega)) (fun hc_3 => ?_) (fun hc_3 => ?_)
      · refine zk_d3 (s_Columns_put _ _ _ _ _ (by omega) (by omega) (by omega) h_i_hill_columns_heights h_i_hill_columns_weights) (fun v2_2 a3_2 a4 hp_3 => ?_)
        try dsimp only at hp_3
        obtain ⟨hp_3p0, hp_3p1, hp_3p2, hp_3p3⟩ := hp_3
        refine zk_ifc (zci_ner (by omega)) (fun hc_4 => ?_) (fun hc_4 => ?_)
        · refine zk_d1 (s_Columns_high _ _ _ (by omega) (by omega) hp_3p1) (fun v5 hp_4 => ?_)
          try dsimp only at hp_4
          obtain ⟨hp_4p0, hp_4p1⟩ := hp_4
          refine zk_d3 (s_HS_accept _ _ _ (by omega)) (fun v6 v7 v8 hp_5 => ?_)
          try dsimp only at hp_5
          obtain ⟨hp_5p0, hp_5p1, hp_5p2, hp_5p3⟩ := hp_5
          refine zk_ret ?_
          try dsimp only
          exact ⟨by omega, hp_3p1, hp_3p2⟩
        · refine zk_d3 (s_HS_refuse _ _ _ (by omega) (by omega)) (fun v9 v10 a11 hp_6 => ?_)
          try dsimp only at hp_6
          obtain ⟨hp_6p0, hp_6p1, hp_6p2, hp_6p3⟩ := hp_6
          refine zk_ret ?_
          try dsimp only
          exact ⟨by omega, hp_3p1, hp_3p2⟩
      · refine zk_d3 (s_HS_refuse _ _ _ (by omega) (by omega)) (fun v12 v13 a14 hp_7 => ?_)
        try dsimp only at hp_7
        obtain ⟨hp_7p0, hp_7p1, hp_7p2, hp_7p3⟩ := hp_7
        refine zk_ret ?_
        try dsimp only
        exact ⟨by omega, h_i_hill_columns_heights, h_i_hill_columns_weights⟩
    · unfold f_HS_stone_11
      refine zk_d3 (s_HS_refuse _ _ _ (by omega) (by omega)) (fun v1_3 v2_3 a3_3 hp_8 => ?_)
      try dsimp only at hp_8
      obtain ⟨hp_8p0, hp_8p1, hp_8p2, hp_8p3⟩ := hp_8
      refine zk_ret ?_
      try dsimp only
      exact ⟨by omega, h_i_hill_columns_heights, h_i_hill_columns_weights⟩
set_option maxHeartbeats 4000000 in
theorem s_Columns_top (x1 : Int) (i_many : Int) (i_heights : Nat → Int) (i_weights : Nat → Int) (b_x1 : 0 ≤ x1 ∧ x1 ≤ 11) (b_i_many : 1 ≤ i_many ∧ i_many ≤ 12) (h_i_heights : zR i_heights 0 10) (h_i_weights : zR i_weights 0 30) : zok (f_Columns_top x1 i_many i_heights i_weights) (fun o => (0 ≤ o ∧ o ≤ 30)) := by
  unfold f_Columns_top
  refine zk_d1 (s_Columns_high _ _ _ (by omega) (by omega) h_i_heights) (fun v1 hp => ?_)
  try dsimp only at hp
  obtain ⟨hpp0, hpp1⟩ := hp
  refine zk_ifc (zci_ler (by omega)) (fun hc => ?_) (fun hc => ?_)
  · exact zk_ret (by omega)
  · refine zk_n ?_
    refine zk_n ?_
    refine zk_n ?_
    refine zk_gv (by omega) (by decide) (fun v5 h_v5 => ?_)
    have r_v5 := h_i_weights ((((x1 * 10) + v1) - 1).toNat)
    exact zk_ret (by omega)
set_option maxHeartbeats 4000000 in
theorem s_Columns_take (x1 : Int) (i_many : Int) (i_weights : Nat → Int) (i_heights : Nat → Int) (b_x1 : 0 ≤ x1 ∧ x1 ≤ 11) (b_i_many : 1 ≤ i_many ∧ i_many ≤ 12) (h_i_weights : zR i_weights 0 30) (h_i_heights : zR i_heights 0 10) : zok (f_Columns_take x1 i_many i_weights i_heights) (fun o => (0 ≤ o.1 ∧ o.1 ≤ 30) ∧ zR o.2 0 10) := by
  unfold f_Columns_take
  refine zk_d1 (s_Columns_top _ _ _ _ (by omega) (by omega) h_i_heights h_i_weights) (fun v1 hp => ?_)
  try dsimp only at hp
  have hpp0 := hp
  refine zk_d1 (s_Columns_high _ _ _ (by omega) (by omega) h_i_heights) (fun v2 hp_2 => ?_)
  try dsimp only at hp_2
  obtain ⟨hp_2p0, hp_2p1⟩ := hp_2
  refine zk_ifc (zci_ler (by omega)) (fun hc => ?_) (fun hc => ?_)
  · refine zk_ret ?_
    try dsimp only
    exact ⟨by omega, h_i_heights⟩
  · refine zk_gv (by omega) (by decide) (fun v3 h_v3 => ?_)
    have r_v3 := h_i_heights (x1.toNat)
    refine zk_n ?_
    refine zk_sv (by omega) (by decide) (fun a5 h_a5 => ?_)
    have i_a5 : zR a5 0 10 := by rw [h_a5]; exact zR_zu h_i_heights (by decide) (by decide) (by omega)
    refine zk_ret ?_
    try dsimp only
    exact ⟨by omega, i_a5⟩
set_option maxHeartbeats 4000000 in
theorem s_HS_lift (x1 : Int) (i_hill_columns_many : Int) (i_hill_columns_weights : Nat → Int) (i_latestStatus : Int) (i_hill_changes : Int) (i_refusals : Nat → Int) (i_hill_columns_heights : Nat → Int) (b_x1 : (-2147483648) ≤ x1 ∧ x1 ≤ 2147483647) (b_i_hill_columns_many : 0 ≤ i_hill_columns_many ∧ i_hill_columns_many ≤ 12) (h_i_hill_columns_weights : zR i_hill_columns_weights 0 30) (b_i_latestStatus : (-6) ≤ i_latestStatus ∧ i_latestStatus ≤ 0) (h_i_hill_columns_heights : zR i_hill_columns_heights 0 10) : zok (f_HS_lift x1 i_hill_columns_many i_hill_columns_weights i_latestStatus i_hill_changes i_refusals i_hill_columns_heights) (fun o => ((-6) ≤ o.2.1 ∧ o.2.1 ≤ 0) ∧ zR o.2.2.2.2 0 10) := by
  unfold f_HS_lift
  refine zk_d1 (s_Columns_has _ _ (by omega) (by omega)) (fun v1 hp => ?_)
  try dsimp only at hp
  obtain ⟨hpp0, hpp1⟩ := hp
  refine zk_ifc (zci_ner (by omega)) (fun hc => ?_) (fun hc => ?_)
  · refine zk_d1 (s_Columns_high _ _ _ (by omega) (by omega) h_i_hill_columns_heights) (fun v2 hp_2 => ?_)
    try dsimp only at hp_2
    obtain ⟨hp_2p0, hp_2p1⟩ := hp_2
    refine zk_ifc (zci_ner (by omega)) (fun hc_2 => ?_) (fun hc_2 => ?_)
    · refine zk_d2 (s_Columns_take _ _ _ _ (by omega) (by omega) h_i_hill_columns_weights h_i_hill_columns_heights) (fun v3 a4 hp_3 => ?_)
      try dsimp only at hp_3
      obtain ⟨hp_3p0, hp_3p1⟩ := hp_3
      refine zk_d3 (s_HS_accept _ _ _ (by omega)) (fun v5 v6 v7 hp_4 => ?_)
      try dsimp only at hp_4
      obtain ⟨hp_4p0, hp_4p1, hp_4p2, hp_4p3⟩ := hp_4
      refine zk_ret ?_
      try dsimp only
      exact ⟨by omega, hp_3p1⟩
    · refine zk_d3 (s_HS_refuse _ _ _ (by omega) (by omega)) (fun v8 v9 a10 hp_5 => ?_)
      try dsimp only at hp_5
      obtain ⟨hp_5p0, hp_5p1, hp_5p2, hp_5p3⟩ := hp_5
      refine zk_ret ?_
      try dsimp only
      exact ⟨by omega, h_i_hill_columns_heights⟩
  · refine zk_d3 (s_HS_refuse _ _ _ (by omega) (by omega)) (fun v11 v12 a13 hp_6 => ?_)
    try dsimp only at hp_6
    obtain ⟨hp_6p0, hp_6p1, hp_6p2, hp_6p3⟩ := hp_6
    refine zk_ret ?_
    try dsimp only
    exact ⟨by omega, h_i_hill_columns_heights⟩
set_option maxHeartbeats 4000000 in
theorem s_Columns_heft (x1 : Int) (x2 : Int) (i_many : Int) (i_heights : Nat → Int) (i_weights : Nat → Int) (b_x1 : 0 ≤ x1 ∧ x1 ≤ 11) (b_x2 : 0 ≤ x2 ∧ x2 ≤ 9) (b_i_many : 1 ≤ i_many ∧ i_many ≤ 12) (h_i_heights : zR i_heights 0 10) (h_i_weights : zR i_weights 0 30) : zok (f_Columns_heft x1 x2 i_many i_heights i_weights) (fun o => (0 ≤ o ∧ o ≤ 30)) := by
  unfold f_Columns_heft
  refine zk_ifc (zci_ltr (by omega)) (fun hc => ?_) (fun hc => ?_)
  · exfalso; omega
  · refine zk_d1 (s_Columns_high _ _ _ (by omega) (by omega) h_i_heights) (fun v1 hp => ?_)
    try dsimp only at hp
    obtain ⟨hpp0, hpp1⟩ := hp
    refine zk_ifc (zci_le (by omega) (by omega)) (fun hc_2 => ?_) (fun hc_2 => ?_)
    · exact zk_ret (by omega)
    · refine zk_n ?_
      refine zk_n ?_
      refine zk_gv (by omega) (by decide) (fun v4 h_v4 => ?_)
      have r_v4 := h_i_weights (((x1 * 10) + x2).toNat)
      exact zk_ret (by omega)
set_option maxHeartbeats 4000000 in
theorem s_HS_of (x1 : Int) (x2 : Int) (i_hill_columns_many : Int) (i_hill_columns_heights : Nat → Int) (i_hill_columns_weights : Nat → Int) (b_x1 : (-2147483648) ≤ x1 ∧ x1 ≤ 2147483647) (b_x2 : (-2147483648) ≤ x2 ∧ x2 ≤ 2147483647) (b_i_hill_columns_many : 0 ≤ i_hill_columns_many ∧ i_hill_columns_many ≤ 12) (h_i_hill_columns_heights : zR i_hill_columns_heights 0 10) (h_i_hill_columns_weights : zR i_hill_columns_weights 0 30) : zok (f_HS_of x1 x2 i_hill_columns_many i_hill_columns_heights i_hill_columns_weights) (fun o => ((-1) ≤ o ∧ o ≤ 30)) := by
  unfold f_HS_of
  refine zk_d1 (s_Columns_has _ _ (by omega) (by omega)) (fun v1 hp => ?_)
  try dsimp only at hp
  obtain ⟨hpp0, hpp1⟩ := hp
  refine zk_ifc (zci_ner (by omega)) (fun hc => ?_) (fun hc => ?_)
  · refine zk_ifc (zci_ne (by omega) (by omega)) (fun hc_2 => ?_) (fun hc_2 => ?_)
    · refine zk_ifc (zci_ltr (by omega)) (fun hc_3 => ?_) (fun hc_3 => ?_)
      · exact zk_ret (by omega)
      · refine zk_d1 (s_Columns_high _ _ _ (by omega) (by omega) h_i_hill_columns_heights) (fun v2 hp_2 => ?_)
        try dsimp only at hp_2
        obtain ⟨hp_2p0, hp_2p1⟩ := hp_2
        refine zk_ifc (zci_lt (by omega) (by omega)) (fun hc_4 => ?_) (fun hc_4 => ?_)
        · refine zk_d1 (s_Columns_heft _ _ _ _ _ (by omega) (by omega) (by omega) h_i_hill_columns_heights h_i_hill_columns_weights) (fun v3 hp_3 => ?_)
          try dsimp only at hp_3
          have hp_3p0 := hp_3
          exact zk_ret (by omega)
        · exact zk_ret (by omega)
    · refine zk_d1 (s_Columns_high _ _ _ (by omega) (by omega) h_i_hill_columns_heights) (fun v4 hp_4 => ?_)
      try dsimp only at hp_4
      obtain ⟨hp_4p0, hp_4p1⟩ := hp_4
      exact zk_ret (by omega)
  · exact zk_ret (by omega)
set_option maxHeartbeats 4000000 in
theorem s_Columns_load_4 (i_many : Int) (i_heights : Nat → Int) (i_weights : Nat → Int) (b_i_many : 1 ≤ i_many ∧ i_many ≤ 12) (h_i_heights : zR i_heights 0 10) (h_i_weights : zR i_weights 0 30) : ∀ (n : Nat) (x1 : Int) (x2 : Int) (x3 : Int), (0 ≤ x1 ∧ x1 ≤ 11) → (0 ≤ x3 ∧ x3 ≤ 10) → (11 - x3) < (n : Int) → zok (f_Columns_load_4 i_many i_heights i_weights n x1 x2 x3) (fun o => True) := by
  intro n
  induction n with
  | zero => intro x1 x2 x3 b_x1 b_x3 hm; exfalso; omega
  | succ n ih =>
    intro x1 x2 x3 b_x1 b_x3 hm
    show zok (f_Columns_load_4_b i_many i_heights i_weights (f_Columns_load_4 i_many i_heights i_weights n) x1 x2 x3) _
    unfold f_Columns_load_4_b
    refine zk_d1 (s_Columns_high _ _ _ (by omega) (by omega) h_i_heights) (fun v1 hp => ?_)
    try dsimp only at hp
    obtain ⟨hpp0, hpp1⟩ := hp
    refine zk_ifc (zci_le (by omega) (by omega)) (fun hc => ?_) (fun hc => ?_)
    · exact zk_ret trivial
    · refine zk_d1 (s_Columns_heft _ _ _ _ _ (by omega) (by omega) (by omega) h_i_heights h_i_weights) (fun v2 hp_2 => ?_)
      try dsimp only at hp_2
      have hp_2p0 := hp_2
      refine zk_n ?_
      refine zk_n ?_
      exact ih _ _ _ (by omega) (by omega) (by omega)
set_option maxHeartbeats 4000000 in
theorem s_Columns_load (x1 : Int) (i_many : Int) (i_heights : Nat → Int) (i_weights : Nat → Int) (b_x1 : 0 ≤ x1 ∧ x1 ≤ 11) (b_i_many : 1 ≤ i_many ∧ i_many ≤ 12) (h_i_heights : zR i_heights 0 10) (h_i_weights : zR i_weights 0 30) : zok (f_Columns_load x1 i_many i_heights i_weights) (fun o => True) := by
  unfold f_Columns_load
  exact s_Columns_load_4 _ _ _ (by omega) h_i_heights h_i_weights zfu _ _ _ (by omega) (by omega) (by unfold zfu; omega)
set_option maxHeartbeats 4000000 in
theorem s_HS_weight (x1 : Int) (i_hill_columns_many : Int) (i_hill_columns_heights : Nat → Int) (i_hill_columns_weights : Nat → Int) (b_x1 : (-2147483648) ≤ x1 ∧ x1 ≤ 2147483647) (b_i_hill_columns_many : 0 ≤ i_hill_columns_many ∧ i_hill_columns_many ≤ 12) (h_i_hill_columns_heights : zR i_hill_columns_heights 0 10) (h_i_hill_columns_weights : zR i_hill_columns_weights 0 30) : zok (f_HS_weight x1 i_hill_columns_many i_hill_columns_heights i_hill_columns_weights) (fun o => True) := by
  unfold f_HS_weight
  refine zk_d1 (s_Columns_has _ _ (by omega) (by omega)) (fun v1 hp => ?_)
  try dsimp only at hp
  obtain ⟨hpp0, hpp1⟩ := hp
  refine zk_ifc (zci_eqr (by omega)) (fun hc => ?_) (fun hc => ?_)
  · exact zk_ret trivial
  · refine zk_d1 (s_Columns_load _ _ _ _ (by omega) (by omega) h_i_hill_columns_heights h_i_hill_columns_weights) (fun v2 hp_2 => ?_)
    exact zk_ret trivial
set_option maxHeartbeats 4000000 in
theorem s_Hill_enroll (x1 : Int) (i_children : Int) (i_strengths : Nat → Int) (i_expelled : Nat → Int) (i_trips : Nat → Int) (b_x1 : 1 ≤ x1 ∧ x1 ≤ 60) (b_i_children : 0 ≤ i_children ∧ i_children ≤ 5) (h_i_strengths : zR i_strengths 0 60) (h_i_expelled : zR i_expelled 0 1) (h_i_trips : zR i_trips 0 20) : zok (f_Hill_enroll x1 i_children i_strengths i_expelled i_trips) (fun o => (0 ≤ o.1 ∧ o.1 ≤ 5) ∧ (1 ≤ o.2.1 ∧ o.2.1 ≤ 6) ∧ zR o.2.2.1 0 60 ∧ zR o.2.2.2.1 0 1 ∧ zR o.2.2.2.2 0 20) := by
  unfold f_Hill_enroll
  refine zk_ifc (zci_lt (by omega) (by omega)) (fun hc => ?_) (fun hc => ?_)
  · refine zk_sv (by omega) (by decide) (fun a1 h_a1 => ?_)
    have i_a1 : zR a1 0 60 := by rw [h_a1]; exact zR_zu h_i_strengths (by decide) (by decide) (by omega)
    refine zk_sv (by omega) (by decide) (fun a2 h_a2 => ?_)
    have i_a2 : zR a2 0 1 := by rw [h_a2]; exact zR_zu h_i_expelled (by decide) (by decide) (by omega)
    refine zk_sv (by omega) (by decide) (fun a3 h_a3 => ?_)
    have i_a3 : zR a3 0 20 := by rw [h_a3]; exact zR_zu h_i_trips (by decide) (by decide) (by omega)
    refine zk_n ?_
    refine zk_ret ?_
    try dsimp only
    exact ⟨by omega, by omega, i_a1, i_a2, i_a3⟩
  · exfalso; omega
set_option maxHeartbeats 4000000 in
theorem s_HS_child (x1 : Int) (i_latestStatus : Int) (i_hill_children : Int) (i_hill_changes : Int) (i_refusals : Nat → Int) (i_hill_strengths : Nat → Int) (i_hill_expelled : Nat → Int) (i_hill_trips : Nat → Int) (b_x1 : (-2147483648) ≤ x1 ∧ x1 ≤ 2147483647) (b_i_latestStatus : (-6) ≤ i_latestStatus ∧ i_latestStatus ≤ 0) (b_i_hill_children : 0 ≤ i_hill_children ∧ i_hill_children ≤ 6) (h_i_hill_strengths : zR i_hill_strengths 0 60) (h_i_hill_expelled : zR i_hill_expelled 0 1) (h_i_hill_trips : zR i_hill_trips 0 20) : zok (f_HS_child x1 i_latestStatus i_hill_children i_hill_changes i_refusals i_hill_strengths i_hill_expelled i_hill_trips) (fun o => ((-6) ≤ o.2.1 ∧ o.2.1 ≤ 0) ∧ (0 ≤ o.2.2.1 ∧ o.2.2.1 ≤ 6) ∧ zR o.2.2.2.2.2.1 0 60 ∧ zR o.2.2.2.2.2.2.1 0 1 ∧ zR o.2.2.2.2.2.2.2 0 20) := by
  unfold f_HS_child
  refine zk_ifc (zci_lt (by omega) (by omega)) (fun hc => ?_) (fun hc => ?_)
  · unfold f_HS_child_11
    refine zk_d3 (s_HS_refuse _ _ _ (by omega) (by omega)) (fun v1 v2 a3 hp => ?_)
    try dsimp only at hp
    obtain ⟨hpp0, hpp1, hpp2, hpp3⟩ := hp
    refine zk_ret ?_
    try dsimp only
    exact ⟨by omega, by omega, h_i_hill_strengths, h_i_hill_expelled, h_i_hill_trips⟩
  · refine zk_ifc (zci_le (by omega) (by omega)) (fun hc_2 => ?_) (fun hc_2 => ?_)
    · refine zk_ifc (zci_lt (by omega) (by omega)) (fun hc_3 => ?_) (fun hc_3 => ?_)
      · refine zk_d5 (s_Hill_enroll _ _ _ _ _ (by omega) (by omega) h_i_hill_strengths h_i_hill_expelled h_i_hill_trips) (fun v1_2 v2_2 a3_2 a4 a5 hp_2 => ?_)
        try dsimp only at hp_2
        obtain ⟨hp_2p0, hp_2p1, hp_2p2, hp_2p3, hp_2p4⟩ := hp_2
        refine zk_d3 (s_HS_accept _ _ _ (by omega)) (fun v6 v7 v8 hp_3 => ?_)
        try dsimp only at hp_3
        obtain ⟨hp_3p0, hp_3p1, hp_3p2, hp_3p3⟩ := hp_3
        refine zk_ret ?_
        try dsimp only
        exact ⟨by omega, by omega, hp_2p2, hp_2p3, hp_2p4⟩
      · refine zk_d3 (s_HS_refuse _ _ _ (by omega) (by omega)) (fun v9 v10 a11 hp_4 => ?_)
        try dsimp only at hp_4
        obtain ⟨hp_4p0, hp_4p1, hp_4p2, hp_4p3⟩ := hp_4
        refine zk_ret ?_
        try dsimp only
        exact ⟨by omega, by omega, h_i_hill_strengths, h_i_hill_expelled, h_i_hill_trips⟩
    · unfold f_HS_child_11
      refine zk_d3 (s_HS_refuse _ _ _ (by omega) (by omega)) (fun v1_3 v2_3 a3_3 hp_5 => ?_)
      try dsimp only at hp_5
      obtain ⟨hp_5p0, hp_5p1, hp_5p2, hp_5p3⟩ := hp_5
      refine zk_ret ?_
      try dsimp only
      exact ⟨by omega, by omega, h_i_hill_strengths, h_i_hill_expelled, h_i_hill_trips⟩
end
section
set_option maxHeartbeats 4000000 in
theorem s_Hill_hasChild (x1 : Int) (i_children : Int) (b_x1 : (-2147483648) ≤ x1 ∧ x1 ≤ 2147483647) (b_i_children : 0 ≤ i_children ∧ i_children ≤ 6) : zok (f_Hill_hasChild x1 i_children) (fun o => (0 ≤ o ∧ o ≤ 1) ∧ ((x1 < 0 ∧ o = 0) ∨ (x1 ≥ 0 ∧ i_children ≤ x1 ∧ o = 0) ∨ (x1 ≥ 0 ∧ i_children > x1 ∧ o = 1))) := by
  unfold f_Hill_hasChild
  refine zk_ifc (zci_ltr (by omega)) (fun hc => ?_) (fun hc => ?_)
  · exact zk_ret ⟨by omega, by first | exact Or.inl (by omega) | exact Or.inr (Or.inl (by omega)) | exact Or.inr (Or.inr ((by omega)))⟩
  · refine zk_ifc (zci_le (by omega) (by omega)) (fun hc_2 => ?_) (fun hc_2 => ?_)
    · exact zk_ret ⟨by omega, by first | exact Or.inl (by omega) | exact Or.inr (Or.inl (by omega)) | exact Or.inr (Or.inr ((by omega)))⟩
    · exact zk_ret ⟨by omega, by first | exact Or.inl (by omega) | exact Or.inr (Or.inl (by omega)) | exact Or.inr (Or.inr ((by omega)))⟩
set_option maxHeartbeats 4000000 in
theorem s_HS_expel (x1 : Int) (x2 : Int) (i_hill_children : Int) (i_latestStatus : Int) (i_hill_changes : Int) (i_refusals : Nat → Int) (i_hill_expelled : Nat → Int) (b_x1 : (-2147483648) ≤ x1 ∧ x1 ≤ 2147483647) (b_x2 : (-2147483648) ≤ x2 ∧ x2 ≤ 2147483647) (b_i_hill_children : 0 ≤ i_hill_children ∧ i_hill_children ≤ 6) (b_i_latestStatus : (-6) ≤ i_latestStatus ∧ i_latestStatus ≤ 0) (h_i_hill_expelled : zR i_hill_expelled 0 1) : zok (f_HS_expel x1 x2 i_hill_children i_latestStatus i_hill_changes i_refusals i_hill_expelled) (fun o => ((-6) ≤ o.2.1 ∧ o.2.1 ≤ 0) ∧ zR o.2.2.2.2 0 1) := by
  unfold f_HS_expel
  refine zk_ifc (zci_ltr (by omega)) (fun hc => ?_) (fun hc => ?_)
  · unfold f_HS_expel_9
    refine zk_d3 (s_HS_refuse _ _ _ (by omega) (by omega)) (fun v1 v2 a3 hp => ?_)
    try dsimp only at hp
    obtain ⟨hpp0, hpp1, hpp2, hpp3⟩ := hp
    refine zk_ret ?_
    try dsimp only
    exact ⟨by omega, h_i_hill_expelled⟩
  · refine zk_ifc (zci_le (by omega) (by omega)) (fun hc_2 => ?_) (fun hc_2 => ?_)
    · refine zk_d1 (s_Hill_hasChild _ _ (by omega) (by omega)) (fun v1_2 hp_2 => ?_)
      try dsimp only at hp_2
      obtain ⟨hp_2p0, hp_2p1⟩ := hp_2
      refine zk_ifc (zci_ner (by omega)) (fun hc_3 => ?_) (fun hc_3 => ?_)
      · refine zk_gv (by omega) (by decide) (fun v2_2 h_v2_2 => ?_)
        have r_v2_2 := h_i_hill_expelled (x1.toNat)
        refine zk_sv (by omega) (by decide) (fun a3_2 h_a3_2 => ?_)
        have i_a3_2 : zR a3_2 0 1 := by rw [h_a3_2]; exact zR_zu h_i_hill_expelled (by decide) (by decide) (by omega)
        refine zk_d3 (s_HS_accept _ _ _ (by omega)) (fun v4 v5 v6 hp_3 => ?_)
        try dsimp only at hp_3
        obtain ⟨hp_3p0, hp_3p1, hp_3p2, hp_3p3⟩ := hp_3
        refine zk_ret ?_
        try dsimp only
        exact ⟨by omega, i_a3_2⟩
      · refine zk_d3 (s_HS_refuse _ _ _ (by omega) (by omega)) (fun v7 v8 a9 hp_4 => ?_)
        try dsimp only at hp_4
        obtain ⟨hp_4p0, hp_4p1, hp_4p2, hp_4p3⟩ := hp_4
        refine zk_ret ?_
        try dsimp only
        exact ⟨by omega, h_i_hill_expelled⟩
    · unfold f_HS_expel_9
      refine zk_d3 (s_HS_refuse _ _ _ (by omega) (by omega)) (fun v1_3 v2_3 a3_3 hp_5 => ?_)
      try dsimp only at hp_5
      obtain ⟨hp_5p0, hp_5p1, hp_5p2, hp_5p3⟩ := hp_5
      refine zk_ret ?_
      try dsimp only
      exact ⟨by omega, h_i_hill_expelled⟩
set_option maxHeartbeats 4000000 in
theorem s_HS_fact (x1 : Int) (x2 : Int) (i_hill_children : Int) (i_hill_strengths : Nat → Int) (i_hill_expelled : Nat → Int) (i_hill_trips : Nat → Int) (b_x1 : (-2147483648) ≤ x1 ∧ x1 ≤ 2147483647) (b_x2 : (-2147483648) ≤ x2 ∧ x2 ≤ 2147483647) (b_i_hill_children : 0 ≤ i_hill_children ∧ i_hill_children ≤ 6) (h_i_hill_strengths : zR i_hill_strengths 0 60) (h_i_hill_expelled : zR i_hill_expelled 0 1) (h_i_hill_trips : zR i_hill_trips 0 20) : zok (f_HS_fact x1 x2 i_hill_children i_hill_strengths i_hill_expelled i_hill_trips) (fun o => ((-1) ≤ o ∧ o ≤ 60)) := by
  unfold f_HS_fact
  refine zk_d1 (s_Hill_hasChild _ _ (by omega) (by omega)) (fun v1 hp => ?_)
  try dsimp only at hp
  obtain ⟨hpp0, hpp1⟩ := hp
  refine zk_ifc (zci_ner (by omega)) (fun hc => ?_) (fun hc => ?_)
  · refine zk_ifc (zci_eqr (by omega)) (fun hc_2 => ?_) (fun hc_2 => ?_)
    · refine zk_gv (by omega) (by decide) (fun v2 h_v2 => ?_)
      have r_v2 := h_i_hill_strengths (x1.toNat)
      exact zk_ret (by omega)
    · refine zk_ifc (zci_eqr (by omega)) (fun hc_3 => ?_) (fun hc_3 => ?_)
      · refine zk_gv (by omega) (by decide) (fun v3 h_v3 => ?_)
        have r_v3 := h_i_hill_expelled (x1.toNat)
        exact zk_ret (by omega)
      · refine zk_ifc (zci_eqr (by omega)) (fun hc_4 => ?_) (fun hc_4 => ?_)
        · refine zk_gv (by omega) (by decide) (fun v4 h_v4 => ?_)
          have r_v4 := h_i_hill_trips (x1.toNat)
          exact zk_ret (by omega)
        · exact zk_ret (by omega)
  · exact zk_ret (by omega)
set_option maxHeartbeats 4000000 in
theorem s_HS_parish (x1 : Int) (i_hill_columns_many : Int) (i_latestStatus : Int) (i_hill_parishes : Int) (i_hill_changes : Int) (i_refusals : Nat → Int) (i_hill_places : Nat → Int) (b_x1 : (-2147483648) ≤ x1 ∧ x1 ≤ 2147483647) (b_i_hill_columns_many : 0 ≤ i_hill_columns_many ∧ i_hill_columns_many ≤ 12) (b_i_latestStatus : (-6) ≤ i_latestStatus ∧ i_latestStatus ≤ 0) (b_i_hill_parishes : 0 ≤ i_hill_parishes ∧ i_hill_parishes ≤ 6) (h_i_hill_places : zR i_hill_places 0 11) : zok (f_HS_parish x1 i_hill_columns_many i_latestStatus i_hill_parishes i_hill_changes i_refusals i_hill_places) (fun o => ((-6) ≤ o.2.1 ∧ o.2.1 ≤ 0) ∧ (0 ≤ o.2.2.1 ∧ o.2.2.1 ≤ 6) ∧ zR o.2.2.2.2.2 0 11) := by
  unfold f_HS_parish
  refine zk_d1 (s_Columns_has _ _ (by omega) (by omega)) (fun v1 hp => ?_)
  try dsimp only at hp
  obtain ⟨hpp0, hpp1⟩ := hp
  refine zk_ifc (zci_ner (by omega)) (fun hc => ?_) (fun hc => ?_)
  · refine zk_ifc (zci_lt (by omega) (by omega)) (fun hc_2 => ?_) (fun hc_2 => ?_)
    · refine zk_sv (by omega) (by decide) (fun a2 h_a2 => ?_)
      have i_a2 : zR a2 0 11 := by rw [h_a2]; exact zR_zu h_i_hill_places (by decide) (by decide) (by omega)
      refine zk_n ?_
      refine zk_d3 (s_HS_accept _ _ _ (by omega)) (fun v4 v5 v6 hp_2 => ?_)
      try dsimp only at hp_2
      obtain ⟨hp_2p0, hp_2p1, hp_2p2, hp_2p3⟩ := hp_2
      refine zk_ret ?_
      try dsimp only
      exact ⟨by omega, by omega, i_a2⟩
    · refine zk_d3 (s_HS_refuse _ _ _ (by omega) (by omega)) (fun v7 v8 a9 hp_3 => ?_)
      try dsimp only at hp_3
      obtain ⟨hp_3p0, hp_3p1, hp_3p2, hp_3p3⟩ := hp_3
      refine zk_ret ?_
      try dsimp only
      exact ⟨by omega, by omega, h_i_hill_places⟩
  · refine zk_d3 (s_HS_refuse _ _ _ (by omega) (by omega)) (fun v10 v11 a12 hp_4 => ?_)
    try dsimp only at hp_4
    obtain ⟨hp_4p0, hp_4p1, hp_4p2, hp_4p3⟩ := hp_4
    refine zk_ret ?_
    try dsimp only
    exact ⟨by omega, by omega, h_i_hill_places⟩
set_option maxHeartbeats 4000000 in
theorem s_HS_terms (x1 : Int) (x2 : Int) (i_latestStatus : Int) (i_hill_changes : Int) (i_refusals : Nat → Int) (i_hill_terms : Nat → Int) (b_x1 : (-2147483648) ≤ x1 ∧ x1 ≤ 2147483647) (b_x2 : (-2147483648) ≤ x2 ∧ x2 ≤ 2147483647) (b_i_latestStatus : (-6) ≤ i_latestStatus ∧ i_latestStatus ≤ 0) (h_i_hill_terms : zR i_hill_terms 0 99) : zok (f_HS_terms x1 x2 i_latestStatus i_hill_changes i_refusals i_hill_terms) (fun o => ((-6) ≤ o.2.1 ∧ o.2.1 ≤ 0) ∧ zR o.2.2.2.2 0 99) := by
  unfold f_HS_terms
  refine zk_ifc (zci_ltr (by omega)) (fun hc => ?_) (fun hc => ?_)
  · unfold f_HS_terms_30
    refine zk_d3 (s_HS_refuse _ _ _ (by omega) (by omega)) (fun v1 v2 a3 hp => ?_)
    try dsimp only at hp
    obtain ⟨hpp0, hpp1, hpp2, hpp3⟩ := hp
    refine zk_ret ?_
    try dsimp only
    exact ⟨by omega, h_i_hill_terms⟩
  · refine zk_ifc (zci_le (by omega) (by omega)) (fun hc_2 => ?_) (fun hc_2 => ?_)
    · unfold f_HS_terms_30
      refine zk_d3 (s_HS_refuse _ _ _ (by omega) (by omega)) (fun v1_2 v2_2 a3_2 hp_2 => ?_)
      try dsimp only at hp_2
      obtain ⟨hp_2p0, hp_2p1, hp_2p2, hp_2p3⟩ := hp_2
      refine zk_ret ?_
      try dsimp only
      exact ⟨by omega, h_i_hill_terms⟩
    · refine zk_gv (by omega) (by decide) (fun v1_3 h_v1_3 => ?_)
      have r_v1_3 := zk_r 0 (x1.toNat)
      refine zk_ifc (zci_lt (by omega) (by omega)) (fun hc_3 => ?_) (fun hc_3 => ?_)
      · unfold f_HS_terms_30
        refine zk_d3 (s_HS_refuse _ _ _ (by omega) (by omega)) (fun v1_4 v2_3 a3_3 hp_3 => ?_)
        try dsimp only at hp_3
        obtain ⟨hp_3p0, hp_3p1, hp_3p2, hp_3p3⟩ := hp_3
        refine zk_ret ?_
        try dsimp only
        exact ⟨by omega, h_i_hill_terms⟩
      · refine zk_gv (by omega) (by decide) (fun v2_4 h_v2_4 => ?_)
        have r_v2_4 := zk_r 1 (x1.toNat)
        refine zk_ifc (zci_le (by omega) (by omega)) (fun hc_4 => ?_) (fun hc_4 => ?_)
        · refine zk_gv (by omega) (by decide) (fun v3 h_v3 => ?_)
          have r_v3 := h_i_hill_terms (x1.toNat)
          refine zk_sv (by omega) (by decide) (fun a4 h_a4 => ?_)
          have i_a4 : zR a4 0 99 := by rw [h_a4]; exact zR_zu h_i_hill_terms (by decide) (by decide) (by omega)
          refine zk_d3 (s_HS_accept _ _ _ (by omega)) (fun v5 v6 v7 hp_4 => ?_)
          try dsimp only at hp_4
          obtain ⟨hp_4p0, hp_4p1, hp_4p2, hp_4p3⟩ := hp_4
          refine zk_ret ?_
          try dsimp only
          exact ⟨by omega, i_a4⟩
        · unfold f_HS_terms_30
          refine zk_d3 (s_HS_refuse _ _ _ (by omega) (by omega)) (fun v1_5 v2_5 a3_4 hp_5 => ?_)
          try dsimp only at hp_5
          obtain ⟨hp_5p0, hp_5p1, hp_5p2, hp_5p3⟩ := hp_5
          refine zk_ret ?_
          try dsimp only
          exact ⟨by omega, h_i_hill_terms⟩
set_option maxHeartbeats 4000000 in
theorem s_HS_feedFour_3   : ∀ (n : Nat) (x1 : Int) (x2 : Int) (i_taped : Int) (i_tape : Nat → Int), ((-2147483648) ≤ x1 ∧ x1 ≤ 2147483647) → ((-8) ≤ x2 ∧ x2 ≤ 24) → (0 ≤ i_taped ∧ i_taped ≤ 400) → (zR i_tape 0 255) → (x2 % 8 = 0) → (8 * i_taped + x2 ≤ 3192) → (x2 - (-9)) < (n : Int) → zok (f_HS_feedFour_3  n x1 x2 i_taped i_tape) (fun o => (0 ≤ o.1 ∧ o.1 ≤ 400) ∧ zR o.2 0 255 ∧ (8 * o.1 - 8 = 8 * i_taped + x2)) := by
  intro n
  induction n with
  | zero => intro x1 x2 i_taped i_tape b_x1 b_x2 b_i_taped h_i_tape p_0 p_1 hm; exfalso; omega
  | succ n ih =>
    intro x1 x2 i_taped i_tape b_x1 b_x2 b_i_taped h_i_tape p_0 p_1 hm
    show zok (f_HS_feedFour_3_b  (f_HS_feedFour_3  n) x1 x2 i_taped i_tape) _
    unfold f_HS_feedFour_3_b
    refine zk_ifc (zci_ltr (by omega)) (fun hc => ?_) (fun hc => ?_)
    · refine zk_ret ?_
      try dsimp only
      exact ⟨by omega, h_i_tape, by omega⟩
    · refine zk_ifc (zci_le (by omega) (by omega)) (fun hc_2 => ?_) (fun hc_2 => ?_)
      · refine zk_ret ?_
        try dsimp only
        exact ⟨by omega, h_i_tape, by omega⟩
      · refine zk_nE (fun v1 h_v1 => ?_)
        have r_v1 := zi_ushr_f x1 x2; rw [← h_v1] at r_v1
        refine zk_nE (fun v2 h_v2 => ?_)
        have r_v2 := zi_and_m v1 (m := 255) (by decide); rw [← h_v2] at r_v2
        refine zk_sv (by omega) (by decide) (fun a3 h_a3 => ?_)
        have i_a3 : zR a3 0 255 := by rw [h_a3]; exact zR_zu h_i_tape (by decide) (by decide) (by omega)
        refine zk_n ?_
        refine zk_n ?_
        refine zok_mono (ih _ _ _ _ (by omega) (by omega) (by omega) i_a3 (by omega) (by omega) (by omega)) (fun o ho => ?_)
        try dsimp only at ho
        obtain ⟨ho_0, ho_1, ho_2⟩ := ho
        exact ⟨by omega, ho_1, by omega⟩
set_option maxHeartbeats 4000000 in
theorem s_HS_feedFour (x1 : Int) (i_taped : Int) (i_tape : Nat → Int) (b_x1 : (-2147483648) ≤ x1 ∧ x1 ≤ 2147483647) (b_i_taped : 0 ≤ i_taped ∧ i_taped ≤ 400) (h_i_tape : zR i_tape 0 255) (p_0 : i_taped ≤ 396) : zok (f_HS_feedFour x1 i_taped i_tape) (fun o => (0 ≤ o.1 ∧ o.1 ≤ 400) ∧ zR o.2 0 255 ∧ (o.1 = i_taped + 4)) := by
  unfold f_HS_feedFour
  refine zok_mono (s_HS_feedFour_3 zfu _ _ _ _ (by omega) (by omega) (by omega) h_i_tape (by omega) (by omega) (by unfold zfu; omega)) (fun o ho => ?_)
  try dsimp only at ho
  obtain ⟨ho_0, ho_1, ho_2⟩ := ho
  exact ⟨by omega, ho_1, by omega⟩
set_option maxHeartbeats 4000000 in
theorem s_HS_feed (x1 : Int) (x2 : Int) (x3 : Int) (x4 : Int) (x5 : Int) (i_taped : Int) (i_tape : Nat → Int) (b_x1 : (-2147483648) ≤ x1 ∧ x1 ≤ 2147483647) (b_x2 : (-2147483648) ≤ x2 ∧ x2 ≤ 2147483647) (b_x3 : (-2147483648) ≤ x3 ∧ x3 ≤ 2147483647) (b_x4 : (-2147483648) ≤ x4 ∧ x4 ≤ 2147483647) (b_x5 : (-2147483648) ≤ x5 ∧ x5 ≤ 2147483647) (b_i_taped : 0 ≤ i_taped ∧ i_taped ≤ 400) (h_i_tape : zR i_tape 0 255) : zok (f_HS_feed x1 x2 x3 x4 x5 i_taped i_tape) (fun o => ((-1) ≤ o.1 ∧ o.1 ≤ 400) ∧ (0 ≤ o.2.1 ∧ o.2.1 ≤ 400) ∧ zR o.2.2 0 255) := by
  unfold f_HS_feed
  refine zk_n ?_
  refine zk_ifc (zci_le (by omega) (by omega)) (fun hc => ?_) (fun hc => ?_)
  · refine zk_d2 (s_HS_feedFour _ _ _ (by omega) (by omega) h_i_tape (by omega)) (fun v2 a3 hp => ?_)
    try dsimp only at hp
    obtain ⟨hpp0, hpp1, hpp2⟩ := hp
    refine zk_d2 (s_HS_feedFour _ _ _ (by omega) (by omega) hpp1 (by omega)) (fun v4 a5 hp_2 => ?_)
    try dsimp only at hp_2
    obtain ⟨hp_2p0, hp_2p1, hp_2p2⟩ := hp_2
    refine zk_d2 (s_HS_feedFour _ _ _ (by omega) (by omega) hp_2p1 (by omega)) (fun v6 a7 hp_3 => ?_)
    try dsimp only at hp_3
    obtain ⟨hp_3p0, hp_3p1, hp_3p2⟩ := hp_3
    refine zk_d2 (s_HS_feedFour _ _ _ (by omega) (by omega) hp_3p1 (by omega)) (fun v8 a9 hp_4 => ?_)
    try dsimp only at hp_4
    obtain ⟨hp_4p0, hp_4p1, hp_4p2⟩ := hp_4
    refine zk_d2 (s_HS_feedFour _ _ _ (by omega) (by omega) hp_4p1 (by omega)) (fun v10 a11 hp_5 => ?_)
    try dsimp only at hp_5
    obtain ⟨hp_5p0, hp_5p1, hp_5p2⟩ := hp_5
    refine zk_ret ?_
    try dsimp only
    exact ⟨by omega, by omega, hp_5p1⟩
  · refine zk_ret ?_
    try dsimp only
    exact ⟨by omega, by omega, h_i_tape⟩
set_option maxHeartbeats 4000000 in
theorem s_HS_end (x1 : Int) (i_taped : Int) (b_x1 : (-2147483648) ≤ x1 ∧ x1 ≤ 2147483647) (b_i_taped : 0 ≤ i_taped ∧ i_taped ≤ 400) : zok (f_HS_end x1 i_taped) (fun o => ((-1) ≤ o.1 ∧ o.1 ≤ 400) ∧ (0 ≤ o.2 ∧ o.2 ≤ 400)) := by
  unfold f_HS_end
  refine zk_ifc (zci_ltr (by omega)) (fun hc => ?_) (fun hc => ?_)
  · refine zk_ret ?_
    try dsimp only
    exact ⟨by omega, by omega⟩
  · refine zk_ifc (zci_le (by omega) (by omega)) (fun hc_2 => ?_) (fun hc_2 => ?_)
    · refine zk_ret ?_
      try dsimp only
      exact ⟨by omega, by omega⟩
    · refine zk_ret ?_
      try dsimp only
      exact ⟨by omega, by omega⟩
set_option maxHeartbeats 4000000 in
theorem s_HS_row_44 (i_tape : Nat → Int) (i_hill_columns_many : Int) (h_i_tape : zR i_tape 0 255) (b_i_hill_columns_many : 1 ≤ i_hill_columns_many ∧ i_hill_columns_many ≤ 12) : ∀ (n : Nat) (x1 : Int) (x2 : Int) (x3 : Int) (i_taped : Int) (i_latestGravel : Int) (i_latestStatus : Int) (i_hill_changes : Int) (i_refusals : Nat → Int) (i_hill_columns_heights : Nat → Int) (i_hill_columns_weights : Nat → Int), (1 ≤ x1 ∧ x1 ≤ 400) → (1 ≤ x3 ∧ x3 ≤ 400) → (0 ≤ i_taped ∧ i_taped ≤ 0) → ((-6) ≤ i_latestStatus ∧ i_latestStatus ≤ 0) → (zR i_hill_columns_heights 0 10) → (zR i_hill_columns_weights 0 30) → (401 - x3) < (n : Int) → zok (f_HS_row_44 i_tape i_hill_columns_many n x1 x2 x3 i_taped i_latestGravel i_latestStatus i_hill_changes i_refusals i_hill_columns_heights i_hill_columns_weights) (fun o => (0 ≤ o.2.1 ∧ o.2.1 ≤ 0) ∧ ((-6) ≤ o.2.2.2.1 ∧ o.2.2.2.1 ≤ 0) ∧ zR o.2.2.2.2.2.2.1 0 10 ∧ zR o.2.2.2.2.2.2.2 0 30 ∧ (i_hill_changes ≤ o.2.2.2.2.1 ∧ o.2.2.2.2.1 ≤ i_hill_changes + 1) ∧ (o.2.1 = i_taped)) := by
  intro n
  induction n with
  | zero => intro x1 x2 x3 i_taped i_latestGravel i_latestStatus i_hill_changes i_refusals i_hill_columns_heights i_hill_columns_weights b_x1 b_x3 b_i_taped b_i_latestStatus h_i_hill_columns_heights h_i_hill_columns_weights hm; exfalso; omega
  | succ n ih =>
    intro x1 x2 x3 i_taped i_latestGravel i_latestStatus i_hill_changes i_refusals i_hill_columns_heights i_hill_columns_weights b_x1 b_x3 b_i_taped b_i_latestStatus h_i_hill_columns_heights h_i_hill_columns_weights hm
    show zok (f_HS_row_44_b i_tape i_hill_columns_many (f_HS_row_44 i_tape i_hill_columns_many n) x1 x2 x3 i_taped i_latestGravel i_latestStatus i_hill_changes i_refusals i_hill_columns_heights i_hill_columns_weights) _
    unfold f_HS_row_44_b
    refine zk_ifc (zci_le (by omega) (by omega)) (fun hc => ?_) (fun hc => ?_)
    · refine zk_n ?_
      refine zk_n ?_
      refine zk_d3 (s_HS_accept _ _ _ (by omega)) (fun v3 v4 v5 hp => ?_)
      try dsimp only at hp
      obtain ⟨hpp0, hpp1, hpp2, hpp3⟩ := hp
      refine zk_ret ?_
      try dsimp only
      exact ⟨by omega, by omega, h_i_hill_columns_heights, h_i_hill_columns_weights, by omega, by omega⟩
    · refine zk_gv (by omega) (by decide) (fun v6 h_v6 => ?_)
      have r_v6 := h_i_tape (x3.toNat)
      refine zk_ifc (zci_lt (by omega) (by omega)) (fun hc_2 => ?_) (fun hc_2 => ?_)
      · unfold f_HS_row_94
        refine zk_n ?_
        refine zok_mono (ih _ _ _ _ _ _ _ _ _ _ (by omega) (by omega) (by omega) (by omega) h_i_hill_columns_heights h_i_hill_columns_weights (by omega)) (fun o ho => ?_)
        try dsimp only at ho
        obtain ⟨ho_0, ho_1, ho_2, ho_3, ho_4, ho_5⟩ := ho
        exact ⟨by omega, by omega, ho_2, ho_3, by omega, by omega⟩
      · refine zk_ifc (zci_lt (by omega) (by omega)) (fun hc_3 => ?_) (fun hc_3 => ?_)
        · unfold f_HS_row_94
          refine zk_n ?_
          refine zok_mono (ih _ _ _ _ _ _ _ _ _ _ (by omega) (by omega) (by omega) (by omega) h_i_hill_columns_heights h_i_hill_columns_weights (by omega)) (fun o ho => ?_)
          try dsimp only at ho
          obtain ⟨ho_0, ho_1, ho_2, ho_3, ho_4, ho_5⟩ := ho
          exact ⟨by omega, by omega, ho_2, ho_3, by omega, by omega⟩
        · refine zk_gl 0 rfl (by decide) (by decide) (fun v7 h_v7 => ?_)
          have r_v7 := h_i_tape (0)
          refine zk_d3 (s_Columns_put _ _ _ _ _ (by omega) (by omega) (by omega) h_i_hill_columns_heights h_i_hill_columns_weights) (fun v8 a9 a10 hp_2 => ?_)
          try dsimp only at hp_2
          obtain ⟨hp_2p0, hp_2p1, hp_2p2, hp_2p3⟩ := hp_2
          refine zk_ifc (zci_eqr (by omega)) (fun hc_4 => ?_) (fun hc_4 => ?_)
          · unfold f_HS_row_94
            refine zk_n ?_
            refine zok_mono (ih _ _ _ _ _ _ _ _ _ _ (by omega) (by omega) (by omega) (by omega) hp_2p1 hp_2p2 (by omega)) (fun o ho => ?_)
            try dsimp only at ho
            obtain ⟨ho_0, ho_1, ho_2, ho_3, ho_4, ho_5⟩ := ho
            exact ⟨by omega, by omega, ho_2, ho_3, by omega, by omega⟩
          · refine zk_n ?_
            unfold f_HS_row_94
            refine zk_n ?_
            refine zok_mono (ih _ _ _ _ _ _ _ _ _ _ (by omega) (by omega) (by omega) (by omega) hp_2p1 hp_2p2 (by omega)) (fun o ho => ?_)
            try dsimp only at ho
            obtain ⟨ho_0, ho_1, ho_2, ho_3, ho_4, ho_5⟩ := ho
            exact ⟨by omega, by omega, ho_2, ho_3, by omega, by omega⟩
set_option maxHeartbeats 4000000 in
theorem s_HS_row (i_tape : Nat → Int) (i_hill_columns_many : Int) (i_taped : Int) (i_latestGravel : Int) (i_latestStatus : Int) (i_hill_changes : Int) (i_refusals : Nat → Int) (i_hill_columns_heights : Nat → Int) (i_hill_columns_weights : Nat → Int) (h_i_tape : zR i_tape 0 255) (b_i_hill_columns_many : 0 ≤ i_hill_columns_many ∧ i_hill_columns_many ≤ 12) (b_i_taped : 0 ≤ i_taped ∧ i_taped ≤ 400) (b_i_latestStatus : (-6) ≤ i_latestStatus ∧ i_latestStatus ≤ 0) (h_i_hill_columns_heights : zR i_hill_columns_heights 0 10) (h_i_hill_columns_weights : zR i_hill_columns_weights 0 30) : zok (f_HS_row i_tape i_hill_columns_many i_taped i_latestGravel i_latestStatus i_hill_changes i_refusals i_hill_columns_heights i_hill_columns_weights) (fun o => (0 ≤ o.2.1 ∧ o.2.1 ≤ 0) ∧ ((-6) ≤ o.2.2.2.1 ∧ o.2.2.2.1 ≤ 0) ∧ zR o.2.2.2.2.2.2.1 0 10 ∧ zR o.2.2.2.2.2.2.2 0 30 ∧ (i_hill_changes ≤ o.2.2.2.2.1 ∧ o.2.2.2.2.1 ≤ i_hill_changes + 1) ∧ (o.2.1 = 0)) := by
  unfold f_HS_row
  refine zk_ifc (zci_eqr (by omega)) (fun hc => ?_) (fun hc => ?_)
  · unfold f_HS_row_33
    refine zk_d3 (s_HS_refuse _ _ _ (by omega) (by omega)) (fun v1 v2 a3 hp => ?_)
    try dsimp only at hp
    obtain ⟨hpp0, hpp1, hpp2, hpp3⟩ := hp
    refine zk_ret ?_
    try dsimp only
    exact ⟨by omega, by omega, h_i_hill_columns_heights, h_i_hill_columns_weights, by omega, by omega⟩
  · refine zk_gl 0 rfl (by decide) (by decide) (fun v1_2 h_v1_2 => ?_)
    have r_v1_2 := h_i_tape (0)
    refine zk_d1 (s_Columns_has _ _ (by omega) (by omega)) (fun v2_2 hp_2 => ?_)
    try dsimp only at hp_2
    obtain ⟨hp_2p0, hp_2p1⟩ := hp_2
    refine zk_ifc (zci_ner (by omega)) (fun hc_2 => ?_) (fun hc_2 => ?_)
    · refine zok_mono (s_HS_row_44 _ _ h_i_tape (by omega) zfu _ _ _ _ _ _ _ _ _ _ (by omega) (by omega) (by omega) (by omega) h_i_hill_columns_heights h_i_hill_columns_weights (by unfold zfu; omega)) (fun o ho => ?_)
      try dsimp only at ho
      obtain ⟨ho_0, ho_1, ho_2, ho_3, ho_4, ho_5⟩ := ho
      exact ⟨by omega, by omega, ho_2, ho_3, by omega, by omega⟩
    · unfold f_HS_row_33
      refine zk_d3 (s_HS_refuse _ _ _ (by omega) (by omega)) (fun v1_3 v2_3 a3_2 hp_3 => ?_)
      try dsimp only at hp_3
      obtain ⟨hp_3p0, hp_3p1, hp_3p2, hp_3p3⟩ := hp_3
      refine zk_ret ?_
      try dsimp only
      exact ⟨by omega, by omega, h_i_hill_columns_heights, h_i_hill_columns_weights, by omega, by omega⟩
set_option maxHeartbeats 4000000 in
theorem s_HS_gravel (i_latestGravel : Int)  : zok (f_HS_gravel i_latestGravel) (fun o => True) := by
  unfold f_HS_gravel
  exact zk_ret trivial
set_option maxHeartbeats 4000000 in
theorem s_Hill_enact (i_a1_ordered : Int) (i_a1_orders : Nat → Int) (i_laws : Int) (i_orders : Nat → Int) (i_ordered : Nat → Int) (b_i_a1_ordered : 0 ≤ i_a1_ordered ∧ i_a1_ordered ≤ 424) (h_i_a1_orders : zR i_a1_orders (-2147483648) 2147483647) (b_i_laws : 0 ≤ i_laws ∧ i_laws ≤ 5) (h_i_orders : zR i_orders (-2147483648) 2147483647) (h_i_ordered : zR i_ordered 0 424) : zok (f_Hill_enact i_a1_ordered i_a1_orders i_laws i_orders i_ordered) (fun o => (0 ≤ o.1 ∧ o.1 ≤ 5) ∧ (1 ≤ o.2.1 ∧ o.2.1 ≤ 6) ∧ zR o.2.2.1 (-2147483648) 2147483647 ∧ zR o.2.2.2 0 424) := by
  unfold f_Hill_enact
  refine zk_ifc (zci_lt (by omega) (by omega)) (fun hc => ?_) (fun hc => ?_)
  · refine zk_n ?_
    refine zk_cp (by omega) (fun a2 h_a2 => ?_)
    have i_a2 : zR a2 (-2147483648) 2147483647 := by rw [h_a2]; exact zR_cp h_i_a1_orders h_i_orders
    refine zk_sv (by omega) (by decide) (fun a3 h_a3 => ?_)
    have i_a3 : zR a3 0 424 := by rw [h_a3]; exact zR_zu h_i_ordered (by decide) (by decide) (by omega)
    refine zk_n ?_
    refine zk_ret ?_
    try dsimp only
    exact ⟨by omega, by omega, i_a2, i_a3⟩
  · exfalso; omega
set_option maxHeartbeats 4000000 in
theorem s_LawReader_order (x1 : Int) (x2 : Int) (i_ordered : Int) (i_orders : Nat → Int) (b_x1 : 0 ≤ x1 ∧ x1 ≤ 14) (b_i_ordered : 0 ≤ i_ordered ∧ i_ordered ≤ 424) (h_i_orders : zR i_orders (-2147483648) 2147483647) : zok (f_LawReader_order x1 x2 i_ordered i_orders) (fun o => ((-1) ≤ o.1 ∧ o.1 ≤ 424) ∧ (1 ≤ o.2.1 ∧ o.2.1 ≤ 424) ∧ zR o.2.2 (-2147483648) 2147483647) := by
  unfold f_LawReader_order
  refine zk_ifc (zci_lt (by omega) (by omega)) (fun hc => ?_) (fun hc => ?_)
  · refine zk_nE (fun v1 h_v1 => ?_)
    have r_v1 := zi_shl_f x2 4; rw [← h_v1] at r_v1
    refine zk_nE (fun v2 h_v2 => ?_)
    have r_v2 := zi_or_f v1 x1; rw [← h_v2] at r_v2
    refine zk_sv (by omega) (by decide) (fun a3 h_a3 => ?_)
    have i_a3 : zR a3 (-2147483648) 2147483647 := by rw [h_a3]; exact zR_zu h_i_orders (by decide) (by decide) (by omega)
    refine zk_n ?_
    refine zk_n ?_
    refine zk_ret ?_
    try dsimp only
    exact ⟨by omega, by omega, i_a3⟩
  · refine zk_ret ?_
    try dsimp only
    exact ⟨by omega, by omega, h_i_orders⟩
end
section
set_option maxHeartbeats 4000000 in
theorem s_LawReader_pass (x1 : Int) (i_tokens : Nat → Int) (i_at : Int) (b_x1 : 0 ≤ x1 ∧ x1 ≤ 265) (h_i_tokens : zR i_tokens 0 265) (b_i_at : 0 ≤ i_at ∧ i_at ≤ 400) : zok (f_LawReader_pass x1 i_tokens i_at) (fun o => (0 ≤ o.1 ∧ o.1 ≤ 1) ∧ (0 ≤ o.2 ∧ o.2 ≤ 400)) := by
  unfold f_LawReader_pass
  refine zk_gv (by omega) (by decide) (fun v1 h_v1 => ?_)
  have r_v1 := h_i_tokens (i_at.toNat)
  refine zk_ifc (zci_ne (by omega) (by omega)) (fun hc => ?_) (fun hc => ?_)
  · refine zk_ret ?_
    try dsimp only
    exact ⟨by omega, by omega⟩
  · refine zk_ifc (zci_lt (by omega) (by omega)) (fun hc_2 => ?_) (fun hc_2 => ?_)
    · refine zk_n ?_
      refine zk_ret ?_
      try dsimp only
      exact ⟨by omega, by omega⟩
    · refine zk_ret ?_
      try dsimp only
      exact ⟨by omega, by omega⟩
set_option maxHeartbeats 4000000 in
theorem s_LawReader_comparisonOf (x0 : Int) (b_x0 : 0 ≤ x0 ∧ x0 ≤ 265) : zok (f_LawReader_comparisonOf x0) (fun o => ((-1) ≤ o ∧ o ≤ 9) ∧ ((x0 = 60 ∧ o = 7) ∨ (x0 ≠ 60 ∧ x0 = 61 ∧ o = 9) ∨ (x0 ≠ 60 ∧ x0 ≠ 61 ∧ x0 = 62 ∧ o = 8) ∨ (x0 ≠ 60 ∧ x0 ≠ 61 ∧ x0 ≠ 62 ∧ o = (-1)))) := by
  unfold f_LawReader_comparisonOf
  refine zk_ifc (zci_eqr (by omega)) (fun hc => ?_) (fun hc => ?_)
  · exact zk_ret ⟨by omega, by first | exact Or.inl (by omega) | exact Or.inr (Or.inl (by omega)) | exact Or.inr (Or.inr (Or.inl (by omega))) | exact Or.inr (Or.inr (Or.inr ((by omega))))⟩
  · refine zk_ifc (zci_eqr (by omega)) (fun hc_2 => ?_) (fun hc_2 => ?_)
    · exact zk_ret ⟨by omega, by first | exact Or.inl (by omega) | exact Or.inr (Or.inl (by omega)) | exact Or.inr (Or.inr (Or.inl (by omega))) | exact Or.inr (Or.inr (Or.inr ((by omega))))⟩
    · refine zk_ifc (zci_eqr (by omega)) (fun hc_3 => ?_) (fun hc_3 => ?_)
      · exact zk_ret ⟨by omega, by first | exact Or.inl (by omega) | exact Or.inr (Or.inl (by omega)) | exact Or.inr (Or.inr (Or.inl (by omega))) | exact Or.inr (Or.inr (Or.inr ((by omega))))⟩
      · exact zk_ret ⟨by omega, by first | exact Or.inl (by omega) | exact Or.inr (Or.inl (by omega)) | exact Or.inr (Or.inr (Or.inl (by omega))) | exact Or.inr (Or.inr (Or.inr ((by omega))))⟩
set_option maxHeartbeats 4000000 in
theorem s_LawReader_readSum_7 (r_LawReader_readSum : Int → (Nat → Int) → (Nat → Int) → Int → Int → Int → (Nat → Int) → Option (Int × Int × Int × Int × (Nat → Int))) (r_LawReader_readPart : Int → (Nat → Int) → (Nat → Int) → Int → Int → Int → (Nat → Int) → Option (Int × Int × Int × Int × (Nat → Int))) (Nr : Nat) (hr_LawReader_readSum : ∀ (x1 : Int) (i_tokens : Nat → Int) (i_values : Nat → Int) (i_ordered : Int) (i_at : Int) (i_parts : Int) (i_orders : Nat → Int), (0 ≤ x1 ∧ x1 ≤ 8) → (zR i_tokens 0 265) → (1 ≤ i_ordered ∧ i_ordered ≤ 424) → (0 ≤ i_at ∧ i_at ≤ 400) → (0 ≤ i_parts ∧ i_parts ≤ 50) → (zR i_orders (-2147483648) 2147483647) → (2 * (9 - x1) + 1) < (Nr : Int) → zok (r_LawReader_readSum x1 i_tokens i_values i_ordered i_at i_parts i_orders) (fun o => (0 ≤ o.1 ∧ o.1 ≤ 1) ∧ (1 ≤ o.2.1 ∧ o.2.1 ≤ 424) ∧ (0 ≤ o.2.2.1 ∧ o.2.2.1 ≤ 400) ∧ (0 ≤ o.2.2.2.1 ∧ o.2.2.2.1 ≤ 50) ∧ zR o.2.2.2.2 (-2147483648) 2147483647)) (hr_LawReader_readPart : ∀ (x1 : Int) (i_tokens : Nat → Int) (i_values : Nat → Int) (i_ordered : Int) (i_at : Int) (i_parts : Int) (i_orders : Nat → Int), (0 ≤ x1 ∧ x1 ≤ 8) → (zR i_tokens 0 265) → (1 ≤ i_ordered ∧ i_ordered ≤ 424) → (0 ≤ i_at ∧ i_at ≤ 400) → (0 ≤ i_parts ∧ i_parts ≤ 50) → (zR i_orders (-2147483648) 2147483647) → (2 * (9 - x1)) < (Nr : Int) → zok (r_LawReader_readPart x1 i_tokens i_values i_ordered i_at i_parts i_orders) (fun o => (0 ≤ o.1 ∧ o.1 ≤ 1) ∧ (1 ≤ o.2.1 ∧ o.2.1 ≤ 424) ∧ (0 ≤ o.2.2.1 ∧ o.2.2.1 ≤ 400) ∧ (0 ≤ o.2.2.2.1 ∧ o.2.2.2.1 ≤ 50) ∧ zR o.2.2.2.2 (-2147483648) 2147483647)) (i_tokens : Nat → Int) (i_values : Nat → Int) (h_i_tokens : zR i_tokens 0 265) : ∀ (n : Nat) (x1 : Int) (x2 : Int) (x3 : Int) (x4 : Int) (i_ordered : Int) (i_at : Int) (i_parts : Int) (i_orders : Nat → Int), (0 ≤ x1 ∧ x1 ≤ 8) → ((-1) ≤ x2 ∧ x2 ≤ 6) → ((-1) ≤ x3 ∧ x3 ≤ 4) → (0 ≤ x4 ∧ x4 ≤ 400) → (1 ≤ i_ordered ∧ i_ordered ≤ 424) → (0 ≤ i_at ∧ i_at ≤ 400) → (0 ≤ i_parts ∧ i_parts ≤ 50) → (zR i_orders (-2147483648) 2147483647) → (2 * (9 - x1) + 1 < (Nr : Int) + 1) → (401 - x4) < (n : Int) → zok (f_LawReader_readSum_7 r_LawReader_readSum r_LawReader_readPart i_tokens i_values n x1 x2 x3 x4 i_ordered i_at i_parts i_orders) (fun o => (0 ≤ o.1 ∧ o.1 ≤ 1) ∧ (1 ≤ o.2.1 ∧ o.2.1 ≤ 424) ∧ (0 ≤ o.2.2.1 ∧ o.2.2.1 ≤ 400) ∧ (0 ≤ o.2.2.2.1 ∧ o.2.2.2.1 ≤ 50) ∧ zR o.2.2.2.2 (-2147483648) 2147483647) := by
  intro n
  induction n with
  | zero => intro x1 x2 x3 x4 i_ordered i_at i_parts i_orders b_x1 b_x2 b_x3 b_x4 b_i_ordered b_i_at b_i_parts h_i_orders p_0 hm; exfalso; omega
  | succ n ih =>
    intro x1 x2 x3 x4 i_ordered i_at i_parts i_orders b_x1 b_x2 b_x3 b_x4 b_i_ordered b_i_at b_i_parts h_i_orders p_0 hm
    show zok (f_LawReader_readSum_7_b r_LawReader_readSum r_LawReader_readPart i_tokens i_values (f_LawReader_readSum_7 r_LawReader_readSum r_LawReader_readPart i_tokens i_values n) x1 x2 x3 x4 i_ordered i_at i_parts i_orders) _
    unfold f_LawReader_readSum_7_b
    refine zk_ifc (zci_le (by omega) (by omega)) (fun hc => ?_) (fun hc => ?_)
    · refine zk_ret ?_
      try dsimp only
      exact ⟨by omega, by omega, by omega, by omega, h_i_orders⟩
    · refine zk_d5 (hr_LawReader_readPart _ _ _ _ _ _ _ (by omega) h_i_tokens (by omega) (by omega) (by omega) h_i_orders (by omega)) (fun v1 v2 v3 v4 a5 hp => ?_)
      try dsimp only at hp
      obtain ⟨hpp0, hpp1, hpp2, hpp3, hpp4⟩ := hp
      refine zk_ifc (zci_eqr (by omega)) (fun hc_2 => ?_) (fun hc_2 => ?_)
      · refine zk_ret ?_
        try dsimp only
        exact ⟨by omega, by omega, by omega, by omega, hpp4⟩
      · refine zk_ifc (zci_eq (by omega) (by omega)) (fun hc_3 => ?_) (fun hc_3 => ?_)
        · unfold f_LawReader_readSum_35
          refine zk_d2 (s_LawReader_pass _ _ _ (by omega) h_i_tokens (by omega)) (fun v1_2 v2_2 hp_2 => ?_)
          try dsimp only at hp_2
          obtain ⟨hp_2p0, hp_2p1⟩ := hp_2
          refine zk_ifc (zci_eqr (by omega)) (fun hc_4 => ?_) (fun hc_4 => ?_)
          · refine zk_d2 (s_LawReader_pass _ _ _ (by omega) h_i_tokens (by omega)) (fun v3_2 v4_2 hp_3 => ?_)
            try dsimp only at hp_3
            obtain ⟨hp_3p0, hp_3p1⟩ := hp_3
            refine zk_ifc (zci_eqr (by omega)) (fun hc_5 => ?_) (fun hc_5 => ?_)
            · unfold f_LawReader_readSum_63
              refine zk_ifc (zci_eq (by omega) (by omega)) (fun hc_6 => ?_) (fun hc_6 => ?_)
              · refine zk_ifc (zci_eq (by omega) (by omega)) (fun hc_7 => ?_) (fun hc_7 => ?_)
                · unfold f_LawReader_readSum_84
                  refine zk_d2 (s_LawReader_pass _ _ _ (by omega) h_i_tokens (by omega)) (fun v1_3 v2_3 hp_4 => ?_)
                  try dsimp only at hp_4
                  obtain ⟨hp_4p0, hp_4p1⟩ := hp_4
                  refine zk_ifc (zci_eqr (by omega)) (fun hc_8 => ?_) (fun hc_8 => ?_)
                  · refine zk_d2 (s_LawReader_pass _ _ _ (by omega) h_i_tokens (by omega)) (fun v3_3 v4_3 hp_5 => ?_)
                    try dsimp only at hp_5
                    obtain ⟨hp_5p0, hp_5p1⟩ := hp_5
                    refine zk_ifc (zci_eqr (by omega)) (fun hc_9 => ?_) (fun hc_9 => ?_)
                    · unfold f_LawReader_readSum_111
                      refine zk_ifc (zci_ne (by omega) (by omega)) (fun hc_10 => ?_) (fun hc_10 => ?_)
                      · exfalso; omega
                      · refine zk_ret ?_
                        try dsimp only
                        exact ⟨by omega, by omega, by omega, by omega, hpp4⟩
                    · unfold f_LawReader_readSum_111
                      refine zk_ifc (zci_ne (by omega) (by omega)) (fun hc_11 => ?_) (fun hc_11 => ?_)
                      · unfold f_LawReader_readSum_119
                        refine zk_n ?_
                        exact ih _ _ _ _ _ _ _ _ (by omega) (by omega) (by omega) (by omega) (by omega) (by omega) (by omega) hpp4 (by omega) (by omega)
                      · exfalso; omega
                  · unfold f_LawReader_readSum_111
                    refine zk_ifc (zci_ne (by omega) (by omega)) (fun hc_12 => ?_) (fun hc_12 => ?_)
                    · unfold f_LawReader_readSum_119
                      refine zk_n ?_
                      exact ih _ _ _ _ _ _ _ _ (by omega) (by omega) (by omega) (by omega) (by omega) (by omega) (by omega) hpp4 (by omega) (by omega)
                    · exfalso; omega
                · refine zk_d3 (s_LawReader_order _ _ _ _ (by omega) (by omega) hpp4) (fun v1_6 v2_4 a3 hp_6 => ?_)
                  try dsimp only at hp_6
                  obtain ⟨hp_6p0, hp_6p1, hp_6p2⟩ := hp_6
                  unfold f_LawReader_readSum_84
                  refine zk_d2 (s_LawReader_pass _ _ _ (by omega) h_i_tokens (by omega)) (fun v1_7 v2_5 hp_7 => ?_)
                  try dsimp only at hp_7
                  obtain ⟨hp_7p0, hp_7p1⟩ := hp_7
                  refine zk_ifc (zci_eqr (by omega)) (fun hc_13 => ?_) (fun hc_13 => ?_)
                  · refine zk_d2 (s_LawReader_pass _ _ _ (by omega) h_i_tokens (by omega)) (fun v3_4 v4_4 hp_8 => ?_)
                    try dsimp only at hp_8
                    obtain ⟨hp_8p0, hp_8p1⟩ := hp_8
                    refine zk_ifc (zci_eqr (by omega)) (fun hc_14 => ?_) (fun hc_14 => ?_)
                    · unfold f_LawReader_readSum_111
                      refine zk_ifc (zci_ne (by omega) (by omega)) (fun hc_15 => ?_) (fun hc_15 => ?_)
                      · exfalso; omega
                      · refine zk_ret ?_
                        try dsimp only
                        exact ⟨by omega, by omega, by omega, by omega, hp_6p2⟩
                    · unfold f_LawReader_readSum_111
                      refine zk_ifc (zci_ne (by omega) (by omega)) (fun hc_16 => ?_) (fun hc_16 => ?_)
                      · unfold f_LawReader_readSum_119
                        refine zk_n ?_
                        exact ih _ _ _ _ _ _ _ _ (by omega) (by omega) (by omega) (by omega) (by omega) (by omega) (by omega) hp_6p2 (by omega) (by omega)
                      · exfalso; omega
                  · unfold f_LawReader_readSum_111
                    refine zk_ifc (zci_ne (by omega) (by omega)) (fun hc_17 => ?_) (fun hc_17 => ?_)
                    · unfold f_LawReader_readSum_119
                      refine zk_n ?_
                      exact ih _ _ _ _ _ _ _ _ (by omega) (by omega) (by omega) (by omega) (by omega) (by omega) (by omega) hp_6p2 (by omega) (by omega)
                    · exfalso; omega
              · exfalso; omega
            · unfold f_LawReader_readSum_63
              refine zk_ifc (zci_eq (by omega) (by omega)) (fun hc_18 => ?_) (fun hc_18 => ?_)
              · exfalso; omega
              · unfold f_LawReader_readSum_119
                refine zk_n ?_
                exact ih _ _ _ _ _ _ _ _ (by omega) (by omega) (by omega) (by omega) (by omega) (by omega) (by omega) hpp4 (by omega) (by omega)
          · unfold f_LawReader_readSum_63
            refine zk_ifc (zci_eq (by omega) (by omega)) (fun hc_19 => ?_) (fun hc_19 => ?_)
            · exfalso; omega
            · unfold f_LawReader_readSum_119
              refine zk_n ?_
              exact ih _ _ _ _ _ _ _ _ (by omega) (by omega) (by omega) (by omega) (by omega) (by omega) (by omega) hpp4 (by omega) (by omega)
        · refine zk_d3 (s_LawReader_order _ _ _ _ (by omega) (by omega) hpp4) (fun v6 v7 a8 hp_9 => ?_)
          try dsimp only at hp_9
          obtain ⟨hp_9p0, hp_9p1, hp_9p2⟩ := hp_9
          unfold f_LawReader_readSum_35
          refine zk_d2 (s_LawReader_pass _ _ _ (by omega) h_i_tokens (by omega)) (fun v1_12 v2_6 hp_10 => ?_)
          try dsimp only at hp_10
          obtain ⟨hp_10p0, hp_10p1⟩ := hp_10
          refine zk_ifc (zci_eqr (by omega)) (fun hc_20 => ?_) (fun hc_20 => ?_)
          · refine zk_d2 (s_LawReader_pass _ _ _ (by omega) h_i_tokens (by omega)) (fun v3_5 v4_5 hp_11 => ?_)
            try dsimp only at hp_11
            obtain ⟨hp_11p0, hp_11p1⟩ := hp_11
            refine zk_ifc (zci_eqr (by omega)) (fun hc_21 => ?_) (fun hc_21 => ?_)
            · unfold f_LawReader_readSum_63
              refine zk_ifc (zci_eq (by omega) (by omega)) (fun hc_22 => ?_) (fun hc_22 => ?_)
              · refine zk_ifc (zci_eq (by omega) (by omega)) (fun hc_23 => ?_) (fun hc_23 => ?_)
                · unfold f_LawReader_readSum_84
                  refine zk_d2 (s_LawReader_pass _ _ _ (by omega) h_i_tokens (by omega)) (fun v1_13 v2_7 hp_12 => ?_)
                  try dsimp only at hp_12
                  obtain ⟨hp_12p0, hp_12p1⟩ := hp_12
                  refine zk_ifc (zci_eqr (by omega)) (fun hc_24 => ?_) (fun hc_24 => ?_)
                  · refine zk_d2 (s_LawReader_pass _ _ _ (by omega) h_i_tokens (by omega)) (fun v3_6 v4_6 hp_13 => ?_)
                    try dsimp only at hp_13
                    obtain ⟨hp_13p0, hp_13p1⟩ := hp_13
                    refine zk_ifc (zci_eqr (by omega)) (fun hc_25 => ?_) (fun hc_25 => ?_)
                    · unfold f_LawReader_readSum_111
                      refine zk_ifc (zci_ne (by omega) (by omega)) (fun hc_26 => ?_) (fun hc_26 => ?_)
                      · exfalso; omega
                      · refine zk_ret ?_
                        try dsimp only
                        exact ⟨by omega, by omega, by omega, by omega, hp_9p2⟩
                    · unfold f_LawReader_readSum_111
                      refine zk_ifc (zci_ne (by omega) (by omega)) (fun hc_27 => ?_) (fun hc_27 => ?_)
                      · unfold f_LawReader_readSum_119
                        refine zk_n ?_
                        exact ih _ _ _ _ _ _ _ _ (by omega) (by omega) (by omega) (by omega) (by omega) (by omega) (by omega) hp_9p2 (by omega) (by omega)
                      · exfalso; omega
                  · unfold f_LawReader_readSum_111
                    refine zk_ifc (zci_ne (by omega) (by omega)) (fun hc_28 => ?_) (fun hc_28 => ?_)
                    · unfold f_LawReader_readSum_119
                      refine zk_n ?_
                      exact ih _ _ _ _ _ _ _ _ (by omega) (by omega) (by omega) (by omega) (by omega) (by omega) (by omega) hp_9p2 (by omega) (by omega)
                    · exfalso; omega
                · refine zk_d3 (s_LawReader_order _ _ _ _ (by omega) (by omega) hp_9p2) (fun v1_16 v2_8 a3_2 hp_14 => ?_)
                  try dsimp only at hp_14
                  obtain ⟨hp_14p0, hp_14p1, hp_14p2⟩ := hp_14
                  unfold f_LawReader_readSum_84
                  refine zk_d2 (s_LawReader_pass _ _ _ (by omega) h_i_tokens (by omega)) (fun v1_17 v2_9 hp_15 => ?_)
                  try dsimp only at hp_15
                  obtain ⟨hp_15p0, hp_15p1⟩ := hp_15
                  refine zk_ifc (zci_eqr (by omega)) (fun hc_29 => ?_) (fun hc_29 => ?_)
                  · refine zk_d2 (s_LawReader_pass _ _ _ (by omega) h_i_tokens (by omega)) (fun v3_7 v4_7 hp_16 => ?_)
                    try dsimp only at hp_16
                    obtain ⟨hp_16p0, hp_16p1⟩ := hp_16
                    refine zk_ifc (zci_eqr (by omega)) (fun hc_30 => ?_) (fun hc_30 => ?_)
                    · unfold f_LawReader_readSum_111
                      refine zk_ifc (zci_ne (by omega) (by omega)) (fun hc_31 => ?_) (fun hc_31 => ?_)
                      · exfalso; omega
                      · refine zk_ret ?_
                        try dsimp only
                        exact ⟨by omega, by omega, by omega, by omega, hp_14p2⟩
                    · unfold f_LawReader_readSum_111
                      refine zk_ifc (zci_ne (by omega) (by omega)) (fun hc_32 => ?_) (fun hc_32 => ?_)
                      · unfold f_LawReader_readSum_119
                        refine zk_n ?_
                        exact ih _ _ _ _ _ _ _ _ (by omega) (by omega) (by omega) (by omega) (by omega) (by omega) (by omega) hp_14p2 (by omega) (by omega)
                      · exfalso; omega
                  · unfold f_LawReader_readSum_111
                    refine zk_ifc (zci_ne (by omega) (by omega)) (fun hc_33 => ?_) (fun hc_33 => ?_)
                    · unfold f_LawReader_readSum_119
                      refine zk_n ?_
                      exact ih _ _ _ _ _ _ _ _ (by omega) (by omega) (by omega) (by omega) (by omega) (by omega) (by omega) hp_14p2 (by omega) (by omega)
                    · exfalso; omega
              · exfalso; omega
            · unfold f_LawReader_readSum_63
              refine zk_ifc (zci_eq (by omega) (by omega)) (fun hc_34 => ?_) (fun hc_34 => ?_)
              · exfalso; omega
              · unfold f_LawReader_readSum_119
                refine zk_n ?_
                exact ih _ _ _ _ _ _ _ _ (by omega) (by omega) (by omega) (by omega) (by omega) (by omega) (by omega) hp_9p2 (by omega) (by omega)
          · unfold f_LawReader_readSum_63
            refine zk_ifc (zci_eq (by omega) (by omega)) (fun hc_35 => ?_) (fun hc_35 => ?_)
            · exfalso; omega
            · unfold f_LawReader_readSum_119
              refine zk_n ?_
              exact ih _ _ _ _ _ _ _ _ (by omega) (by omega) (by omega) (by omega) (by omega) (by omega) (by omega) hp_9p2 (by omega) (by omega)
set_option maxHeartbeats 4000000 in
theorem sb_LawReader_readSum (r_LawReader_readSum : Int → (Nat → Int) → (Nat → Int) → Int → Int → Int → (Nat → Int) → Option (Int × Int × Int × Int × (Nat → Int))) (r_LawReader_readPart : Int → (Nat → Int) → (Nat → Int) → Int → Int → Int → (Nat → Int) → Option (Int × Int × Int × Int × (Nat → Int))) (Nr : Nat) (hr_LawReader_readSum : ∀ (x1 : Int) (i_tokens : Nat → Int) (i_values : Nat → Int) (i_ordered : Int) (i_at : Int) (i_parts : Int) (i_orders : Nat → Int), (0 ≤ x1 ∧ x1 ≤ 8) → (zR i_tokens 0 265) → (1 ≤ i_ordered ∧ i_ordered ≤ 424) → (0 ≤ i_at ∧ i_at ≤ 400) → (0 ≤ i_parts ∧ i_parts ≤ 50) → (zR i_orders (-2147483648) 2147483647) → (2 * (9 - x1) + 1) < (Nr : Int) → zok (r_LawReader_readSum x1 i_tokens i_values i_ordered i_at i_parts i_orders) (fun o => (0 ≤ o.1 ∧ o.1 ≤ 1) ∧ (1 ≤ o.2.1 ∧ o.2.1 ≤ 424) ∧ (0 ≤ o.2.2.1 ∧ o.2.2.1 ≤ 400) ∧ (0 ≤ o.2.2.2.1 ∧ o.2.2.2.1 ≤ 50) ∧ zR o.2.2.2.2 (-2147483648) 2147483647)) (hr_LawReader_readPart : ∀ (x1 : Int) (i_tokens : Nat → Int) (i_values : Nat → Int) (i_ordered : Int) (i_at : Int) (i_parts : Int) (i_orders : Nat → Int), (0 ≤ x1 ∧ x1 ≤ 8) → (zR i_tokens 0 265) → (1 ≤ i_ordered ∧ i_ordered ≤ 424) → (0 ≤ i_at ∧ i_at ≤ 400) → (0 ≤ i_parts ∧ i_parts ≤ 50) → (zR i_orders (-2147483648) 2147483647) → (2 * (9 - x1)) < (Nr : Int) → zok (r_LawReader_readPart x1 i_tokens i_values i_ordered i_at i_parts i_orders) (fun o => (0 ≤ o.1 ∧ o.1 ≤ 1) ∧ (1 ≤ o.2.1 ∧ o.2.1 ≤ 424) ∧ (0 ≤ o.2.2.1 ∧ o.2.2.1 ≤ 400) ∧ (0 ≤ o.2.2.2.1 ∧ o.2.2.2.1 ≤ 50) ∧ zR o.2.2.2.2 (-2147483648) 2147483647)) (x1 : Int) (i_tokens : Nat → Int) (i_values : Nat → Int) (i_ordered : Int) (i_at : Int) (i_parts : Int) (i_orders : Nat → Int) (b_x1 : 0 ≤ x1 ∧ x1 ≤ 8) (h_i_tokens : zR i_tokens 0 265) (b_i_ordered : 1 ≤ i_ordered ∧ i_ordered ≤ 424) (b_i_at : 0 ≤ i_at ∧ i_at ≤ 400) (b_i_parts : 0 ≤ i_parts ∧ i_parts ≤ 50) (h_i_orders : zR i_orders (-2147483648) 2147483647) (hd : (2 * (9 - x1) + 1) < (Nr : Int) + 1) : zok (fb_LawReader_readSum r_LawReader_readSum r_LawReader_readPart x1 i_tokens i_values i_ordered i_at i_parts i_orders) (fun o => (0 ≤ o.1 ∧ o.1 ≤ 1) ∧ (1 ≤ o.2.1 ∧ o.2.1 ≤ 424) ∧ (0 ≤ o.2.2.1 ∧ o.2.2.1 ≤ 400) ∧ (0 ≤ o.2.2.2.1 ∧ o.2.2.2.1 ≤ 50) ∧ zR o.2.2.2.2 (-2147483648) 2147483647) := by
  unfold fb_LawReader_readSum
  exact s_LawReader_readSum_7 _ _ Nr hr_LawReader_readSum hr_LawReader_readPart _ _ h_i_tokens zfu _ _ _ _ _ _ _ _ (by omega) (by omega) (by omega) (by omega) (by omega) (by omega) (by omega) h_i_orders (by omega) (by unfold zfu; omega)
set_option maxHeartbeats 4000000 in
theorem sb_LawReader_readPart (r_LawReader_readSum : Int → (Nat → Int) → (Nat → Int) → Int → Int → Int → (Nat → Int) → Option (Int × Int × Int × Int × (Nat → Int))) (r_LawReader_readPart : Int → (Nat → Int) → (Nat → Int) → Int → Int → Int → (Nat → Int) → Option (Int × Int × Int × Int × (Nat → Int))) (Nr : Nat) (hr_LawReader_readSum : ∀ (x1 : Int) (i_tokens : Nat → Int) (i_values : Nat → Int) (i_ordered : Int) (i_at : Int) (i_parts : Int) (i_orders : Nat → Int), (0 ≤ x1 ∧ x1 ≤ 8) → (zR i_tokens 0 265) → (1 ≤ i_ordered ∧ i_ordered ≤ 424) → (0 ≤ i_at ∧ i_at ≤ 400) → (0 ≤ i_parts ∧ i_parts ≤ 50) → (zR i_orders (-2147483648) 2147483647) → (2 * (9 - x1) + 1) < (Nr : Int) → zok (r_LawReader_readSum x1 i_tokens i_values i_ordered i_at i_parts i_orders) (fun o => (0 ≤ o.1 ∧ o.1 ≤ 1) ∧ (1 ≤ o.2.1 ∧ o.2.1 ≤ 424) ∧ (0 ≤ o.2.2.1 ∧ o.2.2.1 ≤ 400) ∧ (0 ≤ o.2.2.2.1 ∧ o.2.2.2.1 ≤ 50) ∧ zR o.2.2.2.2 (-2147483648) 2147483647)) (hr_LawReader_readPart : ∀ (x1 : Int) (i_tokens : Nat → Int) (i_values : Nat → Int) (i_ordered : Int) (i_at : Int) (i_parts : Int) (i_orders : Nat → Int), (0 ≤ x1 ∧ x1 ≤ 8) → (zR i_tokens 0 265) → (1 ≤ i_ordered ∧ i_ordered ≤ 424) → (0 ≤ i_at ∧ i_at ≤ 400) → (0 ≤ i_parts ∧ i_parts ≤ 50) → (zR i_orders (-2147483648) 2147483647) → (2 * (9 - x1)) < (Nr : Int) → zok (r_LawReader_readPart x1 i_tokens i_values i_ordered i_at i_parts i_orders) (fun o => (0 ≤ o.1 ∧ o.1 ≤ 1) ∧ (1 ≤ o.2.1 ∧ o.2.1 ≤ 424) ∧ (0 ≤ o.2.2.1 ∧ o.2.2.1 ≤ 400) ∧ (0 ≤ o.2.2.2.1 ∧ o.2.2.2.1 ≤ 50) ∧ zR o.2.2.2.2 (-2147483648) 2147483647)) (x1 : Int) (i_tokens : Nat → Int) (i_values : Nat → Int) (i_ordered : Int) (i_at : Int) (i_parts : Int) (i_orders : Nat → Int) (b_x1 : 0 ≤ x1 ∧ x1 ≤ 8) (h_i_tokens : zR i_tokens 0 265) (b_i_ordered : 1 ≤ i_ordered ∧ i_ordered ≤ 424) (b_i_at : 0 ≤ i_at ∧ i_at ≤ 400) (b_i_parts : 0 ≤ i_parts ∧ i_parts ≤ 50) (h_i_orders : zR i_orders (-2147483648) 2147483647) (hd : (2 * (9 - x1)) < (Nr : Int) + 1) : zok (fb_LawReader_readPart r_LawReader_readSum r_LawReader_readPart x1 i_tokens i_values i_ordered i_at i_parts i_orders) (fun o => (0 ≤ o.1 ∧ o.1 ≤ 1) ∧ (1 ≤ o.2.1 ∧ o.2.1 ≤ 424) ∧ (0 ≤ o.2.2.1 ∧ o.2.2.1 ≤ 400) ∧ (0 ≤ o.2.2.2.1 ∧ o.2.2.2.1 ≤ 50) ∧ zR o.2.2.2.2 (-2147483648) 2147483647) := by
  unfold fb_LawReader_readPart
  refine zk_gv (by omega) (by decide) (fun v1 h_v1 => ?_)
  have r_v1 := h_i_tokens (i_at.toNat)
  refine zk_ifc (zci_ne (by omega) (by omega)) (fun hc => ?_) (fun hc => ?_)
  · refine zk_gv (by omega) (by decide) (fun v2 h_v2 => ?_)
    have r_v2 := h_i_tokens (i_at.toNat)
    refine zk_ifc (zci_ne (by omega) (by omega)) (fun hc_2 => ?_) (fun hc_2 => ?_)
    · unfold f_LawReader_readPart_74
      refine zk_ifc (zci_ner (by omega)) (fun hc_3 => ?_) (fun hc_3 => ?_)
      · exfalso; omega
      · refine zk_gv (by omega) (by decide) (fun v1_2 h_v1_2 => ?_)
        have r_v1_2 := h_i_tokens (i_at.toNat)
        refine zk_ifc (zci_ne (by omega) (by omega)) (fun hc_4 => ?_) (fun hc_4 => ?_)
        · refine zk_ret ?_
          try dsimp only
          exact ⟨by omega, by omega, by omega, by omega, h_i_orders⟩
        · unfold f_LawReader_readPart_94
          refine zk_ifc (zci_lt (by omega) (by omega)) (fun hc_5 => ?_) (fun hc_5 => ?_)
          · refine zk_n ?_
            refine zk_ifc (zci_eqr (by omega)) (fun hc_6 => ?_) (fun hc_6 => ?_)
            · unfold f_LawReader_readPart_125
              refine zk_gv (by omega) (by decide) (fun v1_4 h_v1_4 => ?_)
              refine zk_d3 (s_LawReader_order _ _ _ _ (by omega) (by omega) h_i_orders) (fun v2_2 v3 a4 hp => ?_)
              try dsimp only at hp
              obtain ⟨hpp0, hpp1, hpp2⟩ := hp
              refine zk_gv (by omega) (by decide) (fun v5 h_v5 => ?_)
              have r_v5 := h_i_tokens (i_at.toNat)
              refine zk_d2 (s_LawReader_pass _ _ _ (by omega) h_i_tokens (by omega)) (fun v6 v7 hp_2 => ?_)
              try dsimp only at hp_2
              obtain ⟨hp_2p0, hp_2p1⟩ := hp_2
              refine zk_gb (by omega) ?_
              refine zk_ret ?_
              try dsimp only
              exact ⟨by omega, by omega, by omega, by omega, hpp2⟩
            · exfalso; omega
          · refine zk_ret ?_
            try dsimp only
            exact ⟨by omega, by omega, by omega, by omega, h_i_orders⟩
    · unfold f_LawReader_readPart_74
      refine zk_ifc (zci_ner (by omega)) (fun hc_7 => ?_) (fun hc_7 => ?_)
      · unfold f_LawReader_readPart_94
        refine zk_ifc (zci_lt (by omega) (by omega)) (fun hc_8 => ?_) (fun hc_8 => ?_)
        · refine zk_n ?_
          refine zk_ifc (zci_eqr (by omega)) (fun hc_9 => ?_) (fun hc_9 => ?_)
          · exfalso; omega
          · unfold f_LawReader_readPart_125
            refine zk_gv (by omega) (by decide) (fun v1_6 h_v1_6 => ?_)
            refine zk_d3 (s_LawReader_order _ _ _ _ (by omega) (by omega) h_i_orders) (fun v2_3 v3_2 a4_2 hp_3 => ?_)
            try dsimp only at hp_3
            obtain ⟨hp_3p0, hp_3p1, hp_3p2⟩ := hp_3
            refine zk_gv (by omega) (by decide) (fun v5_2 h_v5_2 => ?_)
            have r_v5_2 := h_i_tokens (i_at.toNat)
            refine zk_d2 (s_LawReader_pass _ _ _ (by omega) h_i_tokens (by omega)) (fun v6_2 v7_2 hp_4 => ?_)
            try dsimp only at hp_4
            obtain ⟨hp_4p0, hp_4p1⟩ := hp_4
            refine zk_gb (by omega) ?_
            refine zk_ret ?_
            try dsimp only
            exact ⟨by omega, by omega, by omega, by omega, hp_3p2⟩
        · refine zk_ret ?_
          try dsimp only
          exact ⟨by omega, by omega, by omega, by omega, h_i_orders⟩
      · exfalso; omega
  · refine zk_ifc (zci_le (by omega) (by omega)) (fun hc_10 => ?_) (fun hc_10 => ?_)
    · refine zk_ret ?_
      try dsimp only
      exact ⟨by omega, by omega, by omega, by omega, h_i_orders⟩
    · refine zk_d2 (s_LawReader_pass _ _ _ (by omega) h_i_tokens (by omega)) (fun v3_3 v4 hp_5 => ?_)
      try dsimp only at hp_5
      obtain ⟨hp_5p0, hp_5p1⟩ := hp_5
      refine zk_ifc (zci_eqr (by omega)) (fun hc_11 => ?_) (fun hc_11 => ?_)
      · refine zk_ret ?_
        try dsimp only
        exact ⟨by omega, by omega, by omega, by omega, h_i_orders⟩
      · refine zk_n ?_
        refine zk_d5 (hr_LawReader_readSum _ _ _ _ _ _ _ (by omega) h_i_tokens (by omega) (by omega) (by omega) h_i_orders (by omega)) (fun v6_3 v7_3 v8 v9 a10 hp_6 => ?_)
        try dsimp only at hp_6
        obtain ⟨hp_6p0, hp_6p1, hp_6p2, hp_6p3, hp_6p4⟩ := hp_6
        refine zk_ifc (zci_eqr (by omega)) (fun hc_12 => ?_) (fun hc_12 => ?_)
        · refine zk_ret ?_
          try dsimp only
          exact ⟨by omega, by omega, by omega, by omega, hp_6p4⟩
        · refine zk_d2 (s_LawReader_pass _ _ _ (by omega) h_i_tokens (by omega)) (fun v11 v12 hp_7 => ?_)
          try dsimp only at hp_7
          obtain ⟨hp_7p0, hp_7p1⟩ := hp_7
          refine zk_ifc (zci_eqr (by omega)) (fun hc_13 => ?_) (fun hc_13 => ?_)
          · refine zk_ret ?_
            try dsimp only
            exact ⟨by omega, by omega, by omega, by omega, hp_6p4⟩
          · refine zk_ret ?_
            try dsimp only
            exact ⟨by omega, by omega, by omega, by omega, hp_6p4⟩
end
section
theorem sg_LawReader_readSum : ∀ n : Nat, (∀ (x1 : Int) (i_tokens : Nat → Int) (i_values : Nat → Int) (i_ordered : Int) (i_at : Int) (i_parts : Int) (i_orders : Nat → Int), (0 ≤ x1 ∧ x1 ≤ 8) → (zR i_tokens 0 265) → (1 ≤ i_ordered ∧ i_ordered ≤ 424) → (0 ≤ i_at ∧ i_at ≤ 400) → (0 ≤ i_parts ∧ i_parts ≤ 50) → (zR i_orders (-2147483648) 2147483647) → (2 * (9 - x1) + 1) < (n : Int) → zok ((g_LawReader_readSum n).1 x1 i_tokens i_values i_ordered i_at i_parts i_orders) (fun o => (0 ≤ o.1 ∧ o.1 ≤ 1) ∧ (1 ≤ o.2.1 ∧ o.2.1 ≤ 424) ∧ (0 ≤ o.2.2.1 ∧ o.2.2.1 ≤ 400) ∧ (0 ≤ o.2.2.2.1 ∧ o.2.2.2.1 ≤ 50) ∧ zR o.2.2.2.2 (-2147483648) 2147483647)) ∧ (∀ (x1 : Int) (i_tokens : Nat → Int) (i_values : Nat → Int) (i_ordered : Int) (i_at : Int) (i_parts : Int) (i_orders : Nat → Int), (0 ≤ x1 ∧ x1 ≤ 8) → (zR i_tokens 0 265) → (1 ≤ i_ordered ∧ i_ordered ≤ 424) → (0 ≤ i_at ∧ i_at ≤ 400) → (0 ≤ i_parts ∧ i_parts ≤ 50) → (zR i_orders (-2147483648) 2147483647) → (2 * (9 - x1)) < (n : Int) → zok ((g_LawReader_readSum n).2 x1 i_tokens i_values i_ordered i_at i_parts i_orders) (fun o => (0 ≤ o.1 ∧ o.1 ≤ 1) ∧ (1 ≤ o.2.1 ∧ o.2.1 ≤ 424) ∧ (0 ≤ o.2.2.1 ∧ o.2.2.1 ≤ 400) ∧ (0 ≤ o.2.2.2.1 ∧ o.2.2.2.1 ≤ 50) ∧ zR o.2.2.2.2 (-2147483648) 2147483647)) := by
  intro n
  induction n with
  | zero => exact ⟨fun x0 x1 x2 x3 x4 x5 x6 p0 p1 p2 p3 p4 p5 hd => absurd hd (by omega), fun x0 x1 x2 x3 x4 x5 x6 p0 p1 p2 p3 p4 p5 hd => absurd hd (by omega)⟩
  | succ n ih => exact ⟨fun x0 x1 x2 x3 x4 x5 x6 p0 p1 p2 p3 p4 p5 hd => sb_LawReader_readSum _ _ n (ih.1) (ih.2) x0 x1 x2 x3 x4 x5 x6 p0 p1 p2 p3 p4 p5 (by omega), fun x0 x1 x2 x3 x4 x5 x6 p0 p1 p2 p3 p4 p5 hd => sb_LawReader_readPart _ _ n (ih.1) (ih.2) x0 x1 x2 x3 x4 x5 x6 p0 p1 p2 p3 p4 p5 (by omega)⟩
theorem s_LawReader_readSum (x1 : Int) (i_tokens : Nat → Int) (i_values : Nat → Int) (i_ordered : Int) (i_at : Int) (i_parts : Int) (i_orders : Nat → Int) (b_x1 : 0 ≤ x1 ∧ x1 ≤ 8) (h_i_tokens : zR i_tokens 0 265) (b_i_ordered : 1 ≤ i_ordered ∧ i_ordered ≤ 424) (b_i_at : 0 ≤ i_at ∧ i_at ≤ 400) (b_i_parts : 0 ≤ i_parts ∧ i_parts ≤ 50) (h_i_orders : zR i_orders (-2147483648) 2147483647) : zok (f_LawReader_readSum x1 i_tokens i_values i_ordered i_at i_parts i_orders) (fun o => (0 ≤ o.1 ∧ o.1 ≤ 1) ∧ (1 ≤ o.2.1 ∧ o.2.1 ≤ 424) ∧ (0 ≤ o.2.2.1 ∧ o.2.2.1 ≤ 400) ∧ (0 ≤ o.2.2.2.1 ∧ o.2.2.2.1 ≤ 50) ∧ zR o.2.2.2.2 (-2147483648) 2147483647) :=
  (sg_LawReader_readSum zdp).1 x1 i_tokens i_values i_ordered i_at i_parts i_orders b_x1 h_i_tokens b_i_ordered b_i_at b_i_parts h_i_orders (by unfold zdp; omega)
theorem s_LawReader_readPart (x1 : Int) (i_tokens : Nat → Int) (i_values : Nat → Int) (i_ordered : Int) (i_at : Int) (i_parts : Int) (i_orders : Nat → Int) (b_x1 : 0 ≤ x1 ∧ x1 ≤ 8) (h_i_tokens : zR i_tokens 0 265) (b_i_ordered : 1 ≤ i_ordered ∧ i_ordered ≤ 424) (b_i_at : 0 ≤ i_at ∧ i_at ≤ 400) (b_i_parts : 0 ≤ i_parts ∧ i_parts ≤ 50) (h_i_orders : zR i_orders (-2147483648) 2147483647) : zok (f_LawReader_readPart x1 i_tokens i_values i_ordered i_at i_parts i_orders) (fun o => (0 ≤ o.1 ∧ o.1 ≤ 1) ∧ (1 ≤ o.2.1 ∧ o.2.1 ≤ 424) ∧ (0 ≤ o.2.2.1 ∧ o.2.2.1 ≤ 400) ∧ (0 ≤ o.2.2.2.1 ∧ o.2.2.2.1 ≤ 50) ∧ zR o.2.2.2.2 (-2147483648) 2147483647) :=
  (sg_LawReader_readSum zdp).2 x1 i_tokens i_values i_ordered i_at i_parts i_orders b_x1 h_i_tokens b_i_ordered b_i_at b_i_parts h_i_orders (by unfold zdp; omega)
set_option maxHeartbeats 4000000 in
theorem s_LawReader_aimHere (x1 : Int) (i_ordered : Int) (i_orders : Nat → Int) (b_x1 : (-1) ≤ x1 ∧ x1 ≤ 424) (b_i_ordered : 1 ≤ i_ordered ∧ i_ordered ≤ 424) (h_i_orders : zR i_orders (-2147483648) 2147483647) : zok (f_LawReader_aimHere x1 i_ordered i_orders) (fun o => zR o (-2147483648) 2147483647) := by
  unfold f_LawReader_aimHere
  refine zk_ifc (zci_ltr (by omega)) (fun hc => ?_) (fun hc => ?_)
  · exact zk_ret h_i_orders
  · refine zk_ifc (zci_le (by omega) (by omega)) (fun hc_2 => ?_) (fun hc_2 => ?_)
    · exact zk_ret h_i_orders
    · refine zk_nE (fun v1 h_v1 => ?_)
      have r_v1 := zi_shl_f i_ordered 4; rw [← h_v1] at r_v1
      refine zk_gv (by omega) (by decide) (fun v2 h_v2 => ?_)
      have r_v2 := h_i_orders (x1.toNat)
      refine zk_nE (fun v3 h_v3 => ?_)
      have r_v3 := zi_and_m v2 (m := 15) (by decide); rw [← h_v3] at r_v3
      refine zk_nE (fun v4 h_v4 => ?_)
      have r_v4 := zi_or_f v1 v3; rw [← h_v4] at r_v4
      refine zk_sv (by omega) (by decide) (fun a5 h_a5 => ?_)
      have i_a5 : zR a5 (-2147483648) 2147483647 := by rw [h_a5]; exact zR_zu h_i_orders (by decide) (by decide) (by omega)
      exact zk_ret i_a5
set_option maxHeartbeats 4000000 in
theorem s_LawReader_readTest_7 (r_LawReader_readTest : Int → (Nat → Int) → (Nat → Int) → Int → Int → Int → (Nat → Int) → Option (Int × Int × Int × Int × (Nat → Int))) (r_LawReader_readPlain : Int → (Nat → Int) → (Nat → Int) → Int → Int → Int → (Nat → Int) → Option (Int × Int × Int × Int × (Nat → Int))) (Nr : Nat) (hr_LawReader_readTest : ∀ (x1 : Int) (i_tokens : Nat → Int) (i_values : Nat → Int) (i_ordered : Int) (i_at : Int) (i_parts : Int) (i_orders : Nat → Int), (0 ≤ x1 ∧ x1 ≤ 8) → (zR i_tokens 0 265) → (1 ≤ i_ordered ∧ i_ordered ≤ 424) → (0 ≤ i_at ∧ i_at ≤ 400) → (0 ≤ i_parts ∧ i_parts ≤ 50) → (zR i_orders (-2147483648) 2147483647) → (2 * (9 - x1) + 1) < (Nr : Int) → zok (r_LawReader_readTest x1 i_tokens i_values i_ordered i_at i_parts i_orders) (fun o => (0 ≤ o.1 ∧ o.1 ≤ 1) ∧ (1 ≤ o.2.1 ∧ o.2.1 ≤ 424) ∧ (0 ≤ o.2.2.1 ∧ o.2.2.1 ≤ 400) ∧ (0 ≤ o.2.2.2.1 ∧ o.2.2.2.1 ≤ 50) ∧ zR o.2.2.2.2 (-2147483648) 2147483647)) (hr_LawReader_readPlain : ∀ (x1 : Int) (i_tokens : Nat → Int) (i_values : Nat → Int) (i_ordered : Int) (i_at : Int) (i_parts : Int) (i_orders : Nat → Int), (0 ≤ x1 ∧ x1 ≤ 8) → (zR i_tokens 0 265) → (1 ≤ i_ordered ∧ i_ordered ≤ 424) → (0 ≤ i_at ∧ i_at ≤ 400) → (0 ≤ i_parts ∧ i_parts ≤ 50) → (zR i_orders (-2147483648) 2147483647) → (2 * (9 - x1)) < (Nr : Int) → zok (r_LawReader_readPlain x1 i_tokens i_values i_ordered i_at i_parts i_orders) (fun o => (0 ≤ o.1 ∧ o.1 ≤ 1) ∧ (1 ≤ o.2.1 ∧ o.2.1 ≤ 424) ∧ (0 ≤ o.2.2.1 ∧ o.2.2.1 ≤ 400) ∧ (0 ≤ o.2.2.2.1 ∧ o.2.2.2.1 ≤ 50) ∧ zR o.2.2.2.2 (-2147483648) 2147483647)) (i_tokens : Nat → Int) (i_values : Nat → Int) (h_i_tokens : zR i_tokens 0 265) : ∀ (n : Nat) (x1 : Int) (x2 : Int) (x3 : Int) (x4 : Int) (i_ordered : Int) (i_at : Int) (i_parts : Int) (i_orders : Nat → Int), (0 ≤ x1 ∧ x1 ≤ 8) → ((-1) ≤ x2 ∧ x2 ≤ 424) → ((-1) ≤ x3 ∧ x3 ≤ 424) → (0 ≤ x4 ∧ x4 ≤ 400) → (1 ≤ i_ordered ∧ i_ordered ≤ 424) → (0 ≤ i_at ∧ i_at ≤ 400) → (0 ≤ i_parts ∧ i_parts ≤ 50) → (zR i_orders (-2147483648) 2147483647) → (2 * (9 - x1) + 1 < (Nr : Int) + 1) → (401 - x4) < (n : Int) → zok (f_LawReader_readTest_7 r_LawReader_readTest r_LawReader_readPlain i_tokens i_values n x1 x2 x3 x4 i_ordered i_at i_parts i_orders) (fun o => (0 ≤ o.1 ∧ o.1 ≤ 1) ∧ (1 ≤ o.2.1 ∧ o.2.1 ≤ 424) ∧ (0 ≤ o.2.2.1 ∧ o.2.2.1 ≤ 400) ∧ (0 ≤ o.2.2.2.1 ∧ o.2.2.2.1 ≤ 50) ∧ zR o.2.2.2.2 (-2147483648) 2147483647) := by
  intro n
  induction n with
  | zero => intro x1 x2 x3 x4 i_ordered i_at i_parts i_orders b_x1 b_x2 b_x3 b_x4 b_i_ordered b_i_at b_i_parts h_i_orders p_0 hm; exfalso; omega
  | succ n ih =>
    intro x1 x2 x3 x4 i_ordered i_at i_parts i_orders b_x1 b_x2 b_x3 b_x4 b_i_ordered b_i_at b_i_parts h_i_orders p_0 hm
    show zok (f_LawReader_readTest_7_b r_LawReader_readTest r_LawReader_readPlain i_tokens i_values (f_LawReader_readTest_7 r_LawReader_readTest r_LawReader_readPlain i_tokens i_values n) x1 x2 x3 x4 i_ordered i_at i_parts i_orders) _
    unfold f_LawReader_readTest_7_b
    refine zk_ifc (zci_le (by omega) (by omega)) (fun hc => ?_) (fun hc => ?_)
    · refine zk_ret ?_
      try dsimp only
      exact ⟨by omega, by omega, by omega, by omega, h_i_orders⟩
    · refine zk_d5 (hr_LawReader_readPlain _ _ _ _ _ _ _ (by omega) h_i_tokens (by omega) (by omega) (by omega) h_i_orders (by omega)) (fun v1 v2 v3 v4 a5 hp => ?_)
      try dsimp only at hp
      obtain ⟨hpp0, hpp1, hpp2, hpp3, hpp4⟩ := hp
      refine zk_ifc (zci_eqr (by omega)) (fun hc_2 => ?_) (fun hc_2 => ?_)
      · refine zk_ret ?_
        try dsimp only
        exact ⟨by omega, by omega, by omega, by omega, hpp4⟩
      · refine zk_d1 (s_LawReader_aimHere _ _ _ (by omega) (by omega) hpp4) (fun a6 hp_2 => ?_)
        try dsimp only at hp_2
        have hp_2p0 := hp_2
        refine zk_d2 (s_LawReader_pass _ _ _ (by omega) h_i_tokens (by omega)) (fun v7 v8 hp_3 => ?_)
        try dsimp only at hp_3
        obtain ⟨hp_3p0, hp_3p1⟩ := hp_3
        refine zk_ifc (zci_eqr (by omega)) (fun hc_3 => ?_) (fun hc_3 => ?_)
        · refine zk_d1 (s_LawReader_aimHere _ _ _ (by omega) (by omega) hp_2p0) (fun a9 hp_4 => ?_)
          try dsimp only at hp_4
          have hp_4p0 := hp_4
          refine zk_d2 (s_LawReader_pass _ _ _ (by omega) h_i_tokens (by omega)) (fun v10 v11 hp_5 => ?_)
          try dsimp only at hp_5
          obtain ⟨hp_5p0, hp_5p1⟩ := hp_5
          refine zk_ifc (zci_ner (by omega)) (fun hc_4 => ?_) (fun hc_4 => ?_)
          · refine zk_d3 (s_LawReader_order _ _ _ _ (by omega) (by omega) hp_4p0) (fun v12 v13 a14 hp_6 => ?_)
            try dsimp only at hp_6
            obtain ⟨hp_6p0, hp_6p1, hp_6p2⟩ := hp_6
            unfold f_LawReader_readTest_76
            refine zk_n ?_
            exact ih _ _ _ _ _ _ _ _ (by omega) (by omega) (by omega) (by omega) (by omega) (by omega) (by omega) hp_6p2 (by omega) (by omega)
          · refine zk_ret ?_
            try dsimp only
            exact ⟨by omega, by omega, by omega, by omega, hp_4p0⟩
        · refine zk_d3 (s_LawReader_order _ _ _ _ (by omega) (by omega) hp_2p0) (fun v15 v16 a17 hp_7 => ?_)
          try dsimp only at hp_7
          obtain ⟨hp_7p0, hp_7p1, hp_7p2⟩ := hp_7
          unfold f_LawReader_readTest_76
          refine zk_n ?_
          exact ih _ _ _ _ _ _ _ _ (by omega) (by omega) (by omega) (by omega) (by omega) (by omega) (by omega) hp_7p2 (by omega) (by omega)
set_option maxHeartbeats 4000000 in
theorem sb_LawReader_readTest (r_LawReader_readTest : Int → (Nat → Int) → (Nat → Int) → Int → Int → Int → (Nat → Int) → Option (Int × Int × Int × Int × (Nat → Int))) (r_LawReader_readPlain : Int → (Nat → Int) → (Nat → Int) → Int → Int → Int → (Nat → Int) → Option (Int × Int × Int × Int × (Nat → Int))) (Nr : Nat) (hr_LawReader_readTest : ∀ (x1 : Int) (i_tokens : Nat → Int) (i_values : Nat → Int) (i_ordered : Int) (i_at : Int) (i_parts : Int) (i_orders : Nat → Int), (0 ≤ x1 ∧ x1 ≤ 8) → (zR i_tokens 0 265) → (1 ≤ i_ordered ∧ i_ordered ≤ 424) → (0 ≤ i_at ∧ i_at ≤ 400) → (0 ≤ i_parts ∧ i_parts ≤ 50) → (zR i_orders (-2147483648) 2147483647) → (2 * (9 - x1) + 1) < (Nr : Int) → zok (r_LawReader_readTest x1 i_tokens i_values i_ordered i_at i_parts i_orders) (fun o => (0 ≤ o.1 ∧ o.1 ≤ 1) ∧ (1 ≤ o.2.1 ∧ o.2.1 ≤ 424) ∧ (0 ≤ o.2.2.1 ∧ o.2.2.1 ≤ 400) ∧ (0 ≤ o.2.2.2.1 ∧ o.2.2.2.1 ≤ 50) ∧ zR o.2.2.2.2 (-2147483648) 2147483647)) (hr_LawReader_readPlain : ∀ (x1 : Int) (i_tokens : Nat → Int) (i_values : Nat → Int) (i_ordered : Int) (i_at : Int) (i_parts : Int) (i_orders : Nat → Int), (0 ≤ x1 ∧ x1 ≤ 8) → (zR i_tokens 0 265) → (1 ≤ i_ordered ∧ i_ordered ≤ 424) → (0 ≤ i_at ∧ i_at ≤ 400) → (0 ≤ i_parts ∧ i_parts ≤ 50) → (zR i_orders (-2147483648) 2147483647) → (2 * (9 - x1)) < (Nr : Int) → zok (r_LawReader_readPlain x1 i_tokens i_values i_ordered i_at i_parts i_orders) (fun o => (0 ≤ o.1 ∧ o.1 ≤ 1) ∧ (1 ≤ o.2.1 ∧ o.2.1 ≤ 424) ∧ (0 ≤ o.2.2.1 ∧ o.2.2.1 ≤ 400) ∧ (0 ≤ o.2.2.2.1 ∧ o.2.2.2.1 ≤ 50) ∧ zR o.2.2.2.2 (-2147483648) 2147483647)) (x1 : Int) (i_tokens : Nat → Int) (i_values : Nat → Int) (i_ordered : Int) (i_at : Int) (i_parts : Int) (i_orders : Nat → Int) (b_x1 : 0 ≤ x1 ∧ x1 ≤ 8) (h_i_tokens : zR i_tokens 0 265) (b_i_ordered : 1 ≤ i_ordered ∧ i_ordered ≤ 424) (b_i_at : 0 ≤ i_at ∧ i_at ≤ 400) (b_i_parts : 0 ≤ i_parts ∧ i_parts ≤ 50) (h_i_orders : zR i_orders (-2147483648) 2147483647) (hd : (2 * (9 - x1) + 1) < (Nr : Int) + 1) : zok (fb_LawReader_readTest r_LawReader_readTest r_LawReader_readPlain x1 i_tokens i_values i_ordered i_at i_parts i_orders) (fun o => (0 ≤ o.1 ∧ o.1 ≤ 1) ∧ (1 ≤ o.2.1 ∧ o.2.1 ≤ 424) ∧ (0 ≤ o.2.2.1 ∧ o.2.2.1 ≤ 400) ∧ (0 ≤ o.2.2.2.1 ∧ o.2.2.2.1 ≤ 50) ∧ zR o.2.2.2.2 (-2147483648) 2147483647) := by
  unfold fb_LawReader_readTest
  exact s_LawReader_readTest_7 _ _ Nr hr_LawReader_readTest hr_LawReader_readPlain _ _ h_i_tokens zfu _ _ _ _ _ _ _ _ (by omega) (by omega) (by omega) (by omega) (by omega) (by omega) (by omega) h_i_orders (by omega) (by unfold zfu; omega)
set_option maxHeartbeats 4000000 in
theorem s_LawReader_readPlain_4 (r_LawReader_readTest : Int → (Nat → Int) → (Nat → Int) → Int → Int → Int → (Nat → Int) → Option (Int × Int × Int × Int × (Nat → Int))) (r_LawReader_readPlain : Int → (Nat → Int) → (Nat → Int) → Int → Int → Int → (Nat → Int) → Option (Int × Int × Int × Int × (Nat → Int))) (Nr : Nat) (hr_LawReader_readTest : ∀ (x1 : Int) (i_tokens : Nat → Int) (i_values : Nat → Int) (i_ordered : Int) (i_at : Int) (i_parts : Int) (i_orders : Nat → Int), (0 ≤ x1 ∧ x1 ≤ 8) → (zR i_tokens 0 265) → (1 ≤ i_ordered ∧ i_ordered ≤ 424) → (0 ≤ i_at ∧ i_at ≤ 400) → (0 ≤ i_parts ∧ i_parts ≤ 50) → (zR i_orders (-2147483648) 2147483647) → (2 * (9 - x1) + 1) < (Nr : Int) → zok (r_LawReader_readTest x1 i_tokens i_values i_ordered i_at i_parts i_orders) (fun o => (0 ≤ o.1 ∧ o.1 ≤ 1) ∧ (1 ≤ o.2.1 ∧ o.2.1 ≤ 424) ∧ (0 ≤ o.2.2.1 ∧ o.2.2.1 ≤ 400) ∧ (0 ≤ o.2.2.2.1 ∧ o.2.2.2.1 ≤ 50) ∧ zR o.2.2.2.2 (-2147483648) 2147483647)) (hr_LawReader_readPlain : ∀ (x1 : Int) (i_tokens : Nat → Int) (i_values : Nat → Int) (i_ordered : Int) (i_at : Int) (i_parts : Int) (i_orders : Nat → Int), (0 ≤ x1 ∧ x1 ≤ 8) → (zR i_tokens 0 265) → (1 ≤ i_ordered ∧ i_ordered ≤ 424) → (0 ≤ i_at ∧ i_at ≤ 400) → (0 ≤ i_parts ∧ i_parts ≤ 50) → (zR i_orders (-2147483648) 2147483647) → (2 * (9 - x1)) < (Nr : Int) → zok (r_LawReader_readPlain x1 i_tokens i_values i_ordered i_at i_parts i_orders) (fun o => (0 ≤ o.1 ∧ o.1 ≤ 1) ∧ (1 ≤ o.2.1 ∧ o.2.1 ≤ 424) ∧ (0 ≤ o.2.2.1 ∧ o.2.2.1 ≤ 400) ∧ (0 ≤ o.2.2.2.1 ∧ o.2.2.2.1 ≤ 50) ∧ zR o.2.2.2.2 (-2147483648) 2147483647)) (i_tokens : Nat → Int) (i_values : Nat → Int) (h_i_tokens : zR i_tokens 0 265) : ∀ (n : Nat) (x1 : Int) (x2 : Int) (x3 : Int) (i_ordered : Int) (i_at : Int) (i_parts : Int) (i_orders : Nat → Int), (0 ≤ x1 ∧ x1 ≤ 8) → (0 ≤ x2 ∧ x2 ≤ 1) → (0 ≤ x3 ∧ x3 ≤ 400) → (1 ≤ i_ordered ∧ i_ordered ≤ 424) → (0 ≤ i_at ∧ i_at ≤ 400) → (0 ≤ i_parts ∧ i_parts ≤ 50) → (zR i_orders (-2147483648) 2147483647) → (2 * (9 - x1) < (Nr : Int) + 1) → (401 - x3) < (n : Int) → zok (f_LawReader_readPlain_4 r_LawReader_readTest r_LawReader_readPlain i_tokens i_values n x1 x2 x3 i_ordered i_at i_parts i_orders) (fun o => (0 ≤ o.1 ∧ o.1 ≤ 1) ∧ (1 ≤ o.2.1 ∧ o.2.1 ≤ 424) ∧ (0 ≤ o.2.2.1 ∧ o.2.2.1 ≤ 400) ∧ (0 ≤ o.2.2.2.1 ∧ o.2.2.2.1 ≤ 50) ∧ zR o.2.2.2.2 (-2147483648) 2147483647) := by
  intro n
  induction n with
  | zero => intro x1 x2 x3 i_ordered i_at i_parts i_orders b_x1 b_x2 b_x3 b_i_ordered b_i_at b_i_parts h_i_orders p_0 hm; exfalso; omega
  | succ n ih =>
    intro x1 x2 x3 i_ordered i_at i_parts i_orders b_x1 b_x2 b_x3 b_i_ordered b_i_at b_i_parts h_i_orders p_0 hm
    show zok (f_LawReader_readPlain_4_b r_LawReader_readTest r_LawReader_readPlain i_tokens i_values (f_LawReader_readPlain_4 r_LawReader_readTest r_LawReader_readPlain i_tokens i_values n) x1 x2 x3 i_ordered i_at i_parts i_orders) _
    unfold f_LawReader_readPlain_4_b
    refine zk_ifc (zci_le (by omega) (by omega)) (fun hc => ?_) (fun hc => ?_)
    · unfold f_LawReader_readPlain_37
      refine zk_gv (by omega) (by decide) (fun v1 h_v1 => ?_)
      have r_v1 := h_i_tokens (i_at.toNat)
      refine zk_ifc (zci_ne (by omega) (by omega)) (fun hc_2 => ?_) (fun hc_2 => ?_)
      · refine zk_d5 (s_LawReader_readSum _ _ _ _ _ _ _ (by omega) h_i_tokens (by omega) (by omega) (by omega) h_i_orders) (fun v2 v3 v4 v5 a6 hp => ?_)
        try dsimp only at hp
        obtain ⟨hpp0, hpp1, hpp2, hpp3, hpp4⟩ := hp
        refine zk_ifc (zci_ner (by omega)) (fun hc_3 => ?_) (fun hc_3 => ?_)
        · refine zk_gv (by omega) (by decide) (fun v7 h_v7 => ?_)
          have r_v7 := h_i_tokens (v4.toNat)
          refine zk_d1 (s_LawReader_comparisonOf _ (by omega)) (fun v8 hp_2 => ?_)
          try dsimp only at hp_2
          obtain ⟨hp_2p0, hp_2p1⟩ := hp_2
          refine zk_ifc (zci_eq (by omega) (by omega)) (fun hc_4 => ?_) (fun hc_4 => ?_)
          · refine zk_ret ?_
            try dsimp only
            exact ⟨by omega, by omega, by omega, by omega, hpp4⟩
          · refine zk_gv (by omega) (by decide) (fun v9 h_v9 => ?_)
            have r_v9 := h_i_tokens (v4.toNat)
            refine zk_d2 (s_LawReader_pass _ _ _ (by omega) h_i_tokens (by omega)) (fun v10 v11 hp_3 => ?_)
            try dsimp only at hp_3
            obtain ⟨hp_3p0, hp_3p1⟩ := hp_3
            refine zk_ifc (zci_eqr (by omega)) (fun hc_5 => ?_) (fun hc_5 => ?_)
            · refine zk_ret ?_
              try dsimp only
              exact ⟨by omega, by omega, by omega, by omega, hpp4⟩
            · refine zk_d5 (s_LawReader_readSum _ _ _ _ _ _ _ (by omega) h_i_tokens (by omega) (by omega) (by omega) hpp4) (fun v12 v13 v14 v15 a16 hp_4 => ?_)
              try dsimp only at hp_4
              obtain ⟨hp_4p0, hp_4p1, hp_4p2, hp_4p3, hp_4p4⟩ := hp_4
              refine zk_ifc (zci_ner (by omega)) (fun hc_6 => ?_) (fun hc_6 => ?_)
              · refine zk_d3 (s_LawReader_order _ _ _ _ (by omega) (by omega) hp_4p4) (fun v17 v18 a19 hp_5 => ?_)
                try dsimp only at hp_5
                obtain ⟨hp_5p0, hp_5p1, hp_5p2⟩ := hp_5
                unfold f_LawReader_readPlain_148
                refine zk_ifc (zci_eqr (by omega)) (fun hc_7 => ?_) (fun hc_7 => ?_)
                · refine zk_ret ?_
                  try dsimp only
                  exact ⟨by omega, by omega, by omega, by omega, hp_5p2⟩
                · refine zk_d3 (s_LawReader_order _ _ _ _ (by omega) (by omega) hp_5p2) (fun v1_2 v2_2 a3 hp_6 => ?_)
                  try dsimp only at hp_6
                  obtain ⟨hp_6p0, hp_6p1, hp_6p2⟩ := hp_6
                  refine zk_ret ?_
                  try dsimp only
                  exact ⟨by omega, by omega, by omega, by omega, hp_6p2⟩
              · refine zk_ret ?_
                try dsimp only
                exact ⟨by omega, by omega, by omega, by omega, hp_4p4⟩
        · refine zk_ret ?_
          try dsimp only
          exact ⟨by omega, by omega, by omega, by omega, hpp4⟩
      · refine zk_ifc (zci_le (by omega) (by omega)) (fun hc_8 => ?_) (fun hc_8 => ?_)
        · refine zk_ret ?_
          try dsimp only
          exact ⟨by omega, by omega, by omega, by omega, h_i_orders⟩
        · refine zk_d2 (s_LawReader_pass _ _ _ (by omega) h_i_tokens (by omega)) (fun v20 v21 hp_7 => ?_)
          try dsimp only at hp_7
          obtain ⟨hp_7p0, hp_7p1⟩ := hp_7
          refine zk_ifc (zci_eqr (by omega)) (fun hc_9 => ?_) (fun hc_9 => ?_)
          · refine zk_ret ?_
            try dsimp only
            exact ⟨by omega, by omega, by omega, by omega, h_i_orders⟩
          · refine zk_n ?_
            refine zk_d5 (hr_LawReader_readTest _ _ _ _ _ _ _ (by omega) h_i_tokens (by omega) (by omega) (by omega) h_i_orders (by omega)) (fun v23 v24 v25 v26 a27 hp_8 => ?_)
            try dsimp only at hp_8
            obtain ⟨hp_8p0, hp_8p1, hp_8p2, hp_8p3, hp_8p4⟩ := hp_8
            refine zk_ifc (zci_eqr (by omega)) (fun hc_10 => ?_) (fun hc_10 => ?_)
            · refine zk_ret ?_
              try dsimp only
              exact ⟨by omega, by omega, by omega, by omega, hp_8p4⟩
            · refine zk_d2 (s_LawReader_pass _ _ _ (by omega) h_i_tokens (by omega)) (fun v28 v29 hp_9 => ?_)
              try dsimp only at hp_9
              obtain ⟨hp_9p0, hp_9p1⟩ := hp_9
              refine zk_ifc (zci_ner (by omega)) (fun hc_11 => ?_) (fun hc_11 => ?_)
              · unfold f_LawReader_readPlain_148
                refine zk_ifc (zci_eqr (by omega)) (fun hc_12 => ?_) (fun hc_12 => ?_)
                · refine zk_ret ?_
                  try dsimp only
                  exact ⟨by omega, by omega, by omega, by omega, hp_8p4⟩
                · refine zk_d3 (s_LawReader_order _ _ _ _ (by omega) (by omega) hp_8p4) (fun v1_3 v2_3 a3_2 hp_10 => ?_)
                  try dsimp only at hp_10
                  obtain ⟨hp_10p0, hp_10p1, hp_10p2⟩ := hp_10
                  refine zk_ret ?_
                  try dsimp only
                  exact ⟨by omega, by omega, by omega, by omega, hp_10p2⟩
              · refine zk_ret ?_
                try dsimp only
                exact ⟨by omega, by omega, by omega, by omega, hp_8p4⟩
    · refine zk_d2 (s_LawReader_pass _ _ _ (by omega) h_i_tokens (by omega)) (fun v1_4 v2_4 hp_11 => ?_)
      try dsimp only at hp_11
      obtain ⟨hp_11p0, hp_11p1⟩ := hp_11
      refine zk_ifc (zci_eqr (by omega)) (fun hc_13 => ?_) (fun hc_13 => ?_)
      · unfold f_LawReader_readPlain_37
        refine zk_gv (by omega) (by decide) (fun v1_5 h_v1_5 => ?_)
        have r_v1_5 := h_i_tokens (v2_4.toNat)
        refine zk_ifc (zci_ne (by omega) (by omega)) (fun hc_14 => ?_) (fun hc_14 => ?_)
        · refine zk_d5 (s_LawReader_readSum _ _ _ _ _ _ _ (by omega) h_i_tokens (by omega) (by omega) (by omega) h_i_orders) (fun v2_5 v3_2 v4_2 v5_2 a6_2 hp_12 => ?_)
          try dsimp only at hp_12
          obtain ⟨hp_12p0, hp_12p1, hp_12p2, hp_12p3, hp_12p4⟩ := hp_12
          refine zk_ifc (zci_ner (by omega)) (fun hc_15 => ?_) (fun hc_15 => ?_)
          · refine zk_gv (by omega) (by decide) (fun v7_2 h_v7_2 => ?_)
            have r_v7_2 := h_i_tokens (v4_2.toNat)
            refine zk_d1 (s_LawReader_comparisonOf _ (by omega)) (fun v8_2 hp_13 => ?_)
            try dsimp only at hp_13
            obtain ⟨hp_13p0, hp_13p1⟩ := hp_13
            refine zk_ifc (zci_eq (by omega) (by omega)) (fun hc_16 => ?_) (fun hc_16 => ?_)
            · refine zk_ret ?_
              try dsimp only
              exact ⟨by omega, by omega, by omega, by omega, hp_12p4⟩
            · refine zk_gv (by omega) (by decide) (fun v9_2 h_v9_2 => ?_)
              have r_v9_2 := h_i_tokens (v4_2.toNat)
              refine zk_d2 (s_LawReader_pass _ _ _ (by omega) h_i_tokens (by omega)) (fun v10_2 v11_2 hp_14 => ?_)
              try dsimp only at hp_14
              obtain ⟨hp_14p0, hp_14p1⟩ := hp_14
              refine zk_ifc (zci_eqr (by omega)) (fun hc_17 => ?_) (fun hc_17 => ?_)
              · refine zk_ret ?_
                try dsimp only
                exact ⟨by omega, by omega, by omega, by omega, hp_12p4⟩
              · refine zk_d5 (s_LawReader_readSum _ _ _ _ _ _ _ (by omega) h_i_tokens (by omega) (by omega) (by omega) hp_12p4) (fun v12_2 v13_2 v14_2 v15_2 a16_2 hp_15 => ?_)
                try dsimp only at hp_15
                obtain ⟨hp_15p0, hp_15p1, hp_15p2, hp_15p3, hp_15p4⟩ := hp_15
                refine zk_ifc (zci_ner (by omega)) (fun hc_18 => ?_) (fun hc_18 => ?_)
                · refine zk_d3 (s_LawReader_order _ _ _ _ (by omega) (by omega) hp_15p4) (fun v17_2 v18_2 a19_2 hp_16 => ?_)
                  try dsimp only at hp_16
                  obtain ⟨hp_16p0, hp_16p1, hp_16p2⟩ := hp_16
                  unfold f_LawReader_readPlain_148
                  refine zk_ifc (zci_eqr (by omega)) (fun hc_19 => ?_) (fun hc_19 => ?_)
                  · refine zk_ret ?_
                    try dsimp only
                    exact ⟨by omega, by omega, by omega, by omega, hp_16p2⟩
                  · refine zk_d3 (s_LawReader_order _ _ _ _ (by omega) (by omega) hp_16p2) (fun v1_6 v2_6 a3_3 hp_17 => ?_)
                    try dsimp only at hp_17
                    obtain ⟨hp_17p0, hp_17p1, hp_17p2⟩ := hp_17
                    refine zk_ret ?_
                    try dsimp only
                    exact ⟨by omega, by omega, by omega, by omega, hp_17p2⟩
                · refine zk_ret ?_
                  try dsimp only
                  exact ⟨by omega, by omega, by omega, by omega, hp_15p4⟩
          · refine zk_ret ?_
            try dsimp only
            exact ⟨by omega, by omega, by omega, by omega, hp_12p4⟩
        · refine zk_ifc (zci_le (by omega) (by omega)) (fun hc_20 => ?_) (fun hc_20 => ?_)
          · refine zk_ret ?_
            try dsimp only
            exact ⟨by omega, by omega, by omega, by omega, h_i_orders⟩
          · refine zk_d2 (s_LawReader_pass _ _ _ (by omega) h_i_tokens (by omega)) (fun v20_2 v21_2 hp_18 => ?_)
            try dsimp only at hp_18
            obtain ⟨hp_18p0, hp_18p1⟩ := hp_18
            refine zk_ifc (zci_eqr (by omega)) (fun hc_21 => ?_) (fun hc_21 => ?_)
            · refine zk_ret ?_
              try dsimp only
              exact ⟨by omega, by omega, by omega, by omega, h_i_orders⟩
            · refine zk_n ?_
              refine zk_d5 (hr_LawReader_readTest _ _ _ _ _ _ _ (by omega) h_i_tokens (by omega) (by omega) (by omega) h_i_orders (by omega)) (fun v23_2 v24_2 v25_2 v26_2 a27_2 hp_19 => ?_)
              try dsimp only at hp_19
              obtain ⟨hp_19p0, hp_19p1, hp_19p2, hp_19p3, hp_19p4⟩ := hp_19
              refine zk_ifc (zci_eqr (by omega)) (fun hc_22 => ?_) (fun hc_22 => ?_)
              · refine zk_ret ?_
                try dsimp only
                exact ⟨by omega, by omega, by omega, by omega, hp_19p4⟩
              · refine zk_d2 (s_LawReader_pass _ _ _ (by omega) h_i_tokens (by omega)) (fun v28_2 v29_2 hp_20 => ?_)
                try dsimp only at hp_20
                obtain ⟨hp_20p0, hp_20p1⟩ := hp_20
                refine zk_ifc (zci_ner (by omega)) (fun hc_23 => ?_) (fun hc_23 => ?_)
                · unfold f_LawReader_readPlain_148
                  refine zk_ifc (zci_eqr (by omega)) (fun hc_24 => ?_) (fun hc_24 => ?_)
                  · refine zk_ret ?_
                    try dsimp only
                    exact ⟨by omega, by omega, by omega, by omega, hp_19p4⟩
                  · refine zk_d3 (s_LawReader_order _ _ _ _ (by omega) (by omega) hp_19p4) (fun v1_7 v2_7 a3_4 hp_21 => ?_)
                    try dsimp only at hp_21
                    obtain ⟨hp_21p0, hp_21p1, hp_21p2⟩ := hp_21
                    refine zk_ret ?_
                    try dsimp only
                    exact ⟨by omega, by omega, by omega, by omega, hp_21p2⟩
                · refine zk_ret ?_
                  try dsimp only
                  exact ⟨by omega, by omega, by omega, by omega, hp_19p4⟩
      · refine zk_ifc (zci_ner (by omega)) (fun hc_25 => ?_) (fun hc_25 => ?_)
        · unfold f_LawReader_readPlain_30
          refine zk_n ?_
          exact ih _ _ _ _ _ _ _ (by omega) (by omega) (by omega) (by omega) (by omega) (by omega) h_i_orders (by omega) (by omega)
        · unfold f_LawReader_readPlain_30
          refine zk_n ?_
          exact ih _ _ _ _ _ _ _ (by omega) (by omega) (by omega) (by omega) (by omega) (by omega) h_i_orders (by omega) (by omega)
set_option maxHeartbeats 4000000 in
theorem sb_LawReader_readPlain (r_LawReader_readTest : Int → (Nat → Int) → (Nat → Int) → Int → Int → Int → (Nat → Int) → Option (Int × Int × Int × Int × (Nat → Int))) (r_LawReader_readPlain : Int → (Nat → Int) → (Nat → Int) → Int → Int → Int → (Nat → Int) → Option (Int × Int × Int × Int × (Nat → Int))) (Nr : Nat) (hr_LawReader_readTest : ∀ (x1 : Int) (i_tokens : Nat → Int) (i_values : Nat → Int) (i_ordered : Int) (i_at : Int) (i_parts : Int) (i_orders : Nat → Int), (0 ≤ x1 ∧ x1 ≤ 8) → (zR i_tokens 0 265) → (1 ≤ i_ordered ∧ i_ordered ≤ 424) → (0 ≤ i_at ∧ i_at ≤ 400) → (0 ≤ i_parts ∧ i_parts ≤ 50) → (zR i_orders (-2147483648) 2147483647) → (2 * (9 - x1) + 1) < (Nr : Int) → zok (r_LawReader_readTest x1 i_tokens i_values i_ordered i_at i_parts i_orders) (fun o => (0 ≤ o.1 ∧ o.1 ≤ 1) ∧ (1 ≤ o.2.1 ∧ o.2.1 ≤ 424) ∧ (0 ≤ o.2.2.1 ∧ o.2.2.1 ≤ 400) ∧ (0 ≤ o.2.2.2.1 ∧ o.2.2.2.1 ≤ 50) ∧ zR o.2.2.2.2 (-2147483648) 2147483647)) (hr_LawReader_readPlain : ∀ (x1 : Int) (i_tokens : Nat → Int) (i_values : Nat → Int) (i_ordered : Int) (i_at : Int) (i_parts : Int) (i_orders : Nat → Int), (0 ≤ x1 ∧ x1 ≤ 8) → (zR i_tokens 0 265) → (1 ≤ i_ordered ∧ i_ordered ≤ 424) → (0 ≤ i_at ∧ i_at ≤ 400) → (0 ≤ i_parts ∧ i_parts ≤ 50) → (zR i_orders (-2147483648) 2147483647) → (2 * (9 - x1)) < (Nr : Int) → zok (r_LawReader_readPlain x1 i_tokens i_values i_ordered i_at i_parts i_orders) (fun o => (0 ≤ o.1 ∧ o.1 ≤ 1) ∧ (1 ≤ o.2.1 ∧ o.2.1 ≤ 424) ∧ (0 ≤ o.2.2.1 ∧ o.2.2.1 ≤ 400) ∧ (0 ≤ o.2.2.2.1 ∧ o.2.2.2.1 ≤ 50) ∧ zR o.2.2.2.2 (-2147483648) 2147483647)) (x1 : Int) (i_tokens : Nat → Int) (i_values : Nat → Int) (i_ordered : Int) (i_at : Int) (i_parts : Int) (i_orders : Nat → Int) (b_x1 : 0 ≤ x1 ∧ x1 ≤ 8) (h_i_tokens : zR i_tokens 0 265) (b_i_ordered : 1 ≤ i_ordered ∧ i_ordered ≤ 424) (b_i_at : 0 ≤ i_at ∧ i_at ≤ 400) (b_i_parts : 0 ≤ i_parts ∧ i_parts ≤ 50) (h_i_orders : zR i_orders (-2147483648) 2147483647) (hd : (2 * (9 - x1)) < (Nr : Int) + 1) : zok (fb_LawReader_readPlain r_LawReader_readTest r_LawReader_readPlain x1 i_tokens i_values i_ordered i_at i_parts i_orders) (fun o => (0 ≤ o.1 ∧ o.1 ≤ 1) ∧ (1 ≤ o.2.1 ∧ o.2.1 ≤ 424) ∧ (0 ≤ o.2.2.1 ∧ o.2.2.1 ≤ 400) ∧ (0 ≤ o.2.2.2.1 ∧ o.2.2.2.1 ≤ 50) ∧ zR o.2.2.2.2 (-2147483648) 2147483647) := by
  unfold fb_LawReader_readPlain
  exact s_LawReader_readPlain_4 _ _ Nr hr_LawReader_readTest hr_LawReader_readPlain _ _ h_i_tokens zfu _ _ _ _ _ _ _ (by omega) (by omega) (by omega) (by omega) (by omega) (by omega) h_i_orders (by omega) (by unfold zfu; omega)
theorem sg_LawReader_readTest : ∀ n : Nat, (∀ (x1 : Int) (i_tokens : Nat → Int) (i_values : Nat → Int) (i_ordered : Int) (i_at : Int) (i_parts : Int) (i_orders : Nat → Int), (0 ≤ x1 ∧ x1 ≤ 8) → (zR i_tokens 0 265) → (1 ≤ i_ordered ∧ i_ordered ≤ 424) → (0 ≤ i_at ∧ i_at ≤ 400) → (0 ≤ i_parts ∧ i_parts ≤ 50) → (zR i_orders (-2147483648) 2147483647) → (2 * (9 - x1) + 1) < (n : Int) → zok ((g_LawReader_readTest n).1 x1 i_tokens i_values i_ordered i_at i_parts i_orders) (fun o => (0 ≤ o.1 ∧ o.1 ≤ 1) ∧ (1 ≤ o.2.1 ∧ o.2.1 ≤ 424) ∧ (0 ≤ o.2.2.1 ∧ o.2.2.1 ≤ 400) ∧ (0 ≤ o.2.2.2.1 ∧ o.2.2.2.1 ≤ 50) ∧ zR o.2.2.2.2 (-2147483648) 2147483647)) ∧ (∀ (x1 : Int) (i_tokens : Nat → Int) (i_values : Nat → Int) (i_ordered : Int) (i_at : Int) (i_parts : Int) (i_orders : Nat → Int), (0 ≤ x1 ∧ x1 ≤ 8) → (zR i_tokens 0 265) → (1 ≤ i_ordered ∧ i_ordered ≤ 424) → (0 ≤ i_at ∧ i_at ≤ 400) → (0 ≤ i_parts ∧ i_parts ≤ 50) → (zR i_orders (-2147483648) 2147483647) → (2 * (9 - x1)) < (n : Int) → zok ((g_LawReader_readTest n).2 x1 i_tokens i_values i_ordered i_at i_parts i_orders) (fun o => (0 ≤ o.1 ∧ o.1 ≤ 1) ∧ (1 ≤ o.2.1 ∧ o.2.1 ≤ 424) ∧ (0 ≤ o.2.2.1 ∧ o.2.2.1 ≤ 400) ∧ (0 ≤ o.2.2.2.1 ∧ o.2.2.2.1 ≤ 50) ∧ zR o.2.2.2.2 (-2147483648) 2147483647)) := by
  intro n
  induction n with
  | zero => exact ⟨fun x0 x1 x2 x3 x4 x5 x6 p0 p1 p2 p3 p4 p5 hd => absurd hd (by omega), fun x0 x1 x2 x3 x4 x5 x6 p0 p1 p2 p3 p4 p5 hd => absurd hd (by omega)⟩
  | succ n ih => exact ⟨fun x0 x1 x2 x3 x4 x5 x6 p0 p1 p2 p3 p4 p5 hd => sb_LawReader_readTest _ _ n (ih.1) (ih.2) x0 x1 x2 x3 x4 x5 x6 p0 p1 p2 p3 p4 p5 (by omega), fun x0 x1 x2 x3 x4 x5 x6 p0 p1 p2 p3 p4 p5 hd => sb_LawReader_readPlain _ _ n (ih.1) (ih.2) x0 x1 x2 x3 x4 x5 x6 p0 p1 p2 p3 p4 p5 (by omega)⟩
theorem s_LawReader_readTest (x1 : Int) (i_tokens : Nat → Int) (i_values : Nat → Int) (i_ordered : Int) (i_at : Int) (i_parts : Int) (i_orders : Nat → Int) (b_x1 : 0 ≤ x1 ∧ x1 ≤ 8) (h_i_tokens : zR i_tokens 0 265) (b_i_ordered : 1 ≤ i_ordered ∧ i_ordered ≤ 424) (b_i_at : 0 ≤ i_at ∧ i_at ≤ 400) (b_i_parts : 0 ≤ i_parts ∧ i_parts ≤ 50) (h_i_orders : zR i_orders (-2147483648) 2147483647) : zok (f_LawReader_readTest x1 i_tokens i_values i_ordered i_at i_parts i_orders) (fun o => (0 ≤ o.1 ∧ o.1 ≤ 1) ∧ (1 ≤ o.2.1 ∧ o.2.1 ≤ 424) ∧ (0 ≤ o.2.2.1 ∧ o.2.2.1 ≤ 400) ∧ (0 ≤ o.2.2.2.1 ∧ o.2.2.2.1 ≤ 50) ∧ zR o.2.2.2.2 (-2147483648) 2147483647) :=
  (sg_LawReader_readTest zdp).1 x1 i_tokens i_values i_ordered i_at i_parts i_orders b_x1 h_i_tokens b_i_ordered b_i_at b_i_parts h_i_orders (by unfold zdp; omega)
theorem s_LawReader_readPlain (x1 : Int) (i_tokens : Nat → Int) (i_values : Nat → Int) (i_ordered : Int) (i_at : Int) (i_parts : Int) (i_orders : Nat → Int) (b_x1 : 0 ≤ x1 ∧ x1 ≤ 8) (h_i_tokens : zR i_tokens 0 265) (b_i_ordered : 1 ≤ i_ordered ∧ i_ordered ≤ 424) (b_i_at : 0 ≤ i_at ∧ i_at ≤ 400) (b_i_parts : 0 ≤ i_parts ∧ i_parts ≤ 50) (h_i_orders : zR i_orders (-2147483648) 2147483647) : zok (f_LawReader_readPlain x1 i_tokens i_values i_ordered i_at i_parts i_orders) (fun o => (0 ≤ o.1 ∧ o.1 ≤ 1) ∧ (1 ≤ o.2.1 ∧ o.2.1 ≤ 424) ∧ (0 ≤ o.2.2.1 ∧ o.2.2.1 ≤ 400) ∧ (0 ≤ o.2.2.2.1 ∧ o.2.2.2.1 ≤ 50) ∧ zR o.2.2.2.2 (-2147483648) 2147483647) :=
  (sg_LawReader_readTest zdp).2 x1 i_tokens i_values i_ordered i_at i_parts i_orders b_x1 h_i_tokens b_i_ordered b_i_at b_i_parts h_i_orders (by unfold zdp; omega)
set_option maxHeartbeats 4000000 in
theorem s_LawReader_readClause (i_tokens : Nat → Int) (i_values : Nat → Int) (i_ordered : Int) (i_at : Int) (i_parts : Int) (i_orders : Nat → Int) (h_i_tokens : zR i_tokens 0 265) (b_i_ordered : 0 ≤ i_ordered ∧ i_ordered ≤ 424) (b_i_at : 0 ≤ i_at ∧ i_at ≤ 400) (b_i_parts : 0 ≤ i_parts ∧ i_parts ≤ 50) (h_i_orders : zR i_orders (-2147483648) 2147483647) : zok (f_LawReader_readClause i_tokens i_values i_ordered i_at i_parts i_orders) (fun o => (0 ≤ o.1 ∧ o.1 ≤ 1) ∧ (1 ≤ o.2.1 ∧ o.2.1 ≤ 424) ∧ (0 ≤ o.2.2.1 ∧ o.2.2.1 ≤ 400) ∧ (0 ≤ o.2.2.2.1 ∧ o.2.2.2.1 ≤ 50) ∧ zR o.2.2.2.2 (-2147483648) 2147483647) := by
  unfold f_LawReader_readClause
  refine zk_d3 (s_LawReader_order _ _ _ _ (by omega) (by omega) h_i_orders) (fun v1 v2 a3 hp => ?_)
  try dsimp only at hp
  obtain ⟨hpp0, hpp1, hpp2⟩ := hp
  refine zk_d2 (s_LawReader_pass _ _ _ (by omega) h_i_tokens (by omega)) (fun v4 v5 hp_2 => ?_)
  try dsimp only at hp_2
  obtain ⟨hp_2p0, hp_2p1⟩ := hp_2
  refine zk_ifc (zci_eqr (by omega)) (fun hc => ?_) (fun hc => ?_)
  · refine zk_d2 (s_LawReader_pass _ _ _ (by omega) h_i_tokens (by omega)) (fun v6 v7 hp_3 => ?_)
    try dsimp only at hp_3
    obtain ⟨hp_3p0, hp_3p1⟩ := hp_3
    refine zk_ifc (zci_ner (by omega)) (fun hc_2 => ?_) (fun hc_2 => ?_)
    · unfold f_LawReader_readClause_42
      refine zk_d2 (s_LawReader_pass _ _ _ (by omega) h_i_tokens (by omega)) (fun v1_2 v2_2 hp_4 => ?_)
      try dsimp only at hp_4
      obtain ⟨hp_4p0, hp_4p1⟩ := hp_4
      refine zk_ifc (zci_ner (by omega)) (fun hc_3 => ?_) (fun hc_3 => ?_)
      · refine zk_d5 (s_LawReader_readTest _ _ _ _ _ _ _ (by omega) h_i_tokens (by omega) (by omega) (by omega) hpp2) (fun v3 v4_2 v5_2 v6_2 a7 hp_5 => ?_)
        try dsimp only at hp_5
        obtain ⟨hp_5p0, hp_5p1, hp_5p2, hp_5p3, hp_5p4⟩ := hp_5
        refine zk_ifc (zci_ner (by omega)) (fun hc_4 => ?_) (fun hc_4 => ?_)
        · unfold f_LawReader_readClause_72
          refine zk_ifc (zci_eqr (by omega)) (fun hc_5 => ?_) (fun hc_5 => ?_)
          · unfold f_LawReader_readClause_84
            refine zk_d3 (s_LawReader_order _ _ _ _ (by omega) (by omega) hp_5p4) (fun v1_3 v2_3 a3_2 hp_6 => ?_)
            try dsimp only at hp_6
            obtain ⟨hp_6p0, hp_6p1, hp_6p2⟩ := hp_6
            refine zk_d1 (s_LawReader_aimHere _ _ _ (by omega) (by omega) hp_6p2) (fun a4 hp_7 => ?_)
            try dsimp only at hp_7
            have hp_7p0 := hp_7
            refine zk_ret ?_
            try dsimp only
            exact ⟨by omega, by omega, by omega, by omega, hp_7p0⟩
          · exfalso; omega
        · refine zk_ret ?_
          try dsimp only
          exact ⟨by omega, by omega, by omega, by omega, hp_5p4⟩
      · refine zk_d3 (s_LawReader_order _ _ _ _ (by omega) (by omega) hpp2) (fun v8 v9 a10 hp_8 => ?_)
        try dsimp only at hp_8
        obtain ⟨hp_8p0, hp_8p1, hp_8p2⟩ := hp_8
        unfold f_LawReader_readClause_72
        refine zk_ifc (zci_eqr (by omega)) (fun hc_6 => ?_) (fun hc_6 => ?_)
        · unfold f_LawReader_readClause_84
          refine zk_d3 (s_LawReader_order _ _ _ _ (by omega) (by omega) hp_8p2) (fun v1_4 v2_4 a3_3 hp_9 => ?_)
          try dsimp only at hp_9
          obtain ⟨hp_9p0, hp_9p1, hp_9p2⟩ := hp_9
          refine zk_d1 (s_LawReader_aimHere _ _ _ (by omega) (by omega) hp_9p2) (fun a4_2 hp_10 => ?_)
          try dsimp only at hp_10
          have hp_10p0 := hp_10
          refine zk_ret ?_
          try dsimp only
          exact ⟨by omega, by omega, by omega, by omega, hp_10p0⟩
        · exfalso; omega
    · refine zk_ret ?_
      try dsimp only
      exact ⟨by omega, by omega, by omega, by omega, hpp2⟩
  · refine zk_d5 (s_LawReader_readSum _ _ _ _ _ _ _ (by omega) h_i_tokens (by omega) (by omega) (by omega) hpp2) (fun v8_2 v9_2 v10 v11 a12 hp_11 => ?_)
    try dsimp only at hp_11
    obtain ⟨hp_11p0, hp_11p1, hp_11p2, hp_11p3, hp_11p4⟩ := hp_11
    refine zk_ifc (zci_ner (by omega)) (fun hc_7 => ?_) (fun hc_7 => ?_)
    · unfold f_LawReader_readClause_42
      refine zk_d2 (s_LawReader_pass _ _ _ (by omega) h_i_tokens (by omega)) (fun v1_5 v2_5 hp_12 => ?_)
      try dsimp only at hp_12
      obtain ⟨hp_12p0, hp_12p1⟩ := hp_12
      refine zk_ifc (zci_ner (by omega)) (fun hc_8 => ?_) (fun hc_8 => ?_)
      · refine zk_d5 (s_LawReader_readTest _ _ _ _ _ _ _ (by omega) h_i_tokens (by omega) (by omega) (by omega) hp_11p4) (fun v3_2 v4_3 v5_3 v6_3 a7_2 hp_13 => ?_)
        try dsimp only at hp_13
        obtain ⟨hp_13p0, hp_13p1, hp_13p2, hp_13p3, hp_13p4⟩ := hp_13
        refine zk_ifc (zci_ner (by omega)) (fun hc_9 => ?_) (fun hc_9 => ?_)
        · unfold f_LawReader_readClause_72
          refine zk_ifc (zci_eqr (by omega)) (fun hc_10 => ?_) (fun hc_10 => ?_)
          · exfalso; omega
          · unfold f_LawReader_readClause_84
            refine zk_d3 (s_LawReader_order _ _ _ _ (by omega) (by omega) hp_13p4) (fun v1_6 v2_6 a3_4 hp_14 => ?_)
            try dsimp only at hp_14
            obtain ⟨hp_14p0, hp_14p1, hp_14p2⟩ := hp_14
            refine zk_d1 (s_LawReader_aimHere _ _ _ (by omega) (by omega) hp_14p2) (fun a4_3 hp_15 => ?_)
            try dsimp only at hp_15
            have hp_15p0 := hp_15
            refine zk_ret ?_
            try dsimp only
            exact ⟨by omega, by omega, by omega, by omega, hp_15p0⟩
        · refine zk_ret ?_
          try dsimp only
          exact ⟨by omega, by omega, by omega, by omega, hp_13p4⟩
      · refine zk_d3 (s_LawReader_order _ _ _ _ (by omega) (by omega) hp_11p4) (fun v8_3 v9_3 a10_2 hp_16 => ?_)
        try dsimp only at hp_16
        obtain ⟨hp_16p0, hp_16p1, hp_16p2⟩ := hp_16
        unfold f_LawReader_readClause_72
        refine zk_ifc (zci_eqr (by omega)) (fun hc_11 => ?_) (fun hc_11 => ?_)
        · exfalso; omega
        · unfold f_LawReader_readClause_84
          refine zk_d3 (s_LawReader_order _ _ _ _ (by omega) (by omega) hp_16p2) (fun v1_7 v2_7 a3_5 hp_17 => ?_)
          try dsimp only at hp_17
          obtain ⟨hp_17p0, hp_17p1, hp_17p2⟩ := hp_17
          refine zk_d1 (s_LawReader_aimHere _ _ _ (by omega) (by omega) hp_17p2) (fun a4_4 hp_18 => ?_)
          try dsimp only at hp_18
          have hp_18p0 := hp_18
          refine zk_ret ?_
          try dsimp only
          exact ⟨by omega, by omega, by omega, by omega, hp_18p0⟩
    · refine zk_ret ?_
      try dsimp only
      exact ⟨by omega, by omega, by omega, by omega, hp_11p4⟩
end
section
set_option maxHeartbeats 4000000 in
theorem s_LawReader_isLetter (x0 : Int) (b_x0 : 0 ≤ x0 ∧ x0 ≤ 255) : zok (f_LawReader_isLetter x0) (fun o => (0 ≤ o ∧ o ≤ 1) ∧ ((x0 < 97 ∧ o = 0) ∨ (x0 ≥ 97 ∧ 122 < x0 ∧ o = 0) ∨ (x0 ≥ 97 ∧ 122 ≥ x0 ∧ o = 1))) := by
  unfold f_LawReader_isLetter
  refine zk_ifc (zci_lt (by omega) (by omega)) (fun hc => ?_) (fun hc => ?_)
  · exact zk_ret ⟨by omega, by first | exact Or.inl (by omega) | exact Or.inr (Or.inl (by omega)) | exact Or.inr (Or.inr ((by omega)))⟩
  · refine zk_ifc (zci_lt (by omega) (by omega)) (fun hc_2 => ?_) (fun hc_2 => ?_)
    · exact zk_ret ⟨by omega, by first | exact Or.inl (by omega) | exact Or.inr (Or.inl (by omega)) | exact Or.inr (Or.inr ((by omega)))⟩
    · exact zk_ret ⟨by omega, by first | exact Or.inl (by omega) | exact Or.inr (Or.inl (by omega)) | exact Or.inr (Or.inr ((by omega)))⟩
set_option maxHeartbeats 4000000 in
theorem s_String_length (w0 : Nat) (b_w0 : 0 ≤ w0 ∧ w0 ≤ 13) : zok (f_String_length w0) (fun o => (o = zsl w0) ∧ (2 ≤ zsl w0 ∧ zsl w0 ≤ 8)) := by
  have h : w0 < 14 := by omega
  have key : ∀ w : Fin 14, f_String_length w.val = some (zsl w.val) ∧ 2 ≤ zsl w.val ∧ zsl w.val ≤ 8 := by decide +kernel
  have k2 := key ⟨w0, h⟩
  exact ⟨_, k2.1, rfl, k2.2⟩
set_option maxHeartbeats 4000000 in
theorem s_String_charAt (x1 : Int) (w0 : Nat) (b_w0 : 0 ≤ w0 ∧ w0 ≤ 13) (p_0 : 0 ≤ x1 ∧ x1 < zsl w0) : zok (f_String_charAt x1 w0) (fun o => (97 ≤ o ∧ o ≤ 122) ∧ (o = zch w0 x1.toNat)) := by
  have h : w0 < 14 := by omega
  have key : ∀ w : Fin 14, 2 ≤ zsl w.val ∧ zsl w.val ≤ 8 := by decide +kernel
  have k2 := key ⟨w0, h⟩
  dsimp only at k2
  have k3 : ∀ w : Fin 14, ∀ j : Fin 8, (j.val : Int) < zsl w.val → f_String_charAt (j.val : Int) w.val = some (zch w.val j.val) ∧ 97 ≤ zch w.val j.val ∧ zch w.val j.val ≤ 122 := by decide +kernel
  have h8 : x1 < 8 := by have := k2.2; omega
  have k4 := k3 ⟨w0, h⟩ ⟨x1.toNat, by omega⟩ (by dsimp only; omega)
  have e : ((x1.toNat : Nat) : Int) = x1 := by omega
  dsimp only at k4
  rw [e] at k4
  exact ⟨_, k4.1, k4.2, rfl⟩
set_option maxHeartbeats 4000000 in
theorem s_LawReader_isWord_15 (w0 : Nat) (i_a1 : Nat → Int) (b_w0 : 0 ≤ w0 ∧ w0 ≤ 13) (h_i_a1 : zR i_a1 0 255) : ∀ (n : Nat) (x2 : Int) (x4 : Int), (0 ≤ x2 ∧ x2 ≤ 399) → (0 ≤ x4 ∧ x4 ≤ 8) → (x2 + zsl w0 ≤ 400) → (9 - x4) < (n : Int) → zok (f_LawReader_isWord_15 w0 i_a1 n x2 x4) (fun o => (0 ≤ o ∧ o ≤ 1)) := by
  intro n
  induction n with
  | zero => intro x2 x4 b_x2 b_x4 p_0 hm; exfalso; omega
  | succ n ih =>
    intro x2 x4 b_x2 b_x4 p_0 hm
    show zok (f_LawReader_isWord_15_b w0 i_a1 (f_LawReader_isWord_15 w0 i_a1 n) x2 x4) _
    unfold f_LawReader_isWord_15_b
    refine zk_d1 (s_String_length _ (by omega)) (fun v1 hp => ?_)
    try dsimp only at hp
    obtain ⟨hpp0, hpp1⟩ := hp
    refine zk_ifc (zci_le (by omega) (by omega)) (fun hc => ?_) (fun hc => ?_)
    · exact zk_ret (by omega)
    · refine zk_n ?_
      refine zk_gv (by omega) (by decide) (fun v3 h_v3 => ?_)
      have r_v3 := h_i_a1 ((x2 + x4).toNat)
      refine zk_d1 (s_String_charAt _ _ (by omega) (by omega)) (fun v4 hp_2 => ?_)
      try dsimp only at hp_2
      obtain ⟨hp_2p0, hp_2p1⟩ := hp_2
      refine zk_ifc (zci_eq (by omega) (by omega)) (fun hc_2 => ?_) (fun hc_2 => ?_)
      · refine zk_n ?_
        exact ih _ _ (by omega) (by omega) (by omega) (by omega)
      · exact zk_ret (by omega)
set_option maxHeartbeats 4000000 in
theorem s_LawReader_isWord (x2 : Int) (x3 : Int) (w0 : Nat) (i_a1 : Nat → Int) (b_x2 : 0 ≤ x2 ∧ x2 ≤ 399) (b_x3 : 1 ≤ x3 ∧ x3 ≤ 400) (b_w0 : 0 ≤ w0 ∧ w0 ≤ 13) (h_i_a1 : zR i_a1 0 255) : zok (f_LawReader_isWord x2 x3 w0 i_a1) (fun o => (0 ≤ o ∧ o ≤ 1)) := by
  unfold f_LawReader_isWord
  refine zk_n ?_
  refine zk_d1 (s_String_length _ (by omega)) (fun v2 hp => ?_)
  try dsimp only at hp
  obtain ⟨hpp0, hpp1⟩ := hp
  refine zk_ifc (zci_eq (by omega) (by omega)) (fun hc => ?_) (fun hc => ?_)
  · exact s_LawReader_isWord_15 _ _ (by omega) h_i_a1 zfu _ _ (by omega) (by omega) (by omega) (by unfold zfu; omega)
  · exact zk_ret (by omega)
set_option maxHeartbeats 4000000 in
theorem s_LawReader_ruleWordOf (x1 : Int) (x2 : Int) (i_a0 : Nat → Int) (b_x1 : 0 ≤ x1 ∧ x1 ≤ 399) (b_x2 : 1 ≤ x2 ∧ x2 ≤ 400) (h_i_a0 : zR i_a0 0 255) : zok (f_LawReader_ruleWordOf x1 x2 i_a0) (fun o => (256 ≤ o ∧ o ≤ 265)) := by
  unfold f_LawReader_ruleWordOf
  refine zk_d1 (s_LawReader_isWord _ _ _ _ (by omega) (by omega) (by omega) h_i_a0) (fun v1 hp => ?_)
  try dsimp only at hp
  have hpp0 := hp
  refine zk_ifc (zci_eqr (by omega)) (fun hc => ?_) (fun hc => ?_)
  · refine zk_d1 (s_LawReader_isWord _ _ _ _ (by omega) (by omega) (by omega) h_i_a0) (fun v2 hp_2 => ?_)
    try dsimp only at hp_2
    have hp_2p0 := hp_2
    refine zk_ifc (zci_eqr (by omega)) (fun hc_2 => ?_) (fun hc_2 => ?_)
    · refine zk_d1 (s_LawReader_isWord _ _ _ _ (by omega) (by omega) (by omega) h_i_a0) (fun v3 hp_3 => ?_)
      try dsimp only at hp_3
      have hp_3p0 := hp_3
      refine zk_ifc (zci_eqr (by omega)) (fun hc_3 => ?_) (fun hc_3 => ?_)
      · refine zk_d1 (s_LawReader_isWord _ _ _ _ (by omega) (by omega) (by omega) h_i_a0) (fun v4 hp_4 => ?_)
        try dsimp only at hp_4
        have hp_4p0 := hp_4
        refine zk_ifc (zci_eqr (by omega)) (fun hc_4 => ?_) (fun hc_4 => ?_)
        · refine zk_d1 (s_LawReader_isWord _ _ _ _ (by omega) (by omega) (by omega) h_i_a0) (fun v5 hp_5 => ?_)
          try dsimp only at hp_5
          have hp_5p0 := hp_5
          refine zk_ifc (zci_eqr (by omega)) (fun hc_5 => ?_) (fun hc_5 => ?_)
          · refine zk_d1 (s_LawReader_isWord _ _ _ _ (by omega) (by omega) (by omega) h_i_a0) (fun v6 hp_6 => ?_)
            try dsimp only at hp_6
            have hp_6p0 := hp_6
            refine zk_ifc (zci_eqr (by omega)) (fun hc_6 => ?_) (fun hc_6 => ?_)
            · exact zk_ret (by omega)
            · exact zk_ret (by omega)
          · exact zk_ret (by omega)
        · exact zk_ret (by omega)
      · exact zk_ret (by omega)
    · exact zk_ret (by omega)
  · exact zk_ret (by omega)
set_option maxHeartbeats 4000000 in
theorem s_LawReader_wordOf (x1 : Int) (x2 : Int) (i_a0 : Nat → Int) (b_x1 : 0 ≤ x1 ∧ x1 ≤ 399) (b_x2 : 1 ≤ x2 ∧ x2 ≤ 400) (h_i_a0 : zR i_a0 0 255) : zok (f_LawReader_wordOf x1 x2 i_a0) (fun o => ((-1) ≤ o ∧ o ≤ 7)) := by
  unfold f_LawReader_wordOf
  refine zk_d1 (s_LawReader_isWord _ _ _ _ (by omega) (by omega) (by omega) h_i_a0) (fun v1 hp => ?_)
  try dsimp only at hp
  have hpp0 := hp
  refine zk_ifc (zci_eqr (by omega)) (fun hc => ?_) (fun hc => ?_)
  · refine zk_d1 (s_LawReader_isWord _ _ _ _ (by omega) (by omega) (by omega) h_i_a0) (fun v2 hp_2 => ?_)
    try dsimp only at hp_2
    have hp_2p0 := hp_2
    refine zk_ifc (zci_eqr (by omega)) (fun hc_2 => ?_) (fun hc_2 => ?_)
    · refine zk_d1 (s_LawReader_isWord _ _ _ _ (by omega) (by omega) (by omega) h_i_a0) (fun v3 hp_3 => ?_)
      try dsimp only at hp_3
      have hp_3p0 := hp_3
      refine zk_ifc (zci_eqr (by omega)) (fun hc_3 => ?_) (fun hc_3 => ?_)
      · refine zk_d1 (s_LawReader_isWord _ _ _ _ (by omega) (by omega) (by omega) h_i_a0) (fun v4 hp_4 => ?_)
        try dsimp only at hp_4
        have hp_4p0 := hp_4
        refine zk_ifc (zci_eqr (by omega)) (fun hc_4 => ?_) (fun hc_4 => ?_)
        · refine zk_d1 (s_LawReader_isWord _ _ _ _ (by omega) (by omega) (by omega) h_i_a0) (fun v5 hp_5 => ?_)
          try dsimp only at hp_5
          have hp_5p0 := hp_5
          refine zk_ifc (zci_eqr (by omega)) (fun hc_5 => ?_) (fun hc_5 => ?_)
          · refine zk_d1 (s_LawReader_isWord _ _ _ _ (by omega) (by omega) (by omega) h_i_a0) (fun v6 hp_6 => ?_)
            try dsimp only at hp_6
            have hp_6p0 := hp_6
            refine zk_ifc (zci_eqr (by omega)) (fun hc_6 => ?_) (fun hc_6 => ?_)
            · refine zk_d1 (s_LawReader_isWord _ _ _ _ (by omega) (by omega) (by omega) h_i_a0) (fun v7 hp_7 => ?_)
              try dsimp only at hp_7
              have hp_7p0 := hp_7
              refine zk_ifc (zci_eqr (by omega)) (fun hc_7 => ?_) (fun hc_7 => ?_)
              · refine zk_d1 (s_LawReader_isWord _ _ _ _ (by omega) (by omega) (by omega) h_i_a0) (fun v8 hp_8 => ?_)
                try dsimp only at hp_8
                have hp_8p0 := hp_8
                refine zk_ifc (zci_eqr (by omega)) (fun hc_8 => ?_) (fun hc_8 => ?_)
                · exact zk_ret (by omega)
                · exact zk_ret (by omega)
              · exact zk_ret (by omega)
            · exact zk_ret (by omega)
          · exact zk_ret (by omega)
        · exact zk_ret (by omega)
      · exact zk_ret (by omega)
    · exact zk_ret (by omega)
  · exact zk_ret (by omega)
set_option maxHeartbeats 4000000 in
theorem s_LawReader_numberOf_5 (i_a0 : Nat → Int) (h_i_a0 : zR i_a0 0 255) : ∀ (n : Nat) (x2 : Int) (x3 : Int) (x4 : Int), (1 ≤ x2 ∧ x2 ≤ 400) → (0 ≤ x4 ∧ x4 ≤ 400) → (401 - x4) < (n : Int) → zok (f_LawReader_numberOf_5 i_a0 n x2 x3 x4) (fun o => True) := by
  intro n
  induction n with
  | zero => intro x2 x3 x4 b_x2 b_x4 hm; exfalso; omega
  | succ n ih =>
    intro x2 x3 x4 b_x2 b_x4 hm
    show zok (f_LawReader_numberOf_5_b i_a0 (f_LawReader_numberOf_5 i_a0 n) x2 x3 x4) _
    unfold f_LawReader_numberOf_5_b
    refine zk_ifc (zci_le (by omega) (by omega)) (fun hc => ?_) (fun hc => ?_)
    · exact zk_ret trivial
    · refine zk_n ?_
      refine zk_gv (by omega) (by decide) (fun v2 h_v2 => ?_)
      have r_v2 := h_i_a0 (x4.toNat)
      refine zk_n ?_
      refine zk_n ?_
      refine zk_if (fun hc_2 => ?_) (fun hc_2 => ?_)
      · refine zk_n ?_
        exact ih _ _ _ (by omega) (by omega) (by omega)
      · exact zk_ret trivial
set_option maxHeartbeats 4000000 in
theorem s_LawReader_numberOf (x1 : Int) (x2 : Int) (i_a0 : Nat → Int) (b_x1 : 0 ≤ x1 ∧ x1 ≤ 399) (b_x2 : 1 ≤ x2 ∧ x2 ≤ 400) (h_i_a0 : zR i_a0 0 255) : zok (f_LawReader_numberOf x1 x2 i_a0) (fun o => True) := by
  unfold f_LawReader_numberOf
  exact s_LawReader_numberOf_5 _ h_i_a0 zfu _ _ _ (by omega) (by omega) (by unfold zfu; omega)
set_option maxHeartbeats 4000000 in
theorem s_LawReader_isDigit (x0 : Int) (b_x0 : 0 ≤ x0 ∧ x0 ≤ 255) : zok (f_LawReader_isDigit x0) (fun o => (0 ≤ o ∧ o ≤ 1) ∧ ((x0 < 48 ∧ o = 0) ∨ (x0 ≥ 48 ∧ 57 < x0 ∧ o = 0) ∨ (x0 ≥ 48 ∧ 57 ≥ x0 ∧ o = 1))) := by
  unfold f_LawReader_isDigit
  refine zk_ifc (zci_lt (by omega) (by omega)) (fun hc => ?_) (fun hc => ?_)
  · exact zk_ret ⟨by omega, by first | exact Or.inl (by omega) | exact Or.inr (Or.inl (by omega)) | exact Or.inr (Or.inr ((by omega)))⟩
  · refine zk_ifc (zci_lt (by omega) (by omega)) (fun hc_2 => ?_) (fun hc_2 => ?_)
    · exact zk_ret ⟨by omega, by first | exact Or.inl (by omega) | exact Or.inr (Or.inl (by omega)) | exact Or.inr (Or.inr ((by omega)))⟩
    · exact zk_ret ⟨by omega, by first | exact Or.inl (by omega) | exact Or.inr (Or.inl (by omega)) | exact Or.inr (Or.inr ((by omega)))⟩
set_option maxHeartbeats 4000000 in
theorem s_LawReader_note (x2 : Int) (x3 : Int) (x4 : Int) (i_a1 : Nat → Int) (i_tokens : Nat → Int) (i_values : Nat → Int) (b_x2 : 0 ≤ x2 ∧ x2 ≤ 399) (b_x3 : 1 ≤ x3 ∧ x3 ≤ 400) (b_x4 : 0 ≤ x4 ∧ x4 ≤ 400) (h_i_a1 : zR i_a1 0 255) (h_i_tokens : zR i_tokens 0 265) : zok (f_LawReader_note x2 x3 x4 i_a1 i_tokens i_values) (fun o => zR o.1 0 265) := by
  unfold f_LawReader_note
  refine zk_sv (by omega) (by decide) (fun a1 h_a1 => ?_)
  refine zk_gv (by omega) (by decide) (fun v2 h_v2 => ?_)
  have r_v2 := h_i_a1 (x2.toNat)
  refine zk_d1 (s_LawReader_isDigit _ (by omega)) (fun v3 hp => ?_)
  try dsimp only at hp
  obtain ⟨hpp0, hpp1⟩ := hp
  refine zk_ifc (zci_eqr (by omega)) (fun hc => ?_) (fun hc => ?_)
  · refine zk_gv (by omega) (by decide) (fun v4 h_v4 => ?_)
    have r_v4 := h_i_a1 (x2.toNat)
    refine zk_d1 (s_LawReader_isLetter _ (by omega)) (fun v5 hp_2 => ?_)
    try dsimp only at hp_2
    obtain ⟨hp_2p0, hp_2p1⟩ := hp_2
    refine zk_ifc (zci_eqr (by omega)) (fun hc_2 => ?_) (fun hc_2 => ?_)
    · refine zk_gv (by omega) (by decide) (fun v6 h_v6 => ?_)
      have r_v6 := h_i_a1 (x2.toNat)
      refine zk_nE (fun v7 h_v7 => ?_)
      have r_v7 := zi_and_m v6 (m := 255) (by decide); rw [← h_v7] at r_v7
      refine zk_sv (by omega) (by decide) (fun a8 h_a8 => ?_)
      have i_a8 : zR a8 0 265 := by rw [h_a8]; exact zR_zu h_i_tokens (by decide) (by decide) (by omega)
      refine zk_ret ?_
      try dsimp only
      all_goals exact i_a8
    · refine zk_d1 (s_LawReader_wordOf _ _ _ (by omega) (by omega) h_i_a1) (fun v9 hp_3 => ?_)
      try dsimp only at hp_3
      have hp_3p0 := hp_3
      refine zk_sv (by omega) (by decide) (fun a10 h_a10 => ?_)
      refine zk_gv (by omega) (by decide) (fun v11 h_v11 => ?_)
      have z_v11_a10 := zu_rd h_a10 (x4.toNat)
      have z_v11_a1 := zu_rd h_a1 (x4.toNat)
      refine zk_ifc (zci_ne (by omega) (by omega)) (fun hc_3 => ?_) (fun hc_3 => ?_)
      · refine zk_sv (by omega) (by decide) (fun a12 h_a12 => ?_)
        have i_a12 : zR a12 0 265 := by rw [h_a12]; exact zR_zu h_i_tokens (by decide) (by decide) (by omega)
        refine zk_ret ?_
        try dsimp only
        all_goals exact i_a12
      · refine zk_d1 (s_LawReader_ruleWordOf _ _ _ (by omega) (by omega) h_i_a1) (fun v13 hp_4 => ?_)
        try dsimp only at hp_4
        have hp_4p0 := hp_4
        refine zk_sv (by omega) (by decide) (fun a14 h_a14 => ?_)
        have i_a14 : zR a14 0 265 := by rw [h_a14]; exact zR_zu h_i_tokens (by decide) (by decide) (by omega)
        refine zk_ret ?_
        try dsimp only
        all_goals exact i_a14
  · refine zk_d1 (s_LawReader_numberOf _ _ _ (by omega) (by omega) h_i_a1) (fun v15 hp_5 => ?_)
    refine zk_sv (by omega) (by decide) (fun a16 h_a16 => ?_)
    refine zk_gv (by omega) (by decide) (fun v17 h_v17 => ?_)
    have z_v17_a16 := zu_rd h_a16 (x4.toNat)
    have z_v17_a1 := zu_rd h_a1 (x4.toNat)
    refine zk_if (fun hc_4 => ?_) (fun hc_4 => ?_)
    · refine zk_sv (by omega) (by decide) (fun a18 h_a18 => ?_)
      have i_a18 : zR a18 0 265 := by rw [h_a18]; exact zR_zu h_i_tokens (by decide) (by decide) (by omega)
      refine zk_ret ?_
      try dsimp only
      all_goals exact i_a18
    · refine zk_sv (by omega) (by decide) (fun a19 h_a19 => ?_)
      have i_a19 : zR a19 0 265 := by rw [h_a19]; exact zR_zu h_i_tokens (by decide) (by decide) (by omega)
      refine zk_ret ?_
      try dsimp only
      all_goals exact i_a19
set_option maxHeartbeats 4000000 in
theorem s_LawReader_split_39 (i_a1 : Nat → Int) (k8 : Int → Int → Int → Int → (Nat → Int) → (Nat → Int) → (Nat → Int) → Option ((Nat → Int) × (Nat → Int) × (Nat → Int))) (Nk8 : Nat) (hk8 : ∀ (x2 : Int) (x3 : Int) (x4 : Int) (x5 : Int) (i_tokens : Nat → Int) (i_places : Nat → Int) (i_values : Nat → Int), (0 ≤ x2 ∧ x2 ≤ 400) → (0 ≤ x3 ∧ x3 ≤ 401) → (0 ≤ x4 ∧ x4 ≤ 400) → (0 ≤ x5 ∧ x5 ≤ 400) → (zR i_tokens 0 265) → (zR i_places 0 400) → (x3 ≤ x5) → (401 - x5) < (Nk8 : Int) → zok (k8 x2 x3 x4 x5 i_tokens i_places i_values) (fun o => zR o.1 0 265 ∧ zR o.2.1 0 400)) (h_i_a1 : zR i_a1 0 255) : ∀ (n : Nat) (x2 : Int) (x3 : Int) (x4 : Int) (x5 : Int) (i_tokens : Nat → Int) (i_places : Nat → Int) (i_values : Nat → Int), (1 ≤ x2 ∧ x2 ≤ 400) → (0 ≤ x3 ∧ x3 ≤ 401) → (1 ≤ x4 ∧ x4 ≤ 400) → (0 ≤ x5 ∧ x5 ≤ 399) → (zR i_tokens 0 265) → (zR i_places 0 400) → (x3 ≤ x5) → (401 - x5) < (Nk8 : Int) + 1 → (401 - x4) < (n : Int) → zok (f_LawReader_split_39 i_a1 k8 n x2 x3 x4 x5 i_tokens i_places i_values) (fun o => zR o.1 0 265 ∧ zR o.2.1 0 400) := by
  intro n
  induction n with
  | zero => intro x2 x3 x4 x5 i_tokens i_places i_values b_x2 b_x3 b_x4 b_x5 h_i_tokens h_i_places p_0 mk8 hm; exfalso; omega
  | succ n ih =>
    intro x2 x3 x4 x5 i_tokens i_places i_values b_x2 b_x3 b_x4 b_x5 h_i_tokens h_i_places p_0 mk8 hm
    show zok (f_LawReader_split_39_b i_a1 k8 (f_LawReader_split_39 i_a1 k8 n) x2 x3 x4 x5 i_tokens i_places i_values) _
    unfold f_LawReader_split_39_b
    refine zk_ifc (zci_le (by omega) (by omega)) (fun hc => ?_) (fun hc => ?_)
    · unfold f_LawReader_split_65
      refine zk_ifc (zci_le (by omega) (by omega)) (fun hc_2 => ?_) (fun hc_2 => ?_)
      · unfold f_LawReader_split_97
        refine zk_sv (by omega) (by decide) (fun a1 h_a1 => ?_)
        have i_a1 : zR a1 0 400 := by rw [h_a1]; exact zR_zu h_i_places (by decide) (by decide) (by omega)
        refine zk_d2 (s_LawReader_note _ _ _ _ _ _ (by omega) (by omega) (by omega) h_i_a1 h_i_tokens) (fun a2 a3 hp => ?_)
        try dsimp only at hp
        have hpp0 := hp
        refine zk_n ?_
        unfold f_LawReader_split_118
        refine zk_n ?_
        exact hk8 _ _ _ _ _ _ _ (by omega) (by omega) (by omega) (by omega) hpp0 i_a1 (by omega) (by omega)
      · refine zk_gv (by omega) (by decide) (fun v1_2 h_v1_2 => ?_)
        have r_v1_2 := h_i_a1 (x5.toNat)
        refine zk_d1 (s_LawReader_isDigit _ (by omega)) (fun v2 hp_2 => ?_)
        try dsimp only at hp_2
        obtain ⟨hp_2p0, hp_2p1⟩ := hp_2
        refine zk_ifc (zci_eqr (by omega)) (fun hc_3 => ?_) (fun hc_3 => ?_)
        · unfold f_LawReader_split_97
          refine zk_sv (by omega) (by decide) (fun a1_2 h_a1_2 => ?_)
          have i_a1_2 : zR a1_2 0 400 := by rw [h_a1_2]; exact zR_zu h_i_places (by decide) (by decide) (by omega)
          refine zk_d2 (s_LawReader_note _ _ _ _ _ _ (by omega) (by omega) (by omega) h_i_a1 h_i_tokens) (fun a2_2 a3_2 hp_3 => ?_)
          try dsimp only at hp_3
          have hp_3p0 := hp_3
          refine zk_n ?_
          unfold f_LawReader_split_118
          refine zk_n ?_
          exact hk8 _ _ _ _ _ _ _ (by omega) (by omega) (by omega) (by omega) hp_3p0 i_a1_2 (by omega) (by omega)
        · refine zk_gv (by omega) (by decide) (fun v3 h_v3 => ?_)
          have r_v3 := h_i_a1 (x4.toNat)
          refine zk_d1 (s_LawReader_isDigit _ (by omega)) (fun v4_3 hp_4 => ?_)
          try dsimp only at hp_4
          obtain ⟨hp_4p0, hp_4p1⟩ := hp_4
          refine zk_ifc (zci_eqr (by omega)) (fun hc_4 => ?_) (fun hc_4 => ?_)
          · unfold f_LawReader_split_97
            refine zk_sv (by omega) (by decide) (fun a1_3 h_a1_3 => ?_)
            have i_a1_3 : zR a1_3 0 400 := by rw [h_a1_3]; exact zR_zu h_i_places (by decide) (by decide) (by omega)
            refine zk_d2 (s_LawReader_note _ _ _ _ _ _ (by omega) (by omega) (by omega) h_i_a1 h_i_tokens) (fun a2_3 a3_3 hp_5 => ?_)
            try dsimp only at hp_5
            have hp_5p0 := hp_5
            refine zk_n ?_
            unfold f_LawReader_split_118
            refine zk_n ?_
            exact hk8 _ _ _ _ _ _ _ (by omega) (by omega) (by omega) (by omega) hp_5p0 i_a1_3 (by omega) (by omega)
          · unfold f_LawReader_split_91
            refine zk_n ?_
            exact ih _ _ _ _ _ _ _ (by omega) (by omega) (by omega) (by omega) h_i_tokens h_i_places (by omega) (by omega) (by omega)
    · refine zk_gv (by omega) (by decide) (fun v1_6 h_v1_6 => ?_)
      have r_v1_6 := h_i_a1 (x5.toNat)
      refine zk_d1 (s_LawReader_isLetter _ (by omega)) (fun v2_2 hp_6 => ?_)
      try dsimp only at hp_6
      obtain ⟨hp_6p0, hp_6p1⟩ := hp_6
      refine zk_ifc (zci_eqr (by omega)) (fun hc_5 => ?_) (fun hc_5 => ?_)
      · unfold f_LawReader_split_65
        refine zk_ifc (zci_le (by omega) (by omega)) (fun hc_6 => ?_) (fun hc_6 => ?_)
        · unfold f_LawReader_split_97
          refine zk_sv (by omega) (by decide) (fun a1_4 h_a1_4 => ?_)
          have i_a1_4 : zR a1_4 0 400 := by rw [h_a1_4]; exact zR_zu h_i_places (by decide) (by decide) (by omega)
          refine zk_d2 (s_LawReader_note _ _ _ _ _ _ (by omega) (by omega) (by omega) h_i_a1 h_i_tokens) (fun a2_4 a3_4 hp_7 => ?_)
          try dsimp only at hp_7
          have hp_7p0 := hp_7
          refine zk_n ?_
          unfold f_LawReader_split_118
          refine zk_n ?_
          exact hk8 _ _ _ _ _ _ _ (by omega) (by omega) (by omega) (by omega) hp_7p0 i_a1_4 (by omega) (by omega)
        · refine zk_gv (by omega) (by decide) (fun v1_8 h_v1_8 => ?_)
          have r_v1_8 := h_i_a1 (x5.toNat)
          refine zk_d1 (s_LawReader_isDigit _ (by omega)) (fun v2_3 hp_8 => ?_)
          try dsimp only at hp_8
          obtain ⟨hp_8p0, hp_8p1⟩ := hp_8
          refine zk_ifc (zci_eqr (by omega)) (fun hc_7 => ?_) (fun hc_7 => ?_)
          · unfold f_LawReader_split_97
            refine zk_sv (by omega) (by decide) (fun a1_5 h_a1_5 => ?_)
            have i_a1_5 : zR a1_5 0 400 := by rw [h_a1_5]; exact zR_zu h_i_places (by decide) (by decide) (by omega)
            refine zk_d2 (s_LawReader_note _ _ _ _ _ _ (by omega) (by omega) (by omega) h_i_a1 h_i_tokens) (fun a2_5 a3_5 hp_9 => ?_)
            try dsimp only at hp_9
            have hp_9p0 := hp_9
            refine zk_n ?_
            unfold f_LawReader_split_118
            refine zk_n ?_
            exact hk8 _ _ _ _ _ _ _ (by omega) (by omega) (by omega) (by omega) hp_9p0 i_a1_5 (by omega) (by omega)
          · refine zk_gv (by omega) (by decide) (fun v3_2 h_v3_2 => ?_)
            have r_v3_2 := h_i_a1 (x4.toNat)
            refine zk_d1 (s_LawReader_isDigit _ (by omega)) (fun v4_7 hp_10 => ?_)
            try dsimp only at hp_10
            obtain ⟨hp_10p0, hp_10p1⟩ := hp_10
            refine zk_ifc (zci_eqr (by omega)) (fun hc_8 => ?_) (fun hc_8 => ?_)
            · unfold f_LawReader_split_97
              refine zk_sv (by omega) (by decide) (fun a1_6 h_a1_6 => ?_)
              have i_a1_6 : zR a1_6 0 400 := by rw [h_a1_6]; exact zR_zu h_i_places (by decide) (by decide) (by omega)
              refine zk_d2 (s_LawReader_note _ _ _ _ _ _ (by omega) (by omega) (by omega) h_i_a1 h_i_tokens) (fun a2_6 a3_6 hp_11 => ?_)
              try dsimp only at hp_11
              have hp_11p0 := hp_11
              refine zk_n ?_
              unfold f_LawReader_split_118
              refine zk_n ?_
              exact hk8 _ _ _ _ _ _ _ (by omega) (by omega) (by omega) (by omega) hp_11p0 i_a1_6 (by omega) (by omega)
            · unfold f_LawReader_split_91
              refine zk_n ?_
              exact ih _ _ _ _ _ _ _ (by omega) (by omega) (by omega) (by omega) h_i_tokens h_i_places (by omega) (by omega) (by omega)
      · refine zk_gv (by omega) (by decide) (fun v3_3 h_v3_3 => ?_)
        have r_v3_3 := h_i_a1 (x4.toNat)
        refine zk_d1 (s_LawReader_isLetter _ (by omega)) (fun v4_9 hp_12 => ?_)
        try dsimp only at hp_12
        obtain ⟨hp_12p0, hp_12p1⟩ := hp_12
        refine zk_ifc (zci_ner (by omega)) (fun hc_9 => ?_) (fun hc_9 => ?_)
        · unfold f_LawReader_split_91
          refine zk_n ?_
          exact ih _ _ _ _ _ _ _ (by omega) (by omega) (by omega) (by omega) h_i_tokens h_i_places (by omega) (by omega) (by omega)
        · unfold f_LawReader_split_65
          refine zk_ifc (zci_le (by omega) (by omega)) (fun hc_10 => ?_) (fun hc_10 => ?_)
          · unfold f_LawReader_split_97
            refine zk_sv (by omega) (by decide) (fun a1_7 h_a1_7 => ?_)
            have i_a1_7 : zR a1_7 0 400 := by rw [h_a1_7]; exact zR_zu h_i_places (by decide) (by decide) (by omega)
            refine zk_d2 (s_LawReader_note _ _ _ _ _ _ (by omega) (by omega) (by omega) h_i_a1 h_i_tokens) (fun a2_7 a3_7 hp_13 => ?_)
            try dsimp only at hp_13
            have hp_13p0 := hp_13
            refine zk_n ?_
            unfold f_LawReader_split_118
            refine zk_n ?_
            exact hk8 _ _ _ _ _ _ _ (by omega) (by omega) (by omega) (by omega) hp_13p0 i_a1_7 (by omega) (by omega)
          · refine zk_gv (by omega) (by decide) (fun v1_14 h_v1_14 => ?_)
            have r_v1_14 := h_i_a1 (x5.toNat)
            refine zk_d1 (s_LawReader_isDigit _ (by omega)) (fun v2_4 hp_14 => ?_)
            try dsimp only at hp_14
            obtain ⟨hp_14p0, hp_14p1⟩ := hp_14
            refine zk_ifc (zci_eqr (by omega)) (fun hc_11 => ?_) (fun hc_11 => ?_)
            · unfold f_LawReader_split_97
              refine zk_sv (by omega) (by decide) (fun a1_8 h_a1_8 => ?_)
              have i_a1_8 : zR a1_8 0 400 := by rw [h_a1_8]; exact zR_zu h_i_places (by decide) (by decide) (by omega)
              refine zk_d2 (s_LawReader_note _ _ _ _ _ _ (by omega) (by omega) (by omega) h_i_a1 h_i_tokens) (fun a2_8 a3_8 hp_15 => ?_)
              try dsimp only at hp_15
              have hp_15p0 := hp_15
              refine zk_n ?_
              unfold f_LawReader_split_118
              refine zk_n ?_
              exact hk8 _ _ _ _ _ _ _ (by omega) (by omega) (by omega) (by omega) hp_15p0 i_a1_8 (by omega) (by omega)
            · exfalso; omega
end
section
set_option maxHeartbeats 4000000 in
theorem s_LawReader_split_8 (i_a1 : Nat → Int) (h_i_a1 : zR i_a1 0 255) : ∀ (n : Nat) (x2 : Int) (x3 : Int) (x4 : Int) (x5 : Int) (i_tokens : Nat → Int) (i_places : Nat → Int) (i_values : Nat → Int), (0 ≤ x2 ∧ x2 ≤ 400) → (0 ≤ x3 ∧ x3 ≤ 401) → (0 ≤ x4 ∧ x4 ≤ 400) → (0 ≤ x5 ∧ x5 ≤ 400) → (zR i_tokens 0 265) → (zR i_places 0 400) → (x3 ≤ x5) → (401 - x5) < (n : Int) → zok (f_LawReader_split_8 i_a1 n x2 x3 x4 x5 i_tokens i_places i_values) (fun o => zR o.1 0 265 ∧ zR o.2.1 0 400) := by
  intro n
  induction n with
  | zero => intro x2 x3 x4 x5 i_tokens i_places i_values b_x2 b_x3 b_x4 b_x5 h_i_tokens h_i_places p_0 hm; exfalso; omega
  | succ n ih =>
    intro x2 x3 x4 x5 i_tokens i_places i_values b_x2 b_x3 b_x4 b_x5 h_i_tokens h_i_places p_0 hm
    show zok (f_LawReader_split_8_b i_a1 (f_LawReader_split_8 i_a1 n) x2 x3 x4 x5 i_tokens i_places i_values) _
    unfold f_LawReader_split_8_b
    refine zk_ifc (zci_le (by omega) (by omega)) (fun hc => ?_) (fun hc => ?_)
    · refine zk_sv (by omega) (by decide) (fun a1 h_a1 => ?_)
      have i_a1 : zR a1 0 400 := by rw [h_a1]; exact zR_zu h_i_places (by decide) (by decide) (by omega)
      refine zk_sv (by omega) (by decide) (fun a2 h_a2 => ?_)
      have i_a2 : zR a2 0 265 := by rw [h_a2]; exact zR_zu h_i_tokens (by decide) (by decide) (by omega)
      refine zk_ret ?_
      try dsimp only
      exact ⟨i_a2, i_a1⟩
    · refine zk_ifc (zci_lt (by omega) (by omega)) (fun hc_2 => ?_) (fun hc_2 => ?_)
      · unfold f_LawReader_split_118
        refine zk_n ?_
        exact ih _ _ _ _ _ _ _ (by omega) (by omega) (by omega) (by omega) h_i_tokens h_i_places (by omega) (by omega)
      · refine zk_gv (by omega) (by decide) (fun v3 h_v3 => ?_)
        have r_v3 := h_i_a1 (x5.toNat)
        refine zk_ifc (zci_ne (by omega) (by omega)) (fun hc_3 => ?_) (fun hc_3 => ?_)
        · refine zk_n ?_
          exact s_LawReader_split_39 _ _ n ih h_i_a1 zfu _ _ _ _ _ _ _ (by omega) (by omega) (by omega) (by omega) h_i_tokens h_i_places (by omega) (by omega) (by unfold zfu; omega)
        · unfold f_LawReader_split_118
          refine zk_n ?_
          exact ih _ _ _ _ _ _ _ (by omega) (by omega) (by omega) (by omega) h_i_tokens h_i_places (by omega) (by omega)
set_option maxHeartbeats 4000000 in
theorem s_LawReader_split (x2 : Int) (i_a1 : Nat → Int) (i_tokens : Nat → Int) (i_places : Nat → Int) (i_values : Nat → Int) (b_x2 : 0 ≤ x2 ∧ x2 ≤ 400) (h_i_a1 : zR i_a1 0 255) (h_i_tokens : zR i_tokens 0 265) (h_i_places : zR i_places 0 400) : zok (f_LawReader_split x2 i_a1 i_tokens i_places i_values) (fun o => zR o.1 0 265 ∧ zR o.2.1 0 400) := by
  unfold f_LawReader_split
  exact s_LawReader_split_8 _ h_i_a1 zfu _ _ _ _ _ _ _ (by omega) (by omega) (by omega) (by omega) h_i_tokens h_i_places (by omega) (by unfold zfu; omega)
set_option maxHeartbeats 4000000 in
theorem s_LawReader_read_38 (i_a1 : Nat → Int) (h_i_a1 : zR i_a1 0 255) : ∀ (n : Nat) (x3 : Int) (i_ordered : Int) (i_at : Int) (i_parts : Int) (i_orders : Nat → Int) (i_tokens : Nat → Int) (i_places : Nat → Int) (i_values : Nat → Int), (0 ≤ x3 ∧ x3 ≤ 12) → (0 ≤ i_ordered ∧ i_ordered ≤ 424) → (0 ≤ i_at ∧ i_at ≤ 400) → (0 ≤ i_parts ∧ i_parts ≤ 50) → (zR i_orders (-2147483648) 2147483647) → (zR i_tokens 0 265) → (zR i_places 0 400) → (13 - x3) < (n : Int) → zok (f_LawReader_read_38 i_a1 n x3 i_ordered i_at i_parts i_orders i_tokens i_places i_values) (fun o => ((-1) ≤ o.1 ∧ o.1 ≤ 400) ∧ (0 ≤ o.2.1 ∧ o.2.1 ≤ 424) ∧ (0 ≤ o.2.2.1 ∧ o.2.2.1 ≤ 400) ∧ (0 ≤ o.2.2.2.1 ∧ o.2.2.2.1 ≤ 50) ∧ zR o.2.2.2.2.1 (-2147483648) 2147483647 ∧ zR o.2.2.2.2.2.1 0 265 ∧ zR o.2.2.2.2.2.2.1 0 400) := by
  intro n
  induction n with
  | zero => intro x3 i_ordered i_at i_parts i_orders i_tokens i_places i_values b_x3 b_i_ordered b_i_at b_i_parts h_i_orders h_i_tokens h_i_places hm; exfalso; omega
  | succ n ih =>
    intro x3 i_ordered i_at i_parts i_orders i_tokens i_places i_values b_x3 b_i_ordered b_i_at b_i_parts h_i_orders h_i_tokens h_i_places hm
    show zok (f_LawReader_read_38_b i_a1 (f_LawReader_read_38 i_a1 n) x3 i_ordered i_at i_parts i_orders i_tokens i_places i_values) _
    unfold f_LawReader_read_38_b
    refine zk_ifc (zci_le (by omega) (by omega)) (fun hc => ?_) (fun hc => ?_)
    · refine zk_gv (by omega) (by decide) (fun v1 h_v1 => ?_)
      have r_v1 := h_i_places (i_at.toNat)
      refine zk_ret ?_
      try dsimp only
      exact ⟨by omega, by omega, by omega, by omega, h_i_orders, h_i_tokens, h_i_places⟩
    · refine zk_d5 (s_LawReader_readClause _ _ _ _ _ _ h_i_tokens (by omega) (by omega) (by omega) h_i_orders) (fun v2 v3 v4 v5 a6 hp => ?_)
      try dsimp only at hp
      obtain ⟨hpp0, hpp1, hpp2, hpp3, hpp4⟩ := hp
      refine zk_ifc (zci_eqr (by omega)) (fun hc_2 => ?_) (fun hc_2 => ?_)
      · refine zk_gv (by omega) (by decide) (fun v7 h_v7 => ?_)
        have r_v7 := h_i_places (v4.toNat)
        refine zk_ret ?_
        try dsimp only
        exact ⟨by omega, by omega, by omega, by omega, hpp4, h_i_tokens, h_i_places⟩
      · refine zk_gv (by omega) (by decide) (fun v8 h_v8 => ?_)
        have r_v8 := h_i_tokens (v4.toNat)
        refine zk_ifc (zci_ne (by omega) (by omega)) (fun hc_3 => ?_) (fun hc_3 => ?_)
        · refine zk_d2 (s_LawReader_pass _ _ _ (by omega) h_i_tokens (by omega)) (fun v9 v10 hp_2 => ?_)
          try dsimp only at hp_2
          obtain ⟨hp_2p0, hp_2p1⟩ := hp_2
          refine zk_ifc (zci_ner (by omega)) (fun hc_4 => ?_) (fun hc_4 => ?_)
          · refine zk_n ?_
            exact ih _ _ _ _ _ _ _ _ (by omega) (by omega) (by omega) (by omega) hpp4 h_i_tokens h_i_places (by omega)
          · refine zk_gv (by omega) (by decide) (fun v12 h_v12 => ?_)
            have r_v12 := h_i_places (v10.toNat)
            refine zk_ret ?_
            try dsimp only
            exact ⟨by omega, by omega, by omega, by omega, hpp4, h_i_tokens, h_i_places⟩
        · refine zk_ret ?_
          try dsimp only
          exact ⟨by omega, by omega, by omega, by omega, hpp4, h_i_tokens, h_i_places⟩
set_option maxHeartbeats 4000000 in
theorem s_LawReader_read (x2 : Int) (i_a1 : Nat → Int) (i_ordered : Int) (i_at : Int) (i_parts : Int) (i_orders : Nat → Int) (i_tokens : Nat → Int) (i_places : Nat → Int) (i_values : Nat → Int) (b_x2 : 0 ≤ x2 ∧ x2 ≤ 400) (h_i_a1 : zR i_a1 0 255) (b_i_ordered : 0 ≤ i_ordered ∧ i_ordered ≤ 424) (b_i_at : 0 ≤ i_at ∧ i_at ≤ 400) (b_i_parts : 0 ≤ i_parts ∧ i_parts ≤ 50) (h_i_orders : zR i_orders (-2147483648) 2147483647) (h_i_tokens : zR i_tokens 0 265) (h_i_places : zR i_places 0 400) : zok (f_LawReader_read x2 i_a1 i_ordered i_at i_parts i_orders i_tokens i_places i_values) (fun o => ((-1) ≤ o.1 ∧ o.1 ≤ 400) ∧ (0 ≤ o.2.1 ∧ o.2.1 ≤ 424) ∧ (0 ≤ o.2.2.1 ∧ o.2.2.1 ≤ 400) ∧ (0 ≤ o.2.2.2.1 ∧ o.2.2.2.1 ≤ 50) ∧ zR o.2.2.2.2.1 (-2147483648) 2147483647 ∧ zR o.2.2.2.2.2.1 0 265 ∧ zR o.2.2.2.2.2.2.1 0 400) := by
  unfold f_LawReader_read
  refine zk_nE (fun v1 h_v1 => ?_)
  have r_v1 := zi_min_f (400) (by omega) (400) (by omega); rw [← h_v1] at r_v1
  refine zk_nE (fun v2 h_v2 => ?_)
  have r_v2 := zi_min_f (x2) (by omega) (v1) (by omega); rw [← h_v2] at r_v2
  refine zk_nE (fun v3 h_v3 => ?_)
  have r_v3 := zi_max_f (0) (by omega) (v2) (by omega); rw [← h_v3] at r_v3
  refine zk_d3 (s_LawReader_split _ _ _ _ _ (by omega) h_i_a1 h_i_tokens h_i_places) (fun a4 a5 a6 hp => ?_)
  try dsimp only at hp
  obtain ⟨hpp0, hpp1⟩ := hp
  exact s_LawReader_read_38 _ h_i_a1 zfu _ _ _ _ _ _ _ _ (by omega) (by omega) (by omega) (by omega) h_i_orders hpp0 hpp1 (by unfold zfu; omega)
set_option maxHeartbeats 4000000 in
theorem s_HS_law (i_tape : Nat → Int) (i_taped : Int) (i_latestFault : Int) (i_latestStatus : Int) (i_hill_laws : Int) (i_hill_changes : Int) (i_refusals : Nat → Int) (i_reader_ordered : Int) (i_reader_at : Int) (i_reader_parts : Int) (i_hill_orders : Nat → Int) (i_hill_ordered : Nat → Int) (i_reader_orders : Nat → Int) (i_reader_tokens : Nat → Int) (i_reader_places : Nat → Int) (i_reader_values : Nat → Int) (h_i_tape : zR i_tape 0 255) (b_i_taped : 0 ≤ i_taped ∧ i_taped ≤ 400) (b_i_latestFault : (-1) ≤ i_latestFault ∧ i_latestFault ≤ 400) (b_i_latestStatus : (-6) ≤ i_latestStatus ∧ i_latestStatus ≤ 0) (b_i_hill_laws : 0 ≤ i_hill_laws ∧ i_hill_laws ≤ 6) (b_i_reader_ordered : 0 ≤ i_reader_ordered ∧ i_reader_ordered ≤ 424) (b_i_reader_at : 0 ≤ i_reader_at ∧ i_reader_at ≤ 400) (b_i_reader_parts : 0 ≤ i_reader_parts ∧ i_reader_parts ≤ 50) (h_i_hill_orders : zR i_hill_orders (-2147483648) 2147483647) (h_i_hill_ordered : zR i_hill_ordered 0 424) (h_i_reader_orders : zR i_reader_orders (-2147483648) 2147483647) (h_i_reader_tokens : zR i_reader_tokens 0 265) (h_i_reader_places : zR i_reader_places 0 400) : zok (f_HS_law i_tape i_taped i_latestFault i_latestStatus i_hill_laws i_hill_changes i_refusals i_reader_ordered i_reader_at i_reader_parts i_hill_orders i_hill_ordered i_reader_orders i_reader_tokens i_reader_places i_reader_values) (fun o => (0 ≤ o.2.1 ∧ o.2.1 ≤ 0) ∧ ((-1) ≤ o.2.2.1 ∧ o.2.2.1 ≤ 400) ∧ ((-6) ≤ o.2.2.2.1 ∧ o.2.2.2.1 ≤ 0) ∧ (0 ≤ o.2.2.2.2.1 ∧ o.2.2.2.2.1 ≤ 6) ∧ (0 ≤ o.2.2.2.2.2.2.2.1 ∧ o.2.2.2.2.2.2.2.1 ≤ 424) ∧ (0 ≤ o.2.2.2.2.2.2.2.2.1 ∧ o.2.2.2.2.2.2.2.2.1 ≤ 400) ∧ (0 ≤ o.2.2.2.2.2.2.2.2.2.1 ∧ o.2.2.2.2.2.2.2.2.2.1 ≤ 50) ∧ zR o.2.2.2.2.2.2.2.2.2.2.1 (-2147483648) 2147483647 ∧ zR o.2.2.2.2.2.2.2.2.2.2.2.1 0 424 ∧ zR o.2.2.2.2.2.2.2.2.2.2.2.2.1 (-2147483648) 2147483647 ∧ zR o.2.2.2.2.2.2.2.2.2.2.2.2.2.1 0 265 ∧ zR o.2.2.2.2.2.2.2.2.2.2.2.2.2.2.1 0 400) := by
  unfold f_HS_law
  refine zk_ifc (zci_lt (by omega) (by omega)) (fun hc => ?_) (fun hc => ?_)
  · refine zk_d8 (s_LawReader_read _ _ _ _ _ _ _ _ _ (by omega) h_i_tape (by omega) (by omega) (by omega) h_i_reader_orders h_i_reader_tokens h_i_reader_places) (fun v1 v2 v3 v4 a5 a6 a7 a8 hp => ?_)
    try dsimp only at hp
    obtain ⟨hpp0, hpp1, hpp2, hpp3, hpp4, hpp5, hpp6⟩ := hp
    refine zk_ifc (zci_eq (by omega) (by omega)) (fun hc_2 => ?_) (fun hc_2 => ?_)
    · refine zk_d4 (s_Hill_enact _ _ _ _ _ (by omega) hpp4 (by omega) h_i_hill_orders h_i_hill_ordered) (fun v9 v10 a11 a12 hp_2 => ?_)
      try dsimp only at hp_2
      obtain ⟨hp_2p0, hp_2p1, hp_2p2, hp_2p3⟩ := hp_2
      refine zk_d3 (s_HS_accept _ _ _ (by omega)) (fun v13 v14 v15 hp_3 => ?_)
      try dsimp only at hp_3
      obtain ⟨hp_3p0, hp_3p1, hp_3p2, hp_3p3⟩ := hp_3
      refine zk_ret ?_
      try dsimp only
      exact ⟨by omega, by omega, by omega, by omega, by omega, by omega, by omega, hp_2p2, hp_2p3, hpp4, hpp5, hpp6⟩
    · refine zk_d3 (s_HS_refuse _ _ _ (by omega) (by omega)) (fun v16 v17 a18 hp_4 => ?_)
      try dsimp only at hp_4
      obtain ⟨hp_4p0, hp_4p1, hp_4p2, hp_4p3⟩ := hp_4
      refine zk_ret ?_
      try dsimp only
      exact ⟨by omega, by omega, by omega, by omega, by omega, by omega, by omega, h_i_hill_orders, h_i_hill_ordered, hpp4, hpp5, hpp6⟩
  · refine zk_d3 (s_HS_refuse _ _ _ (by omega) (by omega)) (fun v19 v20 a21 hp_5 => ?_)
    try dsimp only at hp_5
    obtain ⟨hp_5p0, hp_5p1, hp_5p2, hp_5p3⟩ := hp_5
    refine zk_ret ?_
    try dsimp only
    exact ⟨by omega, by omega, by omega, by omega, by omega, by omega, by omega, h_i_hill_orders, h_i_hill_ordered, h_i_reader_orders, h_i_reader_tokens, h_i_reader_places⟩
set_option maxHeartbeats 4000000 in
theorem s_HS_fault (i_latestFault : Int) (b_i_latestFault : (-1) ≤ i_latestFault ∧ i_latestFault ≤ 400) : zok (f_HS_fault i_latestFault) (fun o => ((-1) ≤ o ∧ o ≤ 400)) := by
  unfold f_HS_fault
  exact zk_ret (by omega)
set_option maxHeartbeats 4000000 in
theorem s_HS_force (x1 : Int) (i_hill_laws : Int) (i_latestStatus : Int) (i_hill_inForce : Int) (i_hill_changes : Int) (i_refusals : Nat → Int) (b_x1 : (-2147483648) ≤ x1 ∧ x1 ≤ 2147483647) (b_i_hill_laws : 0 ≤ i_hill_laws ∧ i_hill_laws ≤ 6) (b_i_latestStatus : (-6) ≤ i_latestStatus ∧ i_latestStatus ≤ 0) (b_i_hill_inForce : (-1) ≤ i_hill_inForce ∧ i_hill_inForce ≤ 5) : zok (f_HS_force x1 i_hill_laws i_latestStatus i_hill_inForce i_hill_changes i_refusals) (fun o => ((-6) ≤ o.2.1 ∧ o.2.1 ≤ 0) ∧ ((-1) ≤ o.2.2.1 ∧ o.2.2.1 ≤ 5)) := by
  unfold f_HS_force
  refine zk_ifc (zci_eq (by omega) (by omega)) (fun hc => ?_) (fun hc => ?_)
  · unfold f_HS_force_27
    refine zk_d3 (s_HS_accept _ _ _ (by omega)) (fun v1 v2 v3 hp => ?_)
    try dsimp only at hp
    obtain ⟨hpp0, hpp1, hpp2, hpp3⟩ := hp
    refine zk_ret ?_
    try dsimp only
    exact ⟨by omega, by omega⟩
  · refine zk_ifc (zci_ltr (by omega)) (fun hc_2 => ?_) (fun hc_2 => ?_)
    · unfold f_HS_force_20
      refine zk_d3 (s_HS_refuse _ _ _ (by omega) (by omega)) (fun v1_2 v2_2 a3 hp_2 => ?_)
      try dsimp only at hp_2
      obtain ⟨hp_2p0, hp_2p1, hp_2p2, hp_2p3⟩ := hp_2
      refine zk_ret ?_
      try dsimp only
      exact ⟨by omega, by omega⟩
    · refine zk_ifc (zci_lt (by omega) (by omega)) (fun hc_3 => ?_) (fun hc_3 => ?_)
      · unfold f_HS_force_27
        refine zk_d3 (s_HS_accept _ _ _ (by omega)) (fun v1_3 v2_3 v3_2 hp_3 => ?_)
        try dsimp only at hp_3
        obtain ⟨hp_3p0, hp_3p1, hp_3p2, hp_3p3⟩ := hp_3
        refine zk_ret ?_
        try dsimp only
        exact ⟨by omega, by omega⟩
      · unfold f_HS_force_20
        refine zk_d3 (s_HS_refuse _ _ _ (by omega) (by omega)) (fun v1_4 v2_4 a3_2 hp_4 => ?_)
        try dsimp only at hp_4
        obtain ⟨hp_4p0, hp_4p1, hp_4p2, hp_4p3⟩ := hp_4
        refine zk_ret ?_
        try dsimp only
        exact ⟨by omega, by omega⟩
set_option maxHeartbeats 4000000 in
theorem s_Hill_isAble (x1 : Int) (x2 : Int) (i_children : Int) (i_strengths : Nat → Int) (i_expelled : Nat → Int) (b_x1 : 0 ≤ x1 ∧ x1 ≤ 5) (b_x2 : 0 ≤ x2 ∧ x2 ≤ 30) (b_i_children : 1 ≤ i_children ∧ i_children ≤ 6) (h_i_strengths : zR i_strengths 0 60) (h_i_expelled : zR i_expelled 0 1) : zok (f_Hill_isAble x1 x2 i_children i_strengths i_expelled) (fun o => (0 ≤ o ∧ o ≤ 1) ∧ ((o = 1 ∧ 0 ≤ x1 ∧ x1 < i_children) ∨ o = 0)) := by
  unfold f_Hill_isAble
  refine zk_d1 (s_Hill_hasChild _ _ (by omega) (by omega)) (fun v1 hp => ?_)
  try dsimp only at hp
  obtain ⟨hpp0, hpp1⟩ := hp
  refine zk_ifc (zci_eqr (by omega)) (fun hc => ?_) (fun hc => ?_)
  · exact zk_ret ⟨by omega, by omega⟩
  · refine zk_gv (by omega) (by decide) (fun v2 h_v2 => ?_)
    have r_v2 := h_i_expelled (x1.toNat)
    refine zk_ifc (zci_ner (by omega)) (fun hc_2 => ?_) (fun hc_2 => ?_)
    · exact zk_ret ⟨by omega, by omega⟩
    · refine zk_gv (by omega) (by decide) (fun v3 h_v3 => ?_)
      have r_v3 := h_i_strengths (x1.toNat)
      refine zk_ifc (zci_lt (by omega) (by omega)) (fun hc_3 => ?_) (fun hc_3 => ?_)
      · exact zk_ret ⟨by omega, by omega⟩
      · exact zk_ret ⟨by omega, by omega⟩
set_option maxHeartbeats 4000000 in
theorem s_Judge_pop (i_pile : Nat → Int) (i_piled : Int) (b_i_piled : 0 ≤ i_piled ∧ i_piled ≤ 32) : zok (f_Judge_pop i_pile i_piled) (fun o => (0 ≤ o.2 ∧ o.2 ≤ 31) ∧ ((0 < i_piled ∧ o.1 = (i_pile ((i_piled - 1)).toNat) ∧ o.2 = (i_piled - 1)) ∨ (0 ≥ i_piled ∧ o.1 = 0 ∧ o.2 = i_piled))) := by
  unfold f_Judge_pop
  refine zk_ifc (zci_ltl (by omega)) (fun hc => ?_) (fun hc => ?_)
  · refine zk_n ?_
    refine zk_gv (by omega) (by decide) (fun v2 h_v2 => ?_)
    refine zk_ret ?_
    try dsimp only
    exact ⟨by omega, by omega⟩
  · refine zk_ret ?_
    try dsimp only
    exact ⟨by omega, by omega⟩
set_option maxHeartbeats 4000000 in
theorem s_Judge_worked (x0 : Int) (x1 : Int) (x3 : Int) (b_x0 : 3 ≤ x0 ∧ x0 ≤ 15) (b_x1 : (-2147483648) ≤ x1 ∧ x1 ≤ 2147483647) (b_x3 : (-2147483648) ≤ x3 ∧ x3 ≤ 2147483647) : zok (f_Judge_worked x0 x1 x3) (fun o => ((-2000000000) ≤ o ∧ o ≤ 1000000000)) := by
  unfold f_Judge_worked
  refine zk_ifc (zci_eqr (by omega)) (fun hc => ?_) (fun hc => ?_)
  · refine zk_n ?_
    unfold f_Judge_worked_118
    refine zk_ifc (zcl_lt (by omega) (by omega)) (fun hc_2 => ?_) (fun hc_2 => ?_)
    · exact zk_ret (by omega)
    · refine zk_ifc (zcl_le (by omega) (by omega)) (fun hc_3 => ?_) (fun hc_3 => ?_)
      · exact zk_ret (by omega)
      · exact zk_ret (by omega)
  · refine zk_ifc (zci_eqr (by omega)) (fun hc_4 => ?_) (fun hc_4 => ?_)
    · refine zk_n ?_
      unfold f_Judge_worked_118
      refine zk_ifc (zcl_lt (by omega) (by omega)) (fun hc_5 => ?_) (fun hc_5 => ?_)
      · exact zk_ret (by omega)
      · refine zk_ifc (zcl_le (by omega) (by omega)) (fun hc_6 => ?_) (fun hc_6 => ?_)
        · exact zk_ret (by omega)
        · exact zk_ret (by omega)
    · refine zk_ifc (zci_eqr (by omega)) (fun hc_7 => ?_) (fun hc_7 => ?_)
      · refine zk_nE (fun v3 h_v3 => ?_)
        have r_v3 := zmulA (a := x1) (b := x3) 2147483648 2147483648 (by omega) (by omega); rw [← h_v3] at r_v3
        unfold f_Judge_worked_118
        refine zk_ifc (zcl_lt (by omega) (by omega)) (fun hc_8 => ?_) (fun hc_8 => ?_)
        · exact zk_ret (by omega)
        · refine zk_ifc (zcl_le (by omega) (by omega)) (fun hc_9 => ?_) (fun hc_9 => ?_)
          · exact zk_ret (by omega)
          · exact zk_ret (by omega)
      · refine zk_ifc (zci_eqr (by omega)) (fun hc_10 => ?_) (fun hc_10 => ?_)
        · refine zk_ifc (zcl_ne (by omega) (by omega)) (fun hc_11 => ?_) (fun hc_11 => ?_)
          · refine zk_g0zl_w (by omega) ?_
            refine zk_nE (fun v4 h_v4 => ?_)
            have r_v4 := zl_div_f x1 x3; rw [← h_v4] at r_v4
            unfold f_Judge_worked_118
            refine zk_ifc (zcl_lt (by omega) (by omega)) (fun hc_12 => ?_) (fun hc_12 => ?_)
            · exact zk_ret (by omega)
            · refine zk_ifc (zcl_le (by omega) (by omega)) (fun hc_13 => ?_) (fun hc_13 => ?_)
              · exact zk_ret (by omega)
              · exact zk_ret (by omega)
          · exact zk_ret (by omega)
        · refine zk_ifc (zci_eqr (by omega)) (fun hc_14 => ?_) (fun hc_14 => ?_)
          · refine zk_ifc (zcl_le (by omega) (by omega)) (fun hc_15 => ?_) (fun hc_15 => ?_)
            · exact zk_ret (by omega)
            · exact zk_ret (by omega)
          · refine zk_ifc (zci_eqr (by omega)) (fun hc_16 => ?_) (fun hc_16 => ?_)
            · refine zk_ifc (zcl_le (by omega) (by omega)) (fun hc_17 => ?_) (fun hc_17 => ?_)
              · exact zk_ret (by omega)
              · exact zk_ret (by omega)
            · refine zk_ifc (zci_eqr (by omega)) (fun hc_18 => ?_) (fun hc_18 => ?_)
              · refine zk_ifc (zcl_ne (by omega) (by omega)) (fun hc_19 => ?_) (fun hc_19 => ?_)
                · exact zk_ret (by omega)
                · exact zk_ret (by omega)
              · refine zk_ifc (zcl_ne (by omega) (by omega)) (fun hc_20 => ?_) (fun hc_20 => ?_)
                · refine zk_g0zl_w (by omega) ?_
                  refine zk_nE (fun v5 h_v5 => ?_)
                  have r_v5 := zl_div_f x1 x3; rw [← h_v5] at r_v5
                  unfold f_Judge_worked_118
                  refine zk_ifc (zcl_lt (by omega) (by omega)) (fun hc_21 => ?_) (fun hc_21 => ?_)
                  · exact zk_ret (by omega)
                  · refine zk_ifc (zcl_le (by omega) (by omega)) (fun hc_22 => ?_) (fun hc_22 => ?_)
                    · exact zk_ret (by omega)
                    · exact zk_ret (by omega)
                · exact zk_ret (by omega)
set_option maxHeartbeats 4000000 in
theorem s_Judge_push (x1 : Int) (i_piled : Int) (i_pile : Nat → Int) (b_i_piled : 0 ≤ i_piled ∧ i_piled ≤ 32) : zok (f_Judge_push x1 i_piled i_pile) (fun o => (1 ≤ o.1 ∧ o.1 ≤ 32)) := by
  unfold f_Judge_push
  refine zk_ifc (zci_le (by omega) (by omega)) (fun hc => ?_) (fun hc => ?_)
  · refine zk_ret ?_
    try dsimp only
    all_goals exact (by omega)
  · refine zk_sv (by omega) (by decide) (fun a1 h_a1 => ?_)
    refine zk_n ?_
    refine zk_ret ?_
    try dsimp only
    all_goals exact (by omega)
set_option maxHeartbeats 4000000 in
theorem s_Judge_hear_8 (i_words : Nat → Int) (i_hill_orders : Nat → Int) (h_i_words : zR i_words 0 99) (h_i_hill_orders : zR i_hill_orders (-2147483648) 2147483647) : ∀ (n : Nat) (x1 : Int) (x2 : Int) (x3 : Int) (x4 : Int) (x5 : Int) (i_piled : Int) (i_tiring : Int) (i_barred : Int) (i_pile : Nat → Int), (0 ≤ x1 ∧ x1 ≤ 2120) → (0 ≤ x2 ∧ x2 ≤ 424) → ((-134217728) ≤ x3 ∧ x3 ≤ 134217727) → ((-134217728) ≤ x4 ∧ x4 ≤ 134217727) → (0 ≤ x5 ∧ x5 ≤ 999) → (0 ≤ i_piled ∧ i_piled ≤ 32) → (0 ≤ i_tiring ∧ i_tiring ≤ 2147483647) → (0 ≤ i_barred ∧ i_barred ≤ 1) → (1000 - x5) < (n : Int) → zok (f_Judge_hear_8 i_words i_hill_orders n x1 x2 x3 x4 x5 i_piled i_tiring i_barred i_pile) (fun o => (0 ≤ o.1 ∧ o.1 ≤ 32) ∧ (0 ≤ o.2.1 ∧ o.2.1 ≤ 2147483647) ∧ (0 ≤ o.2.2.1 ∧ o.2.2.1 ≤ 1)) := by
  intro n
  induction n with
  | zero => intro x1 x2 x3 x4 x5 i_piled i_tiring i_barred i_pile b_x1 b_x2 b_x3 b_x4 b_x5 b_i_piled b_i_tiring b_i_barred hm; exfalso; omega
  | succ n ih =>
    intro x1 x2 x3 x4 x5 i_piled i_tiring i_barred i_pile b_x1 b_x2 b_x3 b_x4 b_x5 b_i_piled b_i_tiring b_i_barred hm
    show zok (f_Judge_hear_8_b i_words i_hill_orders (f_Judge_hear_8 i_words i_hill_orders n) x1 x2 x3 x4 x5 i_piled i_tiring i_barred i_pile) _
    unfold f_Judge_hear_8_b
    refine zk_ifc (zci_le (by omega) (by omega)) (fun hc => ?_) (fun hc => ?_)
    · refine zk_ret ?_
      try dsimp only
      exact ⟨by omega, by omega, by omega⟩
    · refine zk_ifc (zci_le (by omega) (by omega)) (fun hc_2 => ?_) (fun hc_2 => ?_)
      · refine zk_n ?_
        refine zk_gv (by omega) (by decide) (fun v2 h_v2 => ?_)
        have r_v2 := h_i_hill_orders ((x1 + x5).toNat)
        refine zk_nE (fun v3 h_v3 => ?_)
        have r_v3 := zi_and_m v2 (m := 15) (by decide); rw [← h_v3] at r_v3
        refine zk_n ?_
        refine zk_gv (by omega) (by decide) (fun v5 h_v5 => ?_)
        have r_v5 := h_i_hill_orders ((x1 + x5).toNat)
        refine zk_nE (fun v6 h_v6 => ?_)
        rw [show (4 : Int) = ((4 : Nat) : Int) from rfl, zi_shr_k 4 16 (by decide) (by decide) (by omega)] at h_v6
        refine zk_ifc (zci_eqr (by omega)) (fun hc_3 => ?_) (fun hc_3 => ?_)
        · unfold f_Judge_hear_338
          refine zk_n ?_
          exact ih _ _ _ _ _ _ _ _ _ (by omega) (by omega) (by omega) (by omega) (by omega) (by omega) (by omega) (by omega) (by omega)
        · refine zk_ifc (zci_eqr (by omega)) (fun hc_4 => ?_) (fun hc_4 => ?_)
          · refine zk_d2 (s_Judge_push _ _ _ (by omega)) (fun v7 a8 hp => ?_)
            try dsimp only at hp
            have hpp0 := hp
            unfold f_Judge_hear_338
            refine zk_n ?_
            exact ih _ _ _ _ _ _ _ _ _ (by omega) (by omega) (by omega) (by omega) (by omega) (by omega) (by omega) (by omega) (by omega)
          · refine zk_ifc (zci_eqr (by omega)) (fun hc_5 => ?_) (fun hc_5 => ?_)
            · refine zk_ifc (zci_ltr (by omega)) (fun hc_6 => ?_) (fun hc_6 => ?_)
              · unfold f_Judge_hear_176
                unfold f_Judge_hear_177
                refine zk_d2 (s_Judge_push _ _ _ (by omega)) (fun v1_4 a2 hp_2 => ?_)
                try dsimp only at hp_2
                have hp_2p0 := hp_2
                unfold f_Judge_hear_338
                refine zk_n ?_
                exact ih _ _ _ _ _ _ _ _ _ (by omega) (by omega) (by omega) (by omega) (by omega) (by omega) (by omega) (by omega) (by omega)
              · refine zk_ifc (zci_le (by omega) (by omega)) (fun hc_7 => ?_) (fun hc_7 => ?_)
                · unfold f_Judge_hear_176
                  unfold f_Judge_hear_177
                  refine zk_d2 (s_Judge_push _ _ _ (by omega)) (fun v1_6 a2_2 hp_3 => ?_)
                  try dsimp only at hp_3
                  have hp_3p0 := hp_3
                  unfold f_Judge_hear_338
                  refine zk_n ?_
                  exact ih _ _ _ _ _ _ _ _ _ (by omega) (by omega) (by omega) (by omega) (by omega) (by omega) (by omega) (by omega) (by omega)
                · refine zk_gv (by omega) (by decide) (fun v9 h_v9 => ?_)
                  have r_v9 := h_i_words (v6.toNat)
                  unfold f_Judge_hear_177
                  refine zk_d2 (s_Judge_push _ _ _ (by omega)) (fun v1_8 a2_3 hp_4 => ?_)
                  try dsimp only at hp_4
                  have hp_4p0 := hp_4
                  unfold f_Judge_hear_338
                  refine zk_n ?_
                  exact ih _ _ _ _ _ _ _ _ _ (by omega) (by omega) (by omega) (by omega) (by omega) (by omega) (by omega) (by omega) (by omega)
            · refine zk_ifc (zci_eqr (by omega)) (fun hc_8 => ?_) (fun hc_8 => ?_)
              · refine zk_d2 (s_Judge_pop _ _ (by omega)) (fun v10 v11 hp_5 => ?_)
                try dsimp only at hp_5
                obtain ⟨hp_5p0, hp_5p1⟩ := hp_5
                refine zk_d2 (s_Judge_pop _ _ (by omega)) (fun v12 v13 hp_6 => ?_)
                try dsimp only at hp_6
                obtain ⟨hp_6p0, hp_6p1⟩ := hp_6
                refine zk_nE (fun v14 h_v14 => ?_)
                have r_v14 := zi_r v12; rw [← h_v14] at r_v14
                refine zk_nE (fun v15 h_v15 => ?_)
                have r_v15 := zi_r v10; rw [← h_v15] at r_v15
                refine zk_d1 (s_Judge_worked _ _ _ (by omega) (by omega) (by omega)) (fun v16 hp_7 => ?_)
                try dsimp only at hp_7
                have hp_7p0 := hp_7
                refine zk_d2 (s_Judge_push _ _ _ (by omega)) (fun v17 a18 hp_8 => ?_)
                try dsimp only at hp_8
                have hp_8p0 := hp_8
                refine zk_ifc (zci_ne (by omega) (by omega)) (fun hc_9 => ?_) (fun hc_9 => ?_)
                · unfold f_Judge_hear_337
                  unfold f_Judge_hear_338
                  refine zk_n ?_
                  exact ih _ _ _ _ _ _ _ _ _ (by omega) (by omega) (by omega) (by omega) (by omega) (by omega) (by omega) (by omega) (by omega)
                · unfold f_Judge_hear_337
                  unfold f_Judge_hear_338
                  refine zk_n ?_
                  exact ih _ _ _ _ _ _ _ _ _ (by omega) (by omega) (by omega) (by omega) (by omega) (by omega) (by omega) (by omega) (by omega)
              · refine zk_ifc (zci_eqr (by omega)) (fun hc_10 => ?_) (fun hc_10 => ?_)
                · refine zk_d2 (s_Judge_pop _ _ (by omega)) (fun v19 v20 hp_9 => ?_)
                  try dsimp only at hp_9
                  obtain ⟨hp_9p0, hp_9p1⟩ := hp_9
                  refine zk_d2 (s_Judge_pop _ _ (by omega)) (fun v21 v22 hp_10 => ?_)
                  try dsimp only at hp_10
                  obtain ⟨hp_10p0, hp_10p1⟩ := hp_10
                  refine zk_nE (fun v23 h_v23 => ?_)
                  have r_v23 := zi_r v21; rw [← h_v23] at r_v23
                  refine zk_nE (fun v24 h_v24 => ?_)
                  have r_v24 := zi_r v19; rw [← h_v24] at r_v24
                  refine zk_d1 (s_Judge_worked _ _ _ (by omega) (by omega) (by omega)) (fun v25 hp_11 => ?_)
                  try dsimp only at hp_11
                  have hp_11p0 := hp_11
                  refine zk_d2 (s_Judge_push _ _ _ (by omega)) (fun v26 a27 hp_12 => ?_)
                  try dsimp only at hp_12
                  have hp_12p0 := hp_12
                  refine zk_ifc (zci_ne (by omega) (by omega)) (fun hc_11 => ?_) (fun hc_11 => ?_)
                  · unfold f_Judge_hear_337
                    unfold f_Judge_hear_338
                    refine zk_n ?_
                    exact ih _ _ _ _ _ _ _ _ _ (by omega) (by omega) (by omega) (by omega) (by omega) (by omega) (by omega) (by omega) (by omega)
                  · unfold f_Judge_hear_337
                    unfold f_Judge_hear_338
                    refine zk_n ?_
                    exact ih _ _ _ _ _ _ _ _ _ (by omega) (by omega) (by omega) (by omega) (by omega) (by omega) (by omega) (by omega) (by omega)
                · refine zk_ifc (zci_eqr (by omega)) (fun hc_12 => ?_) (fun hc_12 => ?_)
                  · refine zk_d2 (s_Judge_pop _ _ (by omega)) (fun v28 v29 hp_13 => ?_)
                    try dsimp only at hp_13
                    obtain ⟨hp_13p0, hp_13p1⟩ := hp_13
                    refine zk_d2 (s_Judge_pop _ _ (by omega)) (fun v30 v31 hp_14 => ?_)
                    try dsimp only at hp_14
                    obtain ⟨hp_14p0, hp_14p1⟩ := hp_14
                    refine zk_nE (fun v32 h_v32 => ?_)
                    have r_v32 := zi_r v30; rw [← h_v32] at r_v32
                    refine zk_nE (fun v33 h_v33 => ?_)
                    have r_v33 := zi_r v28; rw [← h_v33] at r_v33
                    refine zk_d1 (s_Judge_worked _ _ _ (by omega) (by omega) (by omega)) (fun v34 hp_15 => ?_)
                    try dsimp only at hp_15
                    have hp_15p0 := hp_15
                    refine zk_d2 (s_Judge_push _ _ _ (by omega)) (fun v35 a36 hp_16 => ?_)
                    try dsimp only at hp_16
                    have hp_16p0 := hp_16
                    refine zk_ifc (zci_ne (by omega) (by omega)) (fun hc_13 => ?_) (fun hc_13 => ?_)
                    · unfold f_Judge_hear_337
                      unfold f_Judge_hear_338
                      refine zk_n ?_
                      exact ih _ _ _ _ _ _ _ _ _ (by omega) (by omega) (by omega) (by omega) (by omega) (by omega) (by omega) (by omega) (by omega)
                    · unfold f_Judge_hear_337
                      unfold f_Judge_hear_338
                      refine zk_n ?_
                      exact ih _ _ _ _ _ _ _ _ _ (by omega) (by omega) (by omega) (by omega) (by omega) (by omega) (by omega) (by omega) (by omega)
                  · refine zk_ifc (zci_eqr (by omega)) (fun hc_14 => ?_) (fun hc_14 => ?_)
                    · refine zk_d2 (s_Judge_pop _ _ (by omega)) (fun v37 v38 hp_17 => ?_)
                      try dsimp only at hp_17
                      obtain ⟨hp_17p0, hp_17p1⟩ := hp_17
                      refine zk_d2 (s_Judge_pop _ _ (by omega)) (fun v39 v40 hp_18 => ?_)
                      try dsimp only at hp_18
                      obtain ⟨hp_18p0, hp_18p1⟩ := hp_18
                      refine zk_nE (fun v41 h_v41 => ?_)
                      have r_v41 := zi_r v39; rw [← h_v41] at r_v41
                      refine zk_nE (fun v42 h_v42 => ?_)
                      have r_v42 := zi_r v37; rw [← h_v42] at r_v42
                      refine zk_d1 (s_Judge_worked _ _ _ (by omega) (by omega) (by omega)) (fun v43 hp_19 => ?_)
                      try dsimp only at hp_19
                      have hp_19p0 := hp_19
                      refine zk_d2 (s_Judge_push _ _ _ (by omega)) (fun v44 a45 hp_20 => ?_)
                      try dsimp only at hp_20
                      have hp_20p0 := hp_20
                      refine zk_ifc (zci_ne (by omega) (by omega)) (fun hc_15 => ?_) (fun hc_15 => ?_)
                      · unfold f_Judge_hear_337
                        unfold f_Judge_hear_338
                        refine zk_n ?_
                        exact ih _ _ _ _ _ _ _ _ _ (by omega) (by omega) (by omega) (by omega) (by omega) (by omega) (by omega) (by omega) (by omega)
                      · unfold f_Judge_hear_337
                        unfold f_Judge_hear_338
                        refine zk_n ?_
                        exact ih _ _ _ _ _ _ _ _ _ (by omega) (by omega) (by omega) (by omega) (by omega) (by omega) (by omega) (by omega) (by omega)
                    · refine zk_ifc (zci_eqr (by omega)) (fun hc_16 => ?_) (fun hc_16 => ?_)
                      · refine zk_d2 (s_Judge_pop _ _ (by omega)) (fun v46 v47 hp_21 => ?_)
                        try dsimp only at hp_21
                        obtain ⟨hp_21p0, hp_21p1⟩ := hp_21
                        refine zk_d2 (s_Judge_pop _ _ (by omega)) (fun v48 v49 hp_22 => ?_)
                        try dsimp only at hp_22
                        obtain ⟨hp_22p0, hp_22p1⟩ := hp_22
                        refine zk_nE (fun v50 h_v50 => ?_)
                        have r_v50 := zi_r v48; rw [← h_v50] at r_v50
                        refine zk_nE (fun v51 h_v51 => ?_)
                        have r_v51 := zi_r v46; rw [← h_v51] at r_v51
                        refine zk_d1 (s_Judge_worked _ _ _ (by omega) (by omega) (by omega)) (fun v52 hp_23 => ?_)
                        try dsimp only at hp_23
                        have hp_23p0 := hp_23
                        refine zk_d2 (s_Judge_push _ _ _ (by omega)) (fun v53 a54 hp_24 => ?_)
                        try dsimp only at hp_24
                        have hp_24p0 := hp_24
                        refine zk_ifc (zci_ne (by omega) (by omega)) (fun hc_17 => ?_) (fun hc_17 => ?_)
                        · unfold f_Judge_hear_337
                          unfold f_Judge_hear_338
                          refine zk_n ?_
                          exact ih _ _ _ _ _ _ _ _ _ (by omega) (by omega) (by omega) (by omega) (by omega) (by omega) (by omega) (by omega) (by omega)
                        · unfold f_Judge_hear_337
                          unfold f_Judge_hear_338
                          refine zk_n ?_
                          exact ih _ _ _ _ _ _ _ _ _ (by omega) (by omega) (by omega) (by omega) (by omega) (by omega) (by omega) (by omega) (by omega)
                      · refine zk_ifc (zci_eqr (by omega)) (fun hc_18 => ?_) (fun hc_18 => ?_)
                        · refine zk_d2 (s_Judge_pop _ _ (by omega)) (fun v55 v56 hp_25 => ?_)
                          try dsimp only at hp_25
                          obtain ⟨hp_25p0, hp_25p1⟩ := hp_25
                          refine zk_d2 (s_Judge_pop _ _ (by omega)) (fun v57 v58 hp_26 => ?_)
                          try dsimp only at hp_26
                          obtain ⟨hp_26p0, hp_26p1⟩ := hp_26
                          refine zk_nE (fun v59 h_v59 => ?_)
                          have r_v59 := zi_r v57; rw [← h_v59] at r_v59
                          refine zk_nE (fun v60 h_v60 => ?_)
                          have r_v60 := zi_r v55; rw [← h_v60] at r_v60
                          refine zk_d1 (s_Judge_worked _ _ _ (by omega) (by omega) (by omega)) (fun v61 hp_27 => ?_)
                          try dsimp only at hp_27
                          have hp_27p0 := hp_27
                          refine zk_d2 (s_Judge_push _ _ _ (by omega)) (fun v62 a63 hp_28 => ?_)
                          try dsimp only at hp_28
                          have hp_28p0 := hp_28
                          refine zk_ifc (zci_ne (by omega) (by omega)) (fun hc_19 => ?_) (fun hc_19 => ?_)
                          · unfold f_Judge_hear_337
                            unfold f_Judge_hear_338
                            refine zk_n ?_
                            exact ih _ _ _ _ _ _ _ _ _ (by omega) (by omega) (by omega) (by omega) (by omega) (by omega) (by omega) (by omega) (by omega)
                          · unfold f_Judge_hear_337
                            unfold f_Judge_hear_338
                            refine zk_n ?_
                            exact ih _ _ _ _ _ _ _ _ _ (by omega) (by omega) (by omega) (by omega) (by omega) (by omega) (by omega) (by omega) (by omega)
                        · refine zk_ifc (zci_eqr (by omega)) (fun hc_20 => ?_) (fun hc_20 => ?_)
                          · refine zk_d2 (s_Judge_pop _ _ (by omega)) (fun v64 v65 hp_29 => ?_)
                            try dsimp only at hp_29
                            obtain ⟨hp_29p0, hp_29p1⟩ := hp_29
                            refine zk_d2 (s_Judge_pop _ _ (by omega)) (fun v66 v67 hp_30 => ?_)
                            try dsimp only at hp_30
                            obtain ⟨hp_30p0, hp_30p1⟩ := hp_30
                            refine zk_nE (fun v68 h_v68 => ?_)
                            have r_v68 := zi_r v66; rw [← h_v68] at r_v68
                            refine zk_nE (fun v69 h_v69 => ?_)
                            have r_v69 := zi_r v64; rw [← h_v69] at r_v69
                            refine zk_d1 (s_Judge_worked _ _ _ (by omega) (by omega) (by omega)) (fun v70 hp_31 => ?_)
                            try dsimp only at hp_31
                            have hp_31p0 := hp_31
                            refine zk_d2 (s_Judge_push _ _ _ (by omega)) (fun v71 a72 hp_32 => ?_)
                            try dsimp only at hp_32
                            have hp_32p0 := hp_32
                            refine zk_ifc (zci_ne (by omega) (by omega)) (fun hc_21 => ?_) (fun hc_21 => ?_)
                            · unfold f_Judge_hear_337
                              unfold f_Judge_hear_338
                              refine zk_n ?_
                              exact ih _ _ _ _ _ _ _ _ _ (by omega) (by omega) (by omega) (by omega) (by omega) (by omega) (by omega) (by omega) (by omega)
                            · unfold f_Judge_hear_337
                              unfold f_Judge_hear_338
                              refine zk_n ?_
                              exact ih _ _ _ _ _ _ _ _ _ (by omega) (by omega) (by omega) (by omega) (by omega) (by omega) (by omega) (by omega) (by omega)
                          · refine zk_ifc (zci_eqr (by omega)) (fun hc_22 => ?_) (fun hc_22 => ?_)
                            · refine zk_d2 (s_Judge_pop _ _ (by omega)) (fun v73 v74 hp_33 => ?_)
                              try dsimp only at hp_33
                              obtain ⟨hp_33p0, hp_33p1⟩ := hp_33
                              refine zk_n ?_
                              refine zk_d2 (s_Judge_push _ _ _ (by omega)) (fun v76 a77 hp_34 => ?_)
                              try dsimp only at hp_34
                              have hp_34p0 := hp_34
                              unfold f_Judge_hear_338
                              refine zk_n ?_
                              exact ih _ _ _ _ _ _ _ _ _ (by omega) (by omega) (by omega) (by omega) (by omega) (by omega) (by omega) (by omega) (by omega)
                            · refine zk_ifc (zci_eqr (by omega)) (fun hc_23 => ?_) (fun hc_23 => ?_)
                              · refine zk_d2 (s_Judge_pop _ _ (by omega)) (fun v78 v79 hp_35 => ?_)
                                try dsimp only at hp_35
                                obtain ⟨hp_35p0, hp_35p1⟩ := hp_35
                                refine zk_ifc (zci_ne (by omega) (by omega)) (fun hc_24 => ?_) (fun hc_24 => ?_)
                                · unfold f_Judge_hear_216
                                  refine zk_if (fun hc_25 => ?_) (fun hc_25 => ?_)
                                  · unfold f_Judge_hear_338
                                    refine zk_n ?_
                                    exact ih _ _ _ _ _ _ _ _ _ (by omega) (by omega) (by omega) (by omega) (by omega) (by omega) (by omega) (by omega) (by omega)
                                  · refine zk_d2 (s_Judge_push _ _ _ (by omega)) (fun v1_26 a2_4 hp_36 => ?_)
                                    try dsimp only at hp_36
                                    have hp_36p0 := hp_36
                                    unfold f_Judge_hear_338
                                    refine zk_n ?_
                                    exact ih _ _ _ _ _ _ _ _ _ (by omega) (by omega) (by omega) (by omega) (by omega) (by omega) (by omega) (by omega) (by omega)
                                · exfalso; omega
                              · refine zk_ifc (zci_eqr (by omega)) (fun hc_26 => ?_) (fun hc_26 => ?_)
                                · refine zk_d2 (s_Judge_pop _ _ (by omega)) (fun v80 v81 hp_37 => ?_)
                                  try dsimp only at hp_37
                                  obtain ⟨hp_37p0, hp_37p1⟩ := hp_37
                                  refine zk_ifc (zci_ne (by omega) (by omega)) (fun hc_27 => ?_) (fun hc_27 => ?_)
                                  · exfalso; omega
                                  · unfold f_Judge_hear_216
                                    refine zk_if (fun hc_28 => ?_) (fun hc_28 => ?_)
                                    · unfold f_Judge_hear_338
                                      refine zk_n ?_
                                      exact ih _ _ _ _ _ _ _ _ _ (by omega) (by omega) (by omega) (by omega) (by omega) (by omega) (by omega) (by omega) (by omega)
                                    · refine zk_d2 (s_Judge_push _ _ _ (by omega)) (fun v1_29 a2_5 hp_38 => ?_)
                                      try dsimp only at hp_38
                                      have hp_38p0 := hp_38
                                      unfold f_Judge_hear_338
                                      refine zk_n ?_
                                      exact ih _ _ _ _ _ _ _ _ _ (by omega) (by omega) (by omega) (by omega) (by omega) (by omega) (by omega) (by omega) (by omega)
                                · refine zk_ifc (zci_eqr (by omega)) (fun hc_29 => ?_) (fun hc_29 => ?_)
                                  · refine zk_d2 (s_Judge_pop _ _ (by omega)) (fun v82 v83 hp_39 => ?_)
                                    try dsimp only at hp_39
                                    obtain ⟨hp_39p0, hp_39p1⟩ := hp_39
                                    refine zk_if (fun hc_30 => ?_) (fun hc_30 => ?_)
                                    · unfold f_Judge_hear_264
                                      unfold f_Judge_hear_338
                                      refine zk_n ?_
                                      exact ih _ _ _ _ _ _ _ _ _ (by omega) (by omega) (by omega) (by omega) (by omega) (by omega) (by omega) (by omega) (by omega)
                                    · refine zk_d2 (s_Judge_pop _ _ (by omega)) (fun v84 v85 hp_40 => ?_)
                                      try dsimp only at hp_40
                                      obtain ⟨hp_40p0, hp_40p1⟩ := hp_40
                                      refine zk_nE (fun v86 h_v86 => ?_)
                                      have r_v86 := zi_min_i 99 v84; rw [← h_v86] at r_v86
                                      refine zk_nE (fun v87 h_v87 => ?_)
                                      have r_v87 := zi_max_f (0) (by omega) (v86) (by omega); rw [← h_v87] at r_v87
                                      unfold f_Judge_hear_264
                                      unfold f_Judge_hear_338
                                      refine zk_n ?_
                                      exact ih _ _ _ _ _ _ _ _ _ (by omega) (by omega) (by omega) (by omega) (by omega) (by omega) (by omega) (by omega) (by omega)
                                  · refine zk_ifc (zci_eqr (by omega)) (fun hc_31 => ?_) (fun hc_31 => ?_)
                                    · refine zk_d2 (s_Judge_pop _ _ (by omega)) (fun v88 v89 hp_41 => ?_)
                                      try dsimp only at hp_41
                                      obtain ⟨hp_41p0, hp_41p1⟩ := hp_41
                                      refine zk_if (fun hc_32 => ?_) (fun hc_32 => ?_)
                                      · unfold f_Judge_hear_286
                                        unfold f_Judge_hear_291
                                        refine zk_gb (by omega) ?_
                                        unfold f_Judge_hear_338
                                        refine zk_n ?_
                                        exact ih _ _ _ _ _ _ _ _ _ (by omega) (by omega) (by omega) (by omega) (by omega) (by omega) (by omega) (by omega) (by omega)
                                      · refine zk_ifc (zci_eqr (by omega)) (fun hc_33 => ?_) (fun hc_33 => ?_)
                                        · unfold f_Judge_hear_291
                                          refine zk_gb (by omega) ?_
                                          unfold f_Judge_hear_338
                                          refine zk_n ?_
                                          exact ih _ _ _ _ _ _ _ _ _ (by omega) (by omega) (by omega) (by omega) (by omega) (by omega) (by omega) (by omega) (by omega)
                                        · unfold f_Judge_hear_286
                                          unfold f_Judge_hear_291
                                          refine zk_gb (by omega) ?_
                                          unfold f_Judge_hear_338
                                          refine zk_n ?_
                                          exact ih _ _ _ _ _ _ _ _ _ (by omega) (by omega) (by omega) (by omega) (by omega) (by omega) (by omega) (by omega) (by omega)
                                    · refine zk_d2 (s_Judge_pop _ _ (by omega)) (fun v90 v91 hp_42 => ?_)
                                      try dsimp only at hp_42
                                      obtain ⟨hp_42p0, hp_42p1⟩ := hp_42
                                      refine zk_d2 (s_Judge_pop _ _ (by omega)) (fun v92 v93 hp_43 => ?_)
                                      try dsimp only at hp_43
                                      obtain ⟨hp_43p0, hp_43p1⟩ := hp_43
                                      refine zk_nE (fun v94 h_v94 => ?_)
                                      have r_v94 := zi_r v92; rw [← h_v94] at r_v94
                                      refine zk_nE (fun v95 h_v95 => ?_)
                                      have r_v95 := zi_r v90; rw [← h_v95] at r_v95
                                      refine zk_d1 (s_Judge_worked _ _ _ (by omega) (by omega) (by omega)) (fun v96 hp_44 => ?_)
                                      try dsimp only at hp_44
                                      have hp_44p0 := hp_44
                                      refine zk_d2 (s_Judge_push _ _ _ (by omega)) (fun v97 a98 hp_45 => ?_)
                                      try dsimp only at hp_45
                                      have hp_45p0 := hp_45
                                      refine zk_ifc (zci_ne (by omega) (by omega)) (fun hc_34 => ?_) (fun hc_34 => ?_)
                                      · unfold f_Judge_hear_337
                                        unfold f_Judge_hear_338
                                        refine zk_n ?_
                                        exact ih _ _ _ _ _ _ _ _ _ (by omega) (by omega) (by omega) (by omega) (by omega) (by omega) (by omega) (by omega) (by omega)
                                      · unfold f_Judge_hear_337
                                        unfold f_Judge_hear_338
                                        refine zk_n ?_
                                        exact ih _ _ _ _ _ _ _ _ _ (by omega) (by omega) (by omega) (by omega) (by omega) (by omega) (by omega) (by omega) (by omega)
      · unfold f_Judge_hear_338
        refine zk_n ?_
        exact ih _ _ _ _ _ _ _ _ _ (by omega) (by omega) (by omega) (by omega) (by omega) (by omega) (by omega) (by omega) (by omega)
end
section
set_option maxHeartbeats 4000000 in
theorem s_Judge_hear (x1 : Int) (x2 : Int) (i_words : Nat → Int) (i_hill_orders : Nat → Int) (i_piled : Int) (i_tiring : Int) (i_barred : Int) (i_pile : Nat → Int) (b_x1 : 0 ≤ x1 ∧ x1 ≤ 2120) (b_x2 : 0 ≤ x2 ∧ x2 ≤ 424) (h_i_words : zR i_words 0 99) (h_i_hill_orders : zR i_hill_orders (-2147483648) 2147483647) (b_i_piled : 0 ≤ i_piled ∧ i_piled ≤ 32) (b_i_tiring : 0 ≤ i_tiring ∧ i_tiring ≤ 11) (b_i_barred : 0 ≤ i_barred ∧ i_barred ≤ 0) : zok (f_Judge_hear x1 x2 i_words i_hill_orders i_piled i_tiring i_barred i_pile) (fun o => (0 ≤ o.1 ∧ o.1 ≤ 32) ∧ (0 ≤ o.2.1 ∧ o.2.1 ≤ 2147483647) ∧ (0 ≤ o.2.2.1 ∧ o.2.2.1 ≤ 1)) := by
  unfold f_Judge_hear
  exact s_Judge_hear_8 _ _ h_i_words h_i_hill_orders zfu _ _ _ _ _ _ _ _ _ (by omega) (by omega) (by omega) (by omega) (by omega) (by omega) (by omega) (by omega) (by unfold zfu; omega)
set_option maxHeartbeats 4000000 in
theorem s_Judge_effort (x1 : Int) (x2 : Int) (x3 : Int) (x4 : Int) (x5 : Int) (x6 : Int) (i_hill_children : Int) (i_hill_laws : Int) (i_hill_inForce : Int) (i_hill_strengths : Nat → Int) (i_hill_expelled : Nat → Int) (i_hill_terms : Nat → Int) (i_hill_orders : Nat → Int) (i_hill_ordered : Nat → Int) (i_piled : Int) (i_tiring : Int) (i_barred : Int) (i_words : Nat → Int) (i_pile : Nat → Int) (b_x1 : 0 ≤ x1 ∧ x1 ≤ 5) (b_x2 : 0 ≤ x2 ∧ x2 ≤ 11) (b_x3 : 0 ≤ x3 ∧ x3 ≤ 11) (b_x4 : 0 ≤ x4 ∧ x4 ≤ 30) (b_x5 : 0 ≤ x5 ∧ x5 ≤ 10) (b_x6 : 0 ≤ x6 ∧ x6 ≤ 10) (b_i_hill_children : 1 ≤ i_hill_children ∧ i_hill_children ≤ 6) (b_i_hill_laws : 0 ≤ i_hill_laws ∧ i_hill_laws ≤ 6) (b_i_hill_inForce : (-1) ≤ i_hill_inForce ∧ i_hill_inForce ≤ 5) (h_i_hill_strengths : zR i_hill_strengths 0 60) (h_i_hill_expelled : zR i_hill_expelled 0 1) (h_i_hill_terms : zR i_hill_terms 0 99) (h_i_hill_orders : zR i_hill_orders (-2147483648) 2147483647) (h_i_hill_ordered : zR i_hill_ordered 0 424) (b_i_piled : 0 ≤ i_piled ∧ i_piled ≤ 32) (b_i_tiring : 0 ≤ i_tiring ∧ i_tiring ≤ 2147483647) (b_i_barred : 0 ≤ i_barred ∧ i_barred ≤ 1) (h_i_words : zR i_words 0 99) : zok (f_Judge_effort x1 x2 x3 x4 x5 x6 i_hill_children i_hill_laws i_hill_inForce i_hill_strengths i_hill_expelled i_hill_terms i_hill_orders i_hill_ordered i_piled i_tiring i_barred i_words i_pile) (fun o => ((-1) ≤ o.1 ∧ o.1 ≤ 2147483647) ∧ (0 ≤ o.2.1 ∧ o.2.1 ≤ 32) ∧ (0 ≤ o.2.2.1 ∧ o.2.2.1 ≤ 2147483647) ∧ (0 ≤ o.2.2.2.1 ∧ o.2.2.2.1 ≤ 1) ∧ zR o.2.2.2.2.1 0 99) := by
  unfold f_Judge_effort
  refine zk_ifc (zci_lt (by omega) (by omega)) (fun hc => ?_) (fun hc => ?_)
  · refine zk_ret ?_
    try dsimp only
    exact ⟨by omega, by omega, by omega, by omega, h_i_words⟩
  · refine zk_ifc (zci_le (by omega) (by omega)) (fun hc_2 => ?_) (fun hc_2 => ?_)
    · refine zk_ret ?_
      try dsimp only
      exact ⟨by omega, by omega, by omega, by omega, h_i_words⟩
    · refine zk_ifc (zci_eq (by omega) (by omega)) (fun hc_3 => ?_) (fun hc_3 => ?_)
      · refine zk_ret ?_
        try dsimp only
        exact ⟨by omega, by omega, by omega, by omega, h_i_words⟩
      · refine zk_d1 (s_Hill_isAble _ _ _ _ _ (by omega) (by omega) (by omega) h_i_hill_strengths h_i_hill_expelled) (fun v1 hp => ?_)
        try dsimp only at hp
        obtain ⟨hpp0, hpp1⟩ := hp
        refine zk_ifc (zci_ner (by omega)) (fun hc_4 => ?_) (fun hc_4 => ?_)
        · refine zk_n ?_
          refine zk_nE (fun v3 h_v3 => ?_)
          have r_v3 := zi_abs_f ((x2 - x3)) (by omega); rw [← h_v3] at r_v3
          refine zk_ifc (zci_ltr (by omega)) (fun hc_5 => ?_) (fun hc_5 => ?_)
          · unfold f_Judge_effort_182
            refine zk_ifc (zci_eqr (by omega)) (fun hc_6 => ?_) (fun hc_6 => ?_)
            · refine zk_ret ?_
              try dsimp only
              exact ⟨by omega, by omega, by omega, by omega, h_i_words⟩
            · exfalso; omega
          · refine zk_ifc (zci_le (by omega) (by omega)) (fun hc_7 => ?_) (fun hc_7 => ?_)
            · unfold f_Judge_effort_182
              refine zk_ifc (zci_eqr (by omega)) (fun hc_8 => ?_) (fun hc_8 => ?_)
              · refine zk_ret ?_
                try dsimp only
                exact ⟨by omega, by omega, by omega, by omega, h_i_words⟩
              · exfalso; omega
            · refine zk_sl 0 rfl (by decide) (by decide) (fun a4 h_a4 => ?_)
              have i_a4 : zR a4 0 99 := by rw [h_a4]; exact zR_zu h_i_words (by decide) (by decide) (by omega)
              refine zk_gv (by omega) (by decide) (fun v5 h_v5 => ?_)
              have r_v5 := h_i_hill_strengths (x1.toNat)
              refine zk_sl 1 rfl (by decide) (by decide) (fun a6 h_a6 => ?_)
              have i_a6 : zR a6 0 99 := by rw [h_a6]; exact zR_zu i_a4 (by decide) (by decide) (by omega)
              refine zk_sl 2 rfl (by decide) (by decide) (fun a7 h_a7 => ?_)
              have i_a7 : zR a7 0 99 := by rw [h_a7]; exact zR_zu i_a6 (by decide) (by decide) (by omega)
              refine zk_sl 3 rfl (by decide) (by decide) (fun a8 h_a8 => ?_)
              have i_a8 : zR a8 0 99 := by rw [h_a8]; exact zR_zu i_a7 (by decide) (by decide) (by omega)
              refine zk_sl 4 rfl (by decide) (by decide) (fun a9 h_a9 => ?_)
              have i_a9 : zR a9 0 99 := by rw [h_a9]; exact zR_zu i_a8 (by decide) (by decide) (by omega)
              refine zk_sl 5 rfl (by decide) (by decide) (fun a10 h_a10 => ?_)
              have i_a10 : zR a10 0 99 := by rw [h_a10]; exact zR_zu i_a9 (by decide) (by decide) (by omega)
              refine zk_sl 6 rfl (by decide) (by decide) (fun a11 h_a11 => ?_)
              have i_a11 : zR a11 0 99 := by rw [h_a11]; exact zR_zu i_a10 (by decide) (by decide) (by omega)
              refine zk_gl 0 rfl (by decide) (by decide) (fun v12 h_v12 => ?_)
              have r_v12 := h_i_hill_terms (0)
              refine zk_sl 7 rfl (by decide) (by decide) (fun a13 h_a13 => ?_)
              have i_a13 : zR a13 0 99 := by rw [h_a13]; exact zR_zu i_a11 (by decide) (by decide) (by omega)
              refine zk_n ?_
              refine zk_gv (by omega) (by decide) (fun v15 h_v15 => ?_)
              have r_v15 := h_i_hill_ordered (i_hill_inForce.toNat)
              refine zk_d4 (s_Judge_hear _ _ _ _ _ _ _ _ (by omega) (by omega) i_a13 h_i_hill_orders (by omega) (by omega) (by omega)) (fun v16 v17 v18 a19 hp_2 => ?_)
              try dsimp only at hp_2
              obtain ⟨hp_2p0, hp_2p1, hp_2p2⟩ := hp_2
              unfold f_Judge_effort_182
              refine zk_ifc (zci_eqr (by omega)) (fun hc_9 => ?_) (fun hc_9 => ?_)
              · refine zk_ret ?_
                try dsimp only
                exact ⟨by omega, by omega, by omega, by omega, i_a13⟩
              · refine zk_ret ?_
                try dsimp only
                exact ⟨by omega, by omega, by omega, by omega, i_a13⟩
        · refine zk_ret ?_
          try dsimp only
          exact ⟨by omega, by omega, by omega, by omega, h_i_words⟩
set_option maxHeartbeats 4000000 in
theorem s_Judge_effortOn (x2 : Int) (x3 : Int) (x4 : Int) (i_a1_many : Int) (i_hill_children : Int) (i_hill_laws : Int) (i_hill_inForce : Int) (i_a1_heights : Nat → Int) (i_a1_weights : Nat → Int) (i_hill_strengths : Nat → Int) (i_hill_expelled : Nat → Int) (i_hill_terms : Nat → Int) (i_hill_orders : Nat → Int) (i_hill_ordered : Nat → Int) (i_piled : Int) (i_tiring : Int) (i_barred : Int) (i_words : Nat → Int) (i_pile : Nat → Int) (b_x2 : 0 ≤ x2 ∧ x2 ≤ 5) (b_x3 : 0 ≤ x3 ∧ x3 ≤ 11) (b_x4 : 0 ≤ x4 ∧ x4 ≤ 11) (b_i_a1_many : 1 ≤ i_a1_many ∧ i_a1_many ≤ 12) (b_i_hill_children : 1 ≤ i_hill_children ∧ i_hill_children ≤ 6) (b_i_hill_laws : 0 ≤ i_hill_laws ∧ i_hill_laws ≤ 6) (b_i_hill_inForce : (-1) ≤ i_hill_inForce ∧ i_hill_inForce ≤ 5) (h_i_a1_heights : zR i_a1_heights 0 10) (h_i_a1_weights : zR i_a1_weights 0 30) (h_i_hill_strengths : zR i_hill_strengths 0 60) (h_i_hill_expelled : zR i_hill_expelled 0 1) (h_i_hill_terms : zR i_hill_terms 0 99) (h_i_hill_orders : zR i_hill_orders (-2147483648) 2147483647) (h_i_hill_ordered : zR i_hill_ordered 0 424) (b_i_piled : 0 ≤ i_piled ∧ i_piled ≤ 32) (b_i_tiring : 0 ≤ i_tiring ∧ i_tiring ≤ 2147483647) (b_i_barred : 0 ≤ i_barred ∧ i_barred ≤ 1) (h_i_words : zR i_words 0 99) : zok (f_Judge_effortOn x2 x3 x4 i_a1_many i_hill_children i_hill_laws i_hill_inForce i_a1_heights i_a1_weights i_hill_strengths i_hill_expelled i_hill_terms i_hill_orders i_hill_ordered i_piled i_tiring i_barred i_words i_pile) (fun o => ((-1) ≤ o.1 ∧ o.1 ≤ 2147483647) ∧ (0 ≤ o.2.1 ∧ o.2.1 ≤ 32) ∧ (0 ≤ o.2.2.1 ∧ o.2.2.1 ≤ 2147483647) ∧ (0 ≤ o.2.2.2.1 ∧ o.2.2.2.1 ≤ 1) ∧ zR o.2.2.2.2.1 0 99) := by
  unfold f_Judge_effortOn
  refine zk_d1 (s_Columns_top _ _ _ _ (by omega) (by omega) h_i_a1_heights h_i_a1_weights) (fun v1 hp => ?_)
  try dsimp only at hp
  have hpp0 := hp
  refine zk_d1 (s_Columns_high _ _ _ (by omega) (by omega) h_i_a1_heights) (fun v2 hp_2 => ?_)
  try dsimp only at hp_2
  obtain ⟨hp_2p0, hp_2p1⟩ := hp_2
  refine zk_d1 (s_Columns_high _ _ _ (by omega) (by omega) h_i_a1_heights) (fun v3 hp_3 => ?_)
  try dsimp only at hp_3
  obtain ⟨hp_3p0, hp_3p1⟩ := hp_3
  refine zk_d6 (s_Judge_effort _ _ _ _ _ _ _ _ _ _ _ _ _ _ _ _ _ _ _ (by omega) (by omega) (by omega) (by omega) (by omega) (by omega) (by omega) (by omega) (by omega) h_i_hill_strengths h_i_hill_expelled h_i_hill_terms h_i_hill_orders h_i_hill_ordered (by omega) (by omega) (by omega) h_i_words) (fun v4 v5 v6 v7 a8 a9 hp_4 => ?_)
  try dsimp only at hp_4
  obtain ⟨hp_4p0, hp_4p1, hp_4p2, hp_4p3, hp_4p4⟩ := hp_4
  refine zk_ret ?_
  try dsimp only
  exact ⟨by omega, by omega, by omega, by omega, hp_4p4⟩
set_option maxHeartbeats 4000000 in
theorem s_HS_knows (x1 : Int) (x2 : Int) (x3 : Int) (i_hill_children : Int) (i_hill_columns_many : Int) (b_x1 : (-2147483648) ≤ x1 ∧ x1 ≤ 2147483647) (b_x2 : (-2147483648) ≤ x2 ∧ x2 ≤ 2147483647) (b_x3 : (-2147483648) ≤ x3 ∧ x3 ≤ 2147483647) (b_i_hill_children : 0 ≤ i_hill_children ∧ i_hill_children ≤ 6) (b_i_hill_columns_many : 0 ≤ i_hill_columns_many ∧ i_hill_columns_many ≤ 12) : zok (f_HS_knows x1 x2 x3 i_hill_children i_hill_columns_many) (fun o => (0 ≤ o ∧ o ≤ 1) ∧ ((o = 1 ∧ (0 ≤ x1 ∧ x1 < i_hill_children) ∧ (0 ≤ x2 ∧ x2 < i_hill_columns_many) ∧ (0 ≤ x3 ∧ x3 < i_hill_columns_many)) ∨ o = 0)) := by
  unfold f_HS_knows
  refine zk_d1 (s_Hill_hasChild _ _ (by omega) (by omega)) (fun v1 hp => ?_)
  try dsimp only at hp
  obtain ⟨hpp0, hpp1⟩ := hp
  refine zk_ifc (zci_eqr (by omega)) (fun hc => ?_) (fun hc => ?_)
  · exact zk_ret ⟨by omega, by omega⟩
  · refine zk_d1 (s_Columns_has _ _ (by omega) (by omega)) (fun v2 hp_2 => ?_)
    try dsimp only at hp_2
    obtain ⟨hp_2p0, hp_2p1⟩ := hp_2
    refine zk_ifc (zci_eqr (by omega)) (fun hc_2 => ?_) (fun hc_2 => ?_)
    · exact zk_ret ⟨by omega, by omega⟩
    · refine zk_d1 (s_Columns_has _ _ (by omega) (by omega)) (fun v3 hp_3 => ?_)
      try dsimp only at hp_3
      obtain ⟨hp_3p0, hp_3p1⟩ := hp_3
      refine zk_ifc (zci_eqr (by omega)) (fun hc_3 => ?_) (fun hc_3 => ?_)
      · exact zk_ret ⟨by omega, by omega⟩
      · exact zk_ret ⟨by omega, by omega⟩
set_option maxHeartbeats 4000000 in
theorem s_HS_can (x1 : Int) (x2 : Int) (x3 : Int) (i_hill_children : Int) (i_hill_laws : Int) (i_hill_inForce : Int) (i_hill_columns_many : Int) (i_hill_strengths : Nat → Int) (i_hill_expelled : Nat → Int) (i_hill_terms : Nat → Int) (i_hill_orders : Nat → Int) (i_hill_ordered : Nat → Int) (i_hill_columns_heights : Nat → Int) (i_hill_columns_weights : Nat → Int) (i_judge_piled : Int) (i_judge_tiring : Int) (i_judge_barred : Int) (i_judge_words : Nat → Int) (i_judge_pile : Nat → Int) (b_x1 : (-2147483648) ≤ x1 ∧ x1 ≤ 2147483647) (b_x2 : (-2147483648) ≤ x2 ∧ x2 ≤ 2147483647) (b_x3 : (-2147483648) ≤ x3 ∧ x3 ≤ 2147483647) (b_i_hill_children : 0 ≤ i_hill_children ∧ i_hill_children ≤ 6) (b_i_hill_laws : 0 ≤ i_hill_laws ∧ i_hill_laws ≤ 6) (b_i_hill_inForce : (-1) ≤ i_hill_inForce ∧ i_hill_inForce ≤ 5) (b_i_hill_columns_many : 0 ≤ i_hill_columns_many ∧ i_hill_columns_many ≤ 12) (h_i_hill_strengths : zR i_hill_strengths 0 60) (h_i_hill_expelled : zR i_hill_expelled 0 1) (h_i_hill_terms : zR i_hill_terms 0 99) (h_i_hill_orders : zR i_hill_orders (-2147483648) 2147483647) (h_i_hill_ordered : zR i_hill_ordered 0 424) (h_i_hill_columns_heights : zR i_hill_columns_heights 0 10) (h_i_hill_columns_weights : zR i_hill_columns_weights 0 30) (b_i_judge_piled : 0 ≤ i_judge_piled ∧ i_judge_piled ≤ 32) (b_i_judge_tiring : 0 ≤ i_judge_tiring ∧ i_judge_tiring ≤ 2147483647) (b_i_judge_barred : 0 ≤ i_judge_barred ∧ i_judge_barred ≤ 1) (h_i_judge_words : zR i_judge_words 0 99) : zok (f_HS_can x1 x2 x3 i_hill_children i_hill_laws i_hill_inForce i_hill_columns_many i_hill_strengths i_hill_expelled i_hill_terms i_hill_orders i_hill_ordered i_hill_columns_heights i_hill_columns_weights i_judge_piled i_judge_tiring i_judge_barred i_judge_words i_judge_pile) (fun o => ((-1) ≤ o.1 ∧ o.1 ≤ 1) ∧ (0 ≤ o.2.1 ∧ o.2.1 ≤ 32) ∧ (0 ≤ o.2.2.1 ∧ o.2.2.1 ≤ 2147483647) ∧ (0 ≤ o.2.2.2.1 ∧ o.2.2.2.1 ≤ 1) ∧ zR o.2.2.2.2.1 0 99) := by
  unfold f_HS_can
  refine zk_d1 (s_HS_knows _ _ _ _ _ (by omega) (by omega) (by omega) (by omega) (by omega)) (fun v1 hp => ?_)
  try dsimp only at hp
  obtain ⟨hpp0, hpp1⟩ := hp
  refine zk_ifc (zci_ner (by omega)) (fun hc => ?_) (fun hc => ?_)
  · refine zk_d6 (s_Judge_effortOn _ _ _ _ _ _ _ _ _ _ _ _ _ _ _ _ _ _ _ (by omega) (by omega) (by omega) (by omega) (by omega) (by omega) (by omega) h_i_hill_columns_heights h_i_hill_columns_weights h_i_hill_strengths h_i_hill_expelled h_i_hill_terms h_i_hill_orders h_i_hill_ordered (by omega) (by omega) (by omega) h_i_judge_words) (fun v2 v3 v4 v5 a6 a7 hp_2 => ?_)
    try dsimp only at hp_2
    obtain ⟨hp_2p0, hp_2p1, hp_2p2, hp_2p3, hp_2p4⟩ := hp_2
    refine zk_ifc (zci_ne (by omega) (by omega)) (fun hc_2 => ?_) (fun hc_2 => ?_)
    · refine zk_ret ?_
      try dsimp only
      exact ⟨by omega, by omega, by omega, by omega, hp_2p4⟩
    · refine zk_ret ?_
      try dsimp only
      exact ⟨by omega, by omega, by omega, by omega, hp_2p4⟩
  · refine zk_ret ?_
    try dsimp only
    exact ⟨by omega, by omega, by omega, by omega, h_i_judge_words⟩
set_option maxHeartbeats 4000000 in
theorem s_HS_tires (x1 : Int) (x2 : Int) (x3 : Int) (i_hill_children : Int) (i_hill_laws : Int) (i_hill_inForce : Int) (i_hill_columns_many : Int) (i_hill_strengths : Nat → Int) (i_hill_expelled : Nat → Int) (i_hill_terms : Nat → Int) (i_hill_orders : Nat → Int) (i_hill_ordered : Nat → Int) (i_hill_columns_heights : Nat → Int) (i_hill_columns_weights : Nat → Int) (i_judge_piled : Int) (i_judge_tiring : Int) (i_judge_barred : Int) (i_judge_words : Nat → Int) (i_judge_pile : Nat → Int) (b_x1 : (-2147483648) ≤ x1 ∧ x1 ≤ 2147483647) (b_x2 : (-2147483648) ≤ x2 ∧ x2 ≤ 2147483647) (b_x3 : (-2147483648) ≤ x3 ∧ x3 ≤ 2147483647) (b_i_hill_children : 0 ≤ i_hill_children ∧ i_hill_children ≤ 6) (b_i_hill_laws : 0 ≤ i_hill_laws ∧ i_hill_laws ≤ 6) (b_i_hill_inForce : (-1) ≤ i_hill_inForce ∧ i_hill_inForce ≤ 5) (b_i_hill_columns_many : 0 ≤ i_hill_columns_many ∧ i_hill_columns_many ≤ 12) (h_i_hill_strengths : zR i_hill_strengths 0 60) (h_i_hill_expelled : zR i_hill_expelled 0 1) (h_i_hill_terms : zR i_hill_terms 0 99) (h_i_hill_orders : zR i_hill_orders (-2147483648) 2147483647) (h_i_hill_ordered : zR i_hill_ordered 0 424) (h_i_hill_columns_heights : zR i_hill_columns_heights 0 10) (h_i_hill_columns_weights : zR i_hill_columns_weights 0 30) (b_i_judge_piled : 0 ≤ i_judge_piled ∧ i_judge_piled ≤ 32) (b_i_judge_tiring : 0 ≤ i_judge_tiring ∧ i_judge_tiring ≤ 2147483647) (b_i_judge_barred : 0 ≤ i_judge_barred ∧ i_judge_barred ≤ 1) (h_i_judge_words : zR i_judge_words 0 99) : zok (f_HS_tires x1 x2 x3 i_hill_children i_hill_laws i_hill_inForce i_hill_columns_many i_hill_strengths i_hill_expelled i_hill_terms i_hill_orders i_hill_ordered i_hill_columns_heights i_hill_columns_weights i_judge_piled i_judge_tiring i_judge_barred i_judge_words i_judge_pile) (fun o => ((-1) ≤ o.1 ∧ o.1 ≤ 2147483647) ∧ (0 ≤ o.2.1 ∧ o.2.1 ≤ 32) ∧ (0 ≤ o.2.2.1 ∧ o.2.2.1 ≤ 2147483647) ∧ (0 ≤ o.2.2.2.1 ∧ o.2.2.2.1 ≤ 1) ∧ zR o.2.2.2.2.1 0 99) := by
  unfold f_HS_tires
  refine zk_d1 (s_HS_knows _ _ _ _ _ (by omega) (by omega) (by omega) (by omega) (by omega)) (fun v1 hp => ?_)
  try dsimp only at hp
  obtain ⟨hpp0, hpp1⟩ := hp
  refine zk_ifc (zci_eqr (by omega)) (fun hc => ?_) (fun hc => ?_)
  · refine zk_ret ?_
    try dsimp only
    exact ⟨by omega, by omega, by omega, by omega, h_i_judge_words⟩
  · refine zk_d6 (s_Judge_effortOn _ _ _ _ _ _ _ _ _ _ _ _ _ _ _ _ _ _ _ (by omega) (by omega) (by omega) (by omega) (by omega) (by omega) (by omega) h_i_hill_columns_heights h_i_hill_columns_weights h_i_hill_strengths h_i_hill_expelled h_i_hill_terms h_i_hill_orders h_i_hill_ordered (by omega) (by omega) (by omega) h_i_judge_words) (fun v2 v3 v4 v5 a6 a7 hp_2 => ?_)
    try dsimp only at hp_2
    obtain ⟨hp_2p0, hp_2p1, hp_2p2, hp_2p3, hp_2p4⟩ := hp_2
    refine zk_ret ?_
    try dsimp only
    exact ⟨by omega, by omega, by omega, by omega, hp_2p4⟩
set_option maxHeartbeats 4000000 in
theorem s_Columns_move (x1 : Int) (x2 : Int) (i_many : Int) (i_heights : Nat → Int) (i_weights : Nat → Int) (b_x1 : 0 ≤ x1 ∧ x1 ≤ 11) (b_x2 : (-1) ≤ x2 ∧ x2 ≤ 12) (b_i_many : 0 ≤ i_many ∧ i_many ≤ 12) (h_i_heights : zR i_heights 0 10) (h_i_weights : zR i_weights 0 30) : zok (f_Columns_move x1 x2 i_many i_heights i_weights) (fun o => zR o.1 0 10 ∧ zR o.2 0 30) := by
  unfold f_Columns_move
  refine zk_d1 (s_Columns_high _ _ _ (by omega) (by omega) h_i_heights) (fun v1 hp => ?_)
  try dsimp only at hp
  obtain ⟨hpp0, hpp1⟩ := hp
  refine zk_ifc (zci_ler (by omega)) (fun hc => ?_) (fun hc => ?_)
  · refine zk_ret ?_
    try dsimp only
    exact ⟨h_i_heights, h_i_weights⟩
  · refine zk_d1 (s_Columns_top _ _ _ _ (by omega) (by omega) h_i_heights h_i_weights) (fun v2 hp_2 => ?_)
    try dsimp only at hp_2
    have hp_2p0 := hp_2
    refine zk_d3 (s_Columns_put _ _ _ _ _ (by omega) (by omega) (by omega) h_i_heights h_i_weights) (fun v3 a4 a5 hp_3 => ?_)
    try dsimp only at hp_3
    obtain ⟨hp_3p0, hp_3p1, hp_3p2, hp_3p3⟩ := hp_3
    refine zk_ifc (zci_eqr (by omega)) (fun hc_2 => ?_) (fun hc_2 => ?_)
    · refine zk_ret ?_
      try dsimp only
      exact ⟨hp_3p1, hp_3p2⟩
    · refine zk_gv (by omega) (by decide) (fun v6 h_v6 => ?_)
      have r_v6 := hp_3p1 (x1.toNat)
      have m_v6 := hp_3p3 x1.toNat
      refine zk_n ?_
      refine zk_sv (by omega) (by decide) (fun a8 h_a8 => ?_)
      have i_a8 : zR a8 0 10 := by rw [h_a8]; exact zR_zu hp_3p1 (by decide) (by decide) (by omega)
      refine zk_ret ?_
      try dsimp only
      exact ⟨i_a8, hp_3p2⟩
set_option maxHeartbeats 4000000 in
theorem s_HS_carry (x1 : Int) (x2 : Int) (x3 : Int) (i_hill_children : Int) (i_hill_laws : Int) (i_hill_inForce : Int) (i_hill_columns_many : Int) (i_hill_strengths : Nat → Int) (i_hill_expelled : Nat → Int) (i_hill_terms : Nat → Int) (i_hill_orders : Nat → Int) (i_hill_ordered : Nat → Int) (i_latestStatus : Int) (i_hill_changes : Int) (i_refusals : Nat → Int) (i_judge_piled : Int) (i_judge_tiring : Int) (i_judge_barred : Int) (i_judge_words : Nat → Int) (i_judge_pile : Nat → Int) (i_hill_columns_heights : Nat → Int) (i_hill_columns_weights : Nat → Int) (b_x1 : (-2147483648) ≤ x1 ∧ x1 ≤ 2147483647) (b_x2 : (-2147483648) ≤ x2 ∧ x2 ≤ 2147483647) (b_x3 : (-2147483648) ≤ x3 ∧ x3 ≤ 2147483647) (b_i_hill_children : 0 ≤ i_hill_children ∧ i_hill_children ≤ 6) (b_i_hill_laws : 0 ≤ i_hill_laws ∧ i_hill_laws ≤ 6) (b_i_hill_inForce : (-1) ≤ i_hill_inForce ∧ i_hill_inForce ≤ 5) (b_i_hill_columns_many : 0 ≤ i_hill_columns_many ∧ i_hill_columns_many ≤ 12) (h_i_hill_strengths : zR i_hill_strengths 0 60) (h_i_hill_expelled : zR i_hill_expelled 0 1) (h_i_hill_terms : zR i_hill_terms 0 99) (h_i_hill_orders : zR i_hill_orders (-2147483648) 2147483647) (h_i_hill_ordered : zR i_hill_ordered 0 424) (b_i_latestStatus : (-6) ≤ i_latestStatus ∧ i_latestStatus ≤ 0) (b_i_judge_piled : 0 ≤ i_judge_piled ∧ i_judge_piled ≤ 32) (b_i_judge_tiring : 0 ≤ i_judge_tiring ∧ i_judge_tiring ≤ 2147483647) (b_i_judge_barred : 0 ≤ i_judge_barred ∧ i_judge_barred ≤ 1) (h_i_judge_words : zR i_judge_words 0 99) (h_i_hill_columns_heights : zR i_hill_columns_heights 0 10) (h_i_hill_columns_weights : zR i_hill_columns_weights 0 30) : zok (f_HS_carry x1 x2 x3 i_hill_children i_hill_laws i_hill_inForce i_hill_columns_many i_hill_strengths i_hill_expelled i_hill_terms i_hill_orders i_hill_ordered i_latestStatus i_hill_changes i_refusals i_judge_piled i_judge_tiring i_judge_barred i_judge_words i_judge_pile i_hill_columns_heights i_hill_columns_weights) (fun o => ((-6) ≤ o.2.1 ∧ o.2.1 ≤ 0) ∧ (0 ≤ o.2.2.2.2.1 ∧ o.2.2.2.2.1 ≤ 32) ∧ (0 ≤ o.2.2.2.2.2.1 ∧ o.2.2.2.2.2.1 ≤ 2147483647) ∧ (0 ≤ o.2.2.2.2.2.2.1 ∧ o.2.2.2.2.2.2.1 ≤ 1) ∧ zR o.2.2.2.2.2.2.2.1 0 99 ∧ zR o.2.2.2.2.2.2.2.2.2.1 0 10 ∧ zR o.2.2.2.2.2.2.2.2.2.2 0 30) := by
  unfold f_HS_carry
  refine zk_d1 (s_HS_knows _ _ _ _ _ (by omega) (by omega) (by omega) (by omega) (by omega)) (fun v1 hp => ?_)
  try dsimp only at hp
  obtain ⟨hpp0, hpp1⟩ := hp
  refine zk_ifc (zci_ner (by omega)) (fun hc => ?_) (fun hc => ?_)
  · refine zk_d6 (s_Judge_effortOn _ _ _ _ _ _ _ _ _ _ _ _ _ _ _ _ _ _ _ (by omega) (by omega) (by omega) (by omega) (by omega) (by omega) (by omega) h_i_hill_columns_heights h_i_hill_columns_weights h_i_hill_strengths h_i_hill_expelled h_i_hill_terms h_i_hill_orders h_i_hill_ordered (by omega) (by omega) (by omega) h_i_judge_words) (fun v2 v3 v4 v5 a6 a7 hp_2 => ?_)
    try dsimp only at hp_2
    obtain ⟨hp_2p0, hp_2p1, hp_2p2, hp_2p3, hp_2p4⟩ := hp_2
    refine zk_ifc (zci_ne (by omega) (by omega)) (fun hc_2 => ?_) (fun hc_2 => ?_)
    · refine zk_d1 (s_Columns_top _ _ _ _ (by omega) (by omega) h_i_hill_columns_heights h_i_hill_columns_weights) (fun v8 hp_3 => ?_)
      try dsimp only at hp_3
      have hp_3p0 := hp_3
      refine zk_d2 (s_Columns_move _ _ _ _ _ (by omega) (by omega) (by omega) h_i_hill_columns_heights h_i_hill_columns_weights) (fun a9 a10 hp_4 => ?_)
      try dsimp only at hp_4
      obtain ⟨hp_4p0, hp_4p1⟩ := hp_4
      refine zk_d3 (s_HS_accept _ _ _ (by omega)) (fun v11 v12 v13 hp_5 => ?_)
      try dsimp only at hp_5
      obtain ⟨hp_5p0, hp_5p1, hp_5p2, hp_5p3⟩ := hp_5
      refine zk_ret ?_
      try dsimp only
      exact ⟨by omega, by omega, by omega, by omega, hp_2p4, hp_4p0, hp_4p1⟩
    · refine zk_d3 (s_HS_refuse _ _ _ (by omega) (by omega)) (fun v14 v15 a16 hp_6 => ?_)
      try dsimp only at hp_6
      obtain ⟨hp_6p0, hp_6p1, hp_6p2, hp_6p3⟩ := hp_6
      refine zk_ret ?_
      try dsimp only
      exact ⟨by omega, by omega, by omega, by omega, hp_2p4, h_i_hill_columns_heights, h_i_hill_columns_weights⟩
  · refine zk_d3 (s_HS_refuse _ _ _ (by omega) (by omega)) (fun v17 v18 a19 hp_7 => ?_)
    try dsimp only at hp_7
    obtain ⟨hp_7p0, hp_7p1, hp_7p2, hp_7p3⟩ := hp_7
    refine zk_ret ?_
    try dsimp only
    exact ⟨by omega, by omega, by omega, by omega, h_i_judge_words, h_i_hill_columns_heights, h_i_hill_columns_weights⟩
set_option maxHeartbeats 4000000 in
theorem s_HS_exchange (x1 : Int) (x2 : Int) (x3 : Int) (x4 : Int) (i_hill_children : Int) (i_hill_laws : Int) (i_hill_inForce : Int) (i_hill_columns_many : Int) (i_hill_strengths : Nat → Int) (i_hill_expelled : Nat → Int) (i_hill_terms : Nat → Int) (i_hill_orders : Nat → Int) (i_hill_ordered : Nat → Int) (i_latestStatus : Int) (i_hill_changes : Int) (i_refusals : Nat → Int) (i_judge_piled : Int) (i_judge_tiring : Int) (i_judge_barred : Int) (i_judge_words : Nat → Int) (i_judge_pile : Nat → Int) (i_hill_columns_heights : Nat → Int) (i_hill_columns_weights : Nat → Int) (b_x1 : (-2147483648) ≤ x1 ∧ x1 ≤ 2147483647) (b_x2 : (-2147483648) ≤ x2 ∧ x2 ≤ 2147483647) (b_x3 : (-2147483648) ≤ x3 ∧ x3 ≤ 2147483647) (b_x4 : (-2147483648) ≤ x4 ∧ x4 ≤ 2147483647) (b_i_hill_children : 0 ≤ i_hill_children ∧ i_hill_children ≤ 6) (b_i_hill_laws : 0 ≤ i_hill_laws ∧ i_hill_laws ≤ 6) (b_i_hill_inForce : (-1) ≤ i_hill_inForce ∧ i_hill_inForce ≤ 5) (b_i_hill_columns_many : 0 ≤ i_hill_columns_many ∧ i_hill_columns_many ≤ 12) (h_i_hill_strengths : zR i_hill_strengths 0 60) (h_i_hill_expelled : zR i_hill_expelled 0 1) (h_i_hill_terms : zR i_hill_terms 0 99) (h_i_hill_orders : zR i_hill_orders (-2147483648) 2147483647) (h_i_hill_ordered : zR i_hill_ordered 0 424) (b_i_latestStatus : (-6) ≤ i_latestStatus ∧ i_latestStatus ≤ 0) (b_i_judge_piled : 0 ≤ i_judge_piled ∧ i_judge_piled ≤ 32) (b_i_judge_tiring : 0 ≤ i_judge_tiring ∧ i_judge_tiring ≤ 2147483647) (b_i_judge_barred : 0 ≤ i_judge_barred ∧ i_judge_barred ≤ 1) (h_i_judge_words : zR i_judge_words 0 99) (h_i_hill_columns_heights : zR i_hill_columns_heights 0 10) (h_i_hill_columns_weights : zR i_hill_columns_weights 0 30) : zok (f_HS_exchange x1 x2 x3 x4 i_hill_children i_hill_laws i_hill_inForce i_hill_columns_many i_hill_strengths i_hill_expelled i_hill_terms i_hill_orders i_hill_ordered i_latestStatus i_hill_changes i_refusals i_judge_piled i_judge_tiring i_judge_barred i_judge_words i_judge_pile i_hill_columns_heights i_hill_columns_weights) (fun o => ((-6) ≤ o.2.1 ∧ o.2.1 ≤ 0) ∧ (0 ≤ o.2.2.2.2.1 ∧ o.2.2.2.2.1 ≤ 32) ∧ (0 ≤ o.2.2.2.2.2.1 ∧ o.2.2.2.2.2.1 ≤ 2147483647) ∧ (0 ≤ o.2.2.2.2.2.2.1 ∧ o.2.2.2.2.2.2.1 ≤ 1) ∧ zR o.2.2.2.2.2.2.2.1 0 99 ∧ zR o.2.2.2.2.2.2.2.2.2.1 0 10 ∧ zR o.2.2.2.2.2.2.2.2.2.2 0 30) := by
  unfold f_HS_exchange
  refine zk_d1 (s_HS_knows _ _ _ _ _ (by omega) (by omega) (by omega) (by omega) (by omega)) (fun v1 hp => ?_)
  try dsimp only at hp
  obtain ⟨hpp0, hpp1⟩ := hp
  refine zk_ifc (zci_eqr (by omega)) (fun hc => ?_) (fun hc => ?_)
  · unfold f_HS_exchange_25
    refine zk_d3 (s_HS_refuse _ _ _ (by omega) (by omega)) (fun v1_2 v2 a3 hp_2 => ?_)
    try dsimp only at hp_2
    obtain ⟨hp_2p0, hp_2p1, hp_2p2, hp_2p3⟩ := hp_2
    refine zk_ret ?_
    try dsimp only
    exact ⟨by omega, by omega, by omega, by omega, h_i_judge_words, h_i_hill_columns_heights, h_i_hill_columns_weights⟩
  · refine zk_d1 (s_Columns_has _ _ (by omega) (by omega)) (fun v2_2 hp_3 => ?_)
    try dsimp only at hp_3
    obtain ⟨hp_3p0, hp_3p1⟩ := hp_3
    refine zk_ifc (zci_ner (by omega)) (fun hc_2 => ?_) (fun hc_2 => ?_)
    · refine zk_d6 (s_Judge_effortOn _ _ _ _ _ _ _ _ _ _ _ _ _ _ _ _ _ _ _ (by omega) (by omega) (by omega) (by omega) (by omega) (by omega) (by omega) h_i_hill_columns_heights h_i_hill_columns_weights h_i_hill_strengths h_i_hill_expelled h_i_hill_terms h_i_hill_orders h_i_hill_ordered (by omega) (by omega) (by omega) h_i_judge_words) (fun v3 v4 v5 v6 a7 a8 hp_4 => ?_)
      try dsimp only at hp_4
      obtain ⟨hp_4p0, hp_4p1, hp_4p2, hp_4p3, hp_4p4⟩ := hp_4
      refine zk_ifc (zci_ne (by omega) (by omega)) (fun hc_3 => ?_) (fun hc_3 => ?_)
      · refine zk_d1 (s_Columns_top _ _ _ _ (by omega) (by omega) h_i_hill_columns_heights h_i_hill_columns_weights) (fun v9 hp_5 => ?_)
        try dsimp only at hp_5
        have hp_5p0 := hp_5
        refine zk_d2 (s_Columns_move _ _ _ _ _ (by omega) (by omega) (by omega) h_i_hill_columns_heights h_i_hill_columns_weights) (fun a10 a11 hp_6 => ?_)
        try dsimp only at hp_6
        obtain ⟨hp_6p0, hp_6p1⟩ := hp_6
        refine zk_d1 (s_Columns_top _ _ _ _ (by omega) (by omega) hp_6p0 hp_6p1) (fun v12 hp_7 => ?_)
        try dsimp only at hp_7
        have hp_7p0 := hp_7
        refine zk_n ?_
        refine zk_nE (fun v14 h_v14 => ?_)
        have r_v14 := zi_abs_f ((v9 - v12)) (by omega); rw [← h_v14] at r_v14
        refine zk_d6 (s_Judge_effortOn _ _ _ _ _ _ _ _ _ _ _ _ _ _ _ _ _ _ _ (by omega) (by omega) (by omega) (by omega) (by omega) (by omega) (by omega) hp_6p0 hp_6p1 h_i_hill_strengths h_i_hill_expelled h_i_hill_terms h_i_hill_orders h_i_hill_ordered (by omega) (by omega) (by omega) hp_4p4) (fun v15 v16 v17 v18 a19 a20 hp_8 => ?_)
        try dsimp only at hp_8
        obtain ⟨hp_8p0, hp_8p1, hp_8p2, hp_8p3, hp_8p4⟩ := hp_8
        refine zk_ifc (zci_eq (by omega) (by omega)) (fun hc_4 => ?_) (fun hc_4 => ?_)
        · unfold f_HS_exchange_141
          refine zk_d2 (s_Columns_move _ _ _ _ _ (by omega) (by omega) (by omega) hp_6p0 hp_6p1) (fun a1 a2 hp_9 => ?_)
          try dsimp only at hp_9
          obtain ⟨hp_9p0, hp_9p1⟩ := hp_9
          refine zk_d3 (s_HS_refuse _ _ _ (by omega) (by omega)) (fun v3_2 v4_2 a5 hp_10 => ?_)
          try dsimp only at hp_10
          obtain ⟨hp_10p0, hp_10p1, hp_10p2, hp_10p3⟩ := hp_10
          refine zk_ret ?_
          try dsimp only
          exact ⟨by omega, by omega, by omega, by omega, hp_8p4, hp_9p0, hp_9p1⟩
        · refine zk_gl 3 rfl (by decide) (by decide) (fun v21 h_v21 => ?_)
          have r_v21 := h_i_hill_terms (3)
          refine zk_ifc (zci_le (by omega) (by omega)) (fun hc_5 => ?_) (fun hc_5 => ?_)
          · refine zk_d2 (s_Columns_move _ _ _ _ _ (by omega) (by omega) (by omega) hp_6p0 hp_6p1) (fun a22 a23 hp_11 => ?_)
            try dsimp only at hp_11
            obtain ⟨hp_11p0, hp_11p1⟩ := hp_11
            refine zk_d3 (s_HS_accept _ _ _ (by omega)) (fun v24 v25 v26 hp_12 => ?_)
            try dsimp only at hp_12
            obtain ⟨hp_12p0, hp_12p1, hp_12p2, hp_12p3⟩ := hp_12
            refine zk_ret ?_
            try dsimp only
            exact ⟨by omega, by omega, by omega, by omega, hp_8p4, hp_11p0, hp_11p1⟩
          · unfold f_HS_exchange_141
            refine zk_d2 (s_Columns_move _ _ _ _ _ (by omega) (by omega) (by omega) hp_6p0 hp_6p1) (fun a1_2 a2_2 hp_13 => ?_)
            try dsimp only at hp_13
            obtain ⟨hp_13p0, hp_13p1⟩ := hp_13
            refine zk_d3 (s_HS_refuse _ _ _ (by omega) (by omega)) (fun v3_3 v4_3 a5_2 hp_14 => ?_)
            try dsimp only at hp_14
            obtain ⟨hp_14p0, hp_14p1, hp_14p2, hp_14p3⟩ := hp_14
            refine zk_ret ?_
            try dsimp only
            exact ⟨by omega, by omega, by omega, by omega, hp_8p4, hp_13p0, hp_13p1⟩
      · refine zk_d3 (s_HS_refuse _ _ _ (by omega) (by omega)) (fun v27 v28 a29 hp_15 => ?_)
        try dsimp only at hp_15
        obtain ⟨hp_15p0, hp_15p1, hp_15p2, hp_15p3⟩ := hp_15
        refine zk_ret ?_
        try dsimp only
        exact ⟨by omega, by omega, by omega, by omega, hp_4p4, h_i_hill_columns_heights, h_i_hill_columns_weights⟩
    · unfold f_HS_exchange_25
      refine zk_d3 (s_HS_refuse _ _ _ (by omega) (by omega)) (fun v1_3 v2_3 a3_2 hp_16 => ?_)
      try dsimp only at hp_16
      obtain ⟨hp_16p0, hp_16p1, hp_16p2, hp_16p3⟩ := hp_16
      refine zk_ret ?_
      try dsimp only
      exact ⟨by omega, by omega, by omega, by omega, h_i_judge_words, h_i_hill_columns_heights, h_i_hill_columns_weights⟩
set_option maxHeartbeats 4000000 in
theorem s_Columns_isSteep (x1 : Int) (x2 : Int) (x3 : Int) (i_many : Int) (i_heights : Nat → Int) (b_x1 : 0 ≤ x1 ∧ x1 ≤ 11) (b_x2 : (-1) ≤ x2 ∧ x2 ≤ 12) (b_x3 : 0 ≤ x3 ∧ x3 ≤ 99) (b_i_many : 0 ≤ i_many ∧ i_many ≤ 12) (h_i_heights : zR i_heights 0 10) : zok (f_Columns_isSteep x1 x2 x3 i_many i_heights) (fun o => (0 ≤ o ∧ o ≤ 1)) := by
  unfold f_Columns_isSteep
  refine zk_d1 (s_Columns_has _ _ (by omega) (by omega)) (fun v1 hp => ?_)
  try dsimp only at hp
  obtain ⟨hpp0, hpp1⟩ := hp
  refine zk_ifc (zci_eqr (by omega)) (fun hc => ?_) (fun hc => ?_)
  · exact zk_ret (by omega)
  · refine zk_d1 (s_Columns_has _ _ (by omega) (by omega)) (fun v2 hp_2 => ?_)
    try dsimp only at hp_2
    obtain ⟨hp_2p0, hp_2p1⟩ := hp_2
    refine zk_ifc (zci_eqr (by omega)) (fun hc_2 => ?_) (fun hc_2 => ?_)
    · exact zk_ret (by omega)
    · refine zk_gv (by omega) (by decide) (fun v3 h_v3 => ?_)
      have r_v3 := h_i_heights (x1.toNat)
      refine zk_gv (by omega) (by decide) (fun v4 h_v4 => ?_)
      have r_v4 := h_i_heights (x2.toNat)
      refine zk_n ?_
      refine zk_ifc (zci_le (by omega) (by omega)) (fun hc_3 => ?_) (fun hc_3 => ?_)
      · exact zk_ret (by omega)
      · exact zk_ret (by omega)
set_option maxHeartbeats 4000000 in
theorem s_Columns_lowestSteep_2 (i_many : Int) (i_heights : Nat → Int) (b_i_many : 0 ≤ i_many ∧ i_many ≤ 12) (h_i_heights : zR i_heights 0 10) : ∀ (n : Nat) (x1 : Int) (x2 : Int), (0 ≤ x1 ∧ x1 ≤ 99) → (0 ≤ x2 ∧ x2 ≤ 12) → (13 - x2) < (n : Int) → zok (f_Columns_lowestSteep_2 i_many i_heights n x1 x2) (fun o => ((-1) ≤ o ∧ o ≤ 11)) := by
  intro n
  induction n with
  | zero => intro x1 x2 b_x1 b_x2 hm; exfalso; omega
  | succ n ih =>
    intro x1 x2 b_x1 b_x2 hm
    show zok (f_Columns_lowestSteep_2_b i_many i_heights (f_Columns_lowestSteep_2 i_many i_heights n) x1 x2) _
    unfold f_Columns_lowestSteep_2_b
    refine zk_ifc (zci_le (by omega) (by omega)) (fun hc => ?_) (fun hc => ?_)
    · exact zk_ret (by omega)
    · refine zk_n ?_
      refine zk_d1 (s_Columns_isSteep _ _ _ _ _ (by omega) (by omega) (by omega) (by omega) h_i_heights) (fun v2 hp => ?_)
      try dsimp only at hp
      have hpp0 := hp
      refine zk_ifc (zci_ner (by omega)) (fun hc_2 => ?_) (fun hc_2 => ?_)
      · exact zk_ret (by omega)
      · refine zk_n ?_
        refine zk_d1 (s_Columns_isSteep _ _ _ _ _ (by omega) (by omega) (by omega) (by omega) h_i_heights) (fun v4 hp_2 => ?_)
        try dsimp only at hp_2
        have hp_2p0 := hp_2
        refine zk_ifc (zci_eqr (by omega)) (fun hc_3 => ?_) (fun hc_3 => ?_)
        · refine zk_n ?_
          exact ih _ _ (by omega) (by omega) (by omega)
        · exact zk_ret (by omega)
end
section
set_option maxHeartbeats 4000000 in
theorem s_Columns_lowestSteep (x1 : Int) (i_many : Int) (i_heights : Nat → Int) (b_x1 : 0 ≤ x1 ∧ x1 ≤ 99) (b_i_many : 0 ≤ i_many ∧ i_many ≤ 12) (h_i_heights : zR i_heights 0 10) : zok (f_Columns_lowestSteep x1 i_many i_heights) (fun o => ((-1) ≤ o ∧ o ≤ 11)) := by
  unfold f_Columns_lowestSteep
  exact s_Columns_lowestSteep_2 _ _ (by omega) h_i_heights zfu _ _ (by omega) (by omega) (by unfold zfu; omega)
set_option maxHeartbeats 4000000 in
theorem s_HS_steep (i_hill_columns_many : Int) (i_hill_terms : Nat → Int) (i_hill_columns_heights : Nat → Int) (b_i_hill_columns_many : 0 ≤ i_hill_columns_many ∧ i_hill_columns_many ≤ 12) (h_i_hill_terms : zR i_hill_terms 0 99) (h_i_hill_columns_heights : zR i_hill_columns_heights 0 10) : zok (f_HS_steep i_hill_columns_many i_hill_terms i_hill_columns_heights) (fun o => ((-1) ≤ o ∧ o ≤ 11)) := by
  unfold f_HS_steep
  refine zk_gl 2 rfl (by decide) (by decide) (fun v1 h_v1 => ?_)
  have r_v1 := h_i_hill_terms (2)
  refine zk_d1 (s_Columns_lowestSteep _ _ _ (by omega) (by omega) h_i_hill_columns_heights) (fun v2 hp => ?_)
  try dsimp only at hp
  have hpp0 := hp
  exact zk_ret (by omega)
set_option maxHeartbeats 4000000 in
theorem s_Columns_settle_2 (i_many : Int) (b_i_many : 0 ≤ i_many ∧ i_many ≤ 12) : ∀ (n : Nat) (x1 : Int) (x2 : Int) (i_heights : Nat → Int) (i_weights : Nat → Int), (0 ≤ x1 ∧ x1 ≤ 99) → (0 ≤ x2 ∧ x2 ≤ 1000) → (zR i_heights 0 10) → (zR i_weights 0 30) → (1001 - x2) < (n : Int) → zok (f_Columns_settle_2 i_many n x1 x2 i_heights i_weights) (fun o => (0 ≤ o.1 ∧ o.1 ≤ 999) ∧ zR o.2.1 0 10 ∧ zR o.2.2 0 30) := by
  intro n
  induction n with
  | zero => intro x1 x2 i_heights i_weights b_x1 b_x2 h_i_heights h_i_weights hm; exfalso; omega
  | succ n ih =>
    intro x1 x2 i_heights i_weights b_x1 b_x2 h_i_heights h_i_weights hm
    show zok (f_Columns_settle_2_b i_many (f_Columns_settle_2 i_many n) x1 x2 i_heights i_weights) _
    unfold f_Columns_settle_2_b
    refine zk_ifc (zci_le (by omega) (by omega)) (fun hc => ?_) (fun hc => ?_)
    · refine zk_ret ?_
      try dsimp only
      exact ⟨by omega, h_i_heights, h_i_weights⟩
    · refine zk_d1 (s_Columns_lowestSteep _ _ _ (by omega) (by omega) h_i_heights) (fun v1 hp => ?_)
      try dsimp only at hp
      have hpp0 := hp
      refine zk_ifc (zci_ne (by omega) (by omega)) (fun hc_2 => ?_) (fun hc_2 => ?_)
      · refine zk_n ?_
        refine zk_d1 (s_Columns_isSteep _ _ _ _ _ (by omega) (by omega) (by omega) (by omega) h_i_heights) (fun v3 hp_2 => ?_)
        try dsimp only at hp_2
        have hp_2p0 := hp_2
        refine zk_ifc (zci_eqr (by omega)) (fun hc_3 => ?_) (fun hc_3 => ?_)
        · refine zk_n ?_
          unfold f_Columns_settle_45
          refine zk_d2 (s_Columns_move _ _ _ _ _ (by omega) (by omega) (by omega) h_i_heights h_i_weights) (fun a1 a2 hp_3 => ?_)
          try dsimp only at hp_3
          obtain ⟨hp_3p0, hp_3p1⟩ := hp_3
          refine zk_n ?_
          exact ih _ _ _ _ (by omega) (by omega) hp_3p0 hp_3p1 (by omega)
        · refine zk_n ?_
          unfold f_Columns_settle_45
          refine zk_d2 (s_Columns_move _ _ _ _ _ (by omega) (by omega) (by omega) h_i_heights h_i_weights) (fun a1_2 a2_2 hp_4 => ?_)
          try dsimp only at hp_4
          obtain ⟨hp_4p0, hp_4p1⟩ := hp_4
          refine zk_n ?_
          exact ih _ _ _ _ (by omega) (by omega) hp_4p0 hp_4p1 (by omega)
      · refine zk_ret ?_
        try dsimp only
        exact ⟨by omega, h_i_heights, h_i_weights⟩
set_option maxHeartbeats 4000000 in
theorem s_Columns_settle (x1 : Int) (i_many : Int) (i_heights : Nat → Int) (i_weights : Nat → Int) (b_x1 : 0 ≤ x1 ∧ x1 ≤ 99) (b_i_many : 0 ≤ i_many ∧ i_many ≤ 12) (h_i_heights : zR i_heights 0 10) (h_i_weights : zR i_weights 0 30) : zok (f_Columns_settle x1 i_many i_heights i_weights) (fun o => (0 ≤ o.1 ∧ o.1 ≤ 999) ∧ zR o.2.1 0 10 ∧ zR o.2.2 0 30) := by
  unfold f_Columns_settle
  exact s_Columns_settle_2 _ (by omega) zfu _ _ _ _ (by omega) (by omega) h_i_heights h_i_weights (by unfold zfu; omega)
set_option maxHeartbeats 4000000 in
theorem s_HS_slide (i_hill_columns_many : Int) (i_hill_terms : Nat → Int) (i_hill_changes : Int) (i_hill_columns_heights : Nat → Int) (i_hill_columns_weights : Nat → Int) (b_i_hill_columns_many : 0 ≤ i_hill_columns_many ∧ i_hill_columns_many ≤ 12) (h_i_hill_terms : zR i_hill_terms 0 99) (h_i_hill_columns_heights : zR i_hill_columns_heights 0 10) (h_i_hill_columns_weights : zR i_hill_columns_weights 0 30) : zok (f_HS_slide i_hill_columns_many i_hill_terms i_hill_changes i_hill_columns_heights i_hill_columns_weights) (fun o => (0 ≤ o.1 ∧ o.1 ≤ 999) ∧ zR o.2.2.1 0 10 ∧ zR o.2.2.2 0 30) := by
  unfold f_HS_slide
  refine zk_n ?_
  refine zk_gl 2 rfl (by decide) (by decide) (fun v2 h_v2 => ?_)
  have r_v2 := h_i_hill_terms (2)
  refine zk_d3 (s_Columns_settle _ _ _ _ (by omega) (by omega) h_i_hill_columns_heights h_i_hill_columns_weights) (fun v3 a4 a5 hp => ?_)
  try dsimp only at hp
  obtain ⟨hpp0, hpp1, hpp2⟩ := hp
  refine zk_ret ?_
  try dsimp only
  exact ⟨by omega, hpp1, hpp2⟩
set_option maxHeartbeats 4000000 in
theorem s_Hill_hasParish (x1 : Int) (i_parishes : Int) (b_x1 : (-2147483648) ≤ x1 ∧ x1 ≤ 2147483647) (b_i_parishes : 0 ≤ i_parishes ∧ i_parishes ≤ 6) : zok (f_Hill_hasParish x1 i_parishes) (fun o => (0 ≤ o ∧ o ≤ 1) ∧ ((x1 < 0 ∧ o = 0) ∨ (x1 ≥ 0 ∧ i_parishes ≤ x1 ∧ o = 0) ∨ (x1 ≥ 0 ∧ i_parishes > x1 ∧ o = 1))) := by
  unfold f_Hill_hasParish
  refine zk_ifc (zci_ltr (by omega)) (fun hc => ?_) (fun hc => ?_)
  · exact zk_ret ⟨by omega, by first | exact Or.inl (by omega) | exact Or.inr (Or.inl (by omega)) | exact Or.inr (Or.inr ((by omega)))⟩
  · refine zk_ifc (zci_le (by omega) (by omega)) (fun hc_2 => ?_) (fun hc_2 => ?_)
    · exact zk_ret ⟨by omega, by first | exact Or.inl (by omega) | exact Or.inr (Or.inl (by omega)) | exact Or.inr (Or.inr ((by omega)))⟩
    · exact zk_ret ⟨by omega, by first | exact Or.inl (by omega) | exact Or.inr (Or.inl (by omega)) | exact Or.inr (Or.inr ((by omega)))⟩
set_option maxHeartbeats 4000000 in
theorem s_Columns_shadeAt_5 (i_many : Int) (i_heights : Nat → Int) (b_i_many : 0 ≤ i_many ∧ i_many ≤ 12) (h_i_heights : zR i_heights 0 10) : ∀ (n : Nat) (x1 : Int) (x2 : Int) (x3 : Int) (x4 : Int), (0 ≤ x1 ∧ x1 ≤ 11) → (0 ≤ x2 ∧ x2 ≤ 99) → (0 ≤ x3 ∧ x3 ≤ 10) → (0 ≤ x4 ∧ x4 ≤ 12) → (13 - x4) < (n : Int) → zok (f_Columns_shadeAt_5 i_many i_heights n x1 x2 x3 x4) (fun o => (0 ≤ o ∧ o ≤ 10)) := by
  intro n
  induction n with
  | zero => intro x1 x2 x3 x4 b_x1 b_x2 b_x3 b_x4 hm; exfalso; omega
  | succ n ih =>
    intro x1 x2 x3 x4 b_x1 b_x2 b_x3 b_x4 hm
    show zok (f_Columns_shadeAt_5_b i_many i_heights (f_Columns_shadeAt_5 i_many i_heights n) x1 x2 x3 x4) _
    unfold f_Columns_shadeAt_5_b
    refine zk_ifc (zci_le (by omega) (by omega)) (fun hc => ?_) (fun hc => ?_)
    · exact zk_ret (by omega)
    · refine zk_gv (by omega) (by decide) (fun v1 h_v1 => ?_)
      have r_v1 := h_i_heights (x4.toNat)
      refine zk_n ?_
      refine zk_nE (fun v3 h_v3 => ?_)
      have r_v3 := zi_abs_f ((x4 - x1)) (by omega); rw [← h_v3] at r_v3
      refine zk_nE (fun v4 h_v4 => ?_)
      have r_v4 := zmulb (a := x2) (b := v3) 99 11 (by omega) (by omega); rw [← h_v4] at r_v4
      refine zk_n ?_
      refine zk_nE (fun v6 h_v6 => ?_)
      have r_v6 := zi_max_f (x3) (by omega) ((v1 - v4)) (by omega); rw [← h_v6] at r_v6
      refine zk_n ?_
      exact ih _ _ _ _ (by omega) (by omega) (by omega) (by omega) (by omega)
set_option maxHeartbeats 4000000 in
theorem s_Columns_shadeAt (x1 : Int) (x2 : Int) (i_many : Int) (i_heights : Nat → Int) (b_x1 : 0 ≤ x1 ∧ x1 ≤ 11) (b_x2 : 0 ≤ x2 ∧ x2 ≤ 99) (b_i_many : 0 ≤ i_many ∧ i_many ≤ 12) (h_i_heights : zR i_heights 0 10) : zok (f_Columns_shadeAt x1 x2 i_many i_heights) (fun o => (0 ≤ o ∧ o ≤ 10)) := by
  unfold f_Columns_shadeAt
  exact s_Columns_shadeAt_5 _ _ (by omega) h_i_heights zfu _ _ _ _ (by omega) (by omega) (by omega) (by omega) (by unfold zfu; omega)
set_option maxHeartbeats 4000000 in
theorem s_Hill_shadeOf (x2 : Int) (i_parishes : Int) (i_a1_many : Int) (i_places : Nat → Int) (i_terms : Nat → Int) (i_a1_heights : Nat → Int) (b_x2 : 0 ≤ x2 ∧ x2 ≤ 5) (b_i_parishes : 1 ≤ i_parishes ∧ i_parishes ≤ 6) (b_i_a1_many : 0 ≤ i_a1_many ∧ i_a1_many ≤ 12) (h_i_places : zR i_places 0 11) (h_i_terms : zR i_terms 0 99) (h_i_a1_heights : zR i_a1_heights 0 10) : zok (f_Hill_shadeOf x2 i_parishes i_a1_many i_places i_terms i_a1_heights) (fun o => (0 ≤ o ∧ o ≤ 10)) := by
  unfold f_Hill_shadeOf
  refine zk_d1 (s_Hill_hasParish _ _ (by omega) (by omega)) (fun v1 hp => ?_)
  try dsimp only at hp
  obtain ⟨hpp0, hpp1⟩ := hp
  refine zk_ifc (zci_eqr (by omega)) (fun hc => ?_) (fun hc => ?_)
  · exact zk_ret (by omega)
  · refine zk_gv (by omega) (by decide) (fun v2 h_v2 => ?_)
    have r_v2 := h_i_places (x2.toNat)
    refine zk_gl 1 rfl (by decide) (by decide) (fun v3 h_v3 => ?_)
    have r_v3 := h_i_terms (1)
    refine zk_d1 (s_Columns_shadeAt _ _ _ _ (by omega) (by omega) (by omega) h_i_a1_heights) (fun v4 hp_2 => ?_)
    try dsimp only at hp_2
    have hp_2p0 := hp_2
    exact zk_ret (by omega)
set_option maxHeartbeats 4000000 in
theorem s_Hill_shades_4 (i_parishes : Int) (i_a1_many : Int) (i_places : Nat → Int) (i_terms : Nat → Int) (i_a1_heights : Nat → Int) (b_i_parishes : 0 ≤ i_parishes ∧ i_parishes ≤ 6) (b_i_a1_many : 0 ≤ i_a1_many ∧ i_a1_many ≤ 12) (h_i_places : zR i_places 0 11) (h_i_terms : zR i_terms 0 99) (h_i_a1_heights : zR i_a1_heights 0 10) : ∀ (n : Nat) (x2 : Int) (x3 : Int), (0 ≤ x3 ∧ x3 ≤ 6) → (7 - x3) < (n : Int) → zok (f_Hill_shades_4 i_parishes i_a1_many i_places i_terms i_a1_heights n x2 x3) (fun o => True) := by
  intro n
  induction n with
  | zero => intro x2 x3 b_x3 hm; exfalso; omega
  | succ n ih =>
    intro x2 x3 b_x3 hm
    show zok (f_Hill_shades_4_b i_parishes i_a1_many i_places i_terms i_a1_heights (f_Hill_shades_4 i_parishes i_a1_many i_places i_terms i_a1_heights n) x2 x3) _
    unfold f_Hill_shades_4_b
    refine zk_ifc (zci_le (by omega) (by omega)) (fun hc => ?_) (fun hc => ?_)
    · exact zk_ret trivial
    · refine zk_d1 (s_Hill_shadeOf _ _ _ _ _ _ (by omega) (by omega) (by omega) h_i_places h_i_terms h_i_a1_heights) (fun v1 hp => ?_)
      try dsimp only at hp
      have hpp0 := hp
      refine zk_n ?_
      refine zk_n ?_
      exact ih _ _ (by omega) (by omega)
set_option maxHeartbeats 4000000 in
theorem s_Hill_shades (i_parishes : Int) (i_a1_many : Int) (i_places : Nat → Int) (i_terms : Nat → Int) (i_a1_heights : Nat → Int) (b_i_parishes : 0 ≤ i_parishes ∧ i_parishes ≤ 6) (b_i_a1_many : 0 ≤ i_a1_many ∧ i_a1_many ≤ 12) (h_i_places : zR i_places 0 11) (h_i_terms : zR i_terms 0 99) (h_i_a1_heights : zR i_a1_heights 0 10) : zok (f_Hill_shades i_parishes i_a1_many i_places i_terms i_a1_heights) (fun o => True) := by
  unfold f_Hill_shades
  exact s_Hill_shades_4 _ _ _ _ _ (by omega) (by omega) h_i_places h_i_terms h_i_a1_heights zfu _ _ (by omega) (by unfold zfu; omega)
set_option maxHeartbeats 4000000 in
theorem s_HS_shade (x1 : Int) (i_hill_parishes : Int) (i_hill_columns_many : Int) (i_hill_places : Nat → Int) (i_hill_terms : Nat → Int) (i_hill_columns_heights : Nat → Int) (b_x1 : (-2147483648) ≤ x1 ∧ x1 ≤ 2147483647) (b_i_hill_parishes : 0 ≤ i_hill_parishes ∧ i_hill_parishes ≤ 6) (b_i_hill_columns_many : 0 ≤ i_hill_columns_many ∧ i_hill_columns_many ≤ 12) (h_i_hill_places : zR i_hill_places 0 11) (h_i_hill_terms : zR i_hill_terms 0 99) (h_i_hill_columns_heights : zR i_hill_columns_heights 0 10) : zok (f_HS_shade x1 i_hill_parishes i_hill_columns_many i_hill_places i_hill_terms i_hill_columns_heights) (fun o => True) := by
  unfold f_HS_shade
  refine zk_ifc (zci_ne (by omega) (by omega)) (fun hc => ?_) (fun hc => ?_)
  · refine zk_d1 (s_Hill_hasParish _ _ (by omega) (by omega)) (fun v1 hp => ?_)
    try dsimp only at hp
    obtain ⟨hpp0, hpp1⟩ := hp
    refine zk_ifc (zci_eqr (by omega)) (fun hc_2 => ?_) (fun hc_2 => ?_)
    · exact zk_ret trivial
    · refine zk_d1 (s_Hill_shadeOf _ _ _ _ _ _ (by omega) (by omega) (by omega) h_i_hill_places h_i_hill_terms h_i_hill_columns_heights) (fun v2 hp_2 => ?_)
      try dsimp only at hp_2
      have hp_2p0 := hp_2
      exact zk_ret trivial
  · refine zk_d1 (s_Hill_shades _ _ _ _ _ (by omega) (by omega) h_i_hill_places h_i_hill_terms h_i_hill_columns_heights) (fun v3 hp_3 => ?_)
    exact zk_ret trivial
set_option maxHeartbeats 4000000 in
theorem s_HS_gains (x1 : Int) (x2 : Int) (x3 : Int) (x4 : Int) (i_hill_children : Int) (i_hill_parishes : Int) (i_hill_laws : Int) (i_hill_inForce : Int) (i_hill_columns_many : Int) (i_hill_strengths : Nat → Int) (i_hill_expelled : Nat → Int) (i_hill_places : Nat → Int) (i_hill_terms : Nat → Int) (i_hill_orders : Nat → Int) (i_hill_ordered : Nat → Int) (i_judge_piled : Int) (i_judge_tiring : Int) (i_judge_barred : Int) (i_judge_words : Nat → Int) (i_judge_pile : Nat → Int) (i_hill_columns_heights : Nat → Int) (i_hill_columns_weights : Nat → Int) (b_x1 : (-2147483648) ≤ x1 ∧ x1 ≤ 2147483647) (b_x2 : (-2147483648) ≤ x2 ∧ x2 ≤ 2147483647) (b_x3 : (-2147483648) ≤ x3 ∧ x3 ≤ 2147483647) (b_x4 : (-2147483648) ≤ x4 ∧ x4 ≤ 2147483647) (b_i_hill_children : 0 ≤ i_hill_children ∧ i_hill_children ≤ 6) (b_i_hill_parishes : 0 ≤ i_hill_parishes ∧ i_hill_parishes ≤ 6) (b_i_hill_laws : 0 ≤ i_hill_laws ∧ i_hill_laws ≤ 6) (b_i_hill_inForce : (-1) ≤ i_hill_inForce ∧ i_hill_inForce ≤ 5) (b_i_hill_columns_many : 0 ≤ i_hill_columns_many ∧ i_hill_columns_many ≤ 12) (h_i_hill_strengths : zR i_hill_strengths 0 60) (h_i_hill_expelled : zR i_hill_expelled 0 1) (h_i_hill_places : zR i_hill_places 0 11) (h_i_hill_terms : zR i_hill_terms 0 99) (h_i_hill_orders : zR i_hill_orders (-2147483648) 2147483647) (h_i_hill_ordered : zR i_hill_ordered 0 424) (b_i_judge_piled : 0 ≤ i_judge_piled ∧ i_judge_piled ≤ 32) (b_i_judge_tiring : 0 ≤ i_judge_tiring ∧ i_judge_tiring ≤ 2147483647) (b_i_judge_barred : 0 ≤ i_judge_barred ∧ i_judge_barred ≤ 1) (h_i_judge_words : zR i_judge_words 0 99) (h_i_hill_columns_heights : zR i_hill_columns_heights 0 10) (h_i_hill_columns_weights : zR i_hill_columns_weights 0 30) : zok (f_HS_gains x1 x2 x3 x4 i_hill_children i_hill_parishes i_hill_laws i_hill_inForce i_hill_columns_many i_hill_strengths i_hill_expelled i_hill_places i_hill_terms i_hill_orders i_hill_ordered i_judge_piled i_judge_tiring i_judge_barred i_judge_words i_judge_pile i_hill_columns_heights i_hill_columns_weights) (fun o => ((-1000) ≤ o.1 ∧ o.1 ≤ 10) ∧ (0 ≤ o.2.1 ∧ o.2.1 ≤ 32) ∧ (0 ≤ o.2.2.1 ∧ o.2.2.1 ≤ 2147483647) ∧ (0 ≤ o.2.2.2.1 ∧ o.2.2.2.1 ≤ 1) ∧ zR o.2.2.2.2.1 0 99 ∧ zR o.2.2.2.2.2.2.1 0 10 ∧ zR o.2.2.2.2.2.2.2 0 30) := by
  unfold f_HS_gains
  refine zk_d1 (s_Hill_hasParish _ _ (by omega) (by omega)) (fun v1 hp => ?_)
  try dsimp only at hp
  obtain ⟨hpp0, hpp1⟩ := hp
  refine zk_ifc (zci_eqr (by omega)) (fun hc => ?_) (fun hc => ?_)
  · refine zk_ret ?_
    try dsimp only
    exact ⟨by omega, by omega, by omega, by omega, h_i_judge_words, h_i_hill_columns_heights, h_i_hill_columns_weights⟩
  · refine zk_d1 (s_HS_knows _ _ _ _ _ (by omega) (by omega) (by omega) (by omega) (by omega)) (fun v2 hp_2 => ?_)
    try dsimp only at hp_2
    obtain ⟨hp_2p0, hp_2p1⟩ := hp_2
    refine zk_ifc (zci_eqr (by omega)) (fun hc_2 => ?_) (fun hc_2 => ?_)
    · refine zk_ret ?_
      try dsimp only
      exact ⟨by omega, by omega, by omega, by omega, h_i_judge_words, h_i_hill_columns_heights, h_i_hill_columns_weights⟩
    · refine zk_d6 (s_Judge_effortOn _ _ _ _ _ _ _ _ _ _ _ _ _ _ _ _ _ _ _ (by omega) (by omega) (by omega) (by omega) (by omega) (by omega) (by omega) h_i_hill_columns_heights h_i_hill_columns_weights h_i_hill_strengths h_i_hill_expelled h_i_hill_terms h_i_hill_orders h_i_hill_ordered (by omega) (by omega) (by omega) h_i_judge_words) (fun v3 v4 v5 v6 a7 a8 hp_3 => ?_)
      try dsimp only at hp_3
      obtain ⟨hp_3p0, hp_3p1, hp_3p2, hp_3p3, hp_3p4⟩ := hp_3
      refine zk_ifc (zci_ne (by omega) (by omega)) (fun hc_3 => ?_) (fun hc_3 => ?_)
      · refine zk_d1 (s_Hill_shadeOf _ _ _ _ _ _ (by omega) (by omega) (by omega) h_i_hill_places h_i_hill_terms h_i_hill_columns_heights) (fun v9 hp_4 => ?_)
        try dsimp only at hp_4
        have hp_4p0 := hp_4
        refine zk_d2 (s_Columns_move _ _ _ _ _ (by omega) (by omega) (by omega) h_i_hill_columns_heights h_i_hill_columns_weights) (fun a10 a11 hp_5 => ?_)
        try dsimp only at hp_5
        obtain ⟨hp_5p0, hp_5p1⟩ := hp_5
        refine zk_d1 (s_Hill_shadeOf _ _ _ _ _ _ (by omega) (by omega) (by omega) h_i_hill_places h_i_hill_terms hp_5p0) (fun v12 hp_6 => ?_)
        try dsimp only at hp_6
        have hp_6p0 := hp_6
        refine zk_d2 (s_Columns_move _ _ _ _ _ (by omega) (by omega) (by omega) hp_5p0 hp_5p1) (fun a13 a14 hp_7 => ?_)
        try dsimp only at hp_7
        obtain ⟨hp_7p0, hp_7p1⟩ := hp_7
        refine zk_n ?_
        refine zk_ret ?_
        try dsimp only
        exact ⟨by omega, by omega, by omega, by omega, hp_3p4, hp_7p0, hp_7p1⟩
      · refine zk_ret ?_
        try dsimp only
        exact ⟨by omega, by omega, by omega, by omega, hp_3p4, h_i_hill_columns_heights, h_i_hill_columns_weights⟩
set_option maxHeartbeats 4000000 in
theorem s_HS_goal (x1 : Int) (x2 : Int) (i_hill_columns_many : Int) (i_latestStatus : Int) (i_hill_changes : Int) (i_refusals : Nat → Int) (i_hill_goals : Nat → Int) (b_x1 : (-2147483648) ≤ x1 ∧ x1 ≤ 2147483647) (b_x2 : (-2147483648) ≤ x2 ∧ x2 ≤ 2147483647) (b_i_hill_columns_many : 0 ≤ i_hill_columns_many ∧ i_hill_columns_many ≤ 12) (b_i_latestStatus : (-6) ≤ i_latestStatus ∧ i_latestStatus ≤ 0) (h_i_hill_goals : zR i_hill_goals (-1) 10) : zok (f_HS_goal x1 x2 i_hill_columns_many i_latestStatus i_hill_changes i_refusals i_hill_goals) (fun o => ((-6) ≤ o.2.1 ∧ o.2.1 ≤ 0) ∧ zR o.2.2.2.2 (-1) 10) := by
  unfold f_HS_goal
  refine zk_ifc (zci_lt (by omega) (by omega)) (fun hc => ?_) (fun hc => ?_)
  · unfold f_HS_goal_11
    refine zk_d3 (s_HS_refuse _ _ _ (by omega) (by omega)) (fun v1 v2 a3 hp => ?_)
    try dsimp only at hp
    obtain ⟨hpp0, hpp1, hpp2, hpp3⟩ := hp
    refine zk_ret ?_
    try dsimp only
    exact ⟨by omega, h_i_hill_goals⟩
  · refine zk_ifc (zci_le (by omega) (by omega)) (fun hc_2 => ?_) (fun hc_2 => ?_)
    · refine zk_d1 (s_Columns_has _ _ (by omega) (by omega)) (fun v1_2 hp_2 => ?_)
      try dsimp only at hp_2
      obtain ⟨hp_2p0, hp_2p1⟩ := hp_2
      refine zk_ifc (zci_ner (by omega)) (fun hc_3 => ?_) (fun hc_3 => ?_)
      · refine zk_gv (by omega) (by decide) (fun v2_2 h_v2_2 => ?_)
        have r_v2_2 := h_i_hill_goals (x1.toNat)
        refine zk_sv (by omega) (by decide) (fun a3_2 h_a3_2 => ?_)
        have i_a3_2 : zR a3_2 (-1) 10 := by rw [h_a3_2]; exact zR_zu h_i_hill_goals (by decide) (by decide) (by omega)
        refine zk_d3 (s_HS_accept _ _ _ (by omega)) (fun v4 v5 v6 hp_3 => ?_)
        try dsimp only at hp_3
        obtain ⟨hp_3p0, hp_3p1, hp_3p2, hp_3p3⟩ := hp_3
        refine zk_ret ?_
        try dsimp only
        exact ⟨by omega, i_a3_2⟩
      · refine zk_d3 (s_HS_refuse _ _ _ (by omega) (by omega)) (fun v7 v8 a9 hp_4 => ?_)
        try dsimp only at hp_4
        obtain ⟨hp_4p0, hp_4p1, hp_4p2, hp_4p3⟩ := hp_4
        refine zk_ret ?_
        try dsimp only
        exact ⟨by omega, h_i_hill_goals⟩
    · unfold f_HS_goal_11
      refine zk_d3 (s_HS_refuse _ _ _ (by omega) (by omega)) (fun v1_3 v2_3 a3_3 hp_5 => ?_)
      try dsimp only at hp_5
      obtain ⟨hp_5p0, hp_5p1, hp_5p2, hp_5p3⟩ := hp_5
      refine zk_ret ?_
      try dsimp only
      exact ⟨by omega, h_i_hill_goals⟩
set_option maxHeartbeats 4000000 in
theorem s_Planner_write_56 (i_costs : Nat → Int) (i_before : Nat → Int) (i_by : Nat → Int) (h_i_before : zR i_before (-1) 6719) (h_i_by : zR i_by 0 150) : ∀ (n : Nat) (x3 : Int) (x4 : Int) (i_a1_length : Int) (i_a1_tiring : Int) (i_a1_row : Nat → Int), ((-1) ≤ x3 ∧ x3 ≤ 6719) → ((-1000000000) ≤ x4 ∧ x4 ≤ 8190) → ((-1000000000) ≤ i_a1_length ∧ i_a1_length ≤ 8191) → ((-9223372036854775808) ≤ i_a1_tiring ∧ i_a1_tiring ≤ 9223372036854775807) → (zR i_a1_row 0 150) → (x4 - (-1000000001)) < (n : Int) → zok (f_Planner_write_56 i_costs i_before i_by n x3 x4 i_a1_length i_a1_tiring i_a1_row) (fun o => ((-1000000000) ≤ o.1 ∧ o.1 ≤ 8191) ∧ ((-9223372036854775808) ≤ o.2.1 ∧ o.2.1 ≤ 9223372036854775807) ∧ zR o.2.2 0 150) := by
  intro n
  induction n with
  | zero => intro x3 x4 i_a1_length i_a1_tiring i_a1_row b_x3 b_x4 b_i_a1_length b_i_a1_tiring h_i_a1_row hm; exfalso; omega
  | succ n ih =>
    intro x3 x4 i_a1_length i_a1_tiring i_a1_row b_x3 b_x4 b_i_a1_length b_i_a1_tiring h_i_a1_row hm
    show zok (f_Planner_write_56_b i_costs i_before i_by (f_Planner_write_56 i_costs i_before i_by n) x3 x4 i_a1_length i_a1_tiring i_a1_row) _
    unfold f_Planner_write_56_b
    refine zk_ifc (zci_ltr (by omega)) (fun hc => ?_) (fun hc => ?_)
    · refine zk_ret ?_
      try dsimp only
      exact ⟨by omega, by omega, h_i_a1_row⟩
    · refine zk_ifc (zci_le (by omega) (by omega)) (fun hc_2 => ?_) (fun hc_2 => ?_)
      · refine zk_ret ?_
        try dsimp only
        exact ⟨by omega, by omega, h_i_a1_row⟩
      · refine zk_ifc (zci_ltr (by omega)) (fun hc_3 => ?_) (fun hc_3 => ?_)
        · refine zk_ret ?_
          try dsimp only
          exact ⟨by omega, by omega, h_i_a1_row⟩
        · refine zk_gv (by omega) (by decide) (fun v1 h_v1 => ?_)
          have r_v1 := h_i_by (x3.toNat)
          refine zk_sv (by omega) (by decide) (fun a2 h_a2 => ?_)
          have i_a2 : zR a2 0 150 := by rw [h_a2]; exact zR_zu h_i_a1_row (by decide) (by decide) (by omega)
          refine zk_gv (by omega) (by decide) (fun v3 h_v3 => ?_)
          have r_v3 := h_i_before (x3.toNat)
          refine zk_n ?_
          exact ih _ _ _ _ _ (by omega) (by omega) (by omega) (by omega) i_a2 (by omega)
set_option maxHeartbeats 4000000 in
theorem s_Planner_write (x2 : Int) (i_costs : Nat → Int) (i_before : Nat → Int) (i_by : Nat → Int) (i_a1_length : Int) (i_a1_tiring : Int) (i_a1_row : Nat → Int) (b_x2 : (-1) ≤ x2 ∧ x2 ≤ 6719) (h_i_before : zR i_before (-1) 6719) (h_i_by : zR i_by 0 150) (b_i_a1_length : (-1000000000) ≤ i_a1_length ∧ i_a1_length ≤ 8191) (b_i_a1_tiring : (-9223372036854775808) ≤ i_a1_tiring ∧ i_a1_tiring ≤ 9223372036854775807) (h_i_a1_row : zR i_a1_row 0 150) : zok (f_Planner_write x2 i_costs i_before i_by i_a1_length i_a1_tiring i_a1_row) (fun o => ((-1000000000) ≤ o.1 ∧ o.1 ≤ 8191) ∧ ((-9223372036854775808) ≤ o.2.1 ∧ o.2.1 ≤ 9223372036854775807) ∧ zR o.2.2 0 150) := by
  unfold f_Planner_write
  refine zk_ifc (zci_ne (by omega) (by omega)) (fun hc => ?_) (fun hc => ?_)
  · refine zk_gv (by omega) (by decide) (fun v1 h_v1 => ?_)
    refine zk_g0zl_w (by omega) ?_
    refine zk_nE (fun v2 h_v2 => ?_)
    have r_v2 := zl_rem_g v1 (y := 8192) (by omega); rw [← h_v2] at r_v2
    refine zk_gv (by omega) (by decide) (fun v3 h_v3 => ?_)
    refine zk_g0zl_w (by omega) ?_
    refine zk_nE (fun v4 h_v4 => ?_)
    have r_v4 := zl_div_f v3 8192; rw [← h_v4] at r_v4
    refine zk_n ?_
    exact s_Planner_write_56 _ _ _ h_i_before h_i_by zfu _ _ _ _ _ (by omega) (by omega) (by omega) (by omega) h_i_a1_row (by unfold zfu; omega)
  · refine zk_ret ?_
    try dsimp only
    exact ⟨by omega, by omega, h_i_a1_row⟩
set_option maxHeartbeats 4000000 in
theorem s_Columns_stones_4 (i_many : Int) (i_heights : Nat → Int) (b_i_many : 0 ≤ i_many ∧ i_many ≤ 12) (h_i_heights : zR i_heights 0 10) : ∀ (n : Nat) (x1 : Int) (x2 : Int), (0 ≤ x2 ∧ x2 ≤ 12) → (13 - x2) < (n : Int) → zok (f_Columns_stones_4 i_many i_heights n x1 x2) (fun o => True) := by
  intro n
  induction n with
  | zero => intro x1 x2 b_x2 hm; exfalso; omega
  | succ n ih =>
    intro x1 x2 b_x2 hm
    show zok (f_Columns_stones_4_b i_many i_heights (f_Columns_stones_4 i_many i_heights n) x1 x2) _
    unfold f_Columns_stones_4_b
    refine zk_ifc (zci_le (by omega) (by omega)) (fun hc => ?_) (fun hc => ?_)
    · exact zk_ret trivial
    · refine zk_gv (by omega) (by decide) (fun v1 h_v1 => ?_)
      have r_v1 := h_i_heights (x2.toNat)
      refine zk_n ?_
      refine zk_n ?_
      exact ih _ _ (by omega) (by omega)
set_option maxHeartbeats 4000000 in
theorem s_Columns_stones (i_many : Int) (i_heights : Nat → Int) (b_i_many : 0 ≤ i_many ∧ i_many ≤ 12) (h_i_heights : zR i_heights 0 10) : zok (f_Columns_stones i_many i_heights) (fun o => True) := by
  unfold f_Columns_stones
  exact s_Columns_stones_4 _ _ (by omega) h_i_heights zfu _ _ (by omega) (by unfold zfu; omega)
set_option maxHeartbeats 4000000 in
theorem s_Planner_goalsFit_6 (i_hill_columns_many : Int) (i_hill_goals : Nat → Int) (i_hill_columns_heights : Nat → Int) (b_i_hill_columns_many : 0 ≤ i_hill_columns_many ∧ i_hill_columns_many ≤ 12) (h_i_hill_goals : zR i_hill_goals (-1) 10) (h_i_hill_columns_heights : zR i_hill_columns_heights 0 10) : ∀ (n : Nat) (x1 : Int) (x2 : Int) (x3 : Int), (0 ≤ x2 ∧ x2 ≤ 1) → (0 ≤ x3 ∧ x3 ≤ 12) → (13 - x3) < (n : Int) → zok (f_Planner_goalsFit_6 i_hill_columns_many i_hill_goals i_hill_columns_heights n x1 x2 x3) (fun o => (0 ≤ o ∧ o ≤ 1)) := by
  intro n
  induction n with
  | zero => intro x1 x2 x3 b_x2 b_x3 hm; exfalso; omega
  | succ n ih =>
    intro x1 x2 x3 b_x2 b_x3 hm
    show zok (f_Planner_goalsFit_6_b i_hill_columns_many i_hill_goals i_hill_columns_heights (f_Planner_goalsFit_6 i_hill_columns_many i_hill_goals i_hill_columns_heights n) x1 x2 x3) _
    unfold f_Planner_goalsFit_6_b
    refine zk_ifc (zci_le (by omega) (by omega)) (fun hc => ?_) (fun hc => ?_)
    · refine zk_d1 (s_Columns_stones _ _ (by omega) h_i_hill_columns_heights) (fun v1 hp => ?_)
      refine zk_if (fun hc_2 => ?_) (fun hc_2 => ?_)
      · exact zk_ret (by omega)
      · refine zk_if (fun hc_3 => ?_) (fun hc_3 => ?_)
        · exact zk_ret (by omega)
        · refine zk_ifc (zci_ner (by omega)) (fun hc_4 => ?_) (fun hc_4 => ?_)
          · exact zk_ret (by omega)
          · exact zk_ret (by omega)
    · refine zk_gv (by omega) (by decide) (fun v2 h_v2 => ?_)
      have r_v2 := h_i_hill_goals (x3.toNat)
      refine zk_nE (fun v3 h_v3 => ?_)
      have r_v3 := zi_max_f (0) (by omega) (v2) (by omega); rw [← h_v3] at r_v3
      refine zk_n ?_
      refine zk_ifc (zci_eqr (by omega)) (fun hc_5 => ?_) (fun hc_5 => ?_)
      · unfold f_Planner_goalsFit_57
        unfold f_Planner_goalsFit_58
        refine zk_n ?_
        exact ih _ _ _ (by omega) (by omega) (by omega)
      · refine zk_gv (by omega) (by decide) (fun v5 h_v5 => ?_)
        have r_v5 := h_i_hill_goals (x3.toNat)
        refine zk_ifc (zci_eq (by omega) (by omega)) (fun hc_6 => ?_) (fun hc_6 => ?_)
        · unfold f_Planner_goalsFit_57
          unfold f_Planner_goalsFit_58
          refine zk_n ?_
          exact ih _ _ _ (by omega) (by omega) (by omega)
        · unfold f_Planner_goalsFit_58
          refine zk_n ?_
          exact ih _ _ _ (by omega) (by omega) (by omega)
set_option maxHeartbeats 4000000 in
theorem s_Planner_goalsFit (i_hill_columns_many : Int) (i_hill_goals : Nat → Int) (i_hill_columns_heights : Nat → Int) (b_i_hill_columns_many : 0 ≤ i_hill_columns_many ∧ i_hill_columns_many ≤ 12) (h_i_hill_goals : zR i_hill_goals (-1) 10) (h_i_hill_columns_heights : zR i_hill_columns_heights 0 10) : zok (f_Planner_goalsFit i_hill_columns_many i_hill_goals i_hill_columns_heights) (fun o => (0 ≤ o ∧ o ≤ 1)) := by
  unfold f_Planner_goalsFit
  exact s_Planner_goalsFit_6 _ _ _ (by omega) h_i_hill_goals h_i_hill_columns_heights zfu _ _ _ (by omega) (by omega) (by unfold zfu; omega)
end
section
set_option maxHeartbeats 4000000 in
theorem s_Planner_goalsAreSo_2 (i_heights : Nat → Int) (i_hill_columns_many : Int) (i_hill_goals : Nat → Int) (h_i_heights : zR i_heights 0 5) (b_i_hill_columns_many : 0 ≤ i_hill_columns_many ∧ i_hill_columns_many ≤ 12) (h_i_hill_goals : zR i_hill_goals (-1) 10) : ∀ (n : Nat) (x1 : Int), (0 ≤ x1 ∧ x1 ≤ 4) → (5 - x1) < (n : Int) → zok (f_Planner_goalsAreSo_2 i_heights i_hill_columns_many i_hill_goals n x1) (fun o => (0 ≤ o ∧ o ≤ 1)) := by
  intro n
  induction n with
  | zero => intro x1 b_x1 hm; exfalso; omega
  | succ n ih =>
    intro x1 b_x1 hm
    show zok (f_Planner_goalsAreSo_2_b i_heights i_hill_columns_many i_hill_goals (f_Planner_goalsAreSo_2 i_heights i_hill_columns_many i_hill_goals n) x1) _
    unfold f_Planner_goalsAreSo_2_b
    refine zk_ifc (zci_le (by omega) (by omega)) (fun hc => ?_) (fun hc => ?_)
    · exact zk_ret (by omega)
    · refine zk_ifc (zci_le (by omega) (by omega)) (fun hc_2 => ?_) (fun hc_2 => ?_)
      · exact zk_ret (by omega)
      · refine zk_gv (by omega) (by decide) (fun v1 h_v1 => ?_)
        have r_v1 := h_i_hill_goals (x1.toNat)
        refine zk_ifc (zci_eq (by omega) (by omega)) (fun hc_3 => ?_) (fun hc_3 => ?_)
        · unfold f_Planner_goalsAreSo_54
          refine zk_n ?_
          exact ih _ (by omega) (by omega)
        · refine zk_gv (by omega) (by decide) (fun v2 h_v2 => ?_)
          have r_v2 := h_i_hill_goals (x1.toNat)
          refine zk_gv (by omega) (by decide) (fun v3 h_v3 => ?_)
          have r_v3 := h_i_heights (x1.toNat)
          refine zk_ifc (zci_eq (by omega) (by omega)) (fun hc_4 => ?_) (fun hc_4 => ?_)
          · unfold f_Planner_goalsAreSo_54
            refine zk_n ?_
            exact ih _ (by omega) (by omega)
          · exact zk_ret (by omega)
set_option maxHeartbeats 4000000 in
theorem s_Planner_goalsAreSo (i_heights : Nat → Int) (i_hill_columns_many : Int) (i_hill_goals : Nat → Int) (h_i_heights : zR i_heights 0 5) (b_i_hill_columns_many : 0 ≤ i_hill_columns_many ∧ i_hill_columns_many ≤ 12) (h_i_hill_goals : zR i_hill_goals (-1) 10) : zok (f_Planner_goalsAreSo i_heights i_hill_columns_many i_hill_goals) (fun o => (0 ≤ o ∧ o ≤ 1)) := by
  unfold f_Planner_goalsAreSo
  exact s_Planner_goalsAreSo_2 _ _ _ h_i_heights (by omega) h_i_hill_goals zfu _ (by omega) (by unfold zfu; omega)
set_option maxHeartbeats 4000000 in
theorem s_Planner_swap (x1 : Int) (x2 : Int) (i_queue : Nat → Int) (i_queuedAt : Nat → Int) (b_x1 : 0 ≤ x1 ∧ x1 ≤ 6719) (b_x2 : 0 ≤ x2 ∧ x2 ≤ 6719) (h_i_queue : zR i_queue 0 6719) (h_i_queuedAt : zR i_queuedAt 0 6719) : zok (f_Planner_swap x1 x2 i_queue i_queuedAt) (fun o => zR o.1 0 6719 ∧ zR o.2 0 6719) := by
  unfold f_Planner_swap
  refine zk_gv (by omega) (by decide) (fun v1 h_v1 => ?_)
  have r_v1 := h_i_queue (x1.toNat)
  refine zk_gv (by omega) (by decide) (fun v2 h_v2 => ?_)
  have r_v2 := h_i_queue (x2.toNat)
  refine zk_sv (by omega) (by decide) (fun a3 h_a3 => ?_)
  have i_a3 : zR a3 0 6719 := by rw [h_a3]; exact zR_zu h_i_queue (by decide) (by decide) (by omega)
  refine zk_sv (by omega) (by decide) (fun a4 h_a4 => ?_)
  have i_a4 : zR a4 0 6719 := by rw [h_a4]; exact zR_zu i_a3 (by decide) (by decide) (by omega)
  refine zk_gv (by omega) (by decide) (fun v5 h_v5 => ?_)
  have r_v5 := i_a4 (x1.toNat)
  refine zk_sv (by omega) (by decide) (fun a6 h_a6 => ?_)
  have i_a6 : zR a6 0 6719 := by rw [h_a6]; exact zR_zu h_i_queuedAt (by decide) (by decide) (by omega)
  refine zk_gv (by omega) (by decide) (fun v7 h_v7 => ?_)
  have z_v7_a4 := zu_rd h_a4 (x2.toNat)
  have z_v7_a3 := zu_rd h_a3 (x2.toNat)
  have r_v7 := i_a4 (x2.toNat)
  refine zk_sv (by omega) (by decide) (fun a8 h_a8 => ?_)
  have i_a8 : zR a8 0 6719 := by rw [h_a8]; exact zR_zu i_a6 (by decide) (by decide) (by omega)
  refine zk_ret ?_
  try dsimp only
  exact ⟨i_a4, i_a8⟩
set_option maxHeartbeats 4000000 in
theorem s_Planner_leave_30 (i_costs : Nat → Int)  : ∀ (n : Nat) (x1 : Int) (x2 : Int) (x3 : Int) (i_queued : Int) (i_queue : Nat → Int) (i_queuedAt : Nat → Int), (0 ≤ x1 ∧ x1 ≤ 6719) → (0 ≤ x2 ∧ x2 ≤ 6719) → (0 ≤ x3 ∧ x3 ≤ 14) → (0 ≤ i_queued ∧ i_queued ≤ 6719) → (zR i_queue 0 6719) → (zR i_queuedAt 0 6719) → (15 - x3) < (n : Int) → zok (f_Planner_leave_30 i_costs n x1 x2 x3 i_queued i_queue i_queuedAt) (fun o => (0 ≤ o.1 ∧ o.1 ≤ 6719) ∧ (0 ≤ o.2.1 ∧ o.2.1 ≤ 6719) ∧ zR o.2.2.1 0 6719 ∧ zR o.2.2.2 0 6719 ∧ (o.2.1 ≤ i_queued)) := by
  intro n
  induction n with
  | zero => intro x1 x2 x3 i_queued i_queue i_queuedAt b_x1 b_x2 b_x3 b_i_queued h_i_queue h_i_queuedAt hm; exfalso; omega
  | succ n ih =>
    intro x1 x2 x3 i_queued i_queue i_queuedAt b_x1 b_x2 b_x3 b_i_queued h_i_queue h_i_queuedAt hm
    show zok (f_Planner_leave_30_b i_costs (f_Planner_leave_30 i_costs n) x1 x2 x3 i_queued i_queue i_queuedAt) _
    unfold f_Planner_leave_30_b
    refine zk_ifc (zci_le (by omega) (by omega)) (fun hc => ?_) (fun hc => ?_)
    · refine zk_ret ?_
      try dsimp only
      exact ⟨by omega, by omega, h_i_queue, h_i_queuedAt, by omega⟩
    · refine zk_n ?_
      refine zk_n ?_
      refine zk_n ?_
      refine zk_ifc (zci_le (by omega) (by omega)) (fun hc_2 => ?_) (fun hc_2 => ?_)
      · unfold f_Planner_leave_87
        refine zk_ifc (zci_le (by omega) (by omega)) (fun hc_3 => ?_) (fun hc_3 => ?_)
        · refine zk_ret ?_
          try dsimp only
          exact ⟨by omega, by omega, h_i_queue, h_i_queuedAt, by omega⟩
        · refine zk_gv (by omega) (by decide) (fun v1_2 h_v1_2 => ?_)
          have r_v1_2 := h_i_queue (x2.toNat)
          refine zk_gv (by omega) (by decide) (fun v2_2 h_v2_2 => ?_)
          refine zk_gv (by omega) (by decide) (fun v3_2 h_v3_2 => ?_)
          have r_v3_2 := h_i_queue (((2 * x2) + 1).toNat)
          refine zk_gv (by omega) (by decide) (fun v4 h_v4 => ?_)
          refine zk_if (fun hc_4 => ?_) (fun hc_4 => ?_)
          · refine zk_d2 (s_Planner_swap _ _ _ _ (by omega) (by omega) h_i_queue h_i_queuedAt) (fun a5 a6 hp => ?_)
            try dsimp only at hp
            obtain ⟨hpp0, hpp1⟩ := hp
            refine zk_n ?_
            refine zok_mono (ih _ _ _ _ _ _ (by omega) (by omega) (by omega) (by omega) hpp0 hpp1 (by omega)) (fun o ho => ?_)
            try dsimp only at ho
            obtain ⟨ho_0, ho_1, ho_2, ho_3, ho_4⟩ := ho
            exact ⟨by omega, by omega, ho_2, ho_3, by omega⟩
          · refine zk_ret ?_
            try dsimp only
            exact ⟨by omega, by omega, h_i_queue, h_i_queuedAt, by omega⟩
      · refine zk_n ?_
        refine zk_gv (by omega) (by decide) (fun v5 h_v5 => ?_)
        have r_v5 := h_i_queue ((((2 * x2) + 1) + 1).toNat)
        refine zk_gv (by omega) (by decide) (fun v6 h_v6 => ?_)
        refine zk_gv (by omega) (by decide) (fun v7_2 h_v7_2 => ?_)
        have r_v7_2 := h_i_queue (((2 * x2) + 1).toNat)
        refine zk_gv (by omega) (by decide) (fun v8 h_v8 => ?_)
        refine zk_if (fun hc_5 => ?_) (fun hc_5 => ?_)
        · unfold f_Planner_leave_87
          refine zk_ifc (zci_le (by omega) (by omega)) (fun hc_6 => ?_) (fun hc_6 => ?_)
          · refine zk_ret ?_
            try dsimp only
            exact ⟨by omega, by omega, h_i_queue, h_i_queuedAt, by omega⟩
          · refine zk_gv (by omega) (by decide) (fun v1_3 h_v1_3 => ?_)
            have r_v1_3 := h_i_queue (x2.toNat)
            refine zk_gv (by omega) (by decide) (fun v2_3 h_v2_3 => ?_)
            refine zk_gv (by omega) (by decide) (fun v3_3 h_v3_3 => ?_)
            have r_v3_3 := h_i_queue (((2 * x2) + 1).toNat)
            refine zk_gv (by omega) (by decide) (fun v4_3 h_v4_3 => ?_)
            refine zk_if (fun hc_7 => ?_) (fun hc_7 => ?_)
            · refine zk_d2 (s_Planner_swap _ _ _ _ (by omega) (by omega) h_i_queue h_i_queuedAt) (fun a5_2 a6_2 hp_2 => ?_)
              try dsimp only at hp_2
              obtain ⟨hp_2p0, hp_2p1⟩ := hp_2
              refine zk_n ?_
              refine zok_mono (ih _ _ _ _ _ _ (by omega) (by omega) (by omega) (by omega) hp_2p0 hp_2p1 (by omega)) (fun o ho => ?_)
              try dsimp only at ho
              obtain ⟨ho_0, ho_1, ho_2, ho_3, ho_4⟩ := ho
              exact ⟨by omega, by omega, ho_2, ho_3, by omega⟩
            · refine zk_ret ?_
              try dsimp only
              exact ⟨by omega, by omega, h_i_queue, h_i_queuedAt, by omega⟩
        · refine zk_n ?_
          unfold f_Planner_leave_87
          refine zk_ifc (zci_le (by omega) (by omega)) (fun hc_8 => ?_) (fun hc_8 => ?_)
          · refine zk_ret ?_
            try dsimp only
            exact ⟨by omega, by omega, h_i_queue, h_i_queuedAt, by omega⟩
          · refine zk_gv (by omega) (by decide) (fun v1_4 h_v1_4 => ?_)
            have r_v1_4 := h_i_queue (x2.toNat)
            refine zk_gv (by omega) (by decide) (fun v2_4 h_v2_4 => ?_)
            refine zk_gv (by omega) (by decide) (fun v3_4 h_v3_4 => ?_)
            have r_v3_4 := h_i_queue ((((2 * x2) + 1) + 1).toNat)
            refine zk_gv (by omega) (by decide) (fun v4_4 h_v4_4 => ?_)
            refine zk_if (fun hc_9 => ?_) (fun hc_9 => ?_)
            · refine zk_d2 (s_Planner_swap _ _ _ _ (by omega) (by omega) h_i_queue h_i_queuedAt) (fun a5_3 a6_3 hp_3 => ?_)
              try dsimp only at hp_3
              obtain ⟨hp_3p0, hp_3p1⟩ := hp_3
              refine zk_n ?_
              refine zok_mono (ih _ _ _ _ _ _ (by omega) (by omega) (by omega) (by omega) hp_3p0 hp_3p1 (by omega)) (fun o ho => ?_)
              try dsimp only at ho
              obtain ⟨ho_0, ho_1, ho_2, ho_3, ho_4⟩ := ho
              exact ⟨by omega, by omega, ho_2, ho_3, by omega⟩
            · refine zk_ret ?_
              try dsimp only
              exact ⟨by omega, by omega, h_i_queue, h_i_queuedAt, by omega⟩
set_option maxHeartbeats 4000000 in
theorem s_Planner_leave (i_costs : Nat → Int) (i_queued : Int) (i_queue : Nat → Int) (i_queuedAt : Nat → Int) (b_i_queued : 1 ≤ i_queued ∧ i_queued ≤ 6720) (h_i_queue : zR i_queue 0 6719) (h_i_queuedAt : zR i_queuedAt 0 6719) : zok (f_Planner_leave i_costs i_queued i_queue i_queuedAt) (fun o => (0 ≤ o.1 ∧ o.1 ≤ 6719) ∧ (0 ≤ o.2.1 ∧ o.2.1 ≤ 6719) ∧ zR o.2.2.1 0 6719 ∧ zR o.2.2.2 0 6719 ∧ (o.2.1 ≤ i_queued)) := by
  unfold f_Planner_leave
  refine zk_gl 0 rfl (by decide) (by decide) (fun v1 h_v1 => ?_)
  have r_v1 := h_i_queue (0)
  refine zk_n ?_
  refine zk_d2 (s_Planner_swap _ _ _ _ (by omega) (by omega) h_i_queue h_i_queuedAt) (fun a3 a4 hp => ?_)
  try dsimp only at hp
  obtain ⟨hpp0, hpp1⟩ := hp
  refine zok_mono (s_Planner_leave_30 _ zfu _ _ _ _ _ _ (by omega) (by omega) (by omega) (by omega) hpp0 hpp1 (by unfold zfu; omega)) (fun o ho => ?_)
  try dsimp only at ho
  obtain ⟨ho_0, ho_1, ho_2, ho_3, ho_4⟩ := ho
  exact ⟨by omega, by omega, ho_2, ho_3, by omega⟩
set_option maxHeartbeats 4000000 in
theorem s_Planner_isEarlier_31 (i_before : Nat → Int) (i_by : Nat → Int) (h_i_before : zR i_before (-1) 6719) (h_i_by : zR i_by 0 150) : ∀ (n : Nat) (x4 : Int) (x5 : Int) (x6 : Int) (x7 : Int), (0 ≤ x4 ∧ x4 ≤ 1) → ((-1) ≤ x5 ∧ x5 ≤ 6719) → ((-1) ≤ x6 ∧ x6 ≤ 6719) → (0 ≤ x7 ∧ x7 ≤ 6720) → (6721 - x7) < (n : Int) → zok (f_Planner_isEarlier_31 i_before i_by n x4 x5 x6 x7) (fun o => (0 ≤ o ∧ o ≤ 1)) := by
  intro n
  induction n with
  | zero => intro x4 x5 x6 x7 b_x4 b_x5 b_x6 b_x7 hm; exfalso; omega
  | succ n ih =>
    intro x4 x5 x6 x7 b_x4 b_x5 b_x6 b_x7 hm
    show zok (f_Planner_isEarlier_31_b i_before i_by (f_Planner_isEarlier_31 i_before i_by n) x4 x5 x6 x7) _
    unfold f_Planner_isEarlier_31_b
    refine zk_ifc (zci_le (by omega) (by omega)) (fun hc => ?_) (fun hc => ?_)
    · refine zk_gb (by omega) ?_
      exact zk_ret (by omega)
    · refine zk_ifc (zci_eq (by omega) (by omega)) (fun hc_2 => ?_) (fun hc_2 => ?_)
      · refine zk_gb (by omega) ?_
        exact zk_ret (by omega)
      · refine zk_ifc (zci_ltr (by omega)) (fun hc_3 => ?_) (fun hc_3 => ?_)
        · refine zk_gb (by omega) ?_
          exact zk_ret (by omega)
        · refine zk_ifc (zci_ltr (by omega)) (fun hc_4 => ?_) (fun hc_4 => ?_)
          · refine zk_gb (by omega) ?_
            exact zk_ret (by omega)
          · refine zk_gv (by omega) (by decide) (fun v1 h_v1 => ?_)
            have r_v1 := h_i_by (x5.toNat)
            refine zk_gv (by omega) (by decide) (fun v2 h_v2 => ?_)
            have r_v2 := h_i_by (x6.toNat)
            refine zk_ifc (zci_eq (by omega) (by omega)) (fun hc_5 => ?_) (fun hc_5 => ?_)
            · unfold f_Planner_isEarlier_97
              refine zk_gv (by omega) (by decide) (fun v1_2 h_v1_2 => ?_)
              have r_v1_2 := h_i_before (x5.toNat)
              refine zk_gv (by omega) (by decide) (fun v2_2 h_v2_2 => ?_)
              have r_v2_2 := h_i_before (x6.toNat)
              refine zk_n ?_
              exact ih _ _ _ _ (by omega) (by omega) (by omega) (by omega) (by omega)
            · refine zk_gv (by omega) (by decide) (fun v3_2 h_v3_2 => ?_)
              have r_v3_2 := h_i_by (x5.toNat)
              refine zk_gv (by omega) (by decide) (fun v4 h_v4 => ?_)
              have r_v4 := h_i_by (x6.toNat)
              refine zk_ifc (zci_le (by omega) (by omega)) (fun hc_6 => ?_) (fun hc_6 => ?_)
              · unfold f_Planner_isEarlier_95
                unfold f_Planner_isEarlier_97
                refine zk_gv (by omega) (by decide) (fun v1_3 h_v1_3 => ?_)
                have r_v1_3 := h_i_before (x5.toNat)
                refine zk_gv (by omega) (by decide) (fun v2_3 h_v2_3 => ?_)
                have r_v2_3 := h_i_before (x6.toNat)
                refine zk_n ?_
                exact ih _ _ _ _ (by omega) (by omega) (by omega) (by omega) (by omega)
              · unfold f_Planner_isEarlier_95
                unfold f_Planner_isEarlier_97
                refine zk_gv (by omega) (by decide) (fun v1_4 h_v1_4 => ?_)
                have r_v1_4 := h_i_before (x5.toNat)
                refine zk_gv (by omega) (by decide) (fun v2_4 h_v2_4 => ?_)
                have r_v2_4 := h_i_before (x6.toNat)
                refine zk_n ?_
                exact ih _ _ _ _ (by omega) (by omega) (by omega) (by omega) (by omega)
set_option maxHeartbeats 4000000 in
theorem s_Planner_isEarlier (x1 : Int) (x2 : Int) (x3 : Int) (i_before : Nat → Int) (i_by : Nat → Int) (b_x1 : (-1) ≤ x1 ∧ x1 ≤ 6719) (b_x2 : 0 ≤ x2 ∧ x2 ≤ 150) (b_x3 : 0 ≤ x3 ∧ x3 ≤ 6719) (h_i_before : zR i_before (-1) 6719) (h_i_by : zR i_by 0 150) : zok (f_Planner_isEarlier x1 x2 x3 i_before i_by) (fun o => (0 ≤ o ∧ o ≤ 1)) := by
  unfold f_Planner_isEarlier
  refine zk_gv (by omega) (by decide) (fun v1 h_v1 => ?_)
  have r_v1 := h_i_by (x3.toNat)
  refine zk_ifc (zci_le (by omega) (by omega)) (fun hc => ?_) (fun hc => ?_)
  · unfold f_Planner_isEarlier_15
    refine zk_gv (by omega) (by decide) (fun v1_2 h_v1_2 => ?_)
    have r_v1_2 := h_i_before (x3.toNat)
    exact s_Planner_isEarlier_31 _ _ h_i_before h_i_by zfu _ _ _ _ (by omega) (by omega) (by omega) (by omega) (by unfold zfu; omega)
  · unfold f_Planner_isEarlier_15
    refine zk_gv (by omega) (by decide) (fun v1_3 h_v1_3 => ?_)
    have r_v1_3 := h_i_before (x3.toNat)
    exact s_Planner_isEarlier_31 _ _ h_i_before h_i_by zfu _ _ _ _ (by omega) (by omega) (by omega) (by omega) (by unfold zfu; omega)
set_option maxHeartbeats 4000000 in
theorem s_Arrays_fill_n16384_5   : ∀ (n : Nat) (x1 : Int) (x2 : Int) (x3 : Int) (i_a0 : Nat → Int), (0 ≤ x1 ∧ x1 ≤ 0) → (0 ≤ x2 ∧ x2 ≤ 16384) → (16384 ≤ x3 ∧ x3 ≤ 16384) → (zR i_a0 0 6720) → (16385 - x2) < (n : Int) → zok (f_Arrays_fill_n16384_5  n x1 x2 x3 i_a0) (fun o => zR o 0 6720) := by
  intro n
  induction n with
  | zero => intro x1 x2 x3 i_a0 b_x1 b_x2 b_x3 h_i_a0 hm; exfalso; omega
  | succ n ih =>
    intro x1 x2 x3 i_a0 b_x1 b_x2 b_x3 h_i_a0 hm
    show zok (f_Arrays_fill_n16384_5_b  (f_Arrays_fill_n16384_5  n) x1 x2 x3 i_a0) _
    unfold f_Arrays_fill_n16384_5_b
    refine zk_ifc (zci_le (by omega) (by omega)) (fun hc => ?_) (fun hc => ?_)
    · exact zk_ret h_i_a0
    · refine zk_sv (by omega) (by decide) (fun a1 h_a1 => ?_)
      have i_a1 : zR a1 0 6720 := by rw [h_a1]; exact zR_zu h_i_a0 (by decide) (by decide) (by omega)
      refine zk_n ?_
      exact ih _ _ _ _ (by omega) (by omega) (by omega) i_a1 (by omega)
set_option maxHeartbeats 4000000 in
theorem s_Arrays_fill_n16384 (x1 : Int) (i_a0 : Nat → Int) (b_x1 : 0 ≤ x1 ∧ x1 ≤ 0) (h_i_a0 : zR i_a0 0 6720) : zok (f_Arrays_fill_n16384 x1 i_a0) (fun o => zR o 0 6720) := by
  unfold f_Arrays_fill_n16384
  exact s_Arrays_fill_n16384_5 zfu _ _ _ _ (by omega) (by omega) (by omega) h_i_a0 (by unfold zfu; omega)
set_option maxHeartbeats 4000000 in
theorem s_Planner_kindOf_2   : ∀ (n : Nat) (x1 : Int) (x2 : Int) (i_kinds : Int) (i_weights : Nat → Int), (0 ≤ x1 ∧ x1 ≤ 30) → (1 ≤ x2 ∧ x2 ≤ 6) → (0 ≤ i_kinds ∧ i_kinds ≤ 5) → (zR i_weights 0 30) → (7 - x2) < (n : Int) → zok (f_Planner_kindOf_2  n x1 x2 i_kinds i_weights) (fun o => (1 ≤ o.1 ∧ o.1 ≤ 5) ∧ (1 ≤ o.2.1 ∧ o.2.1 ≤ 5) ∧ zR o.2.2 0 30) := by
  intro n
  induction n with
  | zero => intro x1 x2 i_kinds i_weights b_x1 b_x2 b_i_kinds h_i_weights hm; exfalso; omega
  | succ n ih =>
    intro x1 x2 i_kinds i_weights b_x1 b_x2 b_i_kinds h_i_weights hm
    show zok (f_Planner_kindOf_2_b  (f_Planner_kindOf_2  n) x1 x2 i_kinds i_weights) _
    unfold f_Planner_kindOf_2_b
    refine zk_ifc (zci_lt (by omega) (by omega)) (fun hc => ?_) (fun hc => ?_)
    · refine zk_ifc (zci_lt (by omega) (by omega)) (fun hc_2 => ?_) (fun hc_2 => ?_)
      · refine zk_n ?_
        refine zk_sv (by omega) (by decide) (fun a2 h_a2 => ?_)
        have i_a2 : zR a2 0 30 := by rw [h_a2]; exact zR_zu h_i_weights (by decide) (by decide) (by omega)
        refine zk_ret ?_
        try dsimp only
        exact ⟨by omega, by omega, i_a2⟩
      · refine zk_ret ?_
        try dsimp only
        exact ⟨by omega, by omega, h_i_weights⟩
    · refine zk_gv (by omega) (by decide) (fun v3 h_v3 => ?_)
      have r_v3 := h_i_weights (x2.toNat)
      refine zk_ifc (zci_ne (by omega) (by omega)) (fun hc_3 => ?_) (fun hc_3 => ?_)
      · refine zk_n ?_
        exact ih _ _ _ _ (by omega) (by omega) (by omega) h_i_weights (by omega)
      · refine zk_ret ?_
        try dsimp only
        exact ⟨by omega, by omega, h_i_weights⟩
set_option maxHeartbeats 4000000 in
theorem s_Planner_kindOf (x1 : Int) (i_kinds : Int) (i_weights : Nat → Int) (b_x1 : 0 ≤ x1 ∧ x1 ≤ 30) (b_i_kinds : 0 ≤ i_kinds ∧ i_kinds ≤ 5) (h_i_weights : zR i_weights 0 30) : zok (f_Planner_kindOf x1 i_kinds i_weights) (fun o => (1 ≤ o.1 ∧ o.1 ≤ 5) ∧ (1 ≤ o.2.1 ∧ o.2.1 ≤ 5) ∧ zR o.2.2 0 30) := by
  unfold f_Planner_kindOf
  exact s_Planner_kindOf_2 zfu _ _ _ _ (by omega) (by omega) (by omega) h_i_weights (by unfold zfu; omega)
set_option maxHeartbeats 4000000 in
theorem s_Planner_firstState_48 (i_hill_columns_many : Int) (i_hill_columns_heights : Nat → Int) (i_hill_columns_weights : Nat → Int) (k9 : Int → Int → Int → (Nat → Int) → Option (Int × Int × (Nat → Int))) (Nk9 : Nat) (hk9 : ∀ (x1 : Int) (x3 : Int) (i_kinds : Int) (i_weights : Nat → Int), ((-9223372036854775808) ≤ x1 ∧ x1 ≤ 9223372036854775807) → (0 ≤ x3 ∧ x3 ≤ 4) → (0 ≤ i_kinds ∧ i_kinds ≤ 5) → (zR i_weights 0 30) → (5 - x3) < (Nk9 : Int) → zok (k9 x1 x3 i_kinds i_weights) (fun o => ((-9223372036854775808) ≤ o.1 ∧ o.1 ≤ 9223372036854775807) ∧ (0 ≤ o.2.1 ∧ o.2.1 ≤ 5) ∧ zR o.2.2 0 30)) (b_i_hill_columns_many : 1 ≤ i_hill_columns_many ∧ i_hill_columns_many ≤ 12) (h_i_hill_columns_heights : zR i_hill_columns_heights 0 10) (h_i_hill_columns_weights : zR i_hill_columns_weights 0 30) : ∀ (n : Nat) (x1 : Int) (x3 : Int) (x4 : Int) (x5 : Int) (i_kinds : Int) (i_weights : Nat → Int), ((-9223372036854775808) ≤ x1 ∧ x1 ≤ 9223372036854775807) → (0 ≤ x3 ∧ x3 ≤ 3) → (0 ≤ x4 ∧ x4 ≤ 5) → (0 ≤ x5 ∧ x5 ≤ 5) → (0 ≤ i_kinds ∧ i_kinds ≤ 5) → (zR i_weights 0 30) → (5 - x3) < (Nk9 : Int) + 1 → (6 - x5) < (n : Int) → zok (f_Planner_firstState_48 i_hill_columns_many i_hill_columns_heights i_hill_columns_weights k9 n x1 x3 x4 x5 i_kinds i_weights) (fun o => ((-9223372036854775808) ≤ o.1 ∧ o.1 ≤ 9223372036854775807) ∧ (0 ≤ o.2.1 ∧ o.2.1 ≤ 5) ∧ zR o.2.2 0 30) := by
  intro n
  induction n with
  | zero => intro x1 x3 x4 x5 i_kinds i_weights b_x1 b_x3 b_x4 b_x5 b_i_kinds h_i_weights mk9 hm; exfalso; omega
  | succ n ih =>
    intro x1 x3 x4 x5 i_kinds i_weights b_x1 b_x3 b_x4 b_x5 b_i_kinds h_i_weights mk9 hm
    show zok (f_Planner_firstState_48_b i_hill_columns_many i_hill_columns_heights i_hill_columns_weights k9 (f_Planner_firstState_48 i_hill_columns_many i_hill_columns_heights i_hill_columns_weights k9 n) x1 x3 x4 x5 i_kinds i_weights) _
    unfold f_Planner_firstState_48_b
    refine zk_ifc (zci_le (by omega) (by omega)) (fun hc => ?_) (fun hc => ?_)
    · refine zk_n ?_
      exact hk9 _ _ _ _ (by omega) (by omega) (by omega) h_i_weights (by omega)
    · refine zk_d1 (s_Columns_heft _ _ _ _ _ (by omega) (by omega) (by omega) h_i_hill_columns_heights h_i_hill_columns_weights) (fun v2 hp => ?_)
      try dsimp only at hp
      have hpp0 := hp
      refine zk_d3 (s_Planner_kindOf _ _ _ (by omega) (by omega) h_i_weights) (fun v3 v4 a5 hp_2 => ?_)
      try dsimp only at hp_2
      obtain ⟨hp_2p0, hp_2p1, hp_2p2⟩ := hp_2
      refine zk_nE (fun v6 h_v6 => ?_)
      rw [zwi (by omega)] at h_v6
      replace h_v6 := h_v6.symm
      subst h_v6
      refine zk_n ?_
      refine zk_n ?_
      refine zk_n ?_
      refine zk_nE (fun v10 h_v10 => ?_)
      have r_v10 := zl_shl_f v3 ((15 * x3) + (3 * x5)); rw [← h_v10] at r_v10
      refine zk_nE (fun v11 h_v11 => ?_)
      have r_v11 := zl_or_f x1 v10; rw [← h_v11] at r_v11
      refine zk_n ?_
      exact ih _ _ _ _ _ _ (by omega) (by omega) (by omega) (by omega) (by omega) hp_2p2 (by omega) (by omega)
set_option maxHeartbeats 4000000 in
theorem s_Planner_firstState_9 (i_hill_columns_many : Int) (i_hill_columns_heights : Nat → Int) (i_hill_columns_weights : Nat → Int) (b_i_hill_columns_many : 0 ≤ i_hill_columns_many ∧ i_hill_columns_many ≤ 12) (h_i_hill_columns_heights : zR i_hill_columns_heights 0 10) (h_i_hill_columns_weights : zR i_hill_columns_weights 0 30) : ∀ (n : Nat) (x1 : Int) (x3 : Int) (i_kinds : Int) (i_weights : Nat → Int), ((-9223372036854775808) ≤ x1 ∧ x1 ≤ 9223372036854775807) → (0 ≤ x3 ∧ x3 ≤ 4) → (0 ≤ i_kinds ∧ i_kinds ≤ 5) → (zR i_weights 0 30) → (5 - x3) < (n : Int) → zok (f_Planner_firstState_9 i_hill_columns_many i_hill_columns_heights i_hill_columns_weights n x1 x3 i_kinds i_weights) (fun o => ((-9223372036854775808) ≤ o.1 ∧ o.1 ≤ 9223372036854775807) ∧ (0 ≤ o.2.1 ∧ o.2.1 ≤ 5) ∧ zR o.2.2 0 30) := by
  intro n
  induction n with
  | zero => intro x1 x3 i_kinds i_weights b_x1 b_x3 b_i_kinds h_i_weights hm; exfalso; omega
  | succ n ih =>
    intro x1 x3 i_kinds i_weights b_x1 b_x3 b_i_kinds h_i_weights hm
    show zok (f_Planner_firstState_9_b i_hill_columns_many i_hill_columns_heights i_hill_columns_weights (f_Planner_firstState_9 i_hill_columns_many i_hill_columns_heights i_hill_columns_weights n) x1 x3 i_kinds i_weights) _
    unfold f_Planner_firstState_9_b
    refine zk_ifc (zci_le (by omega) (by omega)) (fun hc => ?_) (fun hc => ?_)
    · refine zk_ret ?_
      try dsimp only
      exact ⟨by omega, by omega, h_i_weights⟩
    · refine zk_ifc (zci_le (by omega) (by omega)) (fun hc_2 => ?_) (fun hc_2 => ?_)
      · refine zk_ret ?_
        try dsimp only
        exact ⟨by omega, by omega, h_i_weights⟩
      · refine zk_d1 (s_Columns_high _ _ _ (by omega) (by omega) h_i_hill_columns_heights) (fun v1 hp => ?_)
        try dsimp only at hp
        obtain ⟨hpp0, hpp1⟩ := hp
        refine zk_nE (fun v2 h_v2 => ?_)
        have r_v2 := zi_min_f (5) (by omega) (v1) (by omega); rw [← h_v2] at r_v2
        exact s_Planner_firstState_48 _ _ _ _ n ih (by omega) h_i_hill_columns_heights h_i_hill_columns_weights zfu _ _ _ _ _ _ (by omega) (by omega) (by omega) (by omega) (by omega) h_i_weights (by omega) (by unfold zfu; omega)
end
