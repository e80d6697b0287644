set_option maxHeartbeats 4000000 in
theorem s_HS_accept (x1 : Int) (i_latestStatus : Int) (i_hill_changes : Int) (b_i_latestStatus : (-6) ≤ i_latestStatus ∧ i_latestStatus ≤ 0) : zok (f_HS_accept x1 i_latestStatus i_hill_changes) (fun o => (0 ≤ o.2.1 ∧ o.2.1 ≤ 0) ∧ (o.1 = x1) ∧ (o.2.1 = 0) ∧ (o.2.2 = i_hill_changes + 1)) := by
  unfold f_HS_accept
  refine zk_n ?_
  refine zk_ret ?_
  try dsimp only
  exact ⟨by omega, by omega, by omega, by omega⟩
set_option maxHeartbeats 4000000 in
theorem s_HS_refuse (x1 : Int) (i_latestStatus : Int) (i_refusals : Nat → Int) (b_x1 : (-6) ≤ x1 ∧ x1 ≤ (-1)) (b_i_latestStatus : (-6) ≤ i_latestStatus ∧ i_latestStatus ≤ 0) : zok (f_HS_refuse x1 i_latestStatus i_refusals) (fun o => ((-6) ≤ o.1 ∧ o.1 ≤ (-1)) ∧ ((-6) ≤ o.2.1 ∧ o.2.1 ≤ (-1)) ∧ (o.1 = x1) ∧ (o.2.1 = x1)) := by
  unfold f_HS_refuse
  refine zk_nE (fun v1 h_v1 => ?_)
  refine zk_gv (by omega) (by decide) (fun v2 h_v2 => ?_)
  refine zk_n ?_
  refine zk_sv (by omega) (by decide) (fun a4 h_a4 => ?_)
  refine zk_ret ?_
  try dsimp only
  exact ⟨by omega, by omega, by omega, by omega⟩
set_option maxHeartbeats 4000000 in
theorem s_Columns_grow (i_many : Int) (i_heights : Nat → Int) (b_i_many : 0 ≤ i_many ∧ i_many ≤ 12) (h_i_heights : zR i_heights 0 10) : zok (f_Columns_grow i_many i_heights) (fun o => (0 ≤ o.1 ∧ o.1 ≤ 1) ∧ (1 ≤ o.2.1 ∧ o.2.1 ≤ 12) ∧ zR o.2.2 0 10) := by
  unfold f_Columns_grow
  refine zk_ifc (zci_lt (by omega) (by omega)) (fun hc => ?_) (fun hc => ?_)
  · refine zk_sv (by omega) (by decide) (fun a1 h_a1 => ?_)
    have i_a1 : zR a1 0 10 := by rw [h_a1]; exact zR_zu h_i_heights (by decide) (by decide) (by omega)
    refine zk_n ?_
    refine zk_ret ?_
    try dsimp only
    exact ⟨by omega, by omega, i_a1⟩
  · refine zk_ret ?_
    try dsimp only
    exact ⟨by omega, by omega, h_i_heights⟩
set_option maxHeartbeats 4000000 in
theorem s_HS_column (i_latestStatus : Int) (i_hill_changes : Int) (i_refusals : Nat → Int) (i_hill_columns_many : Int) (i_hill_goals : Nat → Int) (i_hill_columns_heights : Nat → Int) (b_i_latestStatus : (-6) ≤ i_latestStatus ∧ i_latestStatus ≤ 0) (b_i_hill_columns_many : 0 ≤ i_hill_columns_many ∧ i_hill_columns_many ≤ 12) (h_i_hill_goals : zR i_hill_goals (-1) 10) (h_i_hill_columns_heights : zR i_hill_columns_heights 0 10) : zok (f_HS_column i_latestStatus i_hill_changes i_refusals i_hill_columns_many i_hill_goals i_hill_columns_heights) (fun o => ((-6) ≤ o.2.1 ∧ o.2.1 ≤ 0) ∧ (1 ≤ o.2.2.2.2.1 ∧ o.2.2.2.2.1 ≤ 12) ∧ zR o.2.2.2.2.2.1 (-1) 10 ∧ zR o.2.2.2.2.2.2 0 10) := by
  unfold f_HS_column
  refine zk_d3 (s_Columns_grow _ _ (by omega) h_i_hill_columns_heights) (fun v1 v2 a3 hp => ?_)
  try dsimp only at hp
  obtain ⟨hpp0, hpp1, hpp2⟩ := hp
  refine zk_ifc (zci_ner (by omega)) (fun hc => ?_) (fun hc => ?_)
  · refine zk_n ?_
    refine zk_sv (by omega) (by decide) (fun a5 h_a5 => ?_)
    have i_a5 : zR a5 (-1) 10 := by rw [h_a5]; exact zR_zu h_i_hill_goals (by decide) (by decide) (by omega)
    refine zk_d3 (s_HS_accept _ _ _ (by omega)) (fun v6 v7 v8 hp_2 => ?_)
    try dsimp only at hp_2
    obtain ⟨hp_2p0, hp_2p1, hp_2p2, hp_2p3⟩ := hp_2
    refine zk_ret ?_
    try dsimp only
    exact ⟨by omega, by omega, i_a5, hpp2⟩
  · refine zk_d3 (s_HS_refuse _ _ _ (by omega) (by omega)) (fun v9 v10 a11 hp_3 => ?_)
    try dsimp only at hp_3
    obtain ⟨hp_3p0, hp_3p1, hp_3p2, hp_3p3⟩ := hp_3
    refine zk_ret ?_
    try dsimp only
    exact ⟨by omega, by omega, h_i_hill_goals, hpp2⟩
set_option maxHeartbeats 4000000 in
theorem s_Columns_has (x1 : Int) (i_many : Int) (b_x1 : (-2147483648) ≤ x1 ∧ x1 ≤ 2147483647) (b_i_many : 0 ≤ i_many ∧ i_many ≤ 12) : zok (f_Columns_has x1 i_many) (fun o => (0 ≤ o ∧ o ≤ 1) ∧ ((x1 < 0 ∧ o = 0) ∨ (x1 ≥ 0 ∧ i_many ≤ x1 ∧ o = 0) ∨ (x1 ≥ 0 ∧ i_many > x1 ∧ o = 1))) := by
  unfold f_Columns_has
  refine zk_ifc (zci_ltr (by omega)) (fun hc => ?_) (fun hc => ?_)
  · exact zk_ret ⟨by omega, by first | exact Or.inl (by omega) | exact Or.inr (Or.inl (by omega)) | exact Or.inr (Or.inr ((by omega)))⟩
  · refine zk_ifc (zci_le (by omega) (by omega)) (fun hc_2 => ?_) (fun hc_2 => ?_)
    · exact zk_ret ⟨by omega, by first | exact Or.inl (by omega) | exact Or.inr (Or.inl (by omega)) | exact Or.inr (Or.inr ((by omega)))⟩
    · exact zk_ret ⟨by omega, by first | exact Or.inl (by omega) | exact Or.inr (Or.inl (by omega)) | exact Or.inr (Or.inr ((by omega)))⟩
set_option maxHeartbeats 4000000 in
theorem s_Columns_put (x1 : Int) (x2 : Int) (i_many : Int) (i_heights : Nat → Int) (i_weights : Nat → Int) (b_x1 : (-1) ≤ x1 ∧ x1 ≤ 255) (b_x2 : 0 ≤ x2 ∧ x2 ≤ 30) (b_i_many : 1 ≤ i_many ∧ i_many ≤ 12) (h_i_heights : zR i_heights 0 10) (h_i_weights : zR i_weights 0 30) : zok (f_Columns_put x1 x2 i_many i_heights i_weights) (fun o => (0 ≤ o.1 ∧ o.1 ≤ 1) ∧ zR o.2.1 0 10 ∧ zR o.2.2 0 30 ∧ (∀ j, i_heights j ≤ o.2.1 j)) := by
  unfold f_Columns_put
  refine zk_d1 (s_Columns_has _ _ (by omega) (by omega)) (fun v1 hp => ?_)
  try dsimp only at hp
  obtain ⟨hpp0, hpp1⟩ := hp
  refine zk_ifc (zci_eqr (by omega)) (fun hc => ?_) (fun hc => ?_)
  · refine zk_ret ?_
    try dsimp only
    exact ⟨by omega, h_i_heights, h_i_weights, by first | exact fun j => Int.le_refl _ | exact zu_mono h_a9 (by omega)⟩
  · refine zk_gv (by omega) (by decide) (fun v2 h_v2 => ?_)
    have r_v2 := h_i_heights (x1.toNat)
    refine zk_ifc (zci_lt (by omega) (by omega)) (fun hc_2 => ?_) (fun hc_2 => ?_)
    · refine zk_n ?_
      refine zk_gv (by omega) (by decide) (fun v4 h_v4 => ?_)
      have r_v4 := h_i_heights (x1.toNat)
      refine zk_n ?_
      refine zk_sv (by omega) (by decide) (fun a6 h_a6 => ?_)
      have i_a6 : zR a6 0 30 := by rw [h_a6]; exact zR_zu h_i_weights (by decide) (by decide) (by omega)
      refine zk_gv (by omega) (by decide) (fun v7 h_v7 => ?_)
      have r_v7 := h_i_heights (x1.toNat)
      refine zk_n ?_
      refine zk_sv (by omega) (by decide) (fun a9 h_a9 => ?_)
      have i_a9 : zR a9 0 10 := by rw [h_a9]; exact zR_zu h_i_heights (by decide) (by decide) (by omega)
      refine zk_ret ?_
      try dsimp only
      exact ⟨by omega, i_a9, i_a6, by first | exact fun j => Int.le_refl _ | exact zu_mono h_a9 (by omega)⟩
    · refine zk_ret ?_
      try dsimp only
      exact ⟨by omega, h_i_heights, h_i_weights, by first | exact fun j => Int.le_refl _ | exact zu_mono h_a9 (by omega)⟩
set_option maxHeartbeats 4000000 in
theorem s_Columns_high (x1 : Int) (i_many : Int) (i_heights : Nat → Int) (b_x1 : 0 ≤ x1 ∧ x1 ≤ 11) (b_i_many : 0 ≤ i_many ∧ i_many ≤ 12) (h_i_heights : zR i_heights 0 10) : zok (f_Columns_high x1 i_many i_heights) (fun o => (0 ≤ o ∧ o ≤ 10) ∧ ((x1 < 0 ∧ o = 0) ∨ (x1 ≥ 0 ∧ i_many ≤ x1 ∧ o = 0) ∨ (x1 ≥ 0 ∧ i_many > x1 ∧ o = (i_heights (x1).toNat)))) := by
  unfold f_Columns_high
  refine zk_d1 (s_Columns_has _ _ (by omega) (by omega)) (fun v1 hp => ?_)
  try dsimp only at hp
  obtain ⟨hpp0, hpp1⟩ := hp
  refine zk_ifc (zci_eqr (by omega)) (fun hc => ?_) (fun hc => ?_)
  · exact zk_ret ⟨by omega, by first | exact Or.inl (by omega) | exact Or.inr (Or.inl (by omega)) | exact Or.inr (Or.inr ((by omega)))⟩
  · refine zk_gv (by omega) (by decide) (fun v2 h_v2 => ?_)
    have r_v2 := h_i_heights (x1.toNat)
    exact zk_ret ⟨by omega, by first | exact Or.inl (by omega) | exact Or.inr (Or.inl (by omega)) | exact Or.inr (Or.inr ((by omega)))⟩
set_option maxHeartbeats 4000000 in
theorem s_HS_stone (x1 : Int) (x2 : Int) (i_hill_columns_many : Int) (i_latestStatus : Int) (i_hill_changes : Int) (i_refusals : Nat → Int) (i_hill_columns_heights : Nat → Int) (i_hill_columns_weights : Nat → Int) (b_x1 : (-2147483648) ≤ x1 ∧ x1 ≤ 2147483647) (b_x2 : (-2147483648) ≤ x2 ∧ x2 ≤ 2147483647) (b_i_hill_columns_many : 0 ≤ i_hill_columns_many ∧ i_hill_columns_many ≤ 12) (b_i_latestStatus : (-6) ≤ i_latestStatus ∧ i_latestStatus ≤ 0) (h_i_hill_columns_heights : zR i_hill_columns_heights 0 10) (h_i_hill_columns_weights : zR i_hill_columns_weights 0 30) : zok (f_HS_stone x1 x2 i_hill_columns_many i_latestStatus i_hill_changes i_refusals i_hill_columns_heights i_hill_columns_weights) (fun o => ((-6) ≤ o.2.1 ∧ o.2.1 ≤ 0) ∧ zR o.2.2.2.2.1 0 10 ∧ zR o.2.2.2.2.2 0 30) := by
  unfold f_HS_stone
  refine zk_ifc (zci_lt (by omega) (by omega)) (fun hc => ?_) (fun hc => ?_)
  · unfold f_HS_stone_11
    refine zk_d3 (s_HS_refuse _ _ _ (by omega) (by omega)) (fun v1 v2 a3 hp => ?_)
    try dsimp only at hp
    obtain ⟨hpp0, hpp1, hpp2, hpp3⟩ := hp
    refine zk_ret ?_
    try dsimp only
    exact ⟨by omega, h_i_hill_columns_heights, h_i_hill_columns_weights⟩
  · refine zk_ifc (zci_le (by omega) (by omega)) (fun hc_2 => ?_) (fun hc_2 => ?_)
    · refine zk_d1 (s_Columns_has _ _ (by omega) (by omega)) (fun v1_2 hp_2 => ?_)
      try dsimp only at hp_2
      obtain ⟨hp_2p0, hp_2p1⟩ := hp_2
      refine zk_ifc (zci_ner (by omega)) (fun hc_3 => ?_) (fun hc_3 => ?_)
      · refine zk_d3 (s_Columns_put _ _ _ _ _ (by omega) (by omega) (by omega) h_i_hill_columns_heights h_i_hill_columns_weights) (fun v2_2 a3_2 a4 hp_3 => ?_)
        try dsimp only at hp_3
        obtain ⟨hp_3p0, hp_3p1, hp_3p2, hp_3p3⟩ := hp_3
        refine zk_ifc (zci_ner (by omega)) (fun hc_4 => ?_) (fun hc_4 => ?_)
        · refine zk_d1 (s_Columns_high _ _ _ (by omega) (by omega) hp_3p1) (fun v5 hp_4 => ?_)
          try dsimp only at hp_4
          obtain ⟨hp_4p0, hp_4p1⟩ := hp_4
          refine zk_d3 (s_HS_accept _ _ _ (by omega)) (fun v6 v7 v8 hp_5 => ?_)
          try dsimp only at hp_5
          obtain ⟨hp_5p0, hp_5p1, hp_5p2, hp_5p3⟩ := hp_5
          refine zk_ret ?_
          try dsimp only
          exact ⟨by omega, hp_3p1, hp_3p2⟩
        · refine zk_d3 (s_HS_refuse _ _ _ (by omega) (by omega)) (fun v9 v10 a11 hp_6 => ?_)
          try dsimp only at hp_6
          obtain ⟨hp_6p0, hp_6p1, hp_6p2, hp_6p3⟩ := hp_6
          refine zk_ret ?_
          try dsimp only
          exact ⟨by omega, hp_3p1, hp_3p2⟩
      · refine zk_d3 (s_HS_refuse _ _ _ (by omega) (by omega)) (fun v12 v13 a14 hp_7 => ?_)
        try dsimp only at hp_7
        obtain ⟨hp_7p0, hp_7p1, hp_7p2, hp_7p3⟩ := hp_7
        refine zk_ret ?_
        try dsimp only
        exact ⟨by omega, h_i_hill_columns_heights, h_i_hill_columns_weights⟩
    · unfold f_HS_stone_11
      refine zk_d3 (s_HS_refuse _ _ _ (by omega) (by omega)) (fun v1_3 v2_3 a3_3 hp_8 => ?_)
      try dsimp only at hp_8
      obtain ⟨hp_8p0, hp_8p1, hp_8p2, hp_8p3⟩ := hp_8
      refine zk_ret ?_
      try dsimp only
      exact ⟨by omega, h_i_hill_columns_heights, h_i_hill_columns_weights⟩
set_option maxHeartbeats 4000000 in
theorem s_Columns_top (x1 : Int) (i_many : Int) (i_heights : Nat → Int) (i_weights : Nat → Int) (b_x1 : 0 ≤ x1 ∧ x1 ≤ 11) (b_i_many : 1 ≤ i_many ∧ i_many ≤ 12) (h_i_heights : zR i_heights 0 10) (h_i_weights : zR i_weights 0 30) : zok (f_Columns_top x1 i_many i_heights i_weights) (fun o => (0 ≤ o ∧ o ≤ 30)) := by
  unfold f_Columns_top
  refine zk_d1 (s_Columns_high _ _ _ (by omega) (by omega) h_i_heights) (fun v1 hp => ?_)
  try dsimp only at hp
  obtain ⟨hpp0, hpp1⟩ := hp
  refine zk_ifc (zci_ler (by omega)) (fun hc => ?_) (fun hc => ?_)
  · exact zk_ret (by omega)
  · refine zk_n ?_
    refine zk_n ?_
    refine zk_n ?_
    refine zk_gv (by omega) (by decide) (fun v5 h_v5 => ?_)
    have r_v5 := h_i_weights ((((x1 * 10) + v1) - 1).toNat)
    exact zk_ret (by omega)
set_option maxHeartbeats 4000000 in
theorem s_Columns_take (x1 : Int) (i_many : Int) (i_weights : Nat → Int) (i_heights : Nat → Int) (b_x1 : 0 ≤ x1 ∧ x1 ≤ 11) (b_i_many : 1 ≤ i_many ∧ i_many ≤ 12) (h_i_weights : zR i_weights 0 30) (h_i_heights : zR i_heights 0 10) : zok (f_Columns_take x1 i_many i_weights i_heights) (fun o => (0 ≤ o.1 ∧ o.1 ≤ 30) ∧ zR o.2 0 10) := by
  unfold f_Columns_take
  refine zk_d1 (s_Columns_top _ _ _ _ (by omega) (by omega) h_i_heights h_i_weights) (fun v1 hp => ?_)
  try dsimp only at hp
  have hpp0 := hp
  refine zk_d1 (s_Columns_high _ _ _ (by omega) (by omega) h_i_heights) (fun v2 hp_2 => ?_)
  try dsimp only at hp_2
  obtain ⟨hp_2p0, hp_2p1⟩ := hp_2
  refine zk_ifc (zci_ler (by omega)) (fun hc => ?_) (fun hc => ?_)
  · refine zk_ret ?_
    try dsimp only
    exact ⟨by omega, h_i_heights⟩
  · refine zk_gv (by omega) (by decide) (fun v3 h_v3 => ?_)
    have r_v3 := h_i_heights (x1.toNat)
    refine zk_n ?_
    refine zk_sv (by omega) (by decide) (fun a5 h_a5 => ?_)
    have i_a5 : zR a5 0 10 := by rw [h_a5]; exact zR_zu h_i_heights (by decide) (by decide) (by omega)
    refine zk_ret ?_
    try dsimp only
    exact ⟨by omega, i_a5⟩
set_option maxHeartbeats 4000000 in
theorem s_HS_lift (x1 : Int) (i_hill_columns_many : Int) (i_hill_columns_weights : Nat → Int) (i_latestStatus : Int) (i_hill_changes : Int) (i_refusals : Nat → Int) (i_hill_columns_heights : Nat → Int) (b_x1 : (-2147483648) ≤ x1 ∧ x1 ≤ 2147483647) (b_i_hill_columns_many : 0 ≤ i_hill_columns_many ∧ i_hill_columns_many ≤ 12) (h_i_hill_columns_weights : zR i_hill_columns_weights 0 30) (b_i_latestStatus : (-6) ≤ i_latestStatus ∧ i_latestStatus ≤ 0) (h_i_hill_columns_heights : zR i_hill_columns_heights 0 10) : zok (f_HS_lift x1 i_hill_columns_many i_hill_columns_weights i_latestStatus i_hill_changes i_refusals i_hill_columns_heights) (fun o => ((-6) ≤ o.2.1 ∧ o.2.1 ≤ 0) ∧ zR o.2.2.2.2 0 10) := by
  unfold f_HS_lift
  refine zk_d1 (s_Columns_has _ _ (by omega) (by omega)) (fun v1 hp => ?_)
  try dsimp only at hp
  obtain ⟨hpp0, hpp1⟩ := hp
  refine zk_ifc (zci_ner (by omega)) (fun hc => ?_) (fun hc => ?_)
  · refine zk_d1 (s_Columns_high _ _ _ (by omega) (by omega) h_i_hill_columns_heights) (fun v2 hp_2 => ?_)
    try dsimp only at hp_2
    obtain ⟨hp_2p0, hp_2p1⟩ := hp_2
    refine zk_ifc (zci_ner (by omega)) (fun hc_2 => ?_) (fun hc_2 => ?_)
    · refine zk_d2 (s_Columns_take _ _ _ _ (by omega) (by omega) h_i_hill_columns_weights h_i_hill_columns_heights) (fun v3 a4 hp_3 => ?_)
      try dsimp only at hp_3
      obtain ⟨hp_3p0, hp_3p1⟩ := hp_3
      refine zk_d3 (s_HS_accept _ _ _ (by omega)) (fun v5 v6 v7 hp_4 => ?_)
      try dsimp only at hp_4
      obtain ⟨hp_4p0, hp_4p1, hp_4p2, hp_4p3⟩ := hp_4
      refine zk_ret ?_
      try dsimp only
      exact ⟨by omega, hp_3p1⟩
    · refine zk_d3 (s_HS_refuse _ _ _ (by omega) (by omega)) (fun v8 v9 a10 hp_5 => ?_)
      try dsimp only at hp_5
      obtain ⟨hp_5p0, hp_5p1, hp_5p2, hp_5p3⟩ := hp_5
      refine zk_ret ?_
      try dsimp only
      exact ⟨by omega, h_i_hill_columns_heights⟩
  · refine zk_d3 (s_HS_refuse _ _ _ (by omega) (by omega)) (fun v11 v12 a13 hp_6 => ?_)
    try dsimp only at hp_6
    obtain ⟨hp_6p0, hp_6p1, hp_6p2, hp_6p3⟩ := hp_6
    refine zk_ret ?_
    try dsimp only
    exact ⟨by omega, h_i_hill_columns_heights⟩
set_option maxHeartbeats 4000000 in
theorem s_Columns_heft (x1 : Int) (x2 : Int) (i_many : Int) (i_heights : Nat → Int) (i_weights : Nat → Int) (b_x1 : 0 ≤ x1 ∧ x1 ≤ 11) (b_x2 : 0 ≤ x2 ∧ x2 ≤ 9) (b_i_many : 1 ≤ i_many ∧ i_many ≤ 12) (h_i_heights : zR i_heights 0 10) (h_i_weights : zR i_weights 0 30) : zok (f_Columns_heft x1 x2 i_many i_heights i_weights) (fun o => (0 ≤ o ∧ o ≤ 30)) := by
  unfold f_Columns_heft
  refine zk_ifc (zci_ltr (by omega)) (fun hc => ?_) (fun hc => ?_)
  · exfalso; omega
  · refine zk_d1 (s_Columns_high _ _ _ (by omega) (by omega) h_i_heights) (fun v1 hp => ?_)
    try dsimp only at hp
    obtain ⟨hpp0, hpp1⟩ := hp
    refine zk_ifc (zci_le (by omega) (by omega)) (fun hc_2 => ?_) (fun hc_2 => ?_)
    · exact zk_ret (by omega)
    · refine zk_n ?_
      refine zk_n ?_
      refine zk_gv (by omega) (by decide) (fun v4 h_v4 => ?_)
      have r_v4 := h_i_weights (((x1 * 10) + x2).toNat)
      exact zk_ret (by omega)
set_option maxHeartbeats 4000000 in
theorem s_HS_of (x1 : Int) (x2 : Int) (i_hill_columns_many : Int) (i_hill_columns_heights : Nat → Int) (i_hill_columns_weights : Nat → Int) (b_x1 : (-2147483648) ≤ x1 ∧ x1 ≤ 2147483647) (b_x2 : (-2147483648) ≤ x2 ∧ x2 ≤ 2147483647) (b_i_hill_columns_many : 0 ≤ i_hill_columns_many ∧ i_hill_columns_many ≤ 12) (h_i_hill_columns_heights : zR i_hill_columns_heights 0 10) (h_i_hill_columns_weights : zR i_hill_columns_weights 0 30) : zok (f_HS_of x1 x2 i_hill_columns_many i_hill_columns_heights i_hill_columns_weights) (fun o => ((-1) ≤ o ∧ o ≤ 30)) := by
  unfold f_HS_of
  refine zk_d1 (s_Columns_has _ _ (by omega) (by omega)) (fun v1 hp => ?_)
  try dsimp only at hp
  obtain ⟨hpp0, hpp1⟩ := hp
  refine zk_ifc (zci_ner (by omega)) (fun hc => ?_) (fun hc => ?_)
  · refine zk_ifc (zci_ne (by omega) (by omega)) (fun hc_2 => ?_) (fun hc_2 => ?_)
    · refine zk_ifc (zci_ltr (by omega)) (fun hc_3 => ?_) (fun hc_3 => ?_)
      · exact zk_ret (by omega)
      · refine zk_d1 (s_Columns_high _ _ _ (by omega) (by omega) h_i_hill_columns_heights) (fun v2 hp_2 => ?_)
        try dsimp only at hp_2
        obtain ⟨hp_2p0, hp_2p1⟩ := hp_2
        refine zk_ifc (zci_lt (by omega) (by omega)) (fun hc_4 => ?_) (fun hc_4 => ?_)
        · refine zk_d1 (s_Columns_heft _ _ _ _ _ (by omega) (by omega) (by omega) h_i_hill_columns_heights h_i_hill_columns_weights) (fun v3 hp_3 => ?_)
          try dsimp only at hp_3
          have hp_3p0 := hp_3
          exact zk_ret (by omega)
        · exact zk_ret (by omega)
    · refine zk_d1 (s_Columns_high _ _ _ (by omega) (by omega) h_i_hill_columns_heights) (fun v4 hp_4 => ?_)
      try dsimp only at hp_4
      obtain ⟨hp_4p0, hp_4p1⟩ := hp_4
      exact zk_ret (by omega)
  · exact zk_ret (by omega)
set_option maxHeartbeats 4000000 in
theorem s_Columns_load_4 (i_many : Int) (i_heights : Nat → Int) (i_weights : Nat → Int) (b_i_many : 1 ≤ i_many ∧ i_many ≤ 12) (h_i_heights : zR i_heights 0 10) (h_i_weights : zR i_weights 0 30) : ∀ (n : Nat) (x1 : Int) (x2 : Int) (x3 : Int), (0 ≤ x1 ∧ x1 ≤ 11) → (0 ≤ x3 ∧ x3 ≤ 10) → (11 - x3) < (n : Int) → zok (f_Columns_load_4 i_many i_heights i_weights n x1 x2 x3) (fun o => True) := by
  intro n
  induction n with
  | zero => intro x1 x2 x3 b_x1 b_x3 hm; exfalso; omega
  | succ n ih =>
    intro x1 x2 x3 b_x1 b_x3 hm
    show zok (f_Columns_load_4_b i_many i_heights i_weights (f_Columns_load_4 i_many i_heights i_weights n) x1 x2 x3) _
    unfold f_Columns_load_4_b
    refine zk_d1 (s_Columns_high _ _ _ (by omega) (by omega) h_i_heights) (fun v1 hp => ?_)
    try dsimp only at hp
    obtain ⟨hpp0, hpp1⟩ := hp
    refine zk_ifc (zci_le (by omega) (by omega)) (fun hc => ?_) (fun hc => ?_)
    · exact zk_ret trivial
    · refine zk_d1 (s_Columns_heft _ _ _ _ _ (by omega) (by omega) (by omega) h_i_heights h_i_weights) (fun v2 hp_2 => ?_)
      try dsimp only at hp_2
      have hp_2p0 := hp_2
      refine zk_n ?_
      refine zk_n ?_
      exact ih _ _ _ (by omega) (by omega) (by omega)
set_option maxHeartbeats 4000000 in
theorem s_Columns_load (x1 : Int) (i_many : Int) (i_heights : Nat → Int) (i_weights : Nat → Int) (b_x1 : 0 ≤ x1 ∧ x1 ≤ 11) (b_i_many : 1 ≤ i_many ∧ i_many ≤ 12) (h_i_heights : zR i_heights 0 10) (h_i_weights : zR i_weights 0 30) : zok (f_Columns_load x1 i_many i_heights i_weights) (fun o => True) := by
  unfold f_Columns_load
  exact s_Columns_load_4 _ _ _ (by omega) h_i_heights h_i_weights zfu _ _ _ (by omega) (by omega) (by unfold zfu; omega)
set_option maxHeartbeats 4000000 in
theorem s_HS_weight (x1 : Int) (i_hill_columns_many : Int) (i_hill_columns_heights : Nat → Int) (i_hill_columns_weights : Nat → Int) (b_x1 : (-2147483648) ≤ x1 ∧ x1 ≤ 2147483647) (b_i_hill_columns_many : 0 ≤ i_hill_columns_many ∧ i_hill_columns_many ≤ 12) (h_i_hill_columns_heights : zR i_hill_columns_heights 0 10) (h_i_hill_columns_weights : zR i_hill_columns_weights 0 30) : zok (f_HS_weight x1 i_hill_columns_many i_hill_columns_heights i_hill_columns_weights) (fun o => True) := by
  unfold f_HS_weight
  refine zk_d1 (s_Columns_has _ _ (by omega) (by omega)) (fun v1 hp => ?_)
  try dsimp only at hp
  obtain ⟨hpp0, hpp1⟩ := hp
  refine zk_ifc (zci_eqr (by omega)) (fun hc => ?_) (fun hc => ?_)
  · exact zk_ret trivial
  · refine zk_d1 (s_Columns_load _ _ _ _ (by omega) (by omega) h_i_hill_columns_heights h_i_hill_columns_weights) (fun v2 hp_2 => ?_)
    exact zk_ret trivial
set_option maxHeartbeats 4000000 in
theorem s_Hill_enroll (x1 : Int) (i_children : Int) (i_strengths : Nat → Int) (i_expelled : Nat → Int) (i_trips : Nat → Int) (b_x1 : 1 ≤ x1 ∧ x1 ≤ 60) (b_i_children : 0 ≤ i_children ∧ i_children ≤ 5) (h_i_strengths : zR i_strengths 0 60) (h_i_expelled : zR i_expelled 0 1) (h_i_trips : zR i_trips 0 20) : zok (f_Hill_enroll x1 i_children i_strengths i_expelled i_trips) (fun o => (0 ≤ o.1 ∧ o.1 ≤ 5) ∧ (1 ≤ o.2.1 ∧ o.2.1 ≤ 6) ∧ zR o.2.2.1 0 60 ∧ zR o.2.2.2.1 0 1 ∧ zR o.2.2.2.2 0 20) := by
  unfold f_Hill_enroll
  refine zk_ifc (zci_lt (by omega) (by omega)) (fun hc => ?_) (fun hc => ?_)
  · refine zk_sv (by omega) (by decide) (fun a1 h_a1 => ?_)
    have i_a1 : zR a1 0 60 := by rw [h_a1]; exact zR_zu h_i_strengths (by decide) (by decide) (by omega)
    refine zk_sv (by omega) (by decide) (fun a2 h_a2 => ?_)
    have i_a2 : zR a2 0 1 := by rw [h_a2]; exact zR_zu h_i_expelled (by decide) (by decide) (by omega)
    refine zk_sv (by omega) (by decide) (fun a3 h_a3 => ?_)
    have i_a3 : zR a3 0 20 := by rw [h_a3]; exact zR_zu h_i_trips (by decide) (by decide) (by omega)
    refine zk_n ?_
    refine zk_ret ?_
    try dsimp only
    exact ⟨by omega, by omega, i_a1, i_a2, i_a3⟩
  · exfalso; omega
set_option maxHeartbeats 4000000 in
theorem s_HS_child (x1 : Int) (i_latestStatus : Int) (i_hill_children : Int) (i_hill_changes : Int) (i_refusals : Nat → Int) (i_hill_strengths : Nat → Int) (i_hill_expelled : Nat → Int) (i_hill_trips : Nat → Int) (b_x1 : (-2147483648) ≤ x1 ∧ x1 ≤ 2147483647) (b_i_latestStatus : (-6) ≤ i_latestStatus ∧ i_latestStatus ≤ 0) (b_i_hill_children : 0 ≤ i_hill_children ∧ i_hill_children ≤ 6) (h_i_hill_strengths : zR i_hill_strengths 0 60) (h_i_hill_expelled : zR i_hill_expelled 0 1) (h_i_hill_trips : zR i_hill_trips 0 20) : zok (f_HS_child x1 i_latestStatus i_hill_children i_hill_changes i_refusals i_hill_strengths i_hill_expelled i_hill_trips) (fun o => ((-6) ≤ o.2.1 ∧ o.2.1 ≤ 0) ∧ (0 ≤ o.2.2.1 ∧ o.2.2.1 ≤ 6) ∧ zR o.2.2.2.2.2.1 0 60 ∧ zR o.2.2.2.2.2.2.1 0 1 ∧ zR o.2.2.2.2.2.2.2 0 20) := by
  unfold f_HS_child
  refine zk_ifc (zci_lt (by omega) (by omega)) (fun hc => ?_) (fun hc => ?_)
  · unfold f_HS_child_11
    refine zk_d3 (s_HS_refuse _ _ _ (by omega) (by omega)) (fun v1 v2 a3 hp => ?_)
    try dsimp only at hp
    obtain ⟨hpp0, hpp1, hpp2, hpp3⟩ := hp
    refine zk_ret ?_
    try dsimp only
    exact ⟨by omega, by omega, h_i_hill_strengths, h_i_hill_expelled, h_i_hill_trips⟩
  · refine zk_ifc (zci_le (by omega) (by omega)) (fun hc_2 => ?_) (fun hc_2 => ?_)
    · refine zk_ifc (zci_lt (by omega) (by omega)) (fun hc_3 => ?_) (fun hc_3 => ?_)
      · refine zk_d5 (s_Hill_enroll _ _ _ _ _ (by omega) (by omega) h_i_hill_strengths h_i_hill_expelled h_i_hill_trips) (fun v1_2 v2_2 a3_2 a4 a5 hp_2 => ?_)
        try dsimp only at hp_2
        obtain ⟨hp_2p0, hp_2p1, hp_2p2, hp_2p3, hp_2p4⟩ := hp_2
        refine zk_d3 (s_HS_accept _ _ _ (by omega)) (fun v6 v7 v8 hp_3 => ?_)
        try dsimp only at hp_3
        obtain ⟨hp_3p0, hp_3p1, hp_3p2, hp_3p3⟩ := hp_3
        refine zk_ret ?_
        try dsimp only
        exact ⟨by omega, by omega, hp_2p2, hp_2p3, hp_2p4⟩
      · refine zk_d3 (s_HS_refuse _ _ _ (by omega) (by omega)) (fun v9 v10 a11 hp_4 => ?_)
        try dsimp only at hp_4
        obtain ⟨hp_4p0, hp_4p1, hp_4p2, hp_4p3⟩ := hp_4
        refine zk_ret ?_
        try dsimp only
        exact ⟨by omega, by omega, h_i_hill_strengths, h_i_hill_expelled, h_i_hill_trips⟩
    · unfold f_HS_child_11
      refine zk_d3 (s_HS_refuse _ _ _ (by omega) (by omega)) (fun v1_3 v2_3 a3_3 hp_5 => ?_)
      try dsimp only at hp_5
      obtain ⟨hp_5p0, hp_5p1, hp_5p2, hp_5p3⟩ := hp_5
      refine zk_ret ?_
      try dsimp only
      exact ⟨by omega, by omega, h_i_hill_strengths, h_i_hill_expelled, h_i_hill_trips⟩
