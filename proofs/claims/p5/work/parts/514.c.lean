set_option maxHeartbeats 4000000 in
theorem s_Paper_wash (x1 : Int) (i_columns_many : Int) (i_columns_heights : Nat → Int) (i_columns_weights : Nat → Int) (b_x1 : 0 ≤ x1 ∧ x1 ≤ 11) (b_i_columns_many : 1 ≤ i_columns_many ∧ i_columns_many ≤ 12) (h_i_columns_heights : zR i_columns_heights 0 10) (h_i_columns_weights : zR i_columns_weights 0 30) : zok (f_Paper_wash x1 i_columns_many i_columns_heights i_columns_weights) (fun o => (0 ≤ o.1 ∧ o.1 ≤ 1) ∧ zR o.2.1 0 10 ∧ zR o.2.2 0 30) := by
  unfold f_Paper_wash
  refine zk_d1 (s_Columns_high _ _ _ (by omega) (by omega) h_i_columns_heights) (fun v1 hp => ?_)
  try dsimp only at hp
  obtain ⟨hpp0, hpp1⟩ := hp
  refine zk_ifc (zci_ner (by omega)) (fun hc => ?_) (fun hc => ?_)
  · refine zk_d2 (s_Columns_take _ _ _ _ (by omega) (by omega) h_i_columns_weights h_i_columns_heights) (fun v2 a3 hp_2 => ?_)
    try dsimp only at hp_2
    obtain ⟨hp_2p0, hp_2p1⟩ := hp_2
    refine zk_n ?_
    refine zk_d3 (s_Columns_put _ _ _ _ _ (by omega) (by omega) (by omega) hp_2p1 h_i_columns_weights) (fun v5 a6 a7 hp_3 => ?_)
    try dsimp only at hp_3
    obtain ⟨hp_3p0, hp_3p1, hp_3p2, hp_3p3⟩ := hp_3
    refine zk_ifc (zci_eqr (by omega)) (fun hc_2 => ?_) (fun hc_2 => ?_)
    · refine zk_ret ?_
      try dsimp only
      exact ⟨by omega, hp_3p1, hp_3p2⟩
    · refine zk_ret ?_
      try dsimp only
      exact ⟨by omega, hp_3p1, hp_3p2⟩
  · refine zk_ret ?_
    try dsimp only
    exact ⟨by omega, h_i_columns_heights, h_i_columns_weights⟩
set_option maxHeartbeats 4000000 in
theorem s_Paper_pour_29 (i_a1_many : Int) (i_a1_heights : Nat → Int) (i_a1_weights : Nat → Int) (b_i_a1_many : 0 ≤ i_a1_many ∧ i_a1_many ≤ 12) (h_i_a1_heights : zR i_a1_heights 0 10) (h_i_a1_weights : zR i_a1_weights 0 30) : ∀ (n : Nat) (x2 : Int) (x4 : Int) (x5 : Int) (x6 : Int) (x7 : Int) (i_columns_many : Int) (i_columns_heights : Nat → Int) (i_columns_weights : Nat → Int), (0 ≤ x2 ∧ x2 ≤ 99) → (1 ≤ x4 ∧ x4 ≤ 40) → (0 ≤ x6 ∧ x6 ≤ 1000002) → (0 ≤ x7 ∧ x7 ≤ 40) → (1 ≤ i_columns_many ∧ i_columns_many ≤ 12) → (zR i_columns_heights 0 10) → (zR i_columns_weights 0 30) → (41 - x7) < (n : Int) → zok (f_Paper_pour_29 i_a1_many i_a1_heights i_a1_weights n x2 x4 x5 x6 x7 i_columns_many i_columns_heights i_columns_weights) (fun o => (0 ≤ o.2.1 ∧ o.2.1 ≤ 12) ∧ zR o.2.2.1 0 10 ∧ zR o.2.2.2 0 30) := by
  intro n
  induction n with
  | zero => intro x2 x4 x5 x6 x7 i_columns_many i_columns_heights i_columns_weights b_x2 b_x4 b_x6 b_x7 b_i_columns_many h_i_columns_heights h_i_columns_weights hm; exfalso; omega
  | succ n ih =>
    intro x2 x4 x5 x6 x7 i_columns_many i_columns_heights i_columns_weights b_x2 b_x4 b_x6 b_x7 b_i_columns_many h_i_columns_heights h_i_columns_weights hm
    show zok (f_Paper_pour_29_b i_a1_many i_a1_heights i_a1_weights (f_Paper_pour_29 i_a1_many i_a1_heights i_a1_weights n) x2 x4 x5 x6 x7 i_columns_many i_columns_heights i_columns_weights) _
    unfold f_Paper_pour_29_b
    refine zk_ifc (zci_le (by omega) (by omega)) (fun hc => ?_) (fun hc => ?_)
    · refine zk_ret ?_
      try dsimp only
      exact ⟨by omega, h_i_columns_heights, h_i_columns_weights⟩
    · refine zk_n ?_
      refine zk_n ?_
      refine zk_g0zi_w (by omega) ?_
      refine zk_nE (fun v3 h_v3 => ?_)
      rw [zi_rem_n (by omega) (by omega)] at h_v3
      refine zk_g0zi_w (by omega) ?_
      refine zk_nE (fun v4 h_v4 => ?_)
      rw [zi_rem_n (by omega) (by omega)] at h_v4
      have r2_v4 := zemod v3 (w := i_columns_many) (by omega)
      refine zk_d3 (s_Paper_wash _ _ _ _ (by omega) (by omega) h_i_columns_heights h_i_columns_weights) (fun v5 a6 a7 hp => ?_)
      try dsimp only at hp
      obtain ⟨hpp0, hpp1, hpp2⟩ := hp
      refine zk_n ?_
      refine zk_d3 (s_Columns_settle _ _ _ _ (by omega) (by omega) hpp1 hpp2) (fun v9 a10 a11 hp_2 => ?_)
      try dsimp only at hp_2
      obtain ⟨hp_2p0, hp_2p1, hp_2p2⟩ := hp_2
      refine zk_n ?_
      exact ih _ _ _ _ _ _ _ _ (by omega) (by omega) (by omega) (by omega) (by omega) hp_2p1 hp_2p2 (by omega)
set_option maxHeartbeats 4000000 in
theorem s_Paper_pour (x2 : Int) (x3 : Int) (x4 : Int) (i_a1_many : Int) (i_a1_heights : Nat → Int) (i_a1_weights : Nat → Int) (i_columns_many : Int) (i_columns_heights : Nat → Int) (i_columns_weights : Nat → Int) (b_x2 : 0 ≤ x2 ∧ x2 ≤ 99) (b_x3 : 0 ≤ x3 ∧ x3 ≤ 1000000) (b_x4 : 1 ≤ x4 ∧ x4 ≤ 40) (b_i_a1_many : 0 ≤ i_a1_many ∧ i_a1_many ≤ 12) (h_i_a1_heights : zR i_a1_heights 0 10) (h_i_a1_weights : zR i_a1_weights 0 30) (b_i_columns_many : 0 ≤ i_columns_many ∧ i_columns_many ≤ 12) (h_i_columns_heights : zR i_columns_heights 0 10) (h_i_columns_weights : zR i_columns_weights 0 30) : zok (f_Paper_pour x2 x3 x4 i_a1_many i_a1_heights i_a1_weights i_columns_many i_columns_heights i_columns_weights) (fun o => (0 ≤ o.2.1 ∧ o.2.1 ≤ 12) ∧ zR o.2.2.1 0 10 ∧ zR o.2.2.2 0 30) := by
  unfold f_Paper_pour
  refine zk_d3 (s_Columns_become _ _ _ _ _ _ (by omega) h_i_a1_heights h_i_a1_weights (by omega) h_i_columns_heights h_i_columns_weights) (fun v1 a2 a3 hp => ?_)
  try dsimp only at hp
  obtain ⟨hpp0, hpp1, hpp2⟩ := hp
  refine zk_ifc (zci_ner (by omega)) (fun hc => ?_) (fun hc => ?_)
  · exact s_Paper_pour_29 _ _ _ (by omega) h_i_a1_heights h_i_a1_weights zfu _ _ _ _ _ _ _ _ (by omega) (by omega) (by omega) (by omega) (by omega) hpp1 hpp2 (by unfold zfu; omega)
  · refine zk_ret ?_
    try dsimp only
    exact ⟨by omega, hpp1, hpp2⟩
set_option maxHeartbeats 4000000 in
theorem s_HS_rain (x1 : Int) (x2 : Int) (i_hill_columns_many : Int) (i_hill_terms : Nat → Int) (i_hill_columns_heights : Nat → Int) (i_hill_columns_weights : Nat → Int) (i_latestStatus : Int) (i_hill_changes : Int) (i_refusals : Nat → Int) (i_paper_columns_many : Int) (i_paper_columns_heights : Nat → Int) (i_paper_columns_weights : Nat → Int) (b_x1 : (-2147483648) ≤ x1 ∧ x1 ≤ 2147483647) (b_x2 : (-2147483648) ≤ x2 ∧ x2 ≤ 2147483647) (b_i_hill_columns_many : 0 ≤ i_hill_columns_many ∧ i_hill_columns_many ≤ 12) (h_i_hill_terms : zR i_hill_terms 0 99) (h_i_hill_columns_heights : zR i_hill_columns_heights 0 10) (h_i_hill_columns_weights : zR i_hill_columns_weights 0 30) (b_i_latestStatus : (-6) ≤ i_latestStatus ∧ i_latestStatus ≤ 0) (b_i_paper_columns_many : 0 ≤ i_paper_columns_many ∧ i_paper_columns_many ≤ 12) (h_i_paper_columns_heights : zR i_paper_columns_heights 0 10) (h_i_paper_columns_weights : zR i_paper_columns_weights 0 30) : zok (f_HS_rain x1 x2 i_hill_columns_many i_hill_terms i_hill_columns_heights i_hill_columns_weights i_latestStatus i_hill_changes i_refusals i_paper_columns_many i_paper_columns_heights i_paper_columns_weights) (fun o => ((-6) ≤ o.2.1 ∧ o.2.1 ≤ 0) ∧ (0 ≤ o.2.2.2.2.1 ∧ o.2.2.2.2.1 ≤ 12) ∧ zR o.2.2.2.2.2.1 0 10 ∧ zR o.2.2.2.2.2.2 0 30) := by
  unfold f_HS_rain
  refine zk_ifc (zci_ltr (by omega)) (fun hc => ?_) (fun hc => ?_)
  · unfold f_HS_rain_22
    refine zk_d3 (s_HS_refuse _ _ _ (by omega) (by omega)) (fun v1 v2 a3 hp => ?_)
    try dsimp only at hp
    obtain ⟨hpp0, hpp1, hpp2, hpp3⟩ := hp
    refine zk_ret ?_
    try dsimp only
    exact ⟨by omega, by omega, h_i_paper_columns_heights, h_i_paper_columns_weights⟩
  · refine zk_ifc (zci_lt (by omega) (by omega)) (fun hc_2 => ?_) (fun hc_2 => ?_)
    · unfold f_HS_rain_22
      refine zk_d3 (s_HS_refuse _ _ _ (by omega) (by omega)) (fun v1_2 v2_2 a3_2 hp_2 => ?_)
      try dsimp only at hp_2
      obtain ⟨hp_2p0, hp_2p1, hp_2p2, hp_2p3⟩ := hp_2
      refine zk_ret ?_
      try dsimp only
      exact ⟨by omega, by omega, h_i_paper_columns_heights, h_i_paper_columns_weights⟩
    · refine zk_ifc (zci_lt (by omega) (by omega)) (fun hc_3 => ?_) (fun hc_3 => ?_)
      · unfold f_HS_rain_22
        refine zk_d3 (s_HS_refuse _ _ _ (by omega) (by omega)) (fun v1_3 v2_3 a3_3 hp_3 => ?_)
        try dsimp only at hp_3
        obtain ⟨hp_3p0, hp_3p1, hp_3p2, hp_3p3⟩ := hp_3
        refine zk_ret ?_
        try dsimp only
        exact ⟨by omega, by omega, h_i_paper_columns_heights, h_i_paper_columns_weights⟩
      · refine zk_ifc (zci_le (by omega) (by omega)) (fun hc_4 => ?_) (fun hc_4 => ?_)
        · refine zk_gl 2 rfl (by decide) (by decide) (fun v1_4 h_v1_4 => ?_)
          have r_v1_4 := h_i_hill_terms (2)
          refine zk_d4 (s_Paper_pour _ _ _ _ _ _ _ _ _ (by omega) (by omega) (by omega) (by omega) h_i_hill_columns_heights h_i_hill_columns_weights (by omega) h_i_paper_columns_heights h_i_paper_columns_weights) (fun v2_4 v3 a4 a5 hp_4 => ?_)
          try dsimp only at hp_4
          obtain ⟨hp_4p0, hp_4p1, hp_4p2⟩ := hp_4
          refine zk_d3 (s_HS_accept _ _ _ (by omega)) (fun v6 v7 v8 hp_5 => ?_)
          try dsimp only at hp_5
          obtain ⟨hp_5p0, hp_5p1, hp_5p2, hp_5p3⟩ := hp_5
          refine zk_ret ?_
          try dsimp only
          exact ⟨by omega, by omega, hp_4p1, hp_4p2⟩
        · unfold f_HS_rain_22
          refine zk_d3 (s_HS_refuse _ _ _ (by omega) (by omega)) (fun v1_5 v2_5 a3_4 hp_6 => ?_)
          try dsimp only at hp_6
          obtain ⟨hp_6p0, hp_6p1, hp_6p2, hp_6p3⟩ := hp_6
          refine zk_ret ?_
          try dsimp only
          exact ⟨by omega, by omega, h_i_paper_columns_heights, h_i_paper_columns_weights⟩
set_option maxHeartbeats 4000000 in
theorem s_HS_rained (x1 : Int) (x2 : Int) (i_paper_columns_many : Int) (i_paper_columns_heights : Nat → Int) (i_paper_columns_weights : Nat → Int) (b_x1 : (-2147483648) ≤ x1 ∧ x1 ≤ 2147483647) (b_x2 : (-2147483648) ≤ x2 ∧ x2 ≤ 2147483647) (b_i_paper_columns_many : 0 ≤ i_paper_columns_many ∧ i_paper_columns_many ≤ 12) (h_i_paper_columns_heights : zR i_paper_columns_heights 0 10) (h_i_paper_columns_weights : zR i_paper_columns_weights 0 30) : zok (f_HS_rained x1 x2 i_paper_columns_many i_paper_columns_heights i_paper_columns_weights) (fun o => True) := by
  unfold f_HS_rained
  refine zk_d1 (s_Columns_has _ _ (by omega) (by omega)) (fun v1 hp => ?_)
  try dsimp only at hp
  obtain ⟨hpp0, hpp1⟩ := hp
  refine zk_ifc (zci_eqr (by omega)) (fun hc => ?_) (fun hc => ?_)
  · exact zk_ret trivial
  · refine zk_ifc (zci_ltr (by omega)) (fun hc_2 => ?_) (fun hc_2 => ?_)
    · exact zk_ret trivial
    · refine zk_ifc (zci_le (by omega) (by omega)) (fun hc_3 => ?_) (fun hc_3 => ?_)
      · refine zk_ifc (zci_ner (by omega)) (fun hc_4 => ?_) (fun hc_4 => ?_)
        · refine zk_d1 (s_Columns_load _ _ _ _ (by omega) (by omega) h_i_paper_columns_heights h_i_paper_columns_weights) (fun v2 hp_2 => ?_)
          exact zk_ret trivial
        · refine zk_d1 (s_Columns_high _ _ _ (by omega) (by omega) h_i_paper_columns_heights) (fun v3 hp_3 => ?_)
          try dsimp only at hp_3
          obtain ⟨hp_3p0, hp_3p1⟩ := hp_3
          exact zk_ret trivial
      · exact zk_ret trivial
set_option maxHeartbeats 4000000 in
theorem s_Hill_become (i_a1_children : Int) (i_a1_parishes : Int) (i_a1_laws : Int) (i_a1_inForce : Int) (i_a1_columns_many : Int) (i_a1_strengths : Nat → Int) (i_a1_expelled : Nat → Int) (i_a1_trips : Nat → Int) (i_a1_places : Nat → Int) (i_a1_terms : Nat → Int) (i_a1_goals : Nat → Int) (i_a1_orders : Nat → Int) (i_a1_ordered : Nat → Int) (i_a1_columns_heights : Nat → Int) (i_a1_columns_weights : Nat → Int) (i_children : Int) (i_parishes : Int) (i_laws : Int) (i_inForce : Int) (i_columns_many : Int) (i_strengths : Nat → Int) (i_expelled : Nat → Int) (i_trips : Nat → Int) (i_places : Nat → Int) (i_terms : Nat → Int) (i_goals : Nat → Int) (i_orders : Nat → Int) (i_ordered : Nat → Int) (i_columns_heights : Nat → Int) (i_columns_weights : Nat → Int) (b_i_a1_children : 0 ≤ i_a1_children ∧ i_a1_children ≤ 6) (b_i_a1_parishes : 0 ≤ i_a1_parishes ∧ i_a1_parishes ≤ 6) (b_i_a1_laws : 0 ≤ i_a1_laws ∧ i_a1_laws ≤ 6) (b_i_a1_inForce : (-1) ≤ i_a1_inForce ∧ i_a1_inForce ≤ 5) (b_i_a1_columns_many : 0 ≤ i_a1_columns_many ∧ i_a1_columns_many ≤ 12) (h_i_a1_strengths : zR i_a1_strengths 0 60) (h_i_a1_expelled : zR i_a1_expelled 0 1) (h_i_a1_trips : zR i_a1_trips 0 20) (h_i_a1_places : zR i_a1_places 0 11) (h_i_a1_terms : zR i_a1_terms 0 99) (h_i_a1_goals : zR i_a1_goals (-1) 10) (h_i_a1_orders : zR i_a1_orders (-2147483648) 2147483647) (h_i_a1_ordered : zR i_a1_ordered 0 424) (h_i_a1_columns_heights : zR i_a1_columns_heights 0 10) (h_i_a1_columns_weights : zR i_a1_columns_weights 0 30) (b_i_children : 0 ≤ i_children ∧ i_children ≤ 6) (b_i_parishes : 0 ≤ i_parishes ∧ i_parishes ≤ 6) (b_i_laws : 0 ≤ i_laws ∧ i_laws ≤ 6) (b_i_inForce : (-1) ≤ i_inForce ∧ i_inForce ≤ 5) (b_i_columns_many : 0 ≤ i_columns_many ∧ i_columns_many ≤ 12) (h_i_strengths : zR i_strengths 0 60) (h_i_expelled : zR i_expelled 0 1) (h_i_trips : zR i_trips 0 20) (h_i_places : zR i_places 0 11) (h_i_terms : zR i_terms 0 99) (h_i_goals : zR i_goals (-1) 10) (h_i_orders : zR i_orders (-2147483648) 2147483647) (h_i_ordered : zR i_ordered 0 424) (h_i_columns_heights : zR i_columns_heights 0 10) (h_i_columns_weights : zR i_columns_weights 0 30) : zok (f_Hill_become i_a1_children i_a1_parishes i_a1_laws i_a1_inForce i_a1_columns_many i_a1_strengths i_a1_expelled i_a1_trips i_a1_places i_a1_terms i_a1_goals i_a1_orders i_a1_ordered i_a1_columns_heights i_a1_columns_weights i_children i_parishes i_laws i_inForce i_columns_many i_strengths i_expelled i_trips i_places i_terms i_goals i_orders i_ordered i_columns_heights i_columns_weights) (fun o => (0 ≤ o.1 ∧ o.1 ≤ 6) ∧ (0 ≤ o.2.1 ∧ o.2.1 ≤ 6) ∧ (0 ≤ o.2.2.1 ∧ o.2.2.1 ≤ 6) ∧ ((-1) ≤ o.2.2.2.1 ∧ o.2.2.2.1 ≤ 5) ∧ (0 ≤ o.2.2.2.2.1 ∧ o.2.2.2.2.1 ≤ 12) ∧ zR o.2.2.2.2.2.1 0 60 ∧ zR o.2.2.2.2.2.2.1 0 1 ∧ zR o.2.2.2.2.2.2.2.1 0 20 ∧ zR o.2.2.2.2.2.2.2.2.1 0 11 ∧ zR o.2.2.2.2.2.2.2.2.2.1 0 99 ∧ zR o.2.2.2.2.2.2.2.2.2.2.1 (-1) 10 ∧ zR o.2.2.2.2.2.2.2.2.2.2.2.1 (-2147483648) 2147483647 ∧ zR o.2.2.2.2.2.2.2.2.2.2.2.2.1 0 424 ∧ zR o.2.2.2.2.2.2.2.2.2.2.2.2.2.1 0 10 ∧ zR o.2.2.2.2.2.2.2.2.2.2.2.2.2.2 0 30) := by
  unfold f_Hill_become
  refine zk_d3 (s_Columns_become _ _ _ _ _ _ (by omega) h_i_a1_columns_heights h_i_a1_columns_weights (by omega) h_i_columns_heights h_i_columns_weights) (fun v1 a2 a3 hp => ?_)
  try dsimp only at hp
  obtain ⟨hpp0, hpp1, hpp2⟩ := hp
  refine zk_cp (by omega) (fun a4 h_a4 => ?_)
  have i_a4 : zR a4 0 60 := by rw [h_a4]; exact zR_cp h_i_a1_strengths h_i_strengths
  refine zk_cp (by omega) (fun a5 h_a5 => ?_)
  have i_a5 : zR a5 0 1 := by rw [h_a5]; exact zR_cp h_i_a1_expelled h_i_expelled
  refine zk_cp (by omega) (fun a6 h_a6 => ?_)
  have i_a6 : zR a6 0 20 := by rw [h_a6]; exact zR_cp h_i_a1_trips h_i_trips
  refine zk_cp (by omega) (fun a7 h_a7 => ?_)
  have i_a7 : zR a7 0 11 := by rw [h_a7]; exact zR_cp h_i_a1_places h_i_places
  refine zk_cp (by omega) (fun a8 h_a8 => ?_)
  have i_a8 : zR a8 0 99 := by rw [h_a8]; exact zR_cp h_i_a1_terms h_i_terms
  refine zk_cp (by omega) (fun a9 h_a9 => ?_)
  have i_a9 : zR a9 (-1) 10 := by rw [h_a9]; exact zR_cp h_i_a1_goals h_i_goals
  refine zk_cp (by omega) (fun a10 h_a10 => ?_)
  have i_a10 : zR a10 (-2147483648) 2147483647 := by rw [h_a10]; exact zR_cp h_i_a1_orders h_i_orders
  refine zk_cp (by omega) (fun a11 h_a11 => ?_)
  have i_a11 : zR a11 0 424 := by rw [h_a11]; exact zR_cp h_i_a1_ordered h_i_ordered
  refine zk_ret ?_
  try dsimp only
  exact ⟨by omega, by omega, by omega, by omega, by omega, i_a4, i_a5, i_a6, i_a7, i_a8, i_a9, i_a10, i_a11, hpp1, hpp2⟩
set_option maxHeartbeats 4000000 in
theorem s_HS_image (x1 : Int) (i_hill_children : Int) (i_hill_parishes : Int) (i_hill_laws : Int) (i_hill_inForce : Int) (i_hill_columns_many : Int) (i_hill_strengths : Nat → Int) (i_hill_expelled : Nat → Int) (i_hill_trips : Nat → Int) (i_hill_places : Nat → Int) (i_hill_terms : Nat → Int) (i_hill_goals : Nat → Int) (i_hill_orders : Nat → Int) (i_hill_ordered : Nat → Int) (i_hill_columns_heights : Nat → Int) (i_hill_columns_weights : Nat → Int) (i_latestStatus : Int) (i_hill_changes : Int) (i_kept : Nat → Int) (i_refusals : Nat → Int) (i_images_0_children : Int) (i_images_0_parishes : Int) (i_images_0_laws : Int) (i_images_0_inForce : Int) (i_images_1_children : Int) (i_images_1_parishes : Int) (i_images_1_laws : Int) (i_images_1_inForce : Int) (i_images_0_columns_many : Int) (i_images_0_strengths : Nat → Int) (i_images_0_expelled : Nat → Int) (i_images_0_trips : Nat → Int) (i_images_0_places : Nat → Int) (i_images_0_terms : Nat → Int) (i_images_0_goals : Nat → Int) (i_images_0_orders : Nat → Int) (i_images_0_ordered : Nat → Int) (i_images_1_columns_many : Int) (i_images_1_strengths : Nat → Int) (i_images_1_expelled : Nat → Int) (i_images_1_trips : Nat → Int) (i_images_1_places : Nat → Int) (i_images_1_terms : Nat → Int) (i_images_1_goals : Nat → Int) (i_images_1_orders : Nat → Int) (i_images_1_ordered : Nat → Int) (i_images_0_columns_heights : Nat → Int) (i_images_0_columns_weights : Nat → Int) (i_images_1_columns_heights : Nat → Int) (i_images_1_columns_weights : Nat → Int) (b_x1 : (-2147483648) ≤ x1 ∧ x1 ≤ 2147483647) (b_i_hill_children : 0 ≤ i_hill_children ∧ i_hill_children ≤ 6) (b_i_hill_parishes : 0 ≤ i_hill_parishes ∧ i_hill_parishes ≤ 6) (b_i_hill_laws : 0 ≤ i_hill_laws ∧ i_hill_laws ≤ 6) (b_i_hill_inForce : (-1) ≤ i_hill_inForce ∧ i_hill_inForce ≤ 5) (b_i_hill_columns_many : 0 ≤ i_hill_columns_many ∧ i_hill_columns_many ≤ 12) (h_i_hill_strengths : zR i_hill_strengths 0 60) (h_i_hill_expelled : zR i_hill_expelled 0 1) (h_i_hill_trips : zR i_hill_trips 0 20) (h_i_hill_places : zR i_hill_places 0 11) (h_i_hill_terms : zR i_hill_terms 0 99) (h_i_hill_goals : zR i_hill_goals (-1) 10) (h_i_hill_orders : zR i_hill_orders (-2147483648) 2147483647) (h_i_hill_ordered : zR i_hill_ordered 0 424) (h_i_hill_columns_heights : zR i_hill_columns_heights 0 10) (h_i_hill_columns_weights : zR i_hill_columns_weights 0 30) (b_i_latestStatus : (-6) ≤ i_latestStatus ∧ i_latestStatus ≤ 0) (h_i_kept : zR i_kept 0 1) (b_i_images_0_children : 0 ≤ i_images_0_children ∧ i_images_0_children ≤ 6) (b_i_images_0_parishes : 0 ≤ i_images_0_parishes ∧ i_images_0_parishes ≤ 6) (b_i_images_0_laws : 0 ≤ i_images_0_laws ∧ i_images_0_laws ≤ 6) (b_i_images_0_inForce : (-1) ≤ i_images_0_inForce ∧ i_images_0_inForce ≤ 5) (b_i_images_1_children : 0 ≤ i_images_1_children ∧ i_images_1_children ≤ 6) (b_i_images_1_parishes : 0 ≤ i_images_1_parishes ∧ i_images_1_parishes ≤ 6) (b_i_images_1_laws : 0 ≤ i_images_1_laws ∧ i_images_1_laws ≤ 6) (b_i_images_1_inForce : (-1) ≤ i_images_1_inForce ∧ i_images_1_inForce ≤ 5) (b_i_images_0_columns_many : 0 ≤ i_images_0_columns_many ∧ i_images_0_columns_many ≤ 12) (h_i_images_0_strengths : zR i_images_0_strengths 0 60) (h_i_images_0_expelled : zR i_images_0_expelled 0 1) (h_i_images_0_trips : zR i_images_0_trips 0 20) (h_i_images_0_places : zR i_images_0_places 0 11) (h_i_images_0_terms : zR i_images_0_terms 0 99) (h_i_images_0_goals : zR i_images_0_goals (-1) 10) (h_i_images_0_orders : zR i_images_0_orders (-2147483648) 2147483647) (h_i_images_0_ordered : zR i_images_0_ordered 0 424) (b_i_images_1_columns_many : 0 ≤ i_images_1_columns_many ∧ i_images_1_columns_many ≤ 12) (h_i_images_1_strengths : zR i_images_1_strengths 0 60) (h_i_images_1_expelled : zR i_images_1_expelled 0 1) (h_i_images_1_trips : zR i_images_1_trips 0 20) (h_i_images_1_places : zR i_images_1_places 0 11) (h_i_images_1_terms : zR i_images_1_terms 0 99) (h_i_images_1_goals : zR i_images_1_goals (-1) 10) (h_i_images_1_orders : zR i_images_1_orders (-2147483648) 2147483647) (h_i_images_1_ordered : zR i_images_1_ordered 0 424) (h_i_images_0_columns_heights : zR i_images_0_columns_heights 0 10) (h_i_images_0_columns_weights : zR i_images_0_columns_weights 0 30) (h_i_images_1_columns_heights : zR i_images_1_columns_heights 0 10) (h_i_images_1_columns_weights : zR i_images_1_columns_weights 0 30) : zok (f_HS_image x1 i_hill_children i_hill_parishes i_hill_laws i_hill_inForce i_hill_columns_many i_hill_strengths i_hill_expelled i_hill_trips i_hill_places i_hill_terms i_hill_goals i_hill_orders i_hill_ordered i_hill_columns_heights i_hill_columns_weights i_latestStatus i_hill_changes i_kept i_refusals i_images_0_children i_images_0_parishes i_images_0_laws i_images_0_inForce i_images_1_children i_images_1_parishes i_images_1_laws i_images_1_inForce i_images_0_columns_many i_images_0_strengths i_images_0_expelled i_images_0_trips i_images_0_places i_images_0_terms i_images_0_goals i_images_0_orders i_images_0_ordered i_images_1_columns_many i_images_1_strengths i_images_1_expelled i_images_1_trips i_images_1_places i_images_1_terms i_images_1_goals i_images_1_orders i_images_1_ordered i_images_0_columns_heights i_images_0_columns_weights i_images_1_columns_heights i_images_1_columns_weights) (fun o => ((-6) ≤ o.2.1 ∧ o.2.1 ≤ 0) ∧ (0 ≤ o.2.2.2.2.2.1 ∧ o.2.2.2.2.2.1 ≤ 6) ∧ (0 ≤ o.2.2.2.2.2.2.1 ∧ o.2.2.2.2.2.2.1 ≤ 6) ∧ (0 ≤ o.2.2.2.2.2.2.2.1 ∧ o.2.2.2.2.2.2.2.1 ≤ 6) ∧ ((-1) ≤ o.2.2.2.2.2.2.2.2.1 ∧ o.2.2.2.2.2.2.2.2.1 ≤ 5) ∧ (0 ≤ o.2.2.2.2.2.2.2.2.2.1 ∧ o.2.2.2.2.2.2.2.2.2.1 ≤ 6) ∧ (0 ≤ o.2.2.2.2.2.2.2.2.2.2.1 ∧ o.2.2.2.2.2.2.2.2.2.2.1 ≤ 6) ∧ (0 ≤ o.2.2.2.2.2.2.2.2.2.2.2.1 ∧ o.2.2.2.2.2.2.2.2.2.2.2.1 ≤ 6) ∧ ((-1) ≤ o.2.2.2.2.2.2.2.2.2.2.2.2.1 ∧ o.2.2.2.2.2.2.2.2.2.2.2.2.1 ≤ 5) ∧ (0 ≤ o.2.2.2.2.2.2.2.2.2.2.2.2.2.1 ∧ o.2.2.2.2.2.2.2.2.2.2.2.2.2.1 ≤ 12) ∧ (0 ≤ o.2.2.2.2.2.2.2.2.2.2.2.2.2.2.2.2.2.2.2.2.2.2.1 ∧ o.2.2.2.2.2.2.2.2.2.2.2.2.2.2.2.2.2.2.2.2.2.2.1 ≤ 12) ∧ zR o.2.2.2.1 0 1 ∧ zR o.2.2.2.2.2.2.2.2.2.2.2.2.2.2.1 0 60 ∧ zR o.2.2.2.2.2.2.2.2.2.2.2.2.2.2.2.1 0 1 ∧ zR o.2.2.2.2.2.2.2.2.2.2.2.2.2.2.2.2.1 0 20 ∧ zR o.2.2.2.2.2.2.2.2.2.2.2.2.2.2.2.2.2.1 0 11 ∧ zR o.2.2.2.2.2.2.2.2.2.2.2.2.2.2.2.2.2.2.1 0 99 ∧ zR o.2.2.2.2.2.2.2.2.2.2.2.2.2.2.2.2.2.2.2.1 (-1) 10 ∧ zR o.2.2.2.2.2.2.2.2.2.2.2.2.2.2.2.2.2.2.2.2.1 (-2147483648) 2147483647 ∧ zR o.2.2.2.2.2.2.2.2.2.2.2.2.2.2.2.2.2.2.2.2.2.1 0 424 ∧ zR o.2.2.2.2.2.2.2.2.2.2.2.2.2.2.2.2.2.2.2.2.2.2.2.1 0 60 ∧ zR o.2.2.2.2.2.2.2.2.2.2.2.2.2.2.2.2.2.2.2.2.2.2.2.2.1 0 1 ∧ zR o.2.2.2.2.2.2.2.2.2.2.2.2.2.2.2.2.2.2.2.2.2.2.2.2.2.1 0 20 ∧ zR o.2.2.2.2.2.2.2.2.2.2.2.2.2.2.2.2.2.2.2.2.2.2.2.2.2.2.1 0 11 ∧ zR o.2.2.2.2.2.2.2.2.2.2.2.2.2.2.2.2.2.2.2.2.2.2.2.2.2.2.2.1 0 99 ∧ zR o.2.2.2.2.2.2.2.2.2.2.2.2.2.2.2.2.2.2.2.2.2.2.2.2.2.2.2.2.1 (-1) 10 ∧ zR o.2.2.2.2.2.2.2.2.2.2.2.2.2.2.2.2.2.2.2.2.2.2.2.2.2.2.2.2.2.1 (-2147483648) 2147483647 ∧ zR o.2.2.2.2.2.2.2.2.2.2.2.2.2.2.2.2.2.2.2.2.2.2.2.2.2.2.2.2.2.2.1 0 424 ∧ zR o.2.2.2.2.2.2.2.2.2.2.2.2.2.2.2.2.2.2.2.2.2.2.2.2.2.2.2.2.2.2.2.1 0 10 ∧ zR o.2.2.2.2.2.2.2.2.2.2.2.2.2.2.2.2.2.2.2.2.2.2.2.2.2.2.2.2.2.2.2.2.1 0 30 ∧ zR o.2.2.2.2.2.2.2.2.2.2.2.2.2.2.2.2.2.2.2.2.2.2.2.2.2.2.2.2.2.2.2.2.2.1 0 10 ∧ zR o.2.2.2.2.2.2.2.2.2.2.2.2.2.2.2.2.2.2.2.2.2.2.2.2.2.2.2.2.2.2.2.2.2.2 0 30) := by
  unfold f_HS_image
  refine zk_ifc (zci_ltr (by omega)) (fun hc => ?_) (fun hc => ?_)
  · unfold f_HS_image_9
    refine zk_d3 (s_HS_refuse _ _ _ (by omega) (by omega)) (fun v1 v2 a3 hp => ?_)
    try dsimp only at hp
    obtain ⟨hpp0, hpp1, hpp2, hpp3⟩ := hp
    refine zk_ret ?_
    try dsimp only
    exact ⟨by omega, by omega, by omega, by omega, by omega, by omega, by omega, by omega, by omega, by omega, by omega, h_i_kept, h_i_images_0_strengths, h_i_images_0_expelled, h_i_images_0_trips, h_i_images_0_places, h_i_images_0_terms, h_i_images_0_goals, h_i_images_0_orders, h_i_images_0_ordered, h_i_images_1_strengths, h_i_images_1_expelled, h_i_images_1_trips, h_i_images_1_places, h_i_images_1_terms, h_i_images_1_goals, h_i_images_1_orders, h_i_images_1_ordered, h_i_images_0_columns_heights, h_i_images_0_columns_weights, h_i_images_1_columns_heights, h_i_images_1_columns_weights⟩
  · refine zk_ifc (zci_lt (by omega) (by omega)) (fun hc_2 => ?_) (fun hc_2 => ?_)
    · refine zk_ifc (zci_eqr (by omega)) (fun hc_3 => ?_) (fun hc_3 => ?_)
      · refine zk_d15 (s_Hill_become _ _ _ _ _ _ _ _ _ _ _ _ _ _ _ _ _ _ _ _ _ _ _ _ _ _ _ _ _ _ (by omega) (by omega) (by omega) (by omega) (by omega) h_i_hill_strengths h_i_hill_expelled h_i_hill_trips h_i_hill_places h_i_hill_terms h_i_hill_goals h_i_hill_orders h_i_hill_ordered h_i_hill_columns_heights h_i_hill_columns_weights (by omega) (by omega) (by omega) (by omega) (by omega) h_i_images_0_strengths h_i_images_0_expelled h_i_images_0_trips h_i_images_0_places h_i_images_0_terms h_i_images_0_goals h_i_images_0_orders h_i_images_0_ordered h_i_images_0_columns_heights h_i_images_0_columns_weights) (fun v1_2 v2_2 v3 v4 v5 a6 a7 a8 a9 a10 a11 a12 a13 a14 a15 hp_2 => ?_)
        try dsimp only at hp_2
        obtain ⟨hp_2p0, hp_2p1, hp_2p2, hp_2p3, hp_2p4, hp_2p5, hp_2p6, hp_2p7, hp_2p8, hp_2p9, hp_2p10, hp_2p11, hp_2p12, hp_2p13, hp_2p14⟩ := hp_2
        unfold f_HS_image_28
        refine zk_gb (by omega) ?_
        refine zk_sv (by omega) (by decide) (fun a1 h_a1 => ?_)
        have i_a1 : zR a1 0 1 := by rw [h_a1]; exact zR_zu h_i_kept (by decide) (by decide) (by omega)
        refine zk_d3 (s_HS_accept _ _ _ (by omega)) (fun v2_3 v3_2 v4_2 hp_3 => ?_)
        try dsimp only at hp_3
        obtain ⟨hp_3p0, hp_3p1, hp_3p2, hp_3p3⟩ := hp_3
        refine zk_ret ?_
        try dsimp only
        exact ⟨by omega, by omega, by omega, by omega, by omega, by omega, by omega, by omega, by omega, by omega, by omega, i_a1, hp_2p5, hp_2p6, hp_2p7, hp_2p8, hp_2p9, hp_2p10, hp_2p11, hp_2p12, h_i_images_1_strengths, h_i_images_1_expelled, h_i_images_1_trips, h_i_images_1_places, h_i_images_1_terms, h_i_images_1_goals, h_i_images_1_orders, h_i_images_1_ordered, hp_2p13, hp_2p14, h_i_images_1_columns_heights, h_i_images_1_columns_weights⟩
      · refine zk_ifc (zci_eqr (by omega)) (fun hc_4 => ?_) (fun hc_4 => ?_)
        · refine zk_d15 (s_Hill_become _ _ _ _ _ _ _ _ _ _ _ _ _ _ _ _ _ _ _ _ _ _ _ _ _ _ _ _ _ _ (by omega) (by omega) (by omega) (by omega) (by omega) h_i_hill_strengths h_i_hill_expelled h_i_hill_trips h_i_hill_places h_i_hill_terms h_i_hill_goals h_i_hill_orders h_i_hill_ordered h_i_hill_columns_heights h_i_hill_columns_weights (by omega) (by omega) (by omega) (by omega) (by omega) h_i_images_1_strengths h_i_images_1_expelled h_i_images_1_trips h_i_images_1_places h_i_images_1_terms h_i_images_1_goals h_i_images_1_orders h_i_images_1_ordered h_i_images_1_columns_heights h_i_images_1_columns_weights) (fun v16 v17 v18 v19 v20 a21 a22 a23 a24 a25 a26 a27 a28 a29 a30 hp_4 => ?_)
          try dsimp only at hp_4
          obtain ⟨hp_4p0, hp_4p1, hp_4p2, hp_4p3, hp_4p4, hp_4p5, hp_4p6, hp_4p7, hp_4p8, hp_4p9, hp_4p10, hp_4p11, hp_4p12, hp_4p13, hp_4p14⟩ := hp_4
          unfold f_HS_image_28
          refine zk_gb (by omega) ?_
          refine zk_sv (by omega) (by decide) (fun a1_2 h_a1_2 => ?_)
          have i_a1_2 : zR a1_2 0 1 := by rw [h_a1_2]; exact zR_zu h_i_kept (by decide) (by decide) (by omega)
          refine zk_d3 (s_HS_accept _ _ _ (by omega)) (fun v2_4 v3_3 v4_3 hp_5 => ?_)
          try dsimp only at hp_5
          obtain ⟨hp_5p0, hp_5p1, hp_5p2, hp_5p3⟩ := hp_5
          refine zk_ret ?_
          try dsimp only
          exact ⟨by omega, by omega, by omega, by omega, by omega, by omega, by omega, by omega, by omega, by omega, by omega, i_a1_2, h_i_images_0_strengths, h_i_images_0_expelled, h_i_images_0_trips, h_i_images_0_places, h_i_images_0_terms, h_i_images_0_goals, h_i_images_0_orders, h_i_images_0_ordered, hp_4p5, hp_4p6, hp_4p7, hp_4p8, hp_4p9, hp_4p10, hp_4p11, hp_4p12, h_i_images_0_columns_heights, h_i_images_0_columns_weights, hp_4p13, hp_4p14⟩
        · exfalso; omega
    · unfold f_HS_image_9
      refine zk_d3 (s_HS_refuse _ _ _ (by omega) (by omega)) (fun v1_3 v2_5 a3_2 hp_6 => ?_)
      try dsimp only at hp_6
      obtain ⟨hp_6p0, hp_6p1, hp_6p2, hp_6p3⟩ := hp_6
      refine zk_ret ?_
      try dsimp only
      exact ⟨by omega, by omega, by omega, by omega, by omega, by omega, by omega, by omega, by omega, by omega, by omega, h_i_kept, h_i_images_0_strengths, h_i_images_0_expelled, h_i_images_0_trips, h_i_images_0_places, h_i_images_0_terms, h_i_images_0_goals, h_i_images_0_orders, h_i_images_0_ordered, h_i_images_1_strengths, h_i_images_1_expelled, h_i_images_1_trips, h_i_images_1_places, h_i_images_1_terms, h_i_images_1_goals, h_i_images_1_orders, h_i_images_1_ordered, h_i_images_0_columns_heights, h_i_images_0_columns_weights, h_i_images_1_columns_heights, h_i_images_1_columns_weights⟩
set_option maxHeartbeats 4000000 in
theorem s_HS_back (x1 : Int) (i_kept : Nat → Int) (i_images_0_children : Int) (i_images_0_parishes : Int) (i_images_0_laws : Int) (i_images_0_inForce : Int) (i_images_1_children : Int) (i_images_1_parishes : Int) (i_images_1_laws : Int) (i_images_1_inForce : Int) (i_images_0_columns_many : Int) (i_images_0_strengths : Nat → Int) (i_images_0_expelled : Nat → Int) (i_images_0_trips : Nat → Int) (i_images_0_places : Nat → Int) (i_images_0_terms : Nat → Int) (i_images_0_goals : Nat → Int) (i_images_0_orders : Nat → Int) (i_images_0_ordered : Nat → Int) (i_images_1_columns_many : Int) (i_images_1_strengths : Nat → Int) (i_images_1_expelled : Nat → Int) (i_images_1_trips : Nat → Int) (i_images_1_places : Nat → Int) (i_images_1_terms : Nat → Int) (i_images_1_goals : Nat → Int) (i_images_1_orders : Nat → Int) (i_images_1_ordered : Nat → Int) (i_images_0_columns_heights : Nat → Int) (i_images_0_columns_weights : Nat → Int) (i_images_1_columns_heights : Nat → Int) (i_images_1_columns_weights : Nat → Int) (i_latestStatus : Int) (i_hill_children : Int) (i_hill_parishes : Int) (i_hill_laws : Int) (i_hill_inForce : Int) (i_hill_changes : Int) (i_refusals : Nat → Int) (i_hill_columns_many : Int) (i_hill_strengths : Nat → Int) (i_hill_expelled : Nat → Int) (i_hill_trips : Nat → Int) (i_hill_places : Nat → Int) (i_hill_terms : Nat → Int) (i_hill_goals : Nat → Int) (i_hill_orders : Nat → Int) (i_hill_ordered : Nat → Int) (i_hill_columns_heights : Nat → Int) (i_hill_columns_weights : Nat → Int) (b_x1 : (-2147483648) ≤ x1 ∧ x1 ≤ 2147483647) (h_i_kept : zR i_kept 0 1) (b_i_images_0_children : 0 ≤ i_images_0_children ∧ i_images_0_children ≤ 6) (b_i_images_0_parishes : 0 ≤ i_images_0_parishes ∧ i_images_0_parishes ≤ 6) (b_i_images_0_laws : 0 ≤ i_images_0_laws ∧ i_images_0_laws ≤ 6) (b_i_images_0_inForce : (-1) ≤ i_images_0_inForce ∧ i_images_0_inForce ≤ 5) (b_i_images_1_children : 0 ≤ i_images_1_children ∧ i_images_1_children ≤ 6) (b_i_images_1_parishes : 0 ≤ i_images_1_parishes ∧ i_images_1_parishes ≤ 6) (b_i_images_1_laws : 0 ≤ i_images_1_laws ∧ i_images_1_laws ≤ 6) (b_i_images_1_inForce : (-1) ≤ i_images_1_inForce ∧ i_images_1_inForce ≤ 5) (b_i_images_0_columns_many : 0 ≤ i_images_0_columns_many ∧ i_images_0_columns_many ≤ 12) (h_i_images_0_strengths : zR i_images_0_strengths 0 60) (h_i_images_0_expelled : zR i_images_0_expelled 0 1) (h_i_images_0_trips : zR i_images_0_trips 0 20) (h_i_images_0_places : zR i_images_0_places 0 11) (h_i_images_0_terms : zR i_images_0_terms 0 99) (h_i_images_0_goals : zR i_images_0_goals (-1) 10) (h_i_images_0_orders : zR i_images_0_orders (-2147483648) 2147483647) (h_i_images_0_ordered : zR i_images_0_ordered 0 424) (b_i_images_1_columns_many : 0 ≤ i_images_1_columns_many ∧ i_images_1_columns_many ≤ 12) (h_i_images_1_strengths : zR i_images_1_strengths 0 60) (h_i_images_1_expelled : zR i_images_1_expelled 0 1) (h_i_images_1_trips : zR i_images_1_trips 0 20) (h_i_images_1_places : zR i_images_1_places 0 11) (h_i_images_1_terms : zR i_images_1_terms 0 99) (h_i_images_1_goals : zR i_images_1_goals (-1) 10) (h_i_images_1_orders : zR i_images_1_orders (-2147483648) 2147483647) (h_i_images_1_ordered : zR i_images_1_ordered 0 424) (h_i_images_0_columns_heights : zR i_images_0_columns_heights 0 10) (h_i_images_0_columns_weights : zR i_images_0_columns_weights 0 30) (h_i_images_1_columns_heights : zR i_images_1_columns_heights 0 10) (h_i_images_1_columns_weights : zR i_images_1_columns_weights 0 30) (b_i_latestStatus : (-6) ≤ i_latestStatus ∧ i_latestStatus ≤ 0) (b_i_hill_children : 0 ≤ i_hill_children ∧ i_hill_children ≤ 6) (b_i_hill_parishes : 0 ≤ i_hill_parishes ∧ i_hill_parishes ≤ 6) (b_i_hill_laws : 0 ≤ i_hill_laws ∧ i_hill_laws ≤ 6) (b_i_hill_inForce : (-1) ≤ i_hill_inForce ∧ i_hill_inForce ≤ 5) (b_i_hill_columns_many : 0 ≤ i_hill_columns_many ∧ i_hill_columns_many ≤ 12) (h_i_hill_strengths : zR i_hill_strengths 0 60) (h_i_hill_expelled : zR i_hill_expelled 0 1) (h_i_hill_trips : zR i_hill_trips 0 20) (h_i_hill_places : zR i_hill_places 0 11) (h_i_hill_terms : zR i_hill_terms 0 99) (h_i_hill_goals : zR i_hill_goals (-1) 10) (h_i_hill_orders : zR i_hill_orders (-2147483648) 2147483647) (h_i_hill_ordered : zR i_hill_ordered 0 424) (h_i_hill_columns_heights : zR i_hill_columns_heights 0 10) (h_i_hill_columns_weights : zR i_hill_columns_weights 0 30) : zok (f_HS_back x1 i_kept i_images_0_children i_images_0_parishes i_images_0_laws i_images_0_inForce i_images_1_children i_images_1_parishes i_images_1_laws i_images_1_inForce i_images_0_columns_many i_images_0_strengths i_images_0_expelled i_images_0_trips i_images_0_places i_images_0_terms i_images_0_goals i_images_0_orders i_images_0_ordered i_images_1_columns_many i_images_1_strengths i_images_1_expelled i_images_1_trips i_images_1_places i_images_1_terms i_images_1_goals i_images_1_orders i_images_1_ordered i_images_0_columns_heights i_images_0_columns_weights i_images_1_columns_heights i_images_1_columns_weights i_latestStatus i_hill_children i_hill_parishes i_hill_laws i_hill_inForce i_hill_changes i_refusals i_hill_columns_many i_hill_strengths i_hill_expelled i_hill_trips i_hill_places i_hill_terms i_hill_goals i_hill_orders i_hill_ordered i_hill_columns_heights i_hill_columns_weights) (fun o => ((-6) ≤ o.2.1 ∧ o.2.1 ≤ 0) ∧ (0 ≤ o.2.2.1 ∧ o.2.2.1 ≤ 6) ∧ (0 ≤ o.2.2.2.1 ∧ o.2.2.2.1 ≤ 6) ∧ (0 ≤ o.2.2.2.2.1 ∧ o.2.2.2.2.1 ≤ 6) ∧ ((-1) ≤ o.2.2.2.2.2.1 ∧ o.2.2.2.2.2.1 ≤ 5) ∧ (0 ≤ o.2.2.2.2.2.2.2.2.1 ∧ o.2.2.2.2.2.2.2.2.1 ≤ 12) ∧ zR o.2.2.2.2.2.2.2.2.2.1 0 60 ∧ zR o.2.2.2.2.2.2.2.2.2.2.1 0 1 ∧ zR o.2.2.2.2.2.2.2.2.2.2.2.1 0 20 ∧ zR o.2.2.2.2.2.2.2.2.2.2.2.2.1 0 11 ∧ zR o.2.2.2.2.2.2.2.2.2.2.2.2.2.1 0 99 ∧ zR o.2.2.2.2.2.2.2.2.2.2.2.2.2.2.1 (-1) 10 ∧ zR o.2.2.2.2.2.2.2.2.2.2.2.2.2.2.2.1 (-2147483648) 2147483647 ∧ zR o.2.2.2.2.2.2.2.2.2.2.2.2.2.2.2.2.1 0 424 ∧ zR o.2.2.2.2.2.2.2.2.2.2.2.2.2.2.2.2.2.1 0 10 ∧ zR o.2.2.2.2.2.2.2.2.2.2.2.2.2.2.2.2.2.2 0 30) := by
  unfold f_HS_back
  refine zk_ifc (zci_ltr (by omega)) (fun hc => ?_) (fun hc => ?_)
  · unfold f_HS_back_9
    refine zk_d3 (s_HS_refuse _ _ _ (by omega) (by omega)) (fun v1 v2 a3 hp => ?_)
    try dsimp only at hp
    obtain ⟨hpp0, hpp1, hpp2, hpp3⟩ := hp
    refine zk_ret ?_
    try dsimp only
    exact ⟨by omega, by omega, by omega, by omega, by omega, by omega, h_i_hill_strengths, h_i_hill_expelled, h_i_hill_trips, h_i_hill_places, h_i_hill_terms, h_i_hill_goals, h_i_hill_orders, h_i_hill_ordered, h_i_hill_columns_heights, h_i_hill_columns_weights⟩
  · refine zk_ifc (zci_lt (by omega) (by omega)) (fun hc_2 => ?_) (fun hc_2 => ?_)
    · refine zk_gv (by omega) (by decide) (fun v1_2 h_v1_2 => ?_)
      have r_v1_2 := h_i_kept (x1.toNat)
      refine zk_ifc (zci_ner (by omega)) (fun hc_3 => ?_) (fun hc_3 => ?_)
      · refine zk_ifc (zci_eqr (by omega)) (fun hc_4 => ?_) (fun hc_4 => ?_)
        · refine zk_d15 (s_Hill_become _ _ _ _ _ _ _ _ _ _ _ _ _ _ _ _ _ _ _ _ _ _ _ _ _ _ _ _ _ _ (by omega) (by omega) (by omega) (by omega) (by omega) h_i_images_0_strengths h_i_images_0_expelled h_i_images_0_trips h_i_images_0_places h_i_images_0_terms h_i_images_0_goals h_i_images_0_orders h_i_images_0_ordered h_i_images_0_columns_heights h_i_images_0_columns_weights (by omega) (by omega) (by omega) (by omega) (by omega) h_i_hill_strengths h_i_hill_expelled h_i_hill_trips h_i_hill_places h_i_hill_terms h_i_hill_goals h_i_hill_orders h_i_hill_ordered h_i_hill_columns_heights h_i_hill_columns_weights) (fun v2_2 v3 v4 v5 v6 a7 a8 a9 a10 a11 a12 a13 a14 a15 a16 hp_2 => ?_)
          try dsimp only at hp_2
          obtain ⟨hp_2p0, hp_2p1, hp_2p2, hp_2p3, hp_2p4, hp_2p5, hp_2p6, hp_2p7, hp_2p8, hp_2p9, hp_2p10, hp_2p11, hp_2p12, hp_2p13, hp_2p14⟩ := hp_2
          unfold f_HS_back_44
          refine zk_d3 (s_HS_accept _ _ _ (by omega)) (fun v1_3 v2_3 v3_2 hp_3 => ?_)
          try dsimp only at hp_3
          obtain ⟨hp_3p0, hp_3p1, hp_3p2, hp_3p3⟩ := hp_3
          refine zk_ret ?_
          try dsimp only
          exact ⟨by omega, by omega, by omega, by omega, by omega, by omega, hp_2p5, hp_2p6, hp_2p7, hp_2p8, hp_2p9, hp_2p10, hp_2p11, hp_2p12, hp_2p13, hp_2p14⟩
        · refine zk_ifc (zci_eqr (by omega)) (fun hc_5 => ?_) (fun hc_5 => ?_)
          · refine zk_d15 (s_Hill_become _ _ _ _ _ _ _ _ _ _ _ _ _ _ _ _ _ _ _ _ _ _ _ _ _ _ _ _ _ _ (by omega) (by omega) (by omega) (by omega) (by omega) h_i_images_1_strengths h_i_images_1_expelled h_i_images_1_trips h_i_images_1_places h_i_images_1_terms h_i_images_1_goals h_i_images_1_orders h_i_images_1_ordered h_i_images_1_columns_heights h_i_images_1_columns_weights (by omega) (by omega) (by omega) (by omega) (by omega) h_i_hill_strengths h_i_hill_expelled h_i_hill_trips h_i_hill_places h_i_hill_terms h_i_hill_goals h_i_hill_orders h_i_hill_ordered h_i_hill_columns_heights h_i_hill_columns_weights) (fun v17 v18 v19 v20 v21 a22 a23 a24 a25 a26 a27 a28 a29 a30 a31 hp_4 => ?_)
            try dsimp only at hp_4
            obtain ⟨hp_4p0, hp_4p1, hp_4p2, hp_4p3, hp_4p4, hp_4p5, hp_4p6, hp_4p7, hp_4p8, hp_4p9, hp_4p10, hp_4p11, hp_4p12, hp_4p13, hp_4p14⟩ := hp_4
            unfold f_HS_back_44
            refine zk_d3 (s_HS_accept _ _ _ (by omega)) (fun v1_4 v2_4 v3_3 hp_5 => ?_)
            try dsimp only at hp_5
            obtain ⟨hp_5p0, hp_5p1, hp_5p2, hp_5p3⟩ := hp_5
            refine zk_ret ?_
            try dsimp only
            exact ⟨by omega, by omega, by omega, by omega, by omega, by omega, hp_4p5, hp_4p6, hp_4p7, hp_4p8, hp_4p9, hp_4p10, hp_4p11, hp_4p12, hp_4p13, hp_4p14⟩
          · exfalso; omega
      · refine zk_d3 (s_HS_refuse _ _ _ (by omega) (by omega)) (fun v32 v33 a34 hp_6 => ?_)
        try dsimp only at hp_6
        obtain ⟨hp_6p0, hp_6p1, hp_6p2, hp_6p3⟩ := hp_6
        refine zk_ret ?_
        try dsimp only
        exact ⟨by omega, by omega, by omega, by omega, by omega, by omega, h_i_hill_strengths, h_i_hill_expelled, h_i_hill_trips, h_i_hill_places, h_i_hill_terms, h_i_hill_goals, h_i_hill_orders, h_i_hill_ordered, h_i_hill_columns_heights, h_i_hill_columns_weights⟩
    · unfold f_HS_back_9
      refine zk_d3 (s_HS_refuse _ _ _ (by omega) (by omega)) (fun v1_5 v2_5 a3_2 hp_7 => ?_)
      try dsimp only at hp_7
      obtain ⟨hp_7p0, hp_7p1, hp_7p2, hp_7p3⟩ := hp_7
      refine zk_ret ?_
      try dsimp only
      exact ⟨by omega, by omega, by omega, by omega, by omega, by omega, h_i_hill_strengths, h_i_hill_expelled, h_i_hill_trips, h_i_hill_places, h_i_hill_terms, h_i_hill_goals, h_i_hill_orders, h_i_hill_ordered, h_i_hill_columns_heights, h_i_hill_columns_weights⟩
set_option maxHeartbeats 4000000 in
theorem s_HS_count (x1 : Int) (i_taped : Int) (i_hill_children : Int) (i_hill_parishes : Int) (i_hill_laws : Int) (i_hill_inForce : Int) (i_refusals : Nat → Int) (i_hill_columns_many : Int) (i_hill_terms : Nat → Int) (i_hill_columns_heights : Nat → Int) (b_x1 : (-2147483648) ≤ x1 ∧ x1 ≤ 2147483647) (b_i_taped : 0 ≤ i_taped ∧ i_taped ≤ 400) (b_i_hill_children : 0 ≤ i_hill_children ∧ i_hill_children ≤ 6) (b_i_hill_parishes : 0 ≤ i_hill_parishes ∧ i_hill_parishes ≤ 6) (b_i_hill_laws : 0 ≤ i_hill_laws ∧ i_hill_laws ≤ 6) (b_i_hill_inForce : (-1) ≤ i_hill_inForce ∧ i_hill_inForce ≤ 5) (b_i_hill_columns_many : 0 ≤ i_hill_columns_many ∧ i_hill_columns_many ≤ 12) (h_i_hill_terms : zR i_hill_terms 0 99) (h_i_hill_columns_heights : zR i_hill_columns_heights 0 10) : zok (f_HS_count x1 i_taped i_hill_children i_hill_parishes i_hill_laws i_hill_inForce i_refusals i_hill_columns_many i_hill_terms i_hill_columns_heights) (fun o => True) := by
  unfold f_HS_count
  refine zk_ifc (zci_eqr (by omega)) (fun hc => ?_) (fun hc => ?_)
  · exact zk_ret trivial
  · refine zk_ifc (zci_eqr (by omega)) (fun hc_2 => ?_) (fun hc_2 => ?_)
    · refine zk_d1 (s_Columns_stones _ _ (by omega) h_i_hill_columns_heights) (fun v1 hp => ?_)
      exact zk_ret trivial
    · refine zk_ifc (zci_eqr (by omega)) (fun hc_3 => ?_) (fun hc_3 => ?_)
      · exact zk_ret trivial
      · refine zk_ifc (zci_eqr (by omega)) (fun hc_4 => ?_) (fun hc_4 => ?_)
        · exact zk_ret trivial
        · refine zk_ifc (zci_eqr (by omega)) (fun hc_5 => ?_) (fun hc_5 => ?_)
          · exact zk_ret trivial
          · refine zk_ifc (zci_eqr (by omega)) (fun hc_6 => ?_) (fun hc_6 => ?_)
            · exact zk_ret trivial
            · refine zk_ifc (zci_eqr (by omega)) (fun hc_7 => ?_) (fun hc_7 => ?_)
              · refine zk_gl 1 rfl (by decide) (by decide) (fun v2 h_v2 => ?_)
                exact zk_ret trivial
              · refine zk_ifc (zci_eqr (by omega)) (fun hc_8 => ?_) (fun hc_8 => ?_)
                · refine zk_gl 2 rfl (by decide) (by decide) (fun v3 h_v3 => ?_)
                  exact zk_ret trivial
                · refine zk_ifc (zci_eqr (by omega)) (fun hc_9 => ?_) (fun hc_9 => ?_)
                  · refine zk_gl 3 rfl (by decide) (by decide) (fun v4 h_v4 => ?_)
                    exact zk_ret trivial
                  · refine zk_ifc (zci_eqr (by omega)) (fun hc_10 => ?_) (fun hc_10 => ?_)
                    · refine zk_gl 5 rfl (by decide) (by decide) (fun v5 h_v5 => ?_)
                      exact zk_ret trivial
                    · refine zk_ifc (zci_eqr (by omega)) (fun hc_11 => ?_) (fun hc_11 => ?_)
                      · refine zk_gl 6 rfl (by decide) (by decide) (fun v6 h_v6 => ?_)
                        exact zk_ret trivial
                      · refine zk_ifc (zci_eqr (by omega)) (fun hc_12 => ?_) (fun hc_12 => ?_)
                        · exact zk_ret trivial
                        · refine zk_ifc (zci_eqr (by omega)) (fun hc_13 => ?_) (fun hc_13 => ?_)
                          · refine zk_gl 0 rfl (by decide) (by decide) (fun v7 h_v7 => ?_)
                            have r_v7 := h_i_hill_terms (0)
                            exact zk_ret trivial
                          · refine zk_ifc (zci_eqr (by omega)) (fun hc_14 => ?_) (fun hc_14 => ?_)
                            · refine zk_gl 1 rfl (by decide) (by decide) (fun v8 h_v8 => ?_)
                              have r_v8 := h_i_hill_terms (1)
                              exact zk_ret trivial
                            · refine zk_ifc (zci_eqr (by omega)) (fun hc_15 => ?_) (fun hc_15 => ?_)
                              · refine zk_gl 2 rfl (by decide) (by decide) (fun v9 h_v9 => ?_)
                                have r_v9 := h_i_hill_terms (2)
                                exact zk_ret trivial
                              · refine zk_ifc (zci_eqr (by omega)) (fun hc_16 => ?_) (fun hc_16 => ?_)
                                · refine zk_gl 3 rfl (by decide) (by decide) (fun v10 h_v10 => ?_)
                                  have r_v10 := h_i_hill_terms (3)
                                  exact zk_ret trivial
                                · exact zk_ret trivial
set_option maxHeartbeats 4000000 in
theorem s_HS_status (i_latestStatus : Int) (b_i_latestStatus : (-6) ≤ i_latestStatus ∧ i_latestStatus ≤ 0) : zok (f_HS_status i_latestStatus) (fun o => ((-6) ≤ o ∧ o ≤ 0)) := by
  unfold f_HS_status
  exact zk_ret (by omega)
