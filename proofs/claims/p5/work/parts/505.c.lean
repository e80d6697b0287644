set_option maxHeartbeats 4000000 in
theorem s_LawReader_split_8 (i_a1 : Nat → Int) (h_i_a1 : zR i_a1 0 255) : ∀ (n : Nat) (x2 : Int) (x3 : Int) (x4 : Int) (x5 : Int) (i_tokens : Nat → Int) (i_places : Nat → Int) (i_values : Nat → Int), (0 ≤ x2 ∧ x2 ≤ 400) → (0 ≤ x3 ∧ x3 ≤ 401) → (0 ≤ x4 ∧ x4 ≤ 400) → (0 ≤ x5 ∧ x5 ≤ 400) → (zR i_tokens 0 265) → (zR i_places 0 400) → (x3 ≤ x5) → (401 - x5) < (n : Int) → zok (f_LawReader_split_8 i_a1 n x2 x3 x4 x5 i_tokens i_places i_values) (fun o => zR o.1 0 265 ∧ zR o.2.1 0 400) := by
  intro n
  induction n with
  | zero => intro x2 x3 x4 x5 i_tokens i_places i_values b_x2 b_x3 b_x4 b_x5 h_i_tokens h_i_places p_0 hm; exfalso; omega
  | succ n ih =>
    intro x2 x3 x4 x5 i_tokens i_places i_values b_x2 b_x3 b_x4 b_x5 h_i_tokens h_i_places p_0 hm
    show zok (f_LawReader_split_8_b i_a1 (f_LawReader_split_8 i_a1 n) x2 x3 x4 x5 i_tokens i_places i_values) _
    unfold f_LawReader_split_8_b
    refine zk_ifc (zci_le (by omega) (by omega)) (fun hc => ?_) (fun hc => ?_)
    · refine zk_sv (by omega) (by decide) (fun a1 h_a1 => ?_)
      have i_a1 : zR a1 0 400 := by rw [h_a1]; exact zR_zu h_i_places (by decide) (by decide) (by omega)
      refine zk_sv (by omega) (by decide) (fun a2 h_a2 => ?_)
      have i_a2 : zR a2 0 265 := by rw [h_a2]; exact zR_zu h_i_tokens (by decide) (by decide) (by omega)
      refine zk_ret ?_
      try dsimp only
      exact ⟨i_a2, i_a1⟩
    · refine zk_ifc (zci_lt (by omega) (by omega)) (fun hc_2 => ?_) (fun hc_2 => ?_)
      · unfold f_LawReader_split_118
        refine zk_n ?_
        exact ih _ _ _ _ _ _ _ (by omega) (by omega) (by omega) (by omega) h_i_tokens h_i_places (by omega) (by omega)
      · refine zk_gv (by omega) (by decide) (fun v3 h_v3 => ?_)
        have r_v3 := h_i_a1 (x5.toNat)
        refine zk_ifc (zci_ne (by omega) (by omega)) (fun hc_3 => ?_) (fun hc_3 => ?_)
        · refine zk_n ?_
          exact s_LawReader_split_39 _ _ n ih h_i_a1 zfu _ _ _ _ _ _ _ (by omega) (by omega) (by omega) (by omega) h_i_tokens h_i_places (by omega) (by omega) (by unfold zfu; omega)
        · unfold f_LawReader_split_118
          refine zk_n ?_
          exact ih _ _ _ _ _ _ _ (by omega) (by omega) (by omega) (by omega) h_i_tokens h_i_places (by omega) (by omega)
set_option maxHeartbeats 4000000 in
theorem s_LawReader_split (x2 : Int) (i_a1 : Nat → Int) (i_tokens : Nat → Int) (i_places : Nat → Int) (i_values : Nat → Int) (b_x2 : 0 ≤ x2 ∧ x2 ≤ 400) (h_i_a1 : zR i_a1 0 255) (h_i_tokens : zR i_tokens 0 265) (h_i_places : zR i_places 0 400) : zok (f_LawReader_split x2 i_a1 i_tokens i_places i_values) (fun o => zR o.1 0 265 ∧ zR o.2.1 0 400) := by
  unfold f_LawReader_split
  exact s_LawReader_split_8 _ h_i_a1 zfu _ _ _ _ _ _ _ (by omega) (by omega) (by omega) (by omega) h_i_tokens h_i_places (by omega) (by unfold zfu; omega)
set_option maxHeartbeats 4000000 in
theorem s_LawReader_read_38 (i_a1 : Nat → Int) (h_i_a1 : zR i_a1 0 255) : ∀ (n : Nat) (x3 : Int) (i_ordered : Int) (i_at : Int) (i_parts : Int) (i_orders : Nat → Int) (i_tokens : Nat → Int) (i_places : Nat → Int) (i_values : Nat → Int), (0 ≤ x3 ∧ x3 ≤ 12) → (0 ≤ i_ordered ∧ i_ordered ≤ 424) → (0 ≤ i_at ∧ i_at ≤ 400) → (0 ≤ i_parts ∧ i_parts ≤ 50) → (zR i_orders (-2147483648) 2147483647) → (zR i_tokens 0 265) → (zR i_places 0 400) → (13 - x3) < (n : Int) → zok (f_LawReader_read_38 i_a1 n x3 i_ordered i_at i_parts i_orders i_tokens i_places i_values) (fun o => ((-1) ≤ o.1 ∧ o.1 ≤ 400) ∧ (0 ≤ o.2.1 ∧ o.2.1 ≤ 424) ∧ (0 ≤ o.2.2.1 ∧ o.2.2.1 ≤ 400) ∧ (0 ≤ o.2.2.2.1 ∧ o.2.2.2.1 ≤ 50) ∧ zR o.2.2.2.2.1 (-2147483648) 2147483647 ∧ zR o.2.2.2.2.2.1 0 265 ∧ zR o.2.2.2.2.2.2.1 0 400) := by
  intro n
  induction n with
  | zero => intro x3 i_ordered i_at i_parts i_orders i_tokens i_places i_values b_x3 b_i_ordered b_i_at b_i_parts h_i_orders h_i_tokens h_i_places hm; exfalso; omega
  | succ n ih =>
    intro x3 i_ordered i_at i_parts i_orders i_tokens i_places i_values b_x3 b_i_ordered b_i_at b_i_parts h_i_orders h_i_tokens h_i_places hm
    show zok (f_LawReader_read_38_b i_a1 (f_LawReader_read_38 i_a1 n) x3 i_ordered i_at i_parts i_orders i_tokens i_places i_values) _
    unfold f_LawReader_read_38_b
    refine zk_ifc (zci_le (by omega) (by omega)) (fun hc => ?_) (fun hc => ?_)
    · refine zk_gv (by omega) (by decide) (fun v1 h_v1 => ?_)
      have r_v1 := h_i_places (i_at.toNat)
      refine zk_ret ?_
      try dsimp only
      exact ⟨by omega, by omega, by omega, by omega, h_i_orders, h_i_tokens, h_i_places⟩
    · refine zk_d5 (s_LawReader_readClause _ _ _ _ _ _ h_i_tokens (by omega) (by omega) (by omega) h_i_orders) (fun v2 v3 v4 v5 a6 hp => ?_)
      try dsimp only at hp
      obtain ⟨hpp0, hpp1, hpp2, hpp3, hpp4⟩ := hp
      refine zk_ifc (zci_eqr (by omega)) (fun hc_2 => ?_) (fun hc_2 => ?_)
      · refine zk_gv (by omega) (by decide) (fun v7 h_v7 => ?_)
        have r_v7 := h_i_places (v4.toNat)
        refine zk_ret ?_
        try dsimp only
        exact ⟨by omega, by omega, by omega, by omega, hpp4, h_i_tokens, h_i_places⟩
      · refine zk_gv (by omega) (by decide) (fun v8 h_v8 => ?_)
        have r_v8 := h_i_tokens (v4.toNat)
        refine zk_ifc (zci_ne (by omega) (by omega)) (fun hc_3 => ?_) (fun hc_3 => ?_)
        · refine zk_d2 (s_LawReader_pass _ _ _ (by omega) h_i_tokens (by omega)) (fun v9 v10 hp_2 => ?_)
          try dsimp only at hp_2
          obtain ⟨hp_2p0, hp_2p1⟩ := hp_2
          refine zk_ifc (zci_ner (by omega)) (fun hc_4 => ?_) (fun hc_4 => ?_)
          · refine zk_n ?_
            exact ih _ _ _ _ _ _ _ _ (by omega) (by omega) (by omega) (by omega) hpp4 h_i_tokens h_i_places (by omega)
          · refine zk_gv (by omega) (by decide) (fun v12 h_v12 => ?_)
            have r_v12 := h_i_places (v10.toNat)
            refine zk_ret ?_
            try dsimp only
            exact ⟨by omega, by omega, by omega, by omega, hpp4, h_i_tokens, h_i_places⟩
        · refine zk_ret ?_
          try dsimp only
          exact ⟨by omega, by omega, by omega, by omega, hpp4, h_i_tokens, h_i_places⟩
set_option maxHeartbeats 4000000 in
theorem s_LawReader_read (x2 : Int) (i_a1 : Nat → Int) (i_ordered : Int) (i_at : Int) (i_parts : Int) (i_orders : Nat → Int) (i_tokens : Nat → Int) (i_places : Nat → Int) (i_values : Nat → Int) (b_x2 : 0 ≤ x2 ∧ x2 ≤ 400) (h_i_a1 : zR i_a1 0 255) (b_i_ordered : 0 ≤ i_ordered ∧ i_ordered ≤ 424) (b_i_at : 0 ≤ i_at ∧ i_at ≤ 400) (b_i_parts : 0 ≤ i_parts ∧ i_parts ≤ 50) (h_i_orders : zR i_orders (-2147483648) 2147483647) (h_i_tokens : zR i_tokens 0 265) (h_i_places : zR i_places 0 400) : zok (f_LawReader_read x2 i_a1 i_ordered i_at i_parts i_orders i_tokens i_places i_values) (fun o => ((-1) ≤ o.1 ∧ o.1 ≤ 400) ∧ (0 ≤ o.2.1 ∧ o.2.1 ≤ 424) ∧ (0 ≤ o.2.2.1 ∧ o.2.2.1 ≤ 400) ∧ (0 ≤ o.2.2.2.1 ∧ o.2.2.2.1 ≤ 50) ∧ zR o.2.2.2.2.1 (-2147483648) 2147483647 ∧ zR o.2.2.2.2.2.1 0 265 ∧ zR o.2.2.2.2.2.2.1 0 400) := by
  unfold f_LawReader_read
  refine zk_nE (fun v1 h_v1 => ?_)
  have r_v1 := zi_min_f (400) (by omega) (400) (by omega); rw [← h_v1] at r_v1
  refine zk_nE (fun v2 h_v2 => ?_)
  have r_v2 := zi_min_f (x2) (by omega) (v1) (by omega); rw [← h_v2] at r_v2
  refine zk_nE (fun v3 h_v3 => ?_)
  have r_v3 := zi_max_f (0) (by omega) (v2) (by omega); rw [← h_v3] at r_v3
  refine zk_d3 (s_LawReader_split _ _ _ _ _ (by omega) h_i_a1 h_i_tokens h_i_places) (fun a4 a5 a6 hp => ?_)
  try dsimp only at hp
  obtain ⟨hpp0, hpp1⟩ := hp
  exact s_LawReader_read_38 _ h_i_a1 zfu _ _ _ _ _ _ _ _ (by omega) (by omega) (by omega) (by omega) h_i_orders hpp0 hpp1 (by unfold zfu; omega)
set_option maxHeartbeats 4000000 in
theorem s_HS_law (i_tape : Nat → Int) (i_taped : Int) (i_latestFault : Int) (i_latestStatus : Int) (i_hill_laws : Int) (i_hill_changes : Int) (i_refusals : Nat → Int) (i_reader_ordered : Int) (i_reader_at : Int) (i_reader_parts : Int) (i_hill_orders : Nat → Int) (i_hill_ordered : Nat → Int) (i_reader_orders : Nat → Int) (i_reader_tokens : Nat → Int) (i_reader_places : Nat → Int) (i_reader_values : Nat → Int) (h_i_tape : zR i_tape 0 255) (b_i_taped : 0 ≤ i_taped ∧ i_taped ≤ 400) (b_i_latestFault : (-1) ≤ i_latestFault ∧ i_latestFault ≤ 400) (b_i_latestStatus : (-6) ≤ i_latestStatus ∧ i_latestStatus ≤ 0) (b_i_hill_laws : 0 ≤ i_hill_laws ∧ i_hill_laws ≤ 6) (b_i_reader_ordered : 0 ≤ i_reader_ordered ∧ i_reader_ordered ≤ 424) (b_i_reader_at : 0 ≤ i_reader_at ∧ i_reader_at ≤ 400) (b_i_reader_parts : 0 ≤ i_reader_parts ∧ i_reader_parts ≤ 50) (h_i_hill_orders : zR i_hill_orders (-2147483648) 2147483647) (h_i_hill_ordered : zR i_hill_ordered 0 424) (h_i_reader_orders : zR i_reader_orders (-2147483648) 2147483647) (h_i_reader_tokens : zR i_reader_tokens 0 265) (h_i_reader_places : zR i_reader_places 0 400) : zok (f_HS_law i_tape i_taped i_latestFault i_latestStatus i_hill_laws i_hill_changes i_refusals i_reader_ordered i_reader_at i_reader_parts i_hill_orders i_hill_ordered i_reader_orders i_reader_tokens i_reader_places i_reader_values) (fun o => (0 ≤ o.2.1 ∧ o.2.1 ≤ 0) ∧ ((-1) ≤ o.2.2.1 ∧ o.2.2.1 ≤ 400) ∧ ((-6) ≤ o.2.2.2.1 ∧ o.2.2.2.1 ≤ 0) ∧ (0 ≤ o.2.2.2.2.1 ∧ o.2.2.2.2.1 ≤ 6) ∧ (0 ≤ o.2.2.2.2.2.2.2.1 ∧ o.2.2.2.2.2.2.2.1 ≤ 424) ∧ (0 ≤ o.2.2.2.2.2.2.2.2.1 ∧ o.2.2.2.2.2.2.2.2.1 ≤ 400) ∧ (0 ≤ o.2.2.2.2.2.2.2.2.2.1 ∧ o.2.2.2.2.2.2.2.2.2.1 ≤ 50) ∧ zR o.2.2.2.2.2.2.2.2.2.2.1 (-2147483648) 2147483647 ∧ zR o.2.2.2.2.2.2.2.2.2.2.2.1 0 424 ∧ zR o.2.2.2.2.2.2.2.2.2.2.2.2.1 (-2147483648) 2147483647 ∧ zR o.2.2.2.2.2.2.2.2.2.2.2.2.2.1 0 265 ∧ zR o.2.2.2.2.2.2.2.2.2.2.2.2.2.2.1 0 400) := by
  unfold f_HS_law
  refine zk_ifc (zci_lt (by omega) (by omega)) (fun hc => ?_) (fun hc => ?_)
  · refine zk_d8 (s_LawReader_read _ _ _ _ _ _ _ _ _ (by omega) h_i_tape (by omega) (by omega) (by omega) h_i_reader_orders h_i_reader_tokens h_i_reader_places) (fun v1 v2 v3 v4 a5 a6 a7 a8 hp => ?_)
    try dsimp only at hp
    obtain ⟨hpp0, hpp1, hpp2, hpp3, hpp4, hpp5, hpp6⟩ := hp
    refine zk_ifc (zci_eq (by omega) (by omega)) (fun hc_2 => ?_) (fun hc_2 => ?_)
    · refine zk_d4 (s_Hill_enact _ _ _ _ _ (by omega) hpp4 (by omega) h_i_hill_orders h_i_hill_ordered) (fun v9 v10 a11 a12 hp_2 => ?_)
      try dsimp only at hp_2
      obtain ⟨hp_2p0, hp_2p1, hp_2p2, hp_2p3⟩ := hp_2
      refine zk_d3 (s_HS_accept _ _ _ (by omega)) (fun v13 v14 v15 hp_3 => ?_)
      try dsimp only at hp_3
      obtain ⟨hp_3p0, hp_3p1, hp_3p2, hp_3p3⟩ := hp_3
      refine zk_ret ?_
      try dsimp only
      exact ⟨by omega, by omega, by omega, by omega, by omega, by omega, by omega, hp_2p2, hp_2p3, hpp4, hpp5, hpp6⟩
    · refine zk_d3 (s_HS_refuse _ _ _ (by omega) (by omega)) (fun v16 v17 a18 hp_4 => ?_)
      try dsimp only at hp_4
      obtain ⟨hp_4p0, hp_4p1, hp_4p2, hp_4p3⟩ := hp_4
      refine zk_ret ?_
      try dsimp only
      exact ⟨by omega, by omega, by omega, by omega, by omega, by omega, by omega, h_i_hill_orders, h_i_hill_ordered, hpp4, hpp5, hpp6⟩
  · refine zk_d3 (s_HS_refuse _ _ _ (by omega) (by omega)) (fun v19 v20 a21 hp_5 => ?_)
    try dsimp only at hp_5
    obtain ⟨hp_5p0, hp_5p1, hp_5p2, hp_5p3⟩ := hp_5
    refine zk_ret ?_
    try dsimp only
    exact ⟨by omega, by omega, by omega, by omega, by omega, by omega, by omega, h_i_hill_orders, h_i_hill_ordered, h_i_reader_orders, h_i_reader_tokens, h_i_reader_places⟩
set_option maxHeartbeats 4000000 in
theorem s_HS_fault (i_latestFault : Int) (b_i_latestFault : (-1) ≤ i_latestFault ∧ i_latestFault ≤ 400) : zok (f_HS_fault i_latestFault) (fun o => ((-1) ≤ o ∧ o ≤ 400)) := by
  unfold f_HS_fault
  exact zk_ret (by omega)
set_option maxHeartbeats 4000000 in
theorem s_HS_force (x1 : Int) (i_hill_laws : Int) (i_latestStatus : Int) (i_hill_inForce : Int) (i_hill_changes : Int) (i_refusals : Nat → Int) (b_x1 : (-2147483648) ≤ x1 ∧ x1 ≤ 2147483647) (b_i_hill_laws : 0 ≤ i_hill_laws ∧ i_hill_laws ≤ 6) (b_i_latestStatus : (-6) ≤ i_latestStatus ∧ i_latestStatus ≤ 0) (b_i_hill_inForce : (-1) ≤ i_hill_inForce ∧ i_hill_inForce ≤ 5) : zok (f_HS_force x1 i_hill_laws i_latestStatus i_hill_inForce i_hill_changes i_refusals) (fun o => ((-6) ≤ o.2.1 ∧ o.2.1 ≤ 0) ∧ ((-1) ≤ o.2.2.1 ∧ o.2.2.1 ≤ 5)) := by
  unfold f_HS_force
  refine zk_ifc (zci_eq (by omega) (by omega)) (fun hc => ?_) (fun hc => ?_)
  · unfold f_HS_force_27
    refine zk_d3 (s_HS_accept _ _ _ (by omega)) (fun v1 v2 v3 hp => ?_)
    try dsimp only at hp
    obtain ⟨hpp0, hpp1, hpp2, hpp3⟩ := hp
    refine zk_ret ?_
    try dsimp only
    exact ⟨by omega, by omega⟩
  · refine zk_ifc (zci_ltr (by omega)) (fun hc_2 => ?_) (fun hc_2 => ?_)
    · unfold f_HS_force_20
      refine zk_d3 (s_HS_refuse _ _ _ (by omega) (by omega)) (fun v1_2 v2_2 a3 hp_2 => ?_)
      try dsimp only at hp_2
      obtain ⟨hp_2p0, hp_2p1, hp_2p2, hp_2p3⟩ := hp_2
      refine zk_ret ?_
      try dsimp only
      exact ⟨by omega, by omega⟩
    · refine zk_ifc (zci_lt (by omega) (by omega)) (fun hc_3 => ?_) (fun hc_3 => ?_)
      · unfold f_HS_force_27
        refine zk_d3 (s_HS_accept _ _ _ (by omega)) (fun v1_3 v2_3 v3_2 hp_3 => ?_)
        try dsimp only at hp_3
        obtain ⟨hp_3p0, hp_3p1, hp_3p2, hp_3p3⟩ := hp_3
        refine zk_ret ?_
        try dsimp only
        exact ⟨by omega, by omega⟩
      · unfold f_HS_force_20
        refine zk_d3 (s_HS_refuse _ _ _ (by omega) (by omega)) (fun v1_4 v2_4 a3_2 hp_4 => ?_)
        try dsimp only at hp_4
        obtain ⟨hp_4p0, hp_4p1, hp_4p2, hp_4p3⟩ := hp_4
        refine zk_ret ?_
        try dsimp only
        exact ⟨by omega, by omega⟩
set_option maxHeartbeats 4000000 in
theorem s_Hill_isAble (x1 : Int) (x2 : Int) (i_children : Int) (i_strengths : Nat → Int) (i_expelled : Nat → Int) (b_x1 : 0 ≤ x1 ∧ x1 ≤ 5) (b_x2 : 0 ≤ x2 ∧ x2 ≤ 30) (b_i_children : 1 ≤ i_children ∧ i_children ≤ 6) (h_i_strengths : zR i_strengths 0 60) (h_i_expelled : zR i_expelled 0 1) : zok (f_Hill_isAble x1 x2 i_children i_strengths i_expelled) (fun o => (0 ≤ o ∧ o ≤ 1) ∧ ((o = 1 ∧ 0 ≤ x1 ∧ x1 < i_children) ∨ o = 0)) := by
  unfold f_Hill_isAble
  refine zk_d1 (s_Hill_hasChild _ _ (by omega) (by omega)) (fun v1 hp => ?_)
  try dsimp only at hp
  obtain ⟨hpp0, hpp1⟩ := hp
  refine zk_ifc (zci_eqr (by omega)) (fun hc => ?_) (fun hc => ?_)
  · exact zk_ret ⟨by omega, by omega⟩
  · refine zk_gv (by omega) (by decide) (fun v2 h_v2 => ?_)
    have r_v2 := h_i_expelled (x1.toNat)
    refine zk_ifc (zci_ner (by omega)) (fun hc_2 => ?_) (fun hc_2 => ?_)
    · exact zk_ret ⟨by omega, by omega⟩
    · refine zk_gv (by omega) (by decide) (fun v3 h_v3 => ?_)
      have r_v3 := h_i_strengths (x1.toNat)
      refine zk_ifc (zci_lt (by omega) (by omega)) (fun hc_3 => ?_) (fun hc_3 => ?_)
      · exact zk_ret ⟨by omega, by omega⟩
      · exact zk_ret ⟨by omega, by omega⟩
set_option maxHeartbeats 4000000 in
theorem s_Judge_pop (i_pile : Nat → Int) (i_piled : Int) (b_i_piled : 0 ≤ i_piled ∧ i_piled ≤ 32) : zok (f_Judge_pop i_pile i_piled) (fun o => (0 ≤ o.2 ∧ o.2 ≤ 31) ∧ ((0 < i_piled ∧ o.1 = (i_pile ((i_piled - 1)).toNat) ∧ o.2 = (i_piled - 1)) ∨ (0 ≥ i_piled ∧ o.1 = 0 ∧ o.2 = i_piled))) := by
  unfold f_Judge_pop
  refine zk_ifc (zci_ltl (by omega)) (fun hc => ?_) (fun hc => ?_)
  · refine zk_n ?_
    refine zk_gv (by omega) (by decide) (fun v2 h_v2 => ?_)
    refine zk_ret ?_
    try dsimp only
    exact ⟨by omega, by omega⟩
  · refine zk_ret ?_
    try dsimp only
    exact ⟨by omega, by omega⟩
set_option maxHeartbeats 4000000 in
theorem s_Judge_worked (x0 : Int) (x1 : Int) (x3 : Int) (b_x0 : 3 ≤ x0 ∧ x0 ≤ 15) (b_x1 : (-2147483648) ≤ x1 ∧ x1 ≤ 2147483647) (b_x3 : (-2147483648) ≤ x3 ∧ x3 ≤ 2147483647) : zok (f_Judge_worked x0 x1 x3) (fun o => ((-2000000000) ≤ o ∧ o ≤ 1000000000)) := by
  unfold f_Judge_worked
  refine zk_ifc (zci_eqr (by omega)) (fun hc => ?_) (fun hc => ?_)
  · refine zk_n ?_
    unfold f_Judge_worked_118
    refine zk_ifc (zcl_lt (by omega) (by omega)) (fun hc_2 => ?_) (fun hc_2 => ?_)
    · exact zk_ret (by omega)
    · refine zk_ifc (zcl_le (by omega) (by omega)) (fun hc_3 => ?_) (fun hc_3 => ?_)
      · exact zk_ret (by omega)
      · exact zk_ret (by omega)
  · refine zk_ifc (zci_eqr (by omega)) (fun hc_4 => ?_) (fun hc_4 => ?_)
    · refine zk_n ?_
      unfold f_Judge_worked_118
      refine zk_ifc (zcl_lt (by omega) (by omega)) (fun hc_5 => ?_) (fun hc_5 => ?_)
      · exact zk_ret (by omega)
      · refine zk_ifc (zcl_le (by omega) (by omega)) (fun hc_6 => ?_) (fun hc_6 => ?_)
        · exact zk_ret (by omega)
        · exact zk_ret (by omega)
    · refine zk_ifc (zci_eqr (by omega)) (fun hc_7 => ?_) (fun hc_7 => ?_)
      · refine zk_nE (fun v3 h_v3 => ?_)
        have r_v3 := zmulA (a := x1) (b := x3) 2147483648 2147483648 (by omega) (by omega); rw [← h_v3] at r_v3
        unfold f_Judge_worked_118
        refine zk_ifc (zcl_lt (by omega) (by omega)) (fun hc_8 => ?_) (fun hc_8 => ?_)
        · exact zk_ret (by omega)
        · refine zk_ifc (zcl_le (by omega) (by omega)) (fun hc_9 => ?_) (fun hc_9 => ?_)
          · exact zk_ret (by omega)
          · exact zk_ret (by omega)
      · refine zk_ifc (zci_eqr (by omega)) (fun hc_10 => ?_) (fun hc_10 => ?_)
        · refine zk_ifc (zcl_ne (by omega) (by omega)) (fun hc_11 => ?_) (fun hc_11 => ?_)
          · refine zk_g0zl_w (by omega) ?_
            refine zk_nE (fun v4 h_v4 => ?_)
            have r_v4 := zl_div_f x1 x3; rw [← h_v4] at r_v4
            unfold f_Judge_worked_118
            refine zk_ifc (zcl_lt (by omega) (by omega)) (fun hc_12 => ?_) (fun hc_12 => ?_)
            · exact zk_ret (by omega)
            · refine zk_ifc (zcl_le (by omega) (by omega)) (fun hc_13 => ?_) (fun hc_13 => ?_)
              · exact zk_ret (by omega)
              · exact zk_ret (by omega)
          · exact zk_ret (by omega)
        · refine zk_ifc (zci_eqr (by omega)) (fun hc_14 => ?_) (fun hc_14 => ?_)
          · refine zk_ifc (zcl_le (by omega) (by omega)) (fun hc_15 => ?_) (fun hc_15 => ?_)
            · exact zk_ret (by omega)
            · exact zk_ret (by omega)
          · refine zk_ifc (zci_eqr (by omega)) (fun hc_16 => ?_) (fun hc_16 => ?_)
            · refine zk_ifc (zcl_le (by omega) (by omega)) (fun hc_17 => ?_) (fun hc_17 => ?_)
              · exact zk_ret (by omega)
              · exact zk_ret (by omega)
            · refine zk_ifc (zci_eqr (by omega)) (fun hc_18 => ?_) (fun hc_18 => ?_)
              · refine zk_ifc (zcl_ne (by omega) (by omega)) (fun hc_19 => ?_) (fun hc_19 => ?_)
                · exact zk_ret (by omega)
                · exact zk_ret (by omega)
              · refine zk_ifc (zcl_ne (by omega) (by omega)) (fun hc_20 => ?_) (fun hc_20 => ?_)
                · refine zk_g0zl_w (by omega) ?_
                  refine zk_nE (fun v5 h_v5 => ?_)
                  have r_v5 := zl_div_f x1 x3; rw [← h_v5] at r_v5
                  unfold f_Judge_worked_118
                  refine zk_ifc (zcl_lt (by omega) (by omega)) (fun hc_21 => ?_) (fun hc_21 => ?_)
                  · exact zk_ret (by omega)
                  · refine zk_ifc (zcl_le (by omega) (by omega)) (fun hc_22 => ?_) (fun hc_22 => ?_)
                    · exact zk_ret (by omega)
                    · exact zk_ret (by omega)
                · exact zk_ret (by omega)
set_option maxHeartbeats 4000000 in
theorem s_Judge_push (x1 : Int) (i_piled : Int) (i_pile : Nat → Int) (b_i_piled : 0 ≤ i_piled ∧ i_piled ≤ 32) : zok (f_Judge_push x1 i_piled i_pile) (fun o => (1 ≤ o.1 ∧ o.1 ≤ 32)) := by
  unfold f_Judge_push
  refine zk_ifc (zci_le (by omega) (by omega)) (fun hc => ?_) (fun hc => ?_)
  · refine zk_ret ?_
    try dsimp only
    all_goals exact (by omega)
  · refine zk_sv (by omega) (by decide) (fun a1 h_a1 => ?_)
    refine zk_n ?_
    refine zk_ret ?_
    try dsimp only
    all_goals exact (by omega)
set_option maxHeartbeats 4000000 in
theorem s_Judge_hear_8 (i_words : Nat → Int) (i_hill_orders : Nat → Int) (h_i_words : zR i_words 0 99) (h_i_hill_orders : zR i_hill_orders (-2147483648) 2147483647) : ∀ (n : Nat) (x1 : Int) (x2 : Int) (x3 : Int) (x4 : Int) (x5 : Int) (i_piled : Int) (i_tiring : Int) (i_barred : Int) (i_pile : Nat → Int), (0 ≤ x1 ∧ x1 ≤ 2120) → (0 ≤ x2 ∧ x2 ≤ 424) → ((-134217728) ≤ x3 ∧ x3 ≤ 134217727) → ((-134217728) ≤ x4 ∧ x4 ≤ 134217727) → (0 ≤ x5 ∧ x5 ≤ 999) → (0 ≤ i_piled ∧ i_piled ≤ 32) → (0 ≤ i_tiring ∧ i_tiring ≤ 2147483647) → (0 ≤ i_barred ∧ i_barred ≤ 1) → (1000 - x5) < (n : Int) → zok (f_Judge_hear_8 i_words i_hill_orders n x1 x2 x3 x4 x5 i_piled i_tiring i_barred i_pile) (fun o => (0 ≤ o.1 ∧ o.1 ≤ 32) ∧ (0 ≤ o.2.1 ∧ o.2.1 ≤ 2147483647) ∧ (0 ≤ o.2.2.1 ∧ o.2.2.1 ≤ 1)) := by
  intro n
  induction n with
  | zero => intro x1 x2 x3 x4 x5 i_piled i_tiring i_barred i_pile b_x1 b_x2 b_x3 b_x4 b_x5 b_i_piled b_i_tiring b_i_barred hm; exfalso; omega
  | succ n ih =>
    intro x1 x2 x3 x4 x5 i_piled i_tiring i_barred i_pile b_x1 b_x2 b_x3 b_x4 b_x5 b_i_piled b_i_tiring b_i_barred hm
    show zok (f_Judge_hear_8_b i_words i_hill_orders (f_Judge_hear_8 i_words i_hill_orders n) x1 x2 x3 x4 x5 i_piled i_tiring i_barred i_pile) _
    unfold f_Judge_hear_8_b
    refine zk_ifc (zci_le (by omega) (by omega)) (fun hc => ?_) (fun hc => ?_)
    · refine zk_ret ?_
      try dsimp only
      exact ⟨by omega, by omega, by omega⟩
    · refine zk_ifc (zci_le (by omega) (by omega)) (fun hc_2 => ?_) (fun hc_2 => ?_)
      · refine zk_n ?_
        refine zk_gv (by omega) (by decide) (fun v2 h_v2 => ?_)
        have r_v2 := h_i_hill_orders ((x1 + x5).toNat)
        refine zk_nE (fun v3 h_v3 => ?_)
        have r_v3 := zi_and_m v2 (m := 15) (by decide); rw [← h_v3] at r_v3
        refine zk_n ?_
        refine zk_gv (by omega) (by decide) (fun v5 h_v5 => ?_)
        have r_v5 := h_i_hill_orders ((x1 + x5).toNat)
        refine zk_nE (fun v6 h_v6 => ?_)
        rw [show (4 : Int) = ((4 : Nat) : Int) from rfl, zi_shr_k 4 16 (by decide) (by decide) (by omega)] at h_v6
        refine zk_ifc (zci_eqr (by omega)) (fun hc_3 => ?_) (fun hc_3 => ?_)
        · unfold f_Judge_hear_338
          refine zk_n ?_
          exact ih _ _ _ _ _ _ _ _ _ (by omega) (by omega) (by omega) (by omega) (by omega) (by omega) (by omega) (by omega) (by omega)
        · refine zk_ifc (zci_eqr (by omega)) (fun hc_4 => ?_) (fun hc_4 => ?_)
          · refine zk_d2 (s_Judge_push _ _ _ (by omega)) (fun v7 a8 hp => ?_)
            try dsimp only at hp
            have hpp0 := hp
            unfold f_Judge_hear_338
            refine zk_n ?_
            exact ih _ _ _ _ _ _ _ _ _ (by omega) (by omega) (by omega) (by omega) (by omega) (by omega) (by omega) (by omega) (by omega)
          · refine zk_ifc (zci_eqr (by omega)) (fun hc_5 => ?_) (fun hc_5 => ?_)
            · refine zk_ifc (zci_ltr (by omega)) (fun hc_6 => ?_) (fun hc_6 => ?_)
              · unfold f_Judge_hear_176
                unfold f_Judge_hear_177
                refine zk_d2 (s_Judge_push _ _ _ (by omega)) (fun v1_4 a2 hp_2 => ?_)
                try dsimp only at hp_2
                have hp_2p0 := hp_2
                unfold f_Judge_hear_338
                refine zk_n ?_
                exact ih _ _ _ _ _ _ _ _ _ (by omega) (by omega) (by omega) (by omega) (by omega) (by omega) (by omega) (by omega) (by omega)
              · refine zk_ifc (zci_le (by omega) (by omega)) (fun hc_7 => ?_) (fun hc_7 => ?_)
                · unfold f_Judge_hear_176
                  unfold f_Judge_hear_177
                  refine zk_d2 (s_Judge_push _ _ _ (by omega)) (fun v1_6 a2_2 hp_3 => ?_)
                  try dsimp only at hp_3
                  have hp_3p0 := hp_3
                  unfold f_Judge_hear_338
                  refine zk_n ?_
                  exact ih _ _ _ _ _ _ _ _ _ (by omega) (by omega) (by omega) (by omega) (by omega) (by omega) (by omega) (by omega) (by omega)
                · refine zk_gv (by omega) (by decide) (fun v9 h_v9 => ?_)
                  have r_v9 := h_i_words (v6.toNat)
                  unfold f_Judge_hear_177
                  refine zk_d2 (s_Judge_push _ _ _ (by omega)) (fun v1_8 a2_3 hp_4 => ?_)
                  try dsimp only at hp_4
                  have hp_4p0 := hp_4
                  unfold f_Judge_hear_338
                  refine zk_n ?_
                  exact ih _ _ _ _ _ _ _ _ _ (by omega) (by omega) (by omega) (by omega) (by omega) (by omega) (by omega) (by omega) (by omega)
            · refine zk_ifc (zci_eqr (by omega)) (fun hc_8 => ?_) (fun hc_8 => ?_)
              · refine zk_d2 (s_Judge_pop _ _ (by omega)) (fun v10 v11 hp_5 => ?_)
                try dsimp only at hp_5
                obtain ⟨hp_5p0, hp_5p1⟩ := hp_5
                refine zk_d2 (s_Judge_pop _ _ (by omega)) (fun v12 v13 hp_6 => ?_)
                try dsimp only at hp_6
                obtain ⟨hp_6p0, hp_6p1⟩ := hp_6
                refine zk_nE (fun v14 h_v14 => ?_)
                have r_v14 := zi_r v12; rw [← h_v14] at r_v14
                refine zk_nE (fun v15 h_v15 => ?_)
                have r_v15 := zi_r v10; rw [← h_v15] at r_v15
                refine zk_d1 (s_Judge_worked _ _ _ (by omega) (by omega) (by omega)) (fun v16 hp_7 => ?_)
                try dsimp only at hp_7
                have hp_7p0 := hp_7
                refine zk_d2 (s_Judge_push _ _ _ (by omega)) (fun v17 a18 hp_8 => ?_)
                try dsimp only at hp_8
                have hp_8p0 := hp_8
                refine zk_ifc (zci_ne (by omega) (by omega)) (fun hc_9 => ?_) (fun hc_9 => ?_)
                · unfold f_Judge_hear_337
                  unfold f_Judge_hear_338
                  refine zk_n ?_
                  exact ih _ _ _ _ _ _ _ _ _ (by omega) (by omega) (by omega) (by omega) (by omega) (by omega) (by omega) (by omega) (by omega)
                · unfold f_Judge_hear_337
                  unfold f_Judge_hear_338
                  refine zk_n ?_
                  exact ih _ _ _ _ _ _ _ _ _ (by omega) (by omega) (by omega) (by omega) (by omega) (by omega) (by omega) (by omega) (by omega)
              · refine zk_ifc (zci_eqr (by omega)) (fun hc_10 => ?_) (fun hc_10 => ?_)
                · refine zk_d2 (s_Judge_pop _ _ (by omega)) (fun v19 v20 hp_9 => ?_)
                  try dsimp only at hp_9
                  obtain ⟨hp_9p0, hp_9p1⟩ := hp_9
                  refine zk_d2 (s_Judge_pop _ _ (by omega)) (fun v21 v22 hp_10 => ?_)
                  try dsimp only at hp_10
                  obtain ⟨hp_10p0, hp_10p1⟩ := hp_10
                  refine zk_nE (fun v23 h_v23 => ?_)
                  have r_v23 := zi_r v21; rw [← h_v23] at r_v23
                  refine zk_nE (fun v24 h_v24 => ?_)
                  have r_v24 := zi_r v19; rw [← h_v24] at r_v24
                  refine zk_d1 (s_Judge_worked _ _ _ (by omega) (by omega) (by omega)) (fun v25 hp_11 => ?_)
                  try dsimp only at hp_11
                  have hp_11p0 := hp_11
                  refine zk_d2 (s_Judge_push _ _ _ (by omega)) (fun v26 a27 hp_12 => ?_)
                  try dsimp only at hp_12
                  have hp_12p0 := hp_12
                  refine zk_ifc (zci_ne (by omega) (by omega)) (fun hc_11 => ?_) (fun hc_11 => ?_)
                  · unfold f_Judge_hear_337
                    unfold f_Judge_hear_338
                    refine zk_n ?_
                    exact ih _ _ _ _ _ _ _ _ _ (by omega) (by omega) (by omega) (by omega) (by omega) (by omega) (by omega) (by omega) (by omega)
                  · unfold f_Judge_hear_337
                    unfold f_Judge_hear_338
                    refine zk_n ?_
                    exact ih _ _ _ _ _ _ _ _ _ (by omega) (by omega) (by omega) (by omega) (by omega) (by omega) (by omega) (by omega) (by omega)
                · refine zk_ifc (zci_eqr (by omega)) (fun hc_12 => ?_) (fun hc_12 => ?_)
                  · refine zk_d2 (s_Judge_pop _ _ (by omega)) (fun v28 v29 hp_13 => ?_)
                    try dsimp only at hp_13
                    obtain ⟨hp_13p0, hp_13p1⟩ := hp_13
                    refine zk_d2 (s_Judge_pop _ _ (by omega)) (fun v30 v31 hp_14 => ?_)
                    try dsimp only at hp_14
                    obtain ⟨hp_14p0, hp_14p1⟩ := hp_14
                    refine zk_nE (fun v32 h_v32 => ?_)
                    have r_v32 := zi_r v30; rw [← h_v32] at r_v32
                    refine zk_nE (fun v33 h_v33 => ?_)
                    have r_v33 := zi_r v28; rw [← h_v33] at r_v33
                    refine zk_d1 (s_Judge_worked _ _ _ (by omega) (by omega) (by omega)) (fun v34 hp_15 => ?_)
                    try dsimp only at hp_15
                    have hp_15p0 := hp_15
                    refine zk_d2 (s_Judge_push _ _ _ (by omega)) (fun v35 a36 hp_16 => ?_)
                    try dsimp only at hp_16
                    have hp_16p0 := hp_16
                    refine zk_ifc (zci_ne (by omega) (by omega)) (fun hc_13 => ?_) (fun hc_13 => ?_)
                    · unfold f_Judge_hear_337
                      unfold f_Judge_hear_338
                      refine zk_n ?_
                      exact ih _ _ _ _ _ _ _ _ _ (by omega) (by omega) (by omega) (by omega) (by omega) (by omega) (by omega) (by omega) (by omega)
                    · unfold f_Judge_hear_337
                      unfold f_Judge_hear_338
                      refine zk_n ?_
                      exact ih _ _ _ _ _ _ _ _ _ (by omega) (by omega) (by omega) (by omega) (by omega) (by omega) (by omega) (by omega) (by omega)
                  · refine zk_ifc (zci_eqr (by omega)) (fun hc_14 => ?_) (fun hc_14 => ?_)
                    · refine zk_d2 (s_Judge_pop _ _ (by omega)) (fun v37 v38 hp_17 => ?_)
                      try dsimp only at hp_17
                      obtain ⟨hp_17p0, hp_17p1⟩ := hp_17
                      refine zk_d2 (s_Judge_pop _ _ (by omega)) (fun v39 v40 hp_18 => ?_)
                      try dsimp only at hp_18
                      obtain ⟨hp_18p0, hp_18p1⟩ := hp_18
                      refine zk_nE (fun v41 h_v41 => ?_)
                      have r_v41 := zi_r v39; rw [← h_v41] at r_v41
                      refine zk_nE (fun v42 h_v42 => ?_)
                      have r_v42 := zi_r v37; rw [← h_v42] at r_v42
                      refine zk_d1 (s_Judge_worked _ _ _ (by omega) (by omega) (by omega)) (fun v43 hp_19 => ?_)
                      try dsimp only at hp_19
                      have hp_19p0 := hp_19
                      refine zk_d2 (s_Judge_push _ _ _ (by omega)) (fun v44 a45 hp_20 => ?_)
                      try dsimp only at hp_20
                      have hp_20p0 := hp_20
                      refine zk_ifc (zci_ne (by omega) (by omega)) (fun hc_15 => ?_) (fun hc_15 => ?_)
                      · unfold f_Judge_hear_337
                        unfold f_Judge_hear_338
                        refine zk_n ?_
                        exact ih _ _ _ _ _ _ _ _ _ (by omega) (by omega) (by omega) (by omega) (by omega) (by omega) (by omega) (by omega) (by omega)
                      · unfold f_Judge_hear_337
                        unfold f_Judge_hear_338
                        refine zk_n ?_
                        exact ih _ _ _ _ _ _ _ _ _ (by omega) (by omega) (by omega) (by omega) (by omega) (by omega) (by omega) (by omega) (by omega)
                    · refine zk_ifc (zci_eqr (by omega)) (fun hc_16 => ?_) (fun hc_16 => ?_)
                      · refine zk_d2 (s_Judge_pop _ _ (by omega)) (fun v46 v47 hp_21 => ?_)
                        try dsimp only at hp_21
                        obtain ⟨hp_21p0, hp_21p1⟩ := hp_21
                        refine zk_d2 (s_Judge_pop _ _ (by omega)) (fun v48 v49 hp_22 => ?_)
                        try dsimp only at hp_22
                        obtain ⟨hp_22p0, hp_22p1⟩ := hp_22
                        refine zk_nE (fun v50 h_v50 => ?_)
                        have r_v50 := zi_r v48; rw [← h_v50] at r_v50
                        refine zk_nE (fun v51 h_v51 => ?_)
                        have r_v51 := zi_r v46; rw [← h_v51] at r_v51
                        refine zk_d1 (s_Judge_worked _ _ _ (by omega) (by omega) (by omega)) (fun v52 hp_23 => ?_)
                        try dsimp only at hp_23
                        have hp_23p0 := hp_23
                        refine zk_d2 (s_Judge_push _ _ _ (by omega)) (fun v53 a54 hp_24 => ?_)
                        try dsimp only at hp_24
                        have hp_24p0 := hp_24
                        refine zk_ifc (zci_ne (by omega) (by omega)) (fun hc_17 => ?_) (fun hc_17 => ?_)
                        · unfold f_Judge_hear_337
                          unfold f_Judge_hear_338
                          refine zk_n ?_
                          exact ih _ _ _ _ _ _ _ _ _ (by omega) (by omega) (by omega) (by omega) (by omega) (by omega) (by omega) (by omega) (by omega)
                        · unfold f_Judge_hear_337
                          unfold f_Judge_hear_338
                          refine zk_n ?_
                          exact ih _ _ _ _ _ _ _ _ _ (by omega) (by omega) (by omega) (by omega) (by omega) (by omega) (by omega) (by omega) (by omega)
                      · refine zk_ifc (zci_eqr (by omega)) (fun hc_18 => ?_) (fun hc_18 => ?_)
                        · refine zk_d2 (s_Judge_pop _ _ (by omega)) (fun v55 v56 hp_25 => ?_)
                          try dsimp only at hp_25
                          obtain ⟨hp_25p0, hp_25p1⟩ := hp_25
                          refine zk_d2 (s_Judge_pop _ _ (by omega)) (fun v57 v58 hp_26 => ?_)
                          try dsimp only at hp_26
                          obtain ⟨hp_26p0, hp_26p1⟩ := hp_26
                          refine zk_nE (fun v59 h_v59 => ?_)
                          have r_v59 := zi_r v57; rw [← h_v59] at r_v59
                          refine zk_nE (fun v60 h_v60 => ?_)
                          have r_v60 := zi_r v55; rw [← h_v60] at r_v60
                          refine zk_d1 (s_Judge_worked _ _ _ (by omega) (by omega) (by omega)) (fun v61 hp_27 => ?_)
                          try dsimp only at hp_27
                          have hp_27p0 := hp_27
                          refine zk_d2 (s_Judge_push _ _ _ (by omega)) (fun v62 a63 hp_28 => ?_)
                          try dsimp only at hp_28
                          have hp_28p0 := hp_28
                          refine zk_ifc (zci_ne (by omega) (by omega)) (fun hc_19 => ?_) (fun hc_19 => ?_)
                          · unfold f_Judge_hear_337
                            unfold f_Judge_hear_338
                            refine zk_n ?_
                            exact ih _ _ _ _ _ _ _ _ _ (by omega) (by omega) (by omega) (by omega) (by omega) (by omega) (by omega) (by omega) (by omega)
                          · unfold f_Judge_hear_337
                            unfold f_Judge_hear_338
                            refine zk_n ?_
                            exact ih _ _ _ _ _ _ _ _ _ (by omega) (by omega) (by omega) (by omega) (by omega) (by omega) (by omega) (by omega) (by omega)
                        · refine zk_ifc (zci_eqr (by omega)) (fun hc_20 => ?_) (fun hc_20 => ?_)
                          · refine zk_d2 (s_Judge_pop _ _ (by omega)) (fun v64 v65 hp_29 => ?_)
                            try dsimp only at hp_29
                            obtain ⟨hp_29p0, hp_29p1⟩ := hp_29
                            refine zk_d2 (s_Judge_pop _ _ (by omega)) (fun v66 v67 hp_30 => ?_)
                            try dsimp only at hp_30
                            obtain ⟨hp_30p0, hp_30p1⟩ := hp_30
                            refine zk_nE (fun v68 h_v68 => ?_)
                            have r_v68 := zi_r v66; rw [← h_v68] at r_v68
                            refine zk_nE (fun v69 h_v69 => ?_)
                            have r_v69 := zi_r v64; rw [← h_v69] at r_v69
                            refine zk_d1 (s_Judge_worked _ _ _ (by omega) (by omega) (by omega)) (fun v70 hp_31 => ?_)
                            try dsimp only at hp_31
                            have hp_31p0 := hp_31
                            refine zk_d2 (s_Judge_push _ _ _ (by omega)) (fun v71 a72 hp_32 => ?_)
                            try dsimp only at hp_32
                            have hp_32p0 := hp_32
                            refine zk_ifc (zci_ne (by omega) (by omega)) (fun hc_21 => ?_) (fun hc_21 => ?_)
                            · unfold f_Judge_hear_337
                              unfold f_Judge_hear_338
                              refine zk_n ?_
                              exact ih _ _ _ _ _ _ _ _ _ (by omega) (by omega) (by omega) (by omega) (by omega) (by omega) (by omega) (by omega) (by omega)
                            · unfold f_Judge_hear_337
                              unfold f_Judge_hear_338
                              refine zk_n ?_
                              exact ih _ _ _ _ _ _ _ _ _ (by omega) (by omega) (by omega) (by omega) (by omega) (by omega) (by omega) (by omega) (by omega)
                          · refine zk_ifc (zci_eqr (by omega)) (fun hc_22 => ?_) (fun hc_22 => ?_)
                            · refine zk_d2 (s_Judge_pop _ _ (by omega)) (fun v73 v74 hp_33 => ?_)
                              try dsimp only at hp_33
                              obtain ⟨hp_33p0, hp_33p1⟩ := hp_33
                              refine zk_n ?_
                              refine zk_d2 (s_Judge_push _ _ _ (by omega)) (fun v76 a77 hp_34 => ?_)
                              try dsimp only at hp_34
                              have hp_34p0 := hp_34
                              unfold f_Judge_hear_338
                              refine zk_n ?_
                              exact ih _ _ _ _ _ _ _ _ _ (by omega) (by omega) (by omega) (by omega) (by omega) (by omega) (by omega) (by omega) (by omega)
                            · refine zk_ifc (zci_eqr (by omega)) (fun hc_23 => ?_) (fun hc_23 => ?_)
                              · refine zk_d2 (s_Judge_pop _ _ (by omega)) (fun v78 v79 hp_35 => ?_)
                                try dsimp only at hp_35
                                obtain ⟨hp_35p0, hp_35p1⟩ := hp_35
                                refine zk_ifc (zci_ne (by omega) (by omega)) (fun hc_24 => ?_) (fun hc_24 => ?_)
                                · unfold f_Judge_hear_216
                                  refine zk_if (fun hc_25 => ?_) (fun hc_25 => ?_)
                                  · unfold f_Judge_hear_338
                                    refine zk_n ?_
                                    exact ih _ _ _ _ _ _ _ _ _ (by omega) (by omega) (by omega) (by omega) (by omega) (by omega) (by omega) (by omega) (by omega)
                                  · refine zk_d2 (s_Judge_push _ _ _ (by omega)) (fun v1_26 a2_4 hp_36 => ?_)
                                    try dsimp only at hp_36
                                    have hp_36p0 := hp_36
                                    unfold f_Judge_hear_338
                                    refine zk_n ?_
                                    exact ih _ _ _ _ _ _ _ _ _ (by omega) (by omega) (by omega) (by omega) (by omega) (by omega) (by omega) (by omega) (by omega)
                                · exfalso; omega
                              · refine zk_ifc (zci_eqr (by omega)) (fun hc_26 => ?_) (fun hc_26 => ?_)
                                · refine zk_d2 (s_Judge_pop _ _ (by omega)) (fun v80 v81 hp_37 => ?_)
                                  try dsimp only at hp_37
                                  obtain ⟨hp_37p0, hp_37p1⟩ := hp_37
                                  refine zk_ifc (zci_ne (by omega) (by omega)) (fun hc_27 => ?_) (fun hc_27 => ?_)
                                  · exfalso; omega
                                  · unfold f_Judge_hear_216
                                    refine zk_if (fun hc_28 => ?_) (fun hc_28 => ?_)
                                    · unfold f_Judge_hear_338
                                      refine zk_n ?_
                                      exact ih _ _ _ _ _ _ _ _ _ (by omega) (by omega) (by omega) (by omega) (by omega) (by omega) (by omega) (by omega) (by omega)
                                    · refine zk_d2 (s_Judge_push _ _ _ (by omega)) (fun v1_29 a2_5 hp_38 => ?_)
                                      try dsimp only at hp_38
                                      have hp_38p0 := hp_38
                                      unfold f_Judge_hear_338
                                      refine zk_n ?_
                                      exact ih _ _ _ _ _ _ _ _ _ (by omega) (by omega) (by omega) (by omega) (by omega) (by omega) (by omega) (by omega) (by omega)
                                · refine zk_ifc (zci_eqr (by omega)) (fun hc_29 => ?_) (fun hc_29 => ?_)
                                  · refine zk_d2 (s_Judge_pop _ _ (by omega)) (fun v82 v83 hp_39 => ?_)
                                    try dsimp only at hp_39
                                    obtain ⟨hp_39p0, hp_39p1⟩ := hp_39
                                    refine zk_if (fun hc_30 => ?_) (fun hc_30 => ?_)
                                    · unfold f_Judge_hear_264
                                      unfold f_Judge_hear_338
                                      refine zk_n ?_
                                      exact ih _ _ _ _ _ _ _ _ _ (by omega) (by omega) (by omega) (by omega) (by omega) (by omega) (by omega) (by omega) (by omega)
                                    · refine zk_d2 (s_Judge_pop _ _ (by omega)) (fun v84 v85 hp_40 => ?_)
                                      try dsimp only at hp_40
                                      obtain ⟨hp_40p0, hp_40p1⟩ := hp_40
                                      refine zk_nE (fun v86 h_v86 => ?_)
                                      have r_v86 := zi_min_i 99 v84; rw [← h_v86] at r_v86
                                      refine zk_nE (fun v87 h_v87 => ?_)
                                      have r_v87 := zi_max_f (0) (by omega) (v86) (by omega); rw [← h_v87] at r_v87
                                      unfold f_Judge_hear_264
                                      unfold f_Judge_hear_338
                                      refine zk_n ?_
                                      exact ih _ _ _ _ _ _ _ _ _ (by omega) (by omega) (by omega) (by omega) (by omega) (by omega) (by omega) (by omega) (by omega)
                                  · refine zk_ifc (zci_eqr (by omega)) (fun hc_31 => ?_) (fun hc_31 => ?_)
                                    · refine zk_d2 (s_Judge_pop _ _ (by omega)) (fun v88 v89 hp_41 => ?_)
                                      try dsimp only at hp_41
                                      obtain ⟨hp_41p0, hp_41p1⟩ := hp_41
                                      refine zk_if (fun hc_32 => ?_) (fun hc_32 => ?_)
                                      · unfold f_Judge_hear_286
                                        unfold f_Judge_hear_291
                                        refine zk_gb (by omega) ?_
                                        unfold f_Judge_hear_338
                                        refine zk_n ?_
                                        exact ih _ _ _ _ _ _ _ _ _ (by omega) (by omega) (by omega) (by omega) (by omega) (by omega) (by omega) (by omega) (by omega)
                                      · refine zk_ifc (zci_eqr (by omega)) (fun hc_33 => ?_) (fun hc_33 => ?_)
                                        · unfold f_Judge_hear_291
                                          refine zk_gb (by omega) ?_
                                          unfold f_Judge_hear_338
                                          refine zk_n ?_
                                          exact ih _ _ _ _ _ _ _ _ _ (by omega) (by omega) (by omega) (by omega) (by omega) (by omega) (by omega) (by omega) (by omega)
                                        · unfold f_Judge_hear_286
                                          unfold f_Judge_hear_291
                                          refine zk_gb (by omega) ?_
                                          unfold f_Judge_hear_338
                                          refine zk_n ?_
                                          exact ih _ _ _ _ _ _ _ _ _ (by omega) (by omega) (by omega) (by omega) (by omega) (by omega) (by omega) (by omega) (by omega)
                                    · refine zk_d2 (s_Judge_pop _ _ (by omega)) (fun v90 v91 hp_42 => ?_)
                                      try dsimp only at hp_42
                                      obtain ⟨hp_42p0, hp_42p1⟩ := hp_42
                                      refine zk_d2 (s_Judge_pop _ _ (by omega)) (fun v92 v93 hp_43 => ?_)
                                      try dsimp only at hp_43
                                      obtain ⟨hp_43p0, hp_43p1⟩ := hp_43
                                      refine zk_nE (fun v94 h_v94 => ?_)
                                      have r_v94 := zi_r v92; rw [← h_v94] at r_v94
                                      refine zk_nE (fun v95 h_v95 => ?_)
                                      have r_v95 := zi_r v90; rw [← h_v95] at r_v95
                                      refine zk_d1 (s_Judge_worked _ _ _ (by omega) (by omega) (by omega)) (fun v96 hp_44 => ?_)
                                      try dsimp only at hp_44
                                      have hp_44p0 := hp_44
                                      refine zk_d2 (s_Judge_push _ _ _ (by omega)) (fun v97 a98 hp_45 => ?_)
                                      try dsimp only at hp_45
                                      have hp_45p0 := hp_45
                                      refine zk_ifc (zci_ne (by omega) (by omega)) (fun hc_34 => ?_) (fun hc_34 => ?_)
                                      · unfold f_Judge_hear_337
                                        unfold f_Judge_hear_338
                                        refine zk_n ?_
                                        exact ih _ _ _ _ _ _ _ _ _ (by omega) (by omega) (by omega) (by omega) (by omega) (by omega) (by omega) (by omega) (by omega)
                                      · unfold f_Judge_hear_337
                                        unfold f_Judge_hear_338
                                        refine zk_n ?_
                                        exact ih _ _ _ _ _ _ _ _ _ (by omega) (by omega) (by omega) (by omega) (by omega) (by omega) (by omega) (by omega) (by omega)
      · unfold f_Judge_hear_338
        refine zk_n ?_
        exact ih _ _ _ _ _ _ _ _ _ (by omega) (by omega) (by omega) (by omega) (by omega) (by omega) (by omega) (by omega) (by omega)
