set_option maxHeartbeats 4000000 in
theorem s_Hill_hasChild (x1 : Int) (i_children : Int) (b_x1 : (-2147483648) ≤ x1 ∧ x1 ≤ 2147483647) (b_i_children : 0 ≤ i_children ∧ i_children ≤ 6) : zok (f_Hill_hasChild x1 i_children) (fun o => (0 ≤ o ∧ o ≤ 1) ∧ ((x1 < 0 ∧ o = 0) ∨ (x1 ≥ 0 ∧ i_children ≤ x1 ∧ o = 0) ∨ (x1 ≥ 0 ∧ i_children > x1 ∧ o = 1))) := by
  unfold f_Hill_hasChild
  refine zk_ifc (zci_ltr (by omega)) (fun hc => ?_) (fun hc => ?_)
  · exact zk_ret ⟨by omega, by first | exact Or.inl (by omega) | exact Or.inr (Or.inl (by omega)) | exact Or.inr (Or.inr ((by omega)))⟩
  · refine zk_ifc (zci_le (by omega) (by omega)) (fun hc_2 => ?_) (fun hc_2 => ?_)
    · exact zk_ret ⟨by omega, by first | exact Or.inl (by omega) | exact Or.inr (Or.inl (by omega)) | exact Or.inr (Or.inr ((by omega)))⟩
    · exact zk_ret ⟨by omega, by first | exact Or.inl (by omega) | exact Or.inr (Or.inl (by omega)) | exact Or.inr (Or.inr ((by omega)))⟩
set_option maxHeartbeats 4000000 in
theorem s_HS_expel (x1 : Int) (x2 : Int) (i_hill_children : Int) (i_latestStatus : Int) (i_hill_changes : Int) (i_refusals : Nat → Int) (i_hill_expelled : Nat → Int) (b_x1 : (-2147483648) ≤ x1 ∧ x1 ≤ 2147483647) (b_x2 : (-2147483648) ≤ x2 ∧ x2 ≤ 2147483647) (b_i_hill_children : 0 ≤ i_hill_children ∧ i_hill_children ≤ 6) (b_i_latestStatus : (-6) ≤ i_latestStatus ∧ i_latestStatus ≤ 0) (h_i_hill_expelled : zR i_hill_expelled 0 1) : zok (f_HS_expel x1 x2 i_hill_children i_latestStatus i_hill_changes i_refusals i_hill_expelled) (fun o => ((-6) ≤ o.2.1 ∧ o.2.1 ≤ 0) ∧ zR o.2.2.2.2 0 1) := by
  unfold f_HS_expel
  refine zk_ifc (zci_ltr (by omega)) (fun hc => ?_) (fun hc => ?_)
  · unfold f_HS_expel_9
    refine zk_d3 (s_HS_refuse _ _ _ (by omega) (by omega)) (fun v1 v2 a3 hp => ?_)
    try dsimp only at hp
    obtain ⟨hpp0, hpp1, hpp2, hpp3⟩ := hp
    refine zk_ret ?_
    try dsimp only
    exact ⟨by omega, h_i_hill_expelled⟩
  · refine zk_ifc (zci_le (by omega) (by omega)) (fun hc_2 => ?_) (fun hc_2 => ?_)
    · refine zk_d1 (s_Hill_hasChild _ _ (by omega) (by omega)) (fun v1_2 hp_2 => ?_)
      try dsimp only at hp_2
      obtain ⟨hp_2p0, hp_2p1⟩ := hp_2
      refine zk_ifc (zci_ner (by omega)) (fun hc_3 => ?_) (fun hc_3 => ?_)
      · refine zk_gv (by omega) (by decide) (fun v2_2 h_v2_2 => ?_)
        have r_v2_2 := h_i_hill_expelled (x1.toNat)
        refine zk_sv (by omega) (by decide) (fun a3_2 h_a3_2 => ?_)
        have i_a3_2 : zR a3_2 0 1 := by rw [h_a3_2]; exact zR_zu h_i_hill_expelled (by decide) (by decide) (by omega)
        refine zk_d3 (s_HS_accept _ _ _ (by omega)) (fun v4 v5 v6 hp_3 => ?_)
        try dsimp only at hp_3
        obtain ⟨hp_3p0, hp_3p1, hp_3p2, hp_3p3⟩ := hp_3
        refine zk_ret ?_
        try dsimp only
        exact ⟨by omega, i_a3_2⟩
      · refine zk_d3 (s_HS_refuse _ _ _ (by omega) (by omega)) (fun v7 v8 a9 hp_4 => ?_)
        try dsimp only at hp_4
        obtain ⟨hp_4p0, hp_4p1, hp_4p2, hp_4p3⟩ := hp_4
        refine zk_ret ?_
        try dsimp only
        exact ⟨by omega, h_i_hill_expelled⟩
    · unfold f_HS_expel_9
      refine zk_d3 (s_HS_refuse _ _ _ (by omega) (by omega)) (fun v1_3 v2_3 a3_3 hp_5 => ?_)
      try dsimp only at hp_5
      obtain ⟨hp_5p0, hp_5p1, hp_5p2, hp_5p3⟩ := hp_5
      refine zk_ret ?_
      try dsimp only
      exact ⟨by omega, h_i_hill_expelled⟩
set_option maxHeartbeats 4000000 in
theorem s_HS_fact (x1 : Int) (x2 : Int) (i_hill_children : Int) (i_hill_strengths : Nat → Int) (i_hill_expelled : Nat → Int) (i_hill_trips : Nat → Int) (b_x1 : (-2147483648) ≤ x1 ∧ x1 ≤ 2147483647) (b_x2 : (-2147483648) ≤ x2 ∧ x2 ≤ 2147483647) (b_i_hill_children : 0 ≤ i_hill_children ∧ i_hill_children ≤ 6) (h_i_hill_strengths : zR i_hill_strengths 0 60) (h_i_hill_expelled : zR i_hill_expelled 0 1) (h_i_hill_trips : zR i_hill_trips 0 20) : zok (f_HS_fact x1 x2 i_hill_children i_hill_strengths i_hill_expelled i_hill_trips) (fun o => ((-1) ≤ o ∧ o ≤ 60)) := by
  unfold f_HS_fact
  refine zk_d1 (s_Hill_hasChild _ _ (by omega) (by omega)) (fun v1 hp => ?_)
  try dsimp only at hp
  obtain ⟨hpp0, hpp1⟩ := hp
  refine zk_ifc (zci_ner (by omega)) (fun hc => ?_) (fun hc => ?_)
  · refine zk_ifc (zci_eqr (by omega)) (fun hc_2 => ?_) (fun hc_2 => ?_)
    · refine zk_gv (by omega) (by decide) (fun v2 h_v2 => ?_)
      have r_v2 := h_i_hill_strengths (x1.toNat)
      exact zk_ret (by omega)
    · refine zk_ifc (zci_eqr (by omega)) (fun hc_3 => ?_) (fun hc_3 => ?_)
      · refine zk_gv (by omega) (by decide) (fun v3 h_v3 => ?_)
        have r_v3 := h_i_hill_expelled (x1.toNat)
        exact zk_ret (by omega)
      · refine zk_ifc (zci_eqr (by omega)) (fun hc_4 => ?_) (fun hc_4 => ?_)
        · refine zk_gv (by omega) (by decide) (fun v4 h_v4 => ?_)
          have r_v4 := h_i_hill_trips (x1.toNat)
          exact zk_ret (by omega)
        · exact zk_ret (by omega)
  · exact zk_ret (by omega)
set_option maxHeartbeats 4000000 in
theorem s_HS_parish (x1 : Int) (i_hill_columns_many : Int) (i_latestStatus : Int) (i_hill_parishes : Int) (i_hill_changes : Int) (i_refusals : Nat → Int) (i_hill_places : Nat → Int) (b_x1 : (-2147483648) ≤ x1 ∧ x1 ≤ 2147483647) (b_i_hill_columns_many : 0 ≤ i_hill_columns_many ∧ i_hill_columns_many ≤ 12) (b_i_latestStatus : (-6) ≤ i_latestStatus ∧ i_latestStatus ≤ 0) (b_i_hill_parishes : 0 ≤ i_hill_parishes ∧ i_hill_parishes ≤ 6) (h_i_hill_places : zR i_hill_places 0 11) : zok (f_HS_parish x1 i_hill_columns_many i_latestStatus i_hill_parishes i_hill_changes i_refusals i_hill_places) (fun o => ((-6) ≤ o.2.1 ∧ o.2.1 ≤ 0) ∧ (0 ≤ o.2.2.1 ∧ o.2.2.1 ≤ 6) ∧ zR o.2.2.2.2.2 0 11) := by
  unfold f_HS_parish
  refine zk_d1 (s_Columns_has _ _ (by omega) (by omega)) (fun v1 hp => ?_)
  try dsimp only at hp
  obtain ⟨hpp0, hpp1⟩ := hp
  refine zk_ifc (zci_ner (by omega)) (fun hc => ?_) (fun hc => ?_)
  · refine zk_ifc (zci_lt (by omega) (by omega)) (fun hc_2 => ?_) (fun hc_2 => ?_)
    · refine zk_sv (by omega) (by decide) (fun a2 h_a2 => ?_)
      have i_a2 : zR a2 0 11 := by rw [h_a2]; exact zR_zu h_i_hill_places (by decide) (by decide) (by omega)
      refine zk_n ?_
      refine zk_d3 (s_HS_accept _ _ _ (by omega)) (fun v4 v5 v6 hp_2 => ?_)
      try dsimp only at hp_2
      obtain ⟨hp_2p0, hp_2p1, hp_2p2, hp_2p3⟩ := hp_2
      refine zk_ret ?_
      try dsimp only
      exact ⟨by omega, by omega, i_a2⟩
    · refine zk_d3 (s_HS_refuse _ _ _ (by omega) (by omega)) (fun v7 v8 a9 hp_3 => ?_)
      try dsimp only at hp_3
      obtain ⟨hp_3p0, hp_3p1, hp_3p2, hp_3p3⟩ := hp_3
      refine zk_ret ?_
      try dsimp only
      exact ⟨by omega, by omega, h_i_hill_places⟩
  · refine zk_d3 (s_HS_refuse _ _ _ (by omega) (by omega)) (fun v10 v11 a12 hp_4 => ?_)
    try dsimp only at hp_4
    obtain ⟨hp_4p0, hp_4p1, hp_4p2, hp_4p3⟩ := hp_4
    refine zk_ret ?_
    try dsimp only
    exact ⟨by omega, by omega, h_i_hill_places⟩
set_option maxHeartbeats 4000000 in
theorem s_HS_terms (x1 : Int) (x2 : Int) (i_latestStatus : Int) (i_hill_changes : Int) (i_refusals : Nat → Int) (i_hill_terms : Nat → Int) (b_x1 : (-2147483648) ≤ x1 ∧ x1 ≤ 2147483647) (b_x2 : (-2147483648) ≤ x2 ∧ x2 ≤ 2147483647) (b_i_latestStatus : (-6) ≤ i_latestStatus ∧ i_latestStatus ≤ 0) (h_i_hill_terms : zR i_hill_terms 0 99) : zok (f_HS_terms x1 x2 i_latestStatus i_hill_changes i_refusals i_hill_terms) (fun o => ((-6) ≤ o.2.1 ∧ o.2.1 ≤ 0) ∧ zR o.2.2.2.2 0 99) := by
  unfold f_HS_terms
  refine zk_ifc (zci_ltr (by omega)) (fun hc => ?_) (fun hc => ?_)
  · unfold f_HS_terms_30
    refine zk_d3 (s_HS_refuse _ _ _ (by omega) (by omega)) (fun v1 v2 a3 hp => ?_)
    try dsimp only at hp
    obtain ⟨hpp0, hpp1, hpp2, hpp3⟩ := hp
    refine zk_ret ?_
    try dsimp only
    exact ⟨by omega, h_i_hill_terms⟩
  · refine zk_ifc (zci_le (by omega) (by omega)) (fun hc_2 => ?_) (fun hc_2 => ?_)
    · unfold f_HS_terms_30
      refine zk_d3 (s_HS_refuse _ _ _ (by omega) (by omega)) (fun v1_2 v2_2 a3_2 hp_2 => ?_)
      try dsimp only at hp_2
      obtain ⟨hp_2p0, hp_2p1, hp_2p2, hp_2p3⟩ := hp_2
      refine zk_ret ?_
      try dsimp only
      exact ⟨by omega, h_i_hill_terms⟩
    · refine zk_gv (by omega) (by decide) (fun v1_3 h_v1_3 => ?_)
      have r_v1_3 := zk_r 0 (x1.toNat)
      refine zk_ifc (zci_lt (by omega) (by omega)) (fun hc_3 => ?_) (fun hc_3 => ?_)
      · unfold f_HS_terms_30
        refine zk_d3 (s_HS_refuse _ _ _ (by omega) (by omega)) (fun v1_4 v2_3 a3_3 hp_3 => ?_)
        try dsimp only at hp_3
        obtain ⟨hp_3p0, hp_3p1, hp_3p2, hp_3p3⟩ := hp_3
        refine zk_ret ?_
        try dsimp only
        exact ⟨by omega, h_i_hill_terms⟩
      · refine zk_gv (by omega) (by decide) (fun v2_4 h_v2_4 => ?_)
        have r_v2_4 := zk_r 1 (x1.toNat)
        refine zk_ifc (zci_le (by omega) (by omega)) (fun hc_4 => ?_) (fun hc_4 => ?_)
        · refine zk_gv (by omega) (by decide) (fun v3 h_v3 => ?_)
          have r_v3 := h_i_hill_terms (x1.toNat)
          refine zk_sv (by omega) (by decide) (fun a4 h_a4 => ?_)
          have i_a4 : zR a4 0 99 := by rw [h_a4]; exact zR_zu h_i_hill_terms (by decide) (by decide) (by omega)
          refine zk_d3 (s_HS_accept _ _ _ (by omega)) (fun v5 v6 v7 hp_4 => ?_)
          try dsimp only at hp_4
          obtain ⟨hp_4p0, hp_4p1, hp_4p2, hp_4p3⟩ := hp_4
          refine zk_ret ?_
          try dsimp only
          exact ⟨by omega, i_a4⟩
        · unfold f_HS_terms_30
          refine zk_d3 (s_HS_refuse _ _ _ (by omega) (by omega)) (fun v1_5 v2_5 a3_4 hp_5 => ?_)
          try dsimp only at hp_5
          obtain ⟨hp_5p0, hp_5p1, hp_5p2, hp_5p3⟩ := hp_5
          refine zk_ret ?_
          try dsimp only
          exact ⟨by omega, h_i_hill_terms⟩
set_option maxHeartbeats 4000000 in
theorem s_HS_feedFour_3   : ∀ (n : Nat) (x1 : Int) (x2 : Int) (i_taped : Int) (i_tape : Nat → Int), ((-2147483648) ≤ x1 ∧ x1 ≤ 2147483647) → ((-8) ≤ x2 ∧ x2 ≤ 24) → (0 ≤ i_taped ∧ i_taped ≤ 400) → (zR i_tape 0 255) → (x2 % 8 = 0) → (8 * i_taped + x2 ≤ 3192) → (x2 - (-9)) < (n : Int) → zok (f_HS_feedFour_3  n x1 x2 i_taped i_tape) (fun o => (0 ≤ o.1 ∧ o.1 ≤ 400) ∧ zR o.2 0 255 ∧ (8 * o.1 - 8 = 8 * i_taped + x2)) := by
  intro n
  induction n with
  | zero => intro x1 x2 i_taped i_tape b_x1 b_x2 b_i_taped h_i_tape p_0 p_1 hm; exfalso; omega
  | succ n ih =>
    intro x1 x2 i_taped i_tape b_x1 b_x2 b_i_taped h_i_tape p_0 p_1 hm
    show zok (f_HS_feedFour_3_b  (f_HS_feedFour_3  n) x1 x2 i_taped i_tape) _
    unfold f_HS_feedFour_3_b
    refine zk_ifc (zci_ltr (by omega)) (fun hc => ?_) (fun hc => ?_)
    · refine zk_ret ?_
      try dsimp only
      exact ⟨by omega, h_i_tape, by omega⟩
    · refine zk_ifc (zci_le (by omega) (by omega)) (fun hc_2 => ?_) (fun hc_2 => ?_)
      · refine zk_ret ?_
        try dsimp only
        exact ⟨by omega, h_i_tape, by omega⟩
      · refine zk_nE (fun v1 h_v1 => ?_)
        have r_v1 := zi_ushr_f x1 x2; rw [← h_v1] at r_v1
        refine zk_nE (fun v2 h_v2 => ?_)
        have r_v2 := zi_and_m v1 (m := 255) (by decide); rw [← h_v2] at r_v2
        refine zk_sv (by omega) (by decide) (fun a3 h_a3 => ?_)
        have i_a3 : zR a3 0 255 := by rw [h_a3]; exact zR_zu h_i_tape (by decide) (by decide) (by omega)
        refine zk_n ?_
        refine zk_n ?_
        refine zok_mono (ih _ _ _ _ (by omega) (by omega) (by omega) i_a3 (by omega) (by omega) (by omega)) (fun o ho => ?_)
        try dsimp only at ho
        obtain ⟨ho_0, ho_1, ho_2⟩ := ho
        exact ⟨by omega, ho_1, by omega⟩
set_option maxHeartbeats 4000000 in
theorem s_HS_feedFour (x1 : Int) (i_taped : Int) (i_tape : Nat → Int) (b_x1 : (-2147483648) ≤ x1 ∧ x1 ≤ 2147483647) (b_i_taped : 0 ≤ i_taped ∧ i_taped ≤ 400) (h_i_tape : zR i_tape 0 255) (p_0 : i_taped ≤ 396) : zok (f_HS_feedFour x1 i_taped i_tape) (fun o => (0 ≤ o.1 ∧ o.1 ≤ 400) ∧ zR o.2 0 255 ∧ (o.1 = i_taped + 4)) := by
  unfold f_HS_feedFour
  refine zok_mono (s_HS_feedFour_3 zfu _ _ _ _ (by omega) (by omega) (by omega) h_i_tape (by omega) (by omega) (by unfold zfu; omega)) (fun o ho => ?_)
  try dsimp only at ho
  obtain ⟨ho_0, ho_1, ho_2⟩ := ho
  exact ⟨by omega, ho_1, by omega⟩
set_option maxHeartbeats 4000000 in
theorem s_HS_feed (x1 : Int) (x2 : Int) (x3 : Int) (x4 : Int) (x5 : Int) (i_taped : Int) (i_tape : Nat → Int) (b_x1 : (-2147483648) ≤ x1 ∧ x1 ≤ 2147483647) (b_x2 : (-2147483648) ≤ x2 ∧ x2 ≤ 2147483647) (b_x3 : (-2147483648) ≤ x3 ∧ x3 ≤ 2147483647) (b_x4 : (-2147483648) ≤ x4 ∧ x4 ≤ 2147483647) (b_x5 : (-2147483648) ≤ x5 ∧ x5 ≤ 2147483647) (b_i_taped : 0 ≤ i_taped ∧ i_taped ≤ 400) (h_i_tape : zR i_tape 0 255) : zok (f_HS_feed x1 x2 x3 x4 x5 i_taped i_tape) (fun o => ((-1) ≤ o.1 ∧ o.1 ≤ 400) ∧ (0 ≤ o.2.1 ∧ o.2.1 ≤ 400) ∧ zR o.2.2 0 255) := by
  unfold f_HS_feed
  refine zk_n ?_
  refine zk_ifc (zci_le (by omega) (by omega)) (fun hc => ?_) (fun hc => ?_)
  · refine zk_d2 (s_HS_feedFour _ _ _ (by omega) (by omega) h_i_tape (by omega)) (fun v2 a3 hp => ?_)
    try dsimp only at hp
    obtain ⟨hpp0, hpp1, hpp2⟩ := hp
    refine zk_d2 (s_HS_feedFour _ _ _ (by omega) (by omega) hpp1 (by omega)) (fun v4 a5 hp_2 => ?_)
    try dsimp only at hp_2
    obtain ⟨hp_2p0, hp_2p1, hp_2p2⟩ := hp_2
    refine zk_d2 (s_HS_feedFour _ _ _ (by omega) (by omega) hp_2p1 (by omega)) (fun v6 a7 hp_3 => ?_)
    try dsimp only at hp_3
    obtain ⟨hp_3p0, hp_3p1, hp_3p2⟩ := hp_3
    refine zk_d2 (s_HS_feedFour _ _ _ (by omega) (by omega) hp_3p1 (by omega)) (fun v8 a9 hp_4 => ?_)
    try dsimp only at hp_4
    obtain ⟨hp_4p0, hp_4p1, hp_4p2⟩ := hp_4
    refine zk_d2 (s_HS_feedFour _ _ _ (by omega) (by omega) hp_4p1 (by omega)) (fun v10 a11 hp_5 => ?_)
    try dsimp only at hp_5
    obtain ⟨hp_5p0, hp_5p1, hp_5p2⟩ := hp_5
    refine zk_ret ?_
    try dsimp only
    exact ⟨by omega, by omega, hp_5p1⟩
  · refine zk_ret ?_
    try dsimp only
    exact ⟨by omega, by omega, h_i_tape⟩
set_option maxHeartbeats 4000000 in
theorem s_HS_end (x1 : Int) (i_taped : Int) (b_x1 : (-2147483648) ≤ x1 ∧ x1 ≤ 2147483647) (b_i_taped : 0 ≤ i_taped ∧ i_taped ≤ 400) : zok (f_HS_end x1 i_taped) (fun o => ((-1) ≤ o.1 ∧ o.1 ≤ 400) ∧ (0 ≤ o.2 ∧ o.2 ≤ 400)) := by
  unfold f_HS_end
  refine zk_ifc (zci_ltr (by omega)) (fun hc => ?_) (fun hc => ?_)
  · refine zk_ret ?_
    try dsimp only
    exact ⟨by omega, by omega⟩
  · refine zk_ifc (zci_le (by omega) (by omega)) (fun hc_2 => ?_) (fun hc_2 => ?_)
    · refine zk_ret ?_
      try dsimp only
      exact ⟨by omega, by omega⟩
    · refine zk_ret ?_
      try dsimp only
      exact ⟨by omega, by omega⟩
set_option maxHeartbeats 4000000 in
theorem s_HS_row_44 (i_tape : Nat → Int) (i_hill_columns_many : Int) (h_i_tape : zR i_tape 0 255) (b_i_hill_columns_many : 1 ≤ i_hill_columns_many ∧ i_hill_columns_many ≤ 12) : ∀ (n : Nat) (x1 : Int) (x2 : Int) (x3 : Int) (i_taped : Int) (i_latestGravel : Int) (i_latestStatus : Int) (i_hill_changes : Int) (i_refusals : Nat → Int) (i_hill_columns_heights : Nat → Int) (i_hill_columns_weights : Nat → Int), (1 ≤ x1 ∧ x1 ≤ 400) → (1 ≤ x3 ∧ x3 ≤ 400) → (0 ≤ i_taped ∧ i_taped ≤ 0) → ((-6) ≤ i_latestStatus ∧ i_latestStatus ≤ 0) → (zR i_hill_columns_heights 0 10) → (zR i_hill_columns_weights 0 30) → (401 - x3) < (n : Int) → zok (f_HS_row_44 i_tape i_hill_columns_many n x1 x2 x3 i_taped i_latestGravel i_latestStatus i_hill_changes i_refusals i_hill_columns_heights i_hill_columns_weights) (fun o => (0 ≤ o.2.1 ∧ o.2.1 ≤ 0) ∧ ((-6) ≤ o.2.2.2.1 ∧ o.2.2.2.1 ≤ 0) ∧ zR o.2.2.2.2.2.2.1 0 10 ∧ zR o.2.2.2.2.2.2.2 0 30 ∧ (i_hill_changes ≤ o.2.2.2.2.1 ∧ o.2.2.2.2.1 ≤ i_hill_changes + 1) ∧ (o.2.1 = i_taped)) := by
  intro n
  induction n with
  | zero => intro x1 x2 x3 i_taped i_latestGravel i_latestStatus i_hill_changes i_refusals i_hill_columns_heights i_hill_columns_weights b_x1 b_x3 b_i_taped b_i_latestStatus h_i_hill_columns_heights h_i_hill_columns_weights hm; exfalso; omega
  | succ n ih =>
    intro x1 x2 x3 i_taped i_latestGravel i_latestStatus i_hill_changes i_refusals i_hill_columns_heights i_hill_columns_weights b_x1 b_x3 b_i_taped b_i_latestStatus h_i_hill_columns_heights h_i_hill_columns_weights hm
    show zok (f_HS_row_44_b i_tape i_hill_columns_many (f_HS_row_44 i_tape i_hill_columns_many n) x1 x2 x3 i_taped i_latestGravel i_latestStatus i_hill_changes i_refusals i_hill_columns_heights i_hill_columns_weights) _
    unfold f_HS_row_44_b
    refine zk_ifc (zci_le (by omega) (by omega)) (fun hc => ?_) (fun hc => ?_)
    · refine zk_n ?_
      refine zk_n ?_
      refine zk_d3 (s_HS_accept _ _ _ (by omega)) (fun v3 v4 v5 hp => ?_)
      try dsimp only at hp
      obtain ⟨hpp0, hpp1, hpp2, hpp3⟩ := hp
      refine zk_ret ?_
      try dsimp only
      exact ⟨by omega, by omega, h_i_hill_columns_heights, h_i_hill_columns_weights, by omega, by omega⟩
    · refine zk_gv (by omega) (by decide) (fun v6 h_v6 => ?_)
      have r_v6 := h_i_tape (x3.toNat)
      refine zk_ifc (zci_lt (by omega) (by omega)) (fun hc_2 => ?_) (fun hc_2 => ?_)
      · unfold f_HS_row_94
        refine zk_n ?_
        refine zok_mono (ih _ _ _ _ _ _ _ _ _ _ (by omega) (by omega) (by omega) (by omega) h_i_hill_columns_heights h_i_hill_columns_weights (by omega)) (fun o ho => ?_)
        try dsimp only at ho
        obtain ⟨ho_0, ho_1, ho_2, ho_3, ho_4, ho_5⟩ := ho
        exact ⟨by omega, by omega, ho_2, ho_3, by omega, by omega⟩
      · refine zk_ifc (zci_lt (by omega) (by omega)) (fun hc_3 => ?_) (fun hc_3 => ?_)
        · unfold f_HS_row_94
          refine zk_n ?_
          refine zok_mono (ih _ _ _ _ _ _ _ _ _ _ (by omega) (by omega) (by omega) (by omega) h_i_hill_columns_heights h_i_hill_columns_weights (by omega)) (fun o ho => ?_)
          try dsimp only at ho
          obtain ⟨ho_0, ho_1, ho_2, ho_3, ho_4, ho_5⟩ := ho
          exact ⟨by omega, by omega, ho_2, ho_3, by omega, by omega⟩
        · refine zk_gl 0 rfl (by decide) (by decide) (fun v7 h_v7 => ?_)
          have r_v7 := h_i_tape (0)
          refine zk_d3 (s_Columns_put _ _ _ _ _ (by omega) (by omega) (by omega) h_i_hill_columns_heights h_i_hill_columns_weights) (fun v8 a9 a10 hp_2 => ?_)
          try dsimp only at hp_2
          obtain ⟨hp_2p0, hp_2p1, hp_2p2, hp_2p3⟩ := hp_2
          refine zk_ifc (zci_eqr (by omega)) (fun hc_4 => ?_) (fun hc_4 => ?_)
          · unfold f_HS_row_94
            refine zk_n ?_
            refine zok_mono (ih _ _ _ _ _ _ _ _ _ _ (by omega) (by omega) (by omega) (by omega) hp_2p1 hp_2p2 (by omega)) (fun o ho => ?_)
            try dsimp only at ho
            obtain ⟨ho_0, ho_1, ho_2, ho_3, ho_4, ho_5⟩ := ho
            exact ⟨by omega, by omega, ho_2, ho_3, by omega, by omega⟩
          · refine zk_n ?_
            unfold f_HS_row_94
            refine zk_n ?_
            refine zok_mono (ih _ _ _ _ _ _ _ _ _ _ (by omega) (by omega) (by omega) (by omega) hp_2p1 hp_2p2 (by omega)) (fun o ho => ?_)
            try dsimp only at ho
            obtain ⟨ho_0, ho_1, ho_2, ho_3, ho_4, ho_5⟩ := ho
            exact ⟨by omega, by omega, ho_2, ho_3, by omega, by omega⟩
set_option maxHeartbeats 4000000 in
theorem s_HS_row (i_tape : Nat → Int) (i_hill_columns_many : Int) (i_taped : Int) (i_latestGravel : Int) (i_latestStatus : Int) (i_hill_changes : Int) (i_refusals : Nat → Int) (i_hill_columns_heights : Nat → Int) (i_hill_columns_weights : Nat → Int) (h_i_tape : zR i_tape 0 255) (b_i_hill_columns_many : 0 ≤ i_hill_columns_many ∧ i_hill_columns_many ≤ 12) (b_i_taped : 0 ≤ i_taped ∧ i_taped ≤ 400) (b_i_latestStatus : (-6) ≤ i_latestStatus ∧ i_latestStatus ≤ 0) (h_i_hill_columns_heights : zR i_hill_columns_heights 0 10) (h_i_hill_columns_weights : zR i_hill_columns_weights 0 30) : zok (f_HS_row i_tape i_hill_columns_many i_taped i_latestGravel i_latestStatus i_hill_changes i_refusals i_hill_columns_heights i_hill_columns_weights) (fun o => (0 ≤ o.2.1 ∧ o.2.1 ≤ 0) ∧ ((-6) ≤ o.2.2.2.1 ∧ o.2.2.2.1 ≤ 0) ∧ zR o.2.2.2.2.2.2.1 0 10 ∧ zR o.2.2.2.2.2.2.2 0 30 ∧ (i_hill_changes ≤ o.2.2.2.2.1 ∧ o.2.2.2.2.1 ≤ i_hill_changes + 1) ∧ (o.2.1 = 0)) := by
  unfold f_HS_row
  refine zk_ifc (zci_eqr (by omega)) (fun hc => ?_) (fun hc => ?_)
  · unfold f_HS_row_33
    refine zk_d3 (s_HS_refuse _ _ _ (by omega) (by omega)) (fun v1 v2 a3 hp => ?_)
    try dsimp only at hp
    obtain ⟨hpp0, hpp1, hpp2, hpp3⟩ := hp
    refine zk_ret ?_
    try dsimp only
    exact ⟨by omega, by omega, h_i_hill_columns_heights, h_i_hill_columns_weights, by omega, by omega⟩
  · refine zk_gl 0 rfl (by decide) (by decide) (fun v1_2 h_v1_2 => ?_)
    have r_v1_2 := h_i_tape (0)
    refine zk_d1 (s_Columns_has _ _ (by omega) (by omega)) (fun v2_2 hp_2 => ?_)
    try dsimp only at hp_2
    obtain ⟨hp_2p0, hp_2p1⟩ := hp_2
    refine zk_ifc (zci_ner (by omega)) (fun hc_2 => ?_) (fun hc_2 => ?_)
    · refine zok_mono (s_HS_row_44 _ _ h_i_tape (by omega) zfu _ _ _ _ _ _ _ _ _ _ (by omega) (by omega) (by omega) (by omega) h_i_hill_columns_heights h_i_hill_columns_weights (by unfold zfu; omega)) (fun o ho => ?_)
      try dsimp only at ho
      obtain ⟨ho_0, ho_1, ho_2, ho_3, ho_4, ho_5⟩ := ho
      exact ⟨by omega, by omega, ho_2, ho_3, by omega, by omega⟩
    · unfold f_HS_row_33
      refine zk_d3 (s_HS_refuse _ _ _ (by omega) (by omega)) (fun v1_3 v2_3 a3_2 hp_3 => ?_)
      try dsimp only at hp_3
      obtain ⟨hp_3p0, hp_3p1, hp_3p2, hp_3p3⟩ := hp_3
      refine zk_ret ?_
      try dsimp only
      exact ⟨by omega, by omega, h_i_hill_columns_heights, h_i_hill_columns_weights, by omega, by omega⟩
set_option maxHeartbeats 4000000 in
theorem s_HS_gravel (i_latestGravel : Int)  : zok (f_HS_gravel i_latestGravel) (fun o => True) := by
  unfold f_HS_gravel
  exact zk_ret trivial
set_option maxHeartbeats 4000000 in
theorem s_Hill_enact (i_a1_ordered : Int) (i_a1_orders : Nat → Int) (i_laws : Int) (i_orders : Nat → Int) (i_ordered : Nat → Int) (b_i_a1_ordered : 0 ≤ i_a1_ordered ∧ i_a1_ordered ≤ 424) (h_i_a1_orders : zR i_a1_orders (-2147483648) 2147483647) (b_i_laws : 0 ≤ i_laws ∧ i_laws ≤ 5) (h_i_orders : zR i_orders (-2147483648) 2147483647) (h_i_ordered : zR i_ordered 0 424) : zok (f_Hill_enact i_a1_ordered i_a1_orders i_laws i_orders i_ordered) (fun o => (0 ≤ o.1 ∧ o.1 ≤ 5) ∧ (1 ≤ o.2.1 ∧ o.2.1 ≤ 6) ∧ zR o.2.2.1 (-2147483648) 2147483647 ∧ zR o.2.2.2 0 424) := by
  unfold f_Hill_enact
  refine zk_ifc (zci_lt (by omega) (by omega)) (fun hc => ?_) (fun hc => ?_)
  · refine zk_n ?_
    refine zk_cp (by omega) (fun a2 h_a2 => ?_)
    have i_a2 : zR a2 (-2147483648) 2147483647 := by rw [h_a2]; exact zR_cp h_i_a1_orders h_i_orders
    refine zk_sv (by omega) (by decide) (fun a3 h_a3 => ?_)
    have i_a3 : zR a3 0 424 := by rw [h_a3]; exact zR_zu h_i_ordered (by decide) (by decide) (by omega)
    refine zk_n ?_
    refine zk_ret ?_
    try dsimp only
    exact ⟨by omega, by omega, i_a2, i_a3⟩
  · exfalso; omega
set_option maxHeartbeats 4000000 in
theorem s_LawReader_order (x1 : Int) (x2 : Int) (i_ordered : Int) (i_orders : Nat → Int) (b_x1 : 0 ≤ x1 ∧ x1 ≤ 14) (b_i_ordered : 0 ≤ i_ordered ∧ i_ordered ≤ 424) (h_i_orders : zR i_orders (-2147483648) 2147483647) : zok (f_LawReader_order x1 x2 i_ordered i_orders) (fun o => ((-1) ≤ o.1 ∧ o.1 ≤ 424) ∧ (1 ≤ o.2.1 ∧ o.2.1 ≤ 424) ∧ zR o.2.2 (-2147483648) 2147483647) := by
  unfold f_LawReader_order
  refine zk_ifc (zci_lt (by omega) (by omega)) (fun hc => ?_) (fun hc => ?_)
  · refine zk_nE (fun v1 h_v1 => ?_)
    have r_v1 := zi_shl_f x2 4; rw [← h_v1] at r_v1
    refine zk_nE (fun v2 h_v2 => ?_)
    have r_v2 := zi_or_f v1 x1; rw [← h_v2] at r_v2
    refine zk_sv (by omega) (by decide) (fun a3 h_a3 => ?_)
    have i_a3 : zR a3 (-2147483648) 2147483647 := by rw [h_a3]; exact zR_zu h_i_orders (by decide) (by decide) (by omega)
    refine zk_n ?_
    refine zk_n ?_
    refine zk_ret ?_
    try dsimp only
    exact ⟨by omega, by omega, i_a3⟩
  · refine zk_ret ?_
    try dsimp only
    exact ⟨by omega, by omega, h_i_orders⟩
