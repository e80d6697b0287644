set_option maxHeartbeats 4000000 in
theorem s_Columns_lowestSteep (x1 : Int) (i_many : Int) (i_heights : Nat → Int) (b_x1 : 0 ≤ x1 ∧ x1 ≤ 99) (b_i_many : 0 ≤ i_many ∧ i_many ≤ 12) (h_i_heights : zR i_heights 0 10) : zok (f_Columns_lowestSteep x1 i_many i_heights) (fun o => ((-1) ≤ o ∧ o ≤ 11)) := by
  unfold f_Columns_lowestSteep
  exact s_Columns_lowestSteep_2 _ _ (by omega) h_i_heights zfu _ _ (by omega) (by omega) (by unfold zfu; omega)
set_option maxHeartbeats 4000000 in
theorem s_HS_steep (i_hill_columns_many : Int) (i_hill_terms : Nat → Int) (i_hill_columns_heights : Nat → Int) (b_i_hill_columns_many : 0 ≤ i_hill_columns_many ∧ i_hill_columns_many ≤ 12) (h_i_hill_terms : zR i_hill_terms 0 99) (h_i_hill_columns_heights : zR i_hill_columns_heights 0 10) : zok (f_HS_steep i_hill_columns_many i_hill_terms i_hill_columns_heights) (fun o => ((-1) ≤ o ∧ o ≤ 11)) := by
  unfold f_HS_steep
  refine zk_gl 2 rfl (by decide) (by decide) (fun v1 h_v1 => ?_)
  have r_v1 := h_i_hill_terms (2)
  refine zk_d1 (s_Columns_lowestSteep _ _ _ (by omega) (by omega) h_i_hill_columns_heights) (fun v2 hp => ?_)
  try dsimp only at hp
  have hpp0 := hp
  exact zk_ret (by omega)
set_option maxHeartbeats 4000000 in
theorem s_Columns_settle_2 (i_many : Int) (b_i_many : 0 ≤ i_many ∧ i_many ≤ 12) : ∀ (n : Nat) (x1 : Int) (x2 : Int) (i_heights : Nat → Int) (i_weights : Nat → Int), (0 ≤ x1 ∧ x1 ≤ 99) → (0 ≤ x2 ∧ x2 ≤ 1000) → (zR i_heights 0 10) → (zR i_weights 0 30) → (1001 - x2) < (n : Int) → zok (f_Columns_settle_2 i_many n x1 x2 i_heights i_weights) (fun o => (0 ≤ o.1 ∧ o.1 ≤ 999) ∧ zR o.2.1 0 10 ∧ zR o.2.2 0 30) := by
  intro n
  induction n with
  | zero => intro x1 x2 i_heights i_weights b_x1 b_x2 h_i_heights h_i_weights hm; exfalso; omega
  | succ n ih =>
    intro x1 x2 i_heights i_weights b_x1 b_x2 h_i_heights h_i_weights hm
    show zok (f_Columns_settle_2_b i_many (f_Columns_settle_2 i_many n) x1 x2 i_heights i_weights) _
    unfold f_Columns_settle_2_b
    refine zk_ifc (zci_le (by omega) (by omega)) (fun hc => ?_) (fun hc => ?_)
    · refine zk_ret ?_
      try dsimp only
      exact ⟨by omega, h_i_heights, h_i_weights⟩
    · refine zk_d1 (s_Columns_lowestSteep _ _ _ (by omega) (by omega) h_i_heights) (fun v1 hp => ?_)
      try dsimp only at hp
      have hpp0 := hp
      refine zk_ifc (zci_ne (by omega) (by omega)) (fun hc_2 => ?_) (fun hc_2 => ?_)
      · refine zk_n ?_
        refine zk_d1 (s_Columns_isSteep _ _ _ _ _ (by omega) (by omega) (by omega) (by omega) h_i_heights) (fun v3 hp_2 => ?_)
        try dsimp only at hp_2
        have hp_2p0 := hp_2
        refine zk_ifc (zci_eqr (by omega)) (fun hc_3 => ?_) (fun hc_3 => ?_)
        · refine zk_n ?_
          unfold f_Columns_settle_45
          refine zk_d2 (s_Columns_move _ _ _ _ _ (by omega) (by omega) (by omega) h_i_heights h_i_weights) (fun a1 a2 hp_3 => ?_)
          try dsimp only at hp_3
          obtain ⟨hp_3p0, hp_3p1⟩ := hp_3
          refine zk_n ?_
          exact ih _ _ _ _ (by omega) (by omega) hp_3p0 hp_3p1 (by omega)
        · refine zk_n ?_
          unfold f_Columns_settle_45
          refine zk_d2 (s_Columns_move _ _ _ _ _ (by omega) (by omega) (by omega) h_i_heights h_i_weights) (fun a1_2 a2_2 hp_4 => ?_)
          try dsimp only at hp_4
          obtain ⟨hp_4p0, hp_4p1⟩ := hp_4
          refine zk_n ?_
          exact ih _ _ _ _ (by omega) (by omega) hp_4p0 hp_4p1 (by omega)
      · refine zk_ret ?_
        try dsimp only
        exact ⟨by omega, h_i_heights, h_i_weights⟩
set_option maxHeartbeats 4000000 in
theorem s_Columns_settle (x1 : Int) (i_many : Int) (i_heights : Nat → Int) (i_weights : Nat → Int) (b_x1 : 0 ≤ x1 ∧ x1 ≤ 99) (b_i_many : 0 ≤ i_many ∧ i_many ≤ 12) (h_i_heights : zR i_heights 0 10) (h_i_weights : zR i_weights 0 30) : zok (f_Columns_settle x1 i_many i_heights i_weights) (fun o => (0 ≤ o.1 ∧ o.1 ≤ 999) ∧ zR o.2.1 0 10 ∧ zR o.2.2 0 30) := by
  unfold f_Columns_settle
  exact s_Columns_settle_2 _ (by omega) zfu _ _ _ _ (by omega) (by omega) h_i_heights h_i_weights (by unfold zfu; omega)
set_option maxHeartbeats 4000000 in
theorem s_HS_slide (i_hill_columns_many : Int) (i_hill_terms : Nat → Int) (i_hill_changes : Int) (i_hill_columns_heights : Nat → Int) (i_hill_columns_weights : Nat → Int) (b_i_hill_columns_many : 0 ≤ i_hill_columns_many ∧ i_hill_columns_many ≤ 12) (h_i_hill_terms : zR i_hill_terms 0 99) (h_i_hill_columns_heights : zR i_hill_columns_heights 0 10) (h_i_hill_columns_weights : zR i_hill_columns_weights 0 30) : zok (f_HS_slide i_hill_columns_many i_hill_terms i_hill_changes i_hill_columns_heights i_hill_columns_weights) (fun o => (0 ≤ o.1 ∧ o.1 ≤ 999) ∧ zR o.2.2.1 0 10 ∧ zR o.2.2.2 0 30) := by
  unfold f_HS_slide
  refine zk_n ?_
  refine zk_gl 2 rfl (by decide) (by decide) (fun v2 h_v2 => ?_)
  have r_v2 := h_i_hill_terms (2)
  refine zk_d3 (s_Columns_settle _ _ _ _ (by omega) (by omega) h_i_hill_columns_heights h_i_hill_columns_weights) (fun v3 a4 a5 hp => ?_)
  try dsimp only at hp
  obtain ⟨hpp0, hpp1, hpp2⟩ := hp
  refine zk_ret ?_
  try dsimp only
  exact ⟨by omega, hpp1, hpp2⟩
set_option maxHeartbeats 4000000 in
theorem s_Hill_hasParish (x1 : Int) (i_parishes : Int) (b_x1 : (-2147483648) ≤ x1 ∧ x1 ≤ 2147483647) (b_i_parishes : 0 ≤ i_parishes ∧ i_parishes ≤ 6) : zok (f_Hill_hasParish x1 i_parishes) (fun o => (0 ≤ o ∧ o ≤ 1) ∧ ((x1 < 0 ∧ o = 0) ∨ (x1 ≥ 0 ∧ i_parishes ≤ x1 ∧ o = 0) ∨ (x1 ≥ 0 ∧ i_parishes > x1 ∧ o = 1))) := by
  unfold f_Hill_hasParish
  refine zk_ifc (zci_ltr (by omega)) (fun hc => ?_) (fun hc => ?_)
  · exact zk_ret ⟨by omega, by first | exact Or.inl (by omega) | exact Or.inr (Or.inl (by omega)) | exact Or.inr (Or.inr ((by omega)))⟩
  · refine zk_ifc (zci_le (by omega) (by omega)) (fun hc_2 => ?_) (fun hc_2 => ?_)
    · exact zk_ret ⟨by omega, by first | exact Or.inl (by omega) | exact Or.inr (Or.inl (by omega)) | exact Or.inr (Or.inr ((by omega)))⟩
    · exact zk_ret ⟨by omega, by first | exact Or.inl (by omega) | exact Or.inr (Or.inl (by omega)) | exact Or.inr (Or.inr ((by omega)))⟩
set_option maxHeartbeats 4000000 in
theorem s_Columns_shadeAt_5 (i_many : Int) (i_heights : Nat → Int) (b_i_many : 0 ≤ i_many ∧ i_many ≤ 12) (h_i_heights : zR i_heights 0 10) : ∀ (n : Nat) (x1 : Int) (x2 : Int) (x3 : Int) (x4 : Int), (0 ≤ x1 ∧ x1 ≤ 11) → (0 ≤ x2 ∧ x2 ≤ 99) → (0 ≤ x3 ∧ x3 ≤ 10) → (0 ≤ x4 ∧ x4 ≤ 12) → (13 - x4) < (n : Int) → zok (f_Columns_shadeAt_5 i_many i_heights n x1 x2 x3 x4) (fun o => (0 ≤ o ∧ o ≤ 10)) := by
  intro n
  induction n with
  | zero => intro x1 x2 x3 x4 b_x1 b_x2 b_x3 b_x4 hm; exfalso; omega
  | succ n ih =>
    intro x1 x2 x3 x4 b_x1 b_x2 b_x3 b_x4 hm
    show zok (f_Columns_shadeAt_5_b i_many i_heights (f_Columns_shadeAt_5 i_many i_heights n) x1 x2 x3 x4) _
    unfold f_Columns_shadeAt_5_b
    refine zk_ifc (zci_le (by omega) (by omega)) (fun hc => ?_) (fun hc => ?_)
    · exact zk_ret (by omega)
    · refine zk_gv (by omega) (by decide) (fun v1 h_v1 => ?_)
      have r_v1 := h_i_heights (x4.toNat)
      refine zk_n ?_
      refine zk_nE (fun v3 h_v3 => ?_)
      have r_v3 := zi_abs_f ((x4 - x1)) (by omega); rw [← h_v3] at r_v3
      refine zk_nE (fun v4 h_v4 => ?_)
      have r_v4 := zmulb (a := x2) (b := v3) 99 11 (by omega) (by omega); rw [← h_v4] at r_v4
      refine zk_n ?_
      refine zk_nE (fun v6 h_v6 => ?_)
      have r_v6 := zi_max_f (x3) (by omega) ((v1 - v4)) (by omega); rw [← h_v6] at r_v6
      refine zk_n ?_
      exact ih _ _ _ _ (by omega) (by omega) (by omega) (by omega) (by omega)
set_option maxHeartbeats 4000000 in
theorem s_Columns_shadeAt (x1 : Int) (x2 : Int) (i_many : Int) (i_heights : Nat → Int) (b_x1 : 0 ≤ x1 ∧ x1 ≤ 11) (b_x2 : 0 ≤ x2 ∧ x2 ≤ 99) (b_i_many : 0 ≤ i_many ∧ i_many ≤ 12) (h_i_heights : zR i_heights 0 10) : zok (f_Columns_shadeAt x1 x2 i_many i_heights) (fun o => (0 ≤ o ∧ o ≤ 10)) := by
  unfold f_Columns_shadeAt
  exact s_Columns_shadeAt_5 _ _ (by omega) h_i_heights zfu _ _ _ _ (by omega) (by omega) (by omega) (by omega) (by unfold zfu; omega)
set_option maxHeartbeats 4000000 in
theorem s_Hill_shadeOf (x2 : Int) (i_parishes : Int) (i_a1_many : Int) (i_places : Nat → Int) (i_terms : Nat → Int) (i_a1_heights : Nat → Int) (b_x2 : 0 ≤ x2 ∧ x2 ≤ 5) (b_i_parishes : 1 ≤ i_parishes ∧ i_parishes ≤ 6) (b_i_a1_many : 0 ≤ i_a1_many ∧ i_a1_many ≤ 12) (h_i_places : zR i_places 0 11) (h_i_terms : zR i_terms 0 99) (h_i_a1_heights : zR i_a1_heights 0 10) : zok (f_Hill_shadeOf x2 i_parishes i_a1_many i_places i_terms i_a1_heights) (fun o => (0 ≤ o ∧ o ≤ 10)) := by
  unfold f_Hill_shadeOf
  refine zk_d1 (s_Hill_hasParish _ _ (by omega) (by omega)) (fun v1 hp => ?_)
  try dsimp only at hp
  obtain ⟨hpp0, hpp1⟩ := hp
  refine zk_ifc (zci_eqr (by omega)) (fun hc => ?_) (fun hc => ?_)
  · exact zk_ret (by omega)
  · refine zk_gv (by omega) (by decide) (fun v2 h_v2 => ?_)
    have r_v2 := h_i_places (x2.toNat)
    refine zk_gl 1 rfl (by decide) (by decide) (fun v3 h_v3 => ?_)
    have r_v3 := h_i_terms (1)
    refine zk_d1 (s_Columns_shadeAt _ _ _ _ (by omega) (by omega) (by omega) h_i_a1_heights) (fun v4 hp_2 => ?_)
    try dsimp only at hp_2
    have hp_2p0 := hp_2
    exact zk_ret (by omega)
set_option maxHeartbeats 4000000 in
theorem s_Hill_shades_4 (i_parishes : Int) (i_a1_many : Int) (i_places : Nat → Int) (i_terms : Nat → Int) (i_a1_heights : Nat → Int) (b_i_parishes : 0 ≤ i_parishes ∧ i_parishes ≤ 6) (b_i_a1_many : 0 ≤ i_a1_many ∧ i_a1_many ≤ 12) (h_i_places : zR i_places 0 11) (h_i_terms : zR i_terms 0 99) (h_i_a1_heights : zR i_a1_heights 0 10) : ∀ (n : Nat) (x2 : Int) (x3 : Int), (0 ≤ x3 ∧ x3 ≤ 6) → (7 - x3) < (n : Int) → zok (f_Hill_shades_4 i_parishes i_a1_many i_places i_terms i_a1_heights n x2 x3) (fun o => True) := by
  intro n
  induction n with
  | zero => intro x2 x3 b_x3 hm; exfalso; omega
  | succ n ih =>
    intro x2 x3 b_x3 hm
    show zok (f_Hill_shades_4_b i_parishes i_a1_many i_places i_terms i_a1_heights (f_Hill_shades_4 i_parishes i_a1_many i_places i_terms i_a1_heights n) x2 x3) _
    unfold f_Hill_shades_4_b
    refine zk_ifc (zci_le (by omega) (by omega)) (fun hc => ?_) (fun hc => ?_)
    · exact zk_ret trivial
    · refine zk_d1 (s_Hill_shadeOf _ _ _ _ _ _ (by omega) (by omega) (by omega) h_i_places h_i_terms h_i_a1_heights) (fun v1 hp => ?_)
      try dsimp only at hp
      have hpp0 := hp
      refine zk_n ?_
      refine zk_n ?_
      exact ih _ _ (by omega) (by omega)
set_option maxHeartbeats 4000000 in
theorem s_Hill_shades (i_parishes : Int) (i_a1_many : Int) (i_places : Nat → Int) (i_terms : Nat → Int) (i_a1_heights : Nat → Int) (b_i_parishes : 0 ≤ i_parishes ∧ i_parishes ≤ 6) (b_i_a1_many : 0 ≤ i_a1_many ∧ i_a1_many ≤ 12) (h_i_places : zR i_places 0 11) (h_i_terms : zR i_terms 0 99) (h_i_a1_heights : zR i_a1_heights 0 10) : zok (f_Hill_shades i_parishes i_a1_many i_places i_terms i_a1_heights) (fun o => True) := by
  unfold f_Hill_shades
  exact s_Hill_shades_4 _ _ _ _ _ (by omega) (by omega) h_i_places h_i_terms h_i_a1_heights zfu _ _ (by omega) (by unfold zfu; omega)
set_option maxHeartbeats 4000000 in
theorem s_HS_shade (x1 : Int) (i_hill_parishes : Int) (i_hill_columns_many : Int) (i_hill_places : Nat → Int) (i_hill_terms : Nat → Int) (i_hill_columns_heights : Nat → Int) (b_x1 : (-2147483648) ≤ x1 ∧ x1 ≤ 2147483647) (b_i_hill_parishes : 0 ≤ i_hill_parishes ∧ i_hill_parishes ≤ 6) (b_i_hill_columns_many : 0 ≤ i_hill_columns_many ∧ i_hill_columns_many ≤ 12) (h_i_hill_places : zR i_hill_places 0 11) (h_i_hill_terms : zR i_hill_terms 0 99) (h_i_hill_columns_heights : zR i_hill_columns_heights 0 10) : zok (f_HS_shade x1 i_hill_parishes i_hill_columns_many i_hill_places i_hill_terms i_hill_columns_heights) (fun o => True) := by
  unfold f_HS_shade
  refine zk_ifc (zci_ne (by omega) (by omega)) (fun hc => ?_) (fun hc => ?_)
  · refine zk_d1 (s_Hill_hasParish _ _ (by omega) (by omega)) (fun v1 hp => ?_)
    try dsimp only at hp
    obtain ⟨hpp0, hpp1⟩ := hp
    refine zk_ifc (zci_eqr (by omega)) (fun hc_2 => ?_) (fun hc_2 => ?_)
    · exact zk_ret trivial
    · refine zk_d1 (s_Hill_shadeOf _ _ _ _ _ _ (by omega) (by omega) (by omega) h_i_hill_places h_i_hill_terms h_i_hill_columns_heights) (fun v2 hp_2 => ?_)
      try dsimp only at hp_2
      have hp_2p0 := hp_2
      exact zk_ret trivial
  · refine zk_d1 (s_Hill_shades _ _ _ _ _ (by omega) (by omega) h_i_hill_places h_i_hill_terms h_i_hill_columns_heights) (fun v3 hp_3 => ?_)
    exact zk_ret trivial
set_option maxHeartbeats 4000000 in
theorem s_HS_gains (x1 : Int) (x2 : Int) (x3 : Int) (x4 : Int) (i_hill_children : Int) (i_hill_parishes : Int) (i_hill_laws : Int) (i_hill_inForce : Int) (i_hill_columns_many : Int) (i_hill_strengths : Nat → Int) (i_hill_expelled : Nat → Int) (i_hill_places : Nat → Int) (i_hill_terms : Nat → Int) (i_hill_orders : Nat → Int) (i_hill_ordered : Nat → Int) (i_judge_piled : Int) (i_judge_tiring : Int) (i_judge_barred : Int) (i_judge_words : Nat → Int) (i_judge_pile : Nat → Int) (i_hill_columns_heights : Nat → Int) (i_hill_columns_weights : Nat → Int) (b_x1 : (-2147483648) ≤ x1 ∧ x1 ≤ 2147483647) (b_x2 : (-2147483648) ≤ x2 ∧ x2 ≤ 2147483647) (b_x3 : (-2147483648) ≤ x3 ∧ x3 ≤ 2147483647) (b_x4 : (-2147483648) ≤ x4 ∧ x4 ≤ 2147483647) (b_i_hill_children : 0 ≤ i_hill_children ∧ i_hill_children ≤ 6) (b_i_hill_parishes : 0 ≤ i_hill_parishes ∧ i_hill_parishes ≤ 6) (b_i_hill_laws : 0 ≤ i_hill_laws ∧ i_hill_laws ≤ 6) (b_i_hill_inForce : (-1) ≤ i_hill_inForce ∧ i_hill_inForce ≤ 5) (b_i_hill_columns_many : 0 ≤ i_hill_columns_many ∧ i_hill_columns_many ≤ 12) (h_i_hill_strengths : zR i_hill_strengths 0 60) (h_i_hill_expelled : zR i_hill_expelled 0 1) (h_i_hill_places : zR i_hill_places 0 11) (h_i_hill_terms : zR i_hill_terms 0 99) (h_i_hill_orders : zR i_hill_orders (-2147483648) 2147483647) (h_i_hill_ordered : zR i_hill_ordered 0 424) (b_i_judge_piled : 0 ≤ i_judge_piled ∧ i_judge_piled ≤ 32) (b_i_judge_tiring : 0 ≤ i_judge_tiring ∧ i_judge_tiring ≤ 2147483647) (b_i_judge_barred : 0 ≤ i_judge_barred ∧ i_judge_barred ≤ 1) (h_i_judge_words : zR i_judge_words 0 99) (h_i_hill_columns_heights : zR i_hill_columns_heights 0 10) (h_i_hill_columns_weights : zR i_hill_columns_weights 0 30) : zok (f_HS_gains x1 x2 x3 x4 i_hill_children i_hill_parishes i_hill_laws i_hill_inForce i_hill_columns_many i_hill_strengths i_hill_expelled i_hill_places i_hill_terms i_hill_orders i_hill_ordered i_judge_piled i_judge_tiring i_judge_barred i_judge_words i_judge_pile i_hill_columns_heights i_hill_columns_weights) (fun o => ((-1000) ≤ o.1 ∧ o.1 ≤ 10) ∧ (0 ≤ o.2.1 ∧ o.2.1 ≤ 32) ∧ (0 ≤ o.2.2.1 ∧ o.2.2.1 ≤ 2147483647) ∧ (0 ≤ o.2.2.2.1 ∧ o.2.2.2.1 ≤ 1) ∧ zR o.2.2.2.2.1 0 99 ∧ zR o.2.2.2.2.2.2.1 0 10 ∧ zR o.2.2.2.2.2.2.2 0 30) := by
  unfold f_HS_gains
  refine zk_d1 (s_Hill_hasParish _ _ (by omega) (by omega)) (fun v1 hp => ?_)
  try dsimp only at hp
  obtain ⟨hpp0, hpp1⟩ := hp
  refine zk_ifc (zci_eqr (by omega)) (fun hc => ?_) (fun hc => ?_)
  · refine zk_ret ?_
    try dsimp only
    exact ⟨by omega, by omega, by omega, by omega, h_i_judge_words, h_i_hill_columns_heights, h_i_hill_columns_weights⟩
  · refine zk_d1 (s_HS_knows _ _ _ _ _ (by omega) (by omega) (by omega) (by omega) (by omega)) (fun v2 hp_2 => ?_)
    try dsimp only at hp_2
    obtain ⟨hp_2p0, hp_2p1⟩ := hp_2
    refine zk_ifc (zci_eqr (by omega)) (fun hc_2 => ?_) (fun hc_2 => ?_)
    · refine zk_ret ?_
      try dsimp only
      exact ⟨by omega, by omega, by omega, by omega, h_i_judge_words, h_i_hill_columns_heights, h_i_hill_columns_weights⟩
    · refine zk_d6 (s_Judge_effortOn _ _ _ _ _ _ _ _ _ _ _ _ _ _ _ _ _ _ _ (by omega) (by omega) (by omega) (by omega) (by omega) (by omega) (by omega) h_i_hill_columns_heights h_i_hill_columns_weights h_i_hill_strengths h_i_hill_expelled h_i_hill_terms h_i_hill_orders h_i_hill_ordered (by omega) (by omega) (by omega) h_i_judge_words) (fun v3 v4 v5 v6 a7 a8 hp_3 => ?_)
      try dsimp only at hp_3
      obtain ⟨hp_3p0, hp_3p1, hp_3p2, hp_3p3, hp_3p4⟩ := hp_3
      refine zk_ifc (zci_ne (by omega) (by omega)) (fun hc_3 => ?_) (fun hc_3 => ?_)
      · refine zk_d1 (s_Hill_shadeOf _ _ _ _ _ _ (by omega) (by omega) (by omega) h_i_hill_places h_i_hill_terms h_i_hill_columns_heights) (fun v9 hp_4 => ?_)
        try dsimp only at hp_4
        have hp_4p0 := hp_4
        refine zk_d2 (s_Columns_move _ _ _ _ _ (by omega) (by omega) (by omega) h_i_hill_columns_heights h_i_hill_columns_weights) (fun a10 a11 hp_5 => ?_)
        try dsimp only at hp_5
        obtain ⟨hp_5p0, hp_5p1⟩ := hp_5
        refine zk_d1 (s_Hill_shadeOf _ _ _ _ _ _ (by omega) (by omega) (by omega) h_i_hill_places h_i_hill_terms hp_5p0) (fun v12 hp_6 => ?_)
        try dsimp only at hp_6
        have hp_6p0 := hp_6
        refine zk_d2 (s_Columns_move _ _ _ _ _ (by omega) (by omega) (by omega) hp_5p0 hp_5p1) (fun a13 a14 hp_7 => ?_)
        try dsimp only at hp_7
        obtain ⟨hp_7p0, hp_7p1⟩ := hp_7
        refine zk_n ?_
        refine zk_ret ?_
        try dsimp only
        exact ⟨by omega, by omega, by omega, by omega, hp_3p4, hp_7p0, hp_7p1⟩
      · refine zk_ret ?_
        try dsimp only
        exact ⟨by omega, by omega, by omega, by omega, hp_3p4, h_i_hill_columns_heights, h_i_hill_columns_weights⟩
set_option maxHeartbeats 4000000 in
theorem s_HS_goal (x1 : Int) (x2 : Int) (i_hill_columns_many : Int) (i_latestStatus : Int) (i_hill_changes : Int) (i_refusals : Nat → Int) (i_hill_goals : Nat → Int) (b_x1 : (-2147483648) ≤ x1 ∧ x1 ≤ 2147483647) (b_x2 : (-2147483648) ≤ x2 ∧ x2 ≤ 2147483647) (b_i_hill_columns_many : 0 ≤ i_hill_columns_many ∧ i_hill_columns_many ≤ 12) (b_i_latestStatus : (-6) ≤ i_latestStatus ∧ i_latestStatus ≤ 0) (h_i_hill_goals : zR i_hill_goals (-1) 10) : zok (f_HS_goal x1 x2 i_hill_columns_many i_latestStatus i_hill_changes i_refusals i_hill_goals) (fun o => ((-6) ≤ o.2.1 ∧ o.2.1 ≤ 0) ∧ zR o.2.2.2.2 (-1) 10) := by
  unfold f_HS_goal
  refine zk_ifc (zci_lt (by omega) (by omega)) (fun hc => ?_) (fun hc => ?_)
  · unfold f_HS_goal_11
    refine zk_d3 (s_HS_refuse _ _ _ (by omega) (by omega)) (fun v1 v2 a3 hp => ?_)
    try dsimp only at hp
    obtain ⟨hpp0, hpp1, hpp2, hpp3⟩ := hp
    refine zk_ret ?_
    try dsimp only
    exact ⟨by omega, h_i_hill_goals⟩
  · refine zk_ifc (zci_le (by omega) (by omega)) (fun hc_2 => ?_) (fun hc_2 => ?_)
    · refine zk_d1 (s_Columns_has _ _ (by omega) (by omega)) (fun v1_2 hp_2 => ?_)
      try dsimp only at hp_2
      obtain ⟨hp_2p0, hp_2p1⟩ := hp_2
      refine zk_ifc (zci_ner (by omega)) (fun hc_3 => ?_) (fun hc_3 => ?_)
      · refine zk_gv (by omega) (by decide) (fun v2_2 h_v2_2 => ?_)
        have r_v2_2 := h_i_hill_goals (x1.toNat)
        refine zk_sv (by omega) (by decide) (fun a3_2 h_a3_2 => ?_)
        have i_a3_2 : zR a3_2 (-1) 10 := by rw [h_a3_2]; exact zR_zu h_i_hill_goals (by decide) (by decide) (by omega)
        refine zk_d3 (s_HS_accept _ _ _ (by omega)) (fun v4 v5 v6 hp_3 => ?_)
        try dsimp only at hp_3
        obtain ⟨hp_3p0, hp_3p1, hp_3p2, hp_3p3⟩ := hp_3
        refine zk_ret ?_
        try dsimp only
        exact ⟨by omega, i_a3_2⟩
      · refine zk_d3 (s_HS_refuse _ _ _ (by omega) (by omega)) (fun v7 v8 a9 hp_4 => ?_)
        try dsimp only at hp_4
        obtain ⟨hp_4p0, hp_4p1, hp_4p2, hp_4p3⟩ := hp_4
        refine zk_ret ?_
        try dsimp only
        exact ⟨by omega, h_i_hill_goals⟩
    · unfold f_HS_goal_11
      refine zk_d3 (s_HS_refuse _ _ _ (by omega) (by omega)) (fun v1_3 v2_3 a3_3 hp_5 => ?_)
      try dsimp only at hp_5
      obtain ⟨hp_5p0, hp_5p1, hp_5p2, hp_5p3⟩ := hp_5
      refine zk_ret ?_
      try dsimp only
      exact ⟨by omega, h_i_hill_goals⟩
set_option maxHeartbeats 4000000 in
theorem s_Planner_write_56 (i_costs : Nat → Int) (i_before : Nat → Int) (i_by : Nat → Int) (h_i_before : zR i_before (-1) 6719) (h_i_by : zR i_by 0 150) : ∀ (n : Nat) (x3 : Int) (x4 : Int) (i_a1_length : Int) (i_a1_tiring : Int) (i_a1_row : Nat → Int), ((-1) ≤ x3 ∧ x3 ≤ 6719) → ((-1000000000) ≤ x4 ∧ x4 ≤ 8190) → ((-1000000000) ≤ i_a1_length ∧ i_a1_length ≤ 8191) → ((-9223372036854775808) ≤ i_a1_tiring ∧ i_a1_tiring ≤ 9223372036854775807) → (zR i_a1_row 0 150) → (x4 - (-1000000001)) < (n : Int) → zok (f_Planner_write_56 i_costs i_before i_by n x3 x4 i_a1_length i_a1_tiring i_a1_row) (fun o => ((-1000000000) ≤ o.1 ∧ o.1 ≤ 8191) ∧ ((-9223372036854775808) ≤ o.2.1 ∧ o.2.1 ≤ 9223372036854775807) ∧ zR o.2.2 0 150) := by
  intro n
  induction n with
  | zero => intro x3 x4 i_a1_length i_a1_tiring i_a1_row b_x3 b_x4 b_i_a1_length b_i_a1_tiring h_i_a1_row hm; exfalso; omega
  | succ n ih =>
    intro x3 x4 i_a1_length i_a1_tiring i_a1_row b_x3 b_x4 b_i_a1_length b_i_a1_tiring h_i_a1_row hm
    show zok (f_Planner_write_56_b i_costs i_before i_by (f_Planner_write_56 i_costs i_before i_by n) x3 x4 i_a1_length i_a1_tiring i_a1_row) _
    unfold f_Planner_write_56_b
    refine zk_ifc (zci_ltr (by omega)) (fun hc => ?_) (fun hc => ?_)
    · refine zk_ret ?_
      try dsimp only
      exact ⟨by omega, by omega, h_i_a1_row⟩
    · refine zk_ifc (zci_le (by omega) (by omega)) (fun hc_2 => ?_) (fun hc_2 => ?_)
      · refine zk_ret ?_
        try dsimp only
        exact ⟨by omega, by omega, h_i_a1_row⟩
      · refine zk_ifc (zci_ltr (by omega)) (fun hc_3 => ?_) (fun hc_3 => ?_)
        · refine zk_ret ?_
          try dsimp only
          exact ⟨by omega, by omega, h_i_a1_row⟩
        · refine zk_gv (by omega) (by decide) (fun v1 h_v1 => ?_)
          have r_v1 := h_i_by (x3.toNat)
          refine zk_sv (by omega) (by decide) (fun a2 h_a2 => ?_)
          have i_a2 : zR a2 0 150 := by rw [h_a2]; exact zR_zu h_i_a1_row (by decide) (by decide) (by omega)
          refine zk_gv (by omega) (by decide) (fun v3 h_v3 => ?_)
          have r_v3 := h_i_before (x3.toNat)
          refine zk_n ?_
          exact ih _ _ _ _ _ (by omega) (by omega) (by omega) (by omega) i_a2 (by omega)
set_option maxHeartbeats 4000000 in
theorem s_Planner_write (x2 : Int) (i_costs : Nat → Int) (i_before : Nat → Int) (i_by : Nat → Int) (i_a1_length : Int) (i_a1_tiring : Int) (i_a1_row : Nat → Int) (b_x2 : (-1) ≤ x2 ∧ x2 ≤ 6719) (h_i_before : zR i_before (-1) 6719) (h_i_by : zR i_by 0 150) (b_i_a1_length : (-1000000000) ≤ i_a1_length ∧ i_a1_length ≤ 8191) (b_i_a1_tiring : (-9223372036854775808) ≤ i_a1_tiring ∧ i_a1_tiring ≤ 9223372036854775807) (h_i_a1_row : zR i_a1_row 0 150) : zok (f_Planner_write x2 i_costs i_before i_by i_a1_length i_a1_tiring i_a1_row) (fun o => ((-1000000000) ≤ o.1 ∧ o.1 ≤ 8191) ∧ ((-9223372036854775808) ≤ o.2.1 ∧ o.2.1 ≤ 9223372036854775807) ∧ zR o.2.2 0 150) := by
  unfold f_Planner_write
  refine zk_ifc (zci_ne (by omega) (by omega)) (fun hc => ?_) (fun hc => ?_)
  · refine zk_gv (by omega) (by decide) (fun v1 h_v1 => ?_)
    refine zk_g0zl_w (by omega) ?_
    refine zk_nE (fun v2 h_v2 => ?_)
    have r_v2 := zl_rem_g v1 (y := 8192) (by omega); rw [← h_v2] at r_v2
    refine zk_gv (by omega) (by decide) (fun v3 h_v3 => ?_)
    refine zk_g0zl_w (by omega) ?_
    refine zk_nE (fun v4 h_v4 => ?_)
    have r_v4 := zl_div_f v3 8192; rw [← h_v4] at r_v4
    refine zk_n ?_
    exact s_Planner_write_56 _ _ _ h_i_before h_i_by zfu _ _ _ _ _ (by omega) (by omega) (by omega) (by omega) h_i_a1_row (by unfold zfu; omega)
  · refine zk_ret ?_
    try dsimp only
    exact ⟨by omega, by omega, h_i_a1_row⟩
set_option maxHeartbeats 4000000 in
theorem s_Columns_stones_4 (i_many : Int) (i_heights : Nat → Int) (b_i_many : 0 ≤ i_many ∧ i_many ≤ 12) (h_i_heights : zR i_heights 0 10) : ∀ (n : Nat) (x1 : Int) (x2 : Int), (0 ≤ x2 ∧ x2 ≤ 12) → (13 - x2) < (n : Int) → zok (f_Columns_stones_4 i_many i_heights n x1 x2) (fun o => True) := by
  intro n
  induction n with
  | zero => intro x1 x2 b_x2 hm; exfalso; omega
  | succ n ih =>
    intro x1 x2 b_x2 hm
    show zok (f_Columns_stones_4_b i_many i_heights (f_Columns_stones_4 i_many i_heights n) x1 x2) _
    unfold f_Columns_stones_4_b
    refine zk_ifc (zci_le (by omega) (by omega)) (fun hc => ?_) (fun hc => ?_)
    · exact zk_ret trivial
    · refine zk_gv (by omega) (by decide) (fun v1 h_v1 => ?_)
      have r_v1 := h_i_heights (x2.toNat)
      refine zk_n ?_
      refine zk_n ?_
      exact ih _ _ (by omega) (by omega)
set_option maxHeartbeats 4000000 in
theorem s_Columns_stones (i_many : Int) (i_heights : Nat → Int) (b_i_many : 0 ≤ i_many ∧ i_many ≤ 12) (h_i_heights : zR i_heights 0 10) : zok (f_Columns_stones i_many i_heights) (fun o => True) := by
  unfold f_Columns_stones
  exact s_Columns_stones_4 _ _ (by omega) h_i_heights zfu _ _ (by omega) (by unfold zfu; omega)
set_option maxHeartbeats 4000000 in
theorem s_Planner_goalsFit_6 (i_hill_columns_many : Int) (i_hill_goals : Nat → Int) (i_hill_columns_heights : Nat → Int) (b_i_hill_columns_many : 0 ≤ i_hill_columns_many ∧ i_hill_columns_many ≤ 12) (h_i_hill_goals : zR i_hill_goals (-1) 10) (h_i_hill_columns_heights : zR i_hill_columns_heights 0 10) : ∀ (n : Nat) (x1 : Int) (x2 : Int) (x3 : Int), (0 ≤ x2 ∧ x2 ≤ 1) → (0 ≤ x3 ∧ x3 ≤ 12) → (13 - x3) < (n : Int) → zok (f_Planner_goalsFit_6 i_hill_columns_many i_hill_goals i_hill_columns_heights n x1 x2 x3) (fun o => (0 ≤ o ∧ o ≤ 1)) := by
  intro n
  induction n with
  | zero => intro x1 x2 x3 b_x2 b_x3 hm; exfalso; omega
  | succ n ih =>
    intro x1 x2 x3 b_x2 b_x3 hm
    show zok (f_Planner_goalsFit_6_b i_hill_columns_many i_hill_goals i_hill_columns_heights (f_Planner_goalsFit_6 i_hill_columns_many i_hill_goals i_hill_columns_heights n) x1 x2 x3) _
    unfold f_Planner_goalsFit_6_b
    refine zk_ifc (zci_le (by omega) (by omega)) (fun hc => ?_) (fun hc => ?_)
    · refine zk_d1 (s_Columns_stones _ _ (by omega) h_i_hill_columns_heights) (fun v1 hp => ?_)
      refine zk_if (fun hc_2 => ?_) (fun hc_2 => ?_)
      · exact zk_ret (by omega)
      · refine zk_if (fun hc_3 => ?_) (fun hc_3 => ?_)
        · exact zk_ret (by omega)
        · refine zk_ifc (zci_ner (by omega)) (fun hc_4 => ?_) (fun hc_4 => ?_)
          · exact zk_ret (by omega)
          · exact zk_ret (by omega)
    · refine zk_gv (by omega) (by decide) (fun v2 h_v2 => ?_)
      have r_v2 := h_i_hill_goals (x3.toNat)
      refine zk_nE (fun v3 h_v3 => ?_)
      have r_v3 := zi_max_f (0) (by omega) (v2) (by omega); rw [← h_v3] at r_v3
      refine zk_n ?_
      refine zk_ifc (zci_eqr (by omega)) (fun hc_5 => ?_) (fun hc_5 => ?_)
      · unfold f_Planner_goalsFit_57
        unfold f_Planner_goalsFit_58
        refine zk_n ?_
        exact ih _ _ _ (by omega) (by omega) (by omega)
      · refine zk_gv (by omega) (by decide) (fun v5 h_v5 => ?_)
        have r_v5 := h_i_hill_goals (x3.toNat)
        refine zk_ifc (zci_eq (by omega) (by omega)) (fun hc_6 => ?_) (fun hc_6 => ?_)
        · unfold f_Planner_goalsFit_57
          unfold f_Planner_goalsFit_58
          refine zk_n ?_
          exact ih _ _ _ (by omega) (by omega) (by omega)
        · unfold f_Planner_goalsFit_58
          refine zk_n ?_
          exact ih _ _ _ (by omega) (by omega) (by omega)
set_option maxHeartbeats 4000000 in
theorem s_Planner_goalsFit (i_hill_columns_many : Int) (i_hill_goals : Nat → Int) (i_hill_columns_heights : Nat → Int) (b_i_hill_columns_many : 0 ≤ i_hill_columns_many ∧ i_hill_columns_many ≤ 12) (h_i_hill_goals : zR i_hill_goals (-1) 10) (h_i_hill_columns_heights : zR i_hill_columns_heights 0 10) : zok (f_Planner_goalsFit i_hill_columns_many i_hill_goals i_hill_columns_heights) (fun o => (0 ≤ o ∧ o ≤ 1)) := by
  unfold f_Planner_goalsFit
  exact s_Planner_goalsFit_6 _ _ _ (by omega) h_i_hill_goals h_i_hill_columns_heights zfu _ _ _ (by omega) (by omega) (by unfold zfu; omega)
