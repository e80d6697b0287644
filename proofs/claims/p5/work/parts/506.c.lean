set_option maxHeartbeats 4000000 in
theorem s_Judge_hear (x1 : Int) (x2 : Int) (i_words : Nat → Int) (i_hill_orders : Nat → Int) (i_piled : Int) (i_tiring : Int) (i_barred : Int) (i_pile : Nat → Int) (b_x1 : 0 ≤ x1 ∧ x1 ≤ 2120) (b_x2 : 0 ≤ x2 ∧ x2 ≤ 424) (h_i_words : zR i_words 0 99) (h_i_hill_orders : zR i_hill_orders (-2147483648) 2147483647) (b_i_piled : 0 ≤ i_piled ∧ i_piled ≤ 32) (b_i_tiring : 0 ≤ i_tiring ∧ i_tiring ≤ 11) (b_i_barred : 0 ≤ i_barred ∧ i_barred ≤ 0) : zok (f_Judge_hear x1 x2 i_words i_hill_orders i_piled i_tiring i_barred i_pile) (fun o => (0 ≤ o.1 ∧ o.1 ≤ 32) ∧ (0 ≤ o.2.1 ∧ o.2.1 ≤ 2147483647) ∧ (0 ≤ o.2.2.1 ∧ o.2.2.1 ≤ 1)) := by
  unfold f_Judge_hear
  exact s_Judge_hear_8 _ _ h_i_words h_i_hill_orders zfu _ _ _ _ _ _ _ _ _ (by omega) (by omega) (by omega) (by omega) (by omega) (by omega) (by omega) (by omega) (by unfold zfu; omega)
set_option maxHeartbeats 4000000 in
theorem s_Judge_effort (x1 : Int) (x2 : Int) (x3 : Int) (x4 : Int) (x5 : Int) (x6 : Int) (i_hill_children : Int) (i_hill_laws : Int) (i_hill_inForce : Int) (i_hill_strengths : Nat → Int) (i_hill_expelled : Nat → Int) (i_hill_terms : Nat → Int) (i_hill_orders : Nat → Int) (i_hill_ordered : Nat → Int) (i_piled : Int) (i_tiring : Int) (i_barred : Int) (i_words : Nat → Int) (i_pile : Nat → Int) (b_x1 : 0 ≤ x1 ∧ x1 ≤ 5) (b_x2 : 0 ≤ x2 ∧ x2 ≤ 11) (b_x3 : 0 ≤ x3 ∧ x3 ≤ 11) (b_x4 : 0 ≤ x4 ∧ x4 ≤ 30) (b_x5 : 0 ≤ x5 ∧ x5 ≤ 10) (b_x6 : 0 ≤ x6 ∧ x6 ≤ 10) (b_i_hill_children : 1 ≤ i_hill_children ∧ i_hill_children ≤ 6) (b_i_hill_laws : 0 ≤ i_hill_laws ∧ i_hill_laws ≤ 6) (b_i_hill_inForce : (-1) ≤ i_hill_inForce ∧ i_hill_inForce ≤ 5) (h_i_hill_strengths : zR i_hill_strengths 0 60) (h_i_hill_expelled : zR i_hill_expelled 0 1) (h_i_hill_terms : zR i_hill_terms 0 99) (h_i_hill_orders : zR i_hill_orders (-2147483648) 2147483647) (h_i_hill_ordered : zR i_hill_ordered 0 424) (b_i_piled : 0 ≤ i_piled ∧ i_piled ≤ 32) (b_i_tiring : 0 ≤ i_tiring ∧ i_tiring ≤ 2147483647) (b_i_barred : 0 ≤ i_barred ∧ i_barred ≤ 1) (h_i_words : zR i_words 0 99) : zok (f_Judge_effort x1 x2 x3 x4 x5 x6 i_hill_children i_hill_laws i_hill_inForce i_hill_strengths i_hill_expelled i_hill_terms i_hill_orders i_hill_ordered i_piled i_tiring i_barred i_words i_pile) (fun o => ((-1) ≤ o.1 ∧ o.1 ≤ 2147483647) ∧ (0 ≤ o.2.1 ∧ o.2.1 ≤ 32) ∧ (0 ≤ o.2.2.1 ∧ o.2.2.1 ≤ 2147483647) ∧ (0 ≤ o.2.2.2.1 ∧ o.2.2.2.1 ≤ 1) ∧ zR o.2.2.2.2.1 0 99) := by
  unfold f_Judge_effort
  refine zk_ifc (zci_lt (by omega) (by omega)) (fun hc => ?_) (fun hc => ?_)
  · refine zk_ret ?_
    try dsimp only
    exact ⟨by omega, by omega, by omega, by omega, h_i_words⟩
  · refine zk_ifc (zci_le (by omega) (by omega)) (fun hc_2 => ?_) (fun hc_2 => ?_)
    · refine zk_ret ?_
      try dsimp only
      exact ⟨by omega, by omega, by omega, by omega, h_i_words⟩
    · refine zk_ifc (zci_eq (by omega) (by omega)) (fun hc_3 => ?_) (fun hc_3 => ?_)
      · refine zk_ret ?_
        try dsimp only
        exact ⟨by omega, by omega, by omega, by omega, h_i_words⟩
      · refine zk_d1 (s_Hill_isAble _ _ _ _ _ (by omega) (by omega) (by omega) h_i_hill_strengths h_i_hill_expelled) (fun v1 hp => ?_)
        try dsimp only at hp
        obtain ⟨hpp0, hpp1⟩ := hp
        refine zk_ifc (zci_ner (by omega)) (fun hc_4 => ?_) (fun hc_4 => ?_)
        · refine zk_n ?_
          refine zk_nE (fun v3 h_v3 => ?_)
          have r_v3 := zi_abs_f ((x2 - x3)) (by omega); rw [← h_v3] at r_v3
          refine zk_ifc (zci_ltr (by omega)) (fun hc_5 => ?_) (fun hc_5 => ?_)
          · unfold f_Judge_effort_182
            refine zk_ifc (zci_eqr (by omega)) (fun hc_6 => ?_) (fun hc_6 => ?_)
            · refine zk_ret ?_
              try dsimp only
              exact ⟨by omega, by omega, by omega, by omega, h_i_words⟩
            · exfalso; omega
          · refine zk_ifc (zci_le (by omega) (by omega)) (fun hc_7 => ?_) (fun hc_7 => ?_)
            · unfold f_Judge_effort_182
              refine zk_ifc (zci_eqr (by omega)) (fun hc_8 => ?_) (fun hc_8 => ?_)
              · refine zk_ret ?_
                try dsimp only
                exact ⟨by omega, by omega, by omega, by omega, h_i_words⟩
              · exfalso; omega
            · refine zk_sl 0 rfl (by decide) (by decide) (fun a4 h_a4 => ?_)
              have i_a4 : zR a4 0 99 := by rw [h_a4]; exact zR_zu h_i_words (by decide) (by decide) (by omega)
              refine zk_gv (by omega) (by decide) (fun v5 h_v5 => ?_)
              have r_v5 := h_i_hill_strengths (x1.toNat)
              refine zk_sl 1 rfl (by decide) (by decide) (fun a6 h_a6 => ?_)
              have i_a6 : zR a6 0 99 := by rw [h_a6]; exact zR_zu i_a4 (by decide) (by decide) (by omega)
              refine zk_sl 2 rfl (by decide) (by decide) (fun a7 h_a7 => ?_)
              have i_a7 : zR a7 0 99 := by rw [h_a7]; exact zR_zu i_a6 (by decide) (by decide) (by omega)
              refine zk_sl 3 rfl (by decide) (by decide) (fun a8 h_a8 => ?_)
              have i_a8 : zR a8 0 99 := by rw [h_a8]; exact zR_zu i_a7 (by decide) (by decide) (by omega)
              refine zk_sl 4 rfl (by decide) (by decide) (fun a9 h_a9 => ?_)
              have i_a9 : zR a9 0 99 := by rw [h_a9]; exact zR_zu i_a8 (by decide) (by decide) (by omega)
              refine zk_sl 5 rfl (by decide) (by decide) (fun a10 h_a10 => ?_)
              have i_a10 : zR a10 0 99 := by rw [h_a10]; exact zR_zu i_a9 (by decide) (by decide) (by omega)
              refine zk_sl 6 rfl (by decide) (by decide) (fun a11 h_a11 => ?_)
              have i_a11 : zR a11 0 99 := by rw [h_a11]; exact zR_zu i_a10 (by decide) (by decide) (by omega)
              refine zk_gl 0 rfl (by decide) (by decide) (fun v12 h_v12 => ?_)
              have r_v12 := h_i_hill_terms (0)
              refine zk_sl 7 rfl (by decide) (by decide) (fun a13 h_a13 => ?_)
              have i_a13 : zR a13 0 99 := by rw [h_a13]; exact zR_zu i_a11 (by decide) (by decide) (by omega)
              refine zk_n ?_
              refine zk_gv (by omega) (by decide) (fun v15 h_v15 => ?_)
              have r_v15 := h_i_hill_ordered (i_hill_inForce.toNat)
              refine zk_d4 (s_Judge_hear _ _ _ _ _ _ _ _ (by omega) (by omega) i_a13 h_i_hill_orders (by omega) (by omega) (by omega)) (fun v16 v17 v18 a19 hp_2 => ?_)
              try dsimp only at hp_2
              obtain ⟨hp_2p0, hp_2p1, hp_2p2⟩ := hp_2
              unfold f_Judge_effort_182
              refine zk_ifc (zci_eqr (by omega)) (fun hc_9 => ?_) (fun hc_9 => ?_)
              · refine zk_ret ?_
                try dsimp only
                exact ⟨by omega, by omega, by omega, by omega, i_a13⟩
              · refine zk_ret ?_
                try dsimp only
                exact ⟨by omega, by omega, by omega, by omega, i_a13⟩
        · refine zk_ret ?_
          try dsimp only
          exact ⟨by omega, by omega, by omega, by omega, h_i_words⟩
set_option maxHeartbeats 4000000 in
theorem s_Judge_effortOn (x2 : Int) (x3 : Int) (x4 : Int) (i_a1_many : Int) (i_hill_children : Int) (i_hill_laws : Int) (i_hill_inForce : Int) (i_a1_heights : Nat → Int) (i_a1_weights : Nat → Int) (i_hill_strengths : Nat → Int) (i_hill_expelled : Nat → Int) (i_hill_terms : Nat → Int) (i_hill_orders : Nat → Int) (i_hill_ordered : Nat → Int) (i_piled : Int) (i_tiring : Int) (i_barred : Int) (i_words : Nat → Int) (i_pile : Nat → Int) (b_x2 : 0 ≤ x2 ∧ x2 ≤ 5) (b_x3 : 0 ≤ x3 ∧ x3 ≤ 11) (b_x4 : 0 ≤ x4 ∧ x4 ≤ 11) (b_i_a1_many : 1 ≤ i_a1_many ∧ i_a1_many ≤ 12) (b_i_hill_children : 1 ≤ i_hill_children ∧ i_hill_children ≤ 6) (b_i_hill_laws : 0 ≤ i_hill_laws ∧ i_hill_laws ≤ 6) (b_i_hill_inForce : (-1) ≤ i_hill_inForce ∧ i_hill_inForce ≤ 5) (h_i_a1_heights : zR i_a1_heights 0 10) (h_i_a1_weights : zR i_a1_weights 0 30) (h_i_hill_strengths : zR i_hill_strengths 0 60) (h_i_hill_expelled : zR i_hill_expelled 0 1) (h_i_hill_terms : zR i_hill_terms 0 99) (h_i_hill_orders : zR i_hill_orders (-2147483648) 2147483647) (h_i_hill_ordered : zR i_hill_ordered 0 424) (b_i_piled : 0 ≤ i_piled ∧ i_piled ≤ 32) (b_i_tiring : 0 ≤ i_tiring ∧ i_tiring ≤ 2147483647) (b_i_barred : 0 ≤ i_barred ∧ i_barred ≤ 1) (h_i_words : zR i_words 0 99) : zok (f_Judge_effortOn x2 x3 x4 i_a1_many i_hill_children i_hill_laws i_hill_inForce i_a1_heights i_a1_weights i_hill_strengths i_hill_expelled i_hill_terms i_hill_orders i_hill_ordered i_piled i_tiring i_barred i_words i_pile) (fun o => ((-1) ≤ o.1 ∧ o.1 ≤ 2147483647) ∧ (0 ≤ o.2.1 ∧ o.2.1 ≤ 32) ∧ (0 ≤ o.2.2.1 ∧ o.2.2.1 ≤ 2147483647) ∧ (0 ≤ o.2.2.2.1 ∧ o.2.2.2.1 ≤ 1) ∧ zR o.2.2.2.2.1 0 99) := by
  unfold f_Judge_effortOn
  refine zk_d1 (s_Columns_top _ _ _ _ (by omega) (by omega) h_i_a1_heights h_i_a1_weights) (fun v1 hp => ?_)
  try dsimp only at hp
  have hpp0 := hp
  refine zk_d1 (s_Columns_high _ _ _ (by omega) (by omega) h_i_a1_heights) (fun v2 hp_2 => ?_)
  try dsimp only at hp_2
  obtain ⟨hp_2p0, hp_2p1⟩ := hp_2
  refine zk_d1 (s_Columns_high _ _ _ (by omega) (by omega) h_i_a1_heights) (fun v3 hp_3 => ?_)
  try dsimp only at hp_3
  obtain ⟨hp_3p0, hp_3p1⟩ := hp_3
  refine zk_d6 (s_Judge_effort _ _ _ _ _ _ _ _ _ _ _ _ _ _ _ _ _ _ _ (by omega) (by omega) (by omega) (by omega) (by omega) (by omega) (by omega) (by omega) (by omega) h_i_hill_strengths h_i_hill_expelled h_i_hill_terms h_i_hill_orders h_i_hill_ordered (by omega) (by omega) (by omega) h_i_words) (fun v4 v5 v6 v7 a8 a9 hp_4 => ?_)
  try dsimp only at hp_4
  obtain ⟨hp_4p0, hp_4p1, hp_4p2, hp_4p3, hp_4p4⟩ := hp_4
  refine zk_ret ?_
  try dsimp only
  exact ⟨by omega, by omega, by omega, by omega, hp_4p4⟩
set_option maxHeartbeats 4000000 in
theorem s_HS_knows (x1 : Int) (x2 : Int) (x3 : Int) (i_hill_children : Int) (i_hill_columns_many : Int) (b_x1 : (-2147483648) ≤ x1 ∧ x1 ≤ 2147483647) (b_x2 : (-2147483648) ≤ x2 ∧ x2 ≤ 2147483647) (b_x3 : (-2147483648) ≤ x3 ∧ x3 ≤ 2147483647) (b_i_hill_children : 0 ≤ i_hill_children ∧ i_hill_children ≤ 6) (b_i_hill_columns_many : 0 ≤ i_hill_columns_many ∧ i_hill_columns_many ≤ 12) : zok (f_HS_knows x1 x2 x3 i_hill_children i_hill_columns_many) (fun o => (0 ≤ o ∧ o ≤ 1) ∧ ((o = 1 ∧ (0 ≤ x1 ∧ x1 < i_hill_children) ∧ (0 ≤ x2 ∧ x2 < i_hill_columns_many) ∧ (0 ≤ x3 ∧ x3 < i_hill_columns_many)) ∨ o = 0)) := by
  unfold f_HS_knows
  refine zk_d1 (s_Hill_hasChild _ _ (by omega) (by omega)) (fun v1 hp => ?_)
  try dsimp only at hp
  obtain ⟨hpp0, hpp1⟩ := hp
  refine zk_ifc (zci_eqr (by omega)) (fun hc => ?_) (fun hc => ?_)
  · exact zk_ret ⟨by omega, by omega⟩
  · refine zk_d1 (s_Columns_has _ _ (by omega) (by omega)) (fun v2 hp_2 => ?_)
    try dsimp only at hp_2
    obtain ⟨hp_2p0, hp_2p1⟩ := hp_2
    refine zk_ifc (zci_eqr (by omega)) (fun hc_2 => ?_) (fun hc_2 => ?_)
    · exact zk_ret ⟨by omega, by omega⟩
    · refine zk_d1 (s_Columns_has _ _ (by omega) (by omega)) (fun v3 hp_3 => ?_)
      try dsimp only at hp_3
      obtain ⟨hp_3p0, hp_3p1⟩ := hp_3
      refine zk_ifc (zci_eqr (by omega)) (fun hc_3 => ?_) (fun hc_3 => ?_)
      · exact zk_ret ⟨by omega, by omega⟩
      · exact zk_ret ⟨by omega, by omega⟩
set_option maxHeartbeats 4000000 in
theorem s_HS_can (x1 : Int) (x2 : Int) (x3 : Int) (i_hill_children : Int) (i_hill_laws : Int) (i_hill_inForce : Int) (i_hill_columns_many : Int) (i_hill_strengths : Nat → Int) (i_hill_expelled : Nat → Int) (i_hill_terms : Nat → Int) (i_hill_orders : Nat → Int) (i_hill_ordered : Nat → Int) (i_hill_columns_heights : Nat → Int) (i_hill_columns_weights : Nat → Int) (i_judge_piled : Int) (i_judge_tiring : Int) (i_judge_barred : Int) (i_judge_words : Nat → Int) (i_judge_pile : Nat → Int) (b_x1 : (-2147483648) ≤ x1 ∧ x1 ≤ 2147483647) (b_x2 : (-2147483648) ≤ x2 ∧ x2 ≤ 2147483647) (b_x3 : (-2147483648) ≤ x3 ∧ x3 ≤ 2147483647) (b_i_hill_children : 0 ≤ i_hill_children ∧ i_hill_children ≤ 6) (b_i_hill_laws : 0 ≤ i_hill_laws ∧ i_hill_laws ≤ 6) (b_i_hill_inForce : (-1) ≤ i_hill_inForce ∧ i_hill_inForce ≤ 5) (b_i_hill_columns_many : 0 ≤ i_hill_columns_many ∧ i_hill_columns_many ≤ 12) (h_i_hill_strengths : zR i_hill_strengths 0 60) (h_i_hill_expelled : zR i_hill_expelled 0 1) (h_i_hill_terms : zR i_hill_terms 0 99) (h_i_hill_orders : zR i_hill_orders (-2147483648) 2147483647) (h_i_hill_ordered : zR i_hill_ordered 0 424) (h_i_hill_columns_heights : zR i_hill_columns_heights 0 10) (h_i_hill_columns_weights : zR i_hill_columns_weights 0 30) (b_i_judge_piled : 0 ≤ i_judge_piled ∧ i_judge_piled ≤ 32) (b_i_judge_tiring : 0 ≤ i_judge_tiring ∧ i_judge_tiring ≤ 2147483647) (b_i_judge_barred : 0 ≤ i_judge_barred ∧ i_judge_barred ≤ 1) (h_i_judge_words : zR i_judge_words 0 99) : zok (f_HS_can x1 x2 x3 i_hill_children i_hill_laws i_hill_inForce i_hill_columns_many i_hill_strengths i_hill_expelled i_hill_terms i_hill_orders i_hill_ordered i_hill_columns_heights i_hill_columns_weights i_judge_piled i_judge_tiring i_judge_barred i_judge_words i_judge_pile) (fun o => ((-1) ≤ o.1 ∧ o.1 ≤ 1) ∧ (0 ≤ o.2.1 ∧ o.2.1 ≤ 32) ∧ (0 ≤ o.2.2.1 ∧ o.2.2.1 ≤ 2147483647) ∧ (0 ≤ o.2.2.2.1 ∧ o.2.2.2.1 ≤ 1) ∧ zR o.2.2.2.2.1 0 99) := by
  unfold f_HS_can
  refine zk_d1 (s_HS_knows _ _ _ _ _ (by omega) (by omega) (by omega) (by omega) (by omega)) (fun v1 hp => ?_)
  try dsimp only at hp
  obtain ⟨hpp0, hpp1⟩ := hp
  refine zk_ifc (zci_ner (by omega)) (fun hc => ?_) (fun hc => ?_)
  · refine zk_d6 (s_Judge_effortOn _ _ _ _ _ _ _ _ _ _ _ _ _ _ _ _ _ _ _ (by omega) (by omega) (by omega) (by omega) (by omega) (by omega) (by omega) h_i_hill_columns_heights h_i_hill_columns_weights h_i_hill_strengths h_i_hill_expelled h_i_hill_terms h_i_hill_orders h_i_hill_ordered (by omega) (by omega) (by omega) h_i_judge_words) (fun v2 v3 v4 v5 a6 a7 hp_2 => ?_)
    try dsimp only at hp_2
    obtain ⟨hp_2p0, hp_2p1, hp_2p2, hp_2p3, hp_2p4⟩ := hp_2
    refine zk_ifc (zci_ne (by omega) (by omega)) (fun hc_2 => ?_) (fun hc_2 => ?_)
    · refine zk_ret ?_
      try dsimp only
      exact ⟨by omega, by omega, by omega, by omega, hp_2p4⟩
    · refine zk_ret ?_
      try dsimp only
      exact ⟨by omega, by omega, by omega, by omega, hp_2p4⟩
  · refine zk_ret ?_
    try dsimp only
    exact ⟨by omega, by omega, by omega, by omega, h_i_judge_words⟩
set_option maxHeartbeats 4000000 in
theorem s_HS_tires (x1 : Int) (x2 : Int) (x3 : Int) (i_hill_children : Int) (i_hill_laws : Int) (i_hill_inForce : Int) (i_hill_columns_many : Int) (i_hill_strengths : Nat → Int) (i_hill_expelled : Nat → Int) (i_hill_terms : Nat → Int) (i_hill_orders : Nat → Int) (i_hill_ordered : Nat → Int) (i_hill_columns_heights : Nat → Int) (i_hill_columns_weights : Nat → Int) (i_judge_piled : Int) (i_judge_tiring : Int) (i_judge_barred : Int) (i_judge_words : Nat → Int) (i_judge_pile : Nat → Int) (b_x1 : (-2147483648) ≤ x1 ∧ x1 ≤ 2147483647) (b_x2 : (-2147483648) ≤ x2 ∧ x2 ≤ 2147483647) (b_x3 : (-2147483648) ≤ x3 ∧ x3 ≤ 2147483647) (b_i_hill_children : 0 ≤ i_hill_children ∧ i_hill_children ≤ 6) (b_i_hill_laws : 0 ≤ i_hill_laws ∧ i_hill_laws ≤ 6) (b_i_hill_inForce : (-1) ≤ i_hill_inForce ∧ i_hill_inForce ≤ 5) (b_i_hill_columns_many : 0 ≤ i_hill_columns_many ∧ i_hill_columns_many ≤ 12) (h_i_hill_strengths : zR i_hill_strengths 0 60) (h_i_hill_expelled : zR i_hill_expelled 0 1) (h_i_hill_terms : zR i_hill_terms 0 99) (h_i_hill_orders : zR i_hill_orders (-2147483648) 2147483647) (h_i_hill_ordered : zR i_hill_ordered 0 424) (h_i_hill_columns_heights : zR i_hill_columns_heights 0 10) (h_i_hill_columns_weights : zR i_hill_columns_weights 0 30) (b_i_judge_piled : 0 ≤ i_judge_piled ∧ i_judge_piled ≤ 32) (b_i_judge_tiring : 0 ≤ i_judge_tiring ∧ i_judge_tiring ≤ 2147483647) (b_i_judge_barred : 0 ≤ i_judge_barred ∧ i_judge_barred ≤ 1) (h_i_judge_words : zR i_judge_words 0 99) : zok (f_HS_tires x1 x2 x3 i_hill_children i_hill_laws i_hill_inForce i_hill_columns_many i_hill_strengths i_hill_expelled i_hill_terms i_hill_orders i_hill_ordered i_hill_columns_heights i_hill_columns_weights i_judge_piled i_judge_tiring i_judge_barred i_judge_words i_judge_pile) (fun o => ((-1) ≤ o.1 ∧ o.1 ≤ 2147483647) ∧ (0 ≤ o.2.1 ∧ o.2.1 ≤ 32) ∧ (0 ≤ o.2.2.1 ∧ o.2.2.1 ≤ 2147483647) ∧ (0 ≤ o.2.2.2.1 ∧ o.2.2.2.1 ≤ 1) ∧ zR o.2.2.2.2.1 0 99) := by
  unfold f_HS_tires
  refine zk_d1 (s_HS_knows _ _ _ _ _ (by omega) (by omega) (by omega) (by omega) (by omega)) (fun v1 hp => ?_)
  try dsimp only at hp
  obtain ⟨hpp0, hpp1⟩ := hp
  refine zk_ifc (zci_eqr (by omega)) (fun hc => ?_) (fun hc => ?_)
  · refine zk_ret ?_
    try dsimp only
    exact ⟨by omega, by omega, by omega, by omega, h_i_judge_words⟩
  · refine zk_d6 (s_Judge_effortOn _ _ _ _ _ _ _ _ _ _ _ _ _ _ _ _ _ _ _ (by omega) (by omega) (by omega) (by omega) (by omega) (by omega) (by omega) h_i_hill_columns_heights h_i_hill_columns_weights h_i_hill_strengths h_i_hill_expelled h_i_hill_terms h_i_hill_orders h_i_hill_ordered (by omega) (by omega) (by omega) h_i_judge_words) (fun v2 v3 v4 v5 a6 a7 hp_2 => ?_)
    try dsimp only at hp_2
    obtain ⟨hp_2p0, hp_2p1, hp_2p2, hp_2p3, hp_2p4⟩ := hp_2
    refine zk_ret ?_
    try dsimp only
    exact ⟨by omega, by omega, by omega, by omega, hp_2p4⟩
set_option maxHeartbeats 4000000 in
theorem s_Columns_move (x1 : Int) (x2 : Int) (i_many : Int) (i_heights : Nat → Int) (i_weights : Nat → Int) (b_x1 : 0 ≤ x1 ∧ x1 ≤ 11) (b_x2 : (-1) ≤ x2 ∧ x2 ≤ 12) (b_i_many : 0 ≤ i_many ∧ i_many ≤ 12) (h_i_heights : zR i_heights 0 10) (h_i_weights : zR i_weights 0 30) : zok (f_Columns_move x1 x2 i_many i_heights i_weights) (fun o => zR o.1 0 10 ∧ zR o.2 0 30) := by
  unfold f_Columns_move
  refine zk_d1 (s_Columns_high _ _ _ (by omega) (by omega) h_i_heights) (fun v1 hp => ?_)
  try dsimp only at hp
  obtain ⟨hpp0, hpp1⟩ := hp
  refine zk_ifc (zci_ler (by omega)) (fun hc => ?_) (fun hc => ?_)
  · refine zk_ret ?_
    try dsimp only
    exact ⟨h_i_heights, h_i_weights⟩
  · refine zk_d1 (s_Columns_top _ _ _ _ (by omega) (by omega) h_i_heights h_i_weights) (fun v2 hp_2 => ?_)
    try dsimp only at hp_2
    have hp_2p0 := hp_2
    refine zk_d3 (s_Columns_put _ _ _ _ _ (by omega) (by omega) (by omega) h_i_heights h_i_weights) (fun v3 a4 a5 hp_3 => ?_)
    try dsimp only at hp_3
    obtain ⟨hp_3p0, hp_3p1, hp_3p2, hp_3p3⟩ := hp_3
    refine zk_ifc (zci_eqr (by omega)) (fun hc_2 => ?_) (fun hc_2 => ?_)
    · refine zk_ret ?_
      try dsimp only
      exact ⟨hp_3p1, hp_3p2⟩
    · refine zk_gv (by omega) (by decide) (fun v6 h_v6 => ?_)
      have r_v6 := hp_3p1 (x1.toNat)
      have m_v6 := hp_3p3 x1.toNat
      refine zk_n ?_
      refine zk_sv (by omega) (by decide) (fun a8 h_a8 => ?_)
      have i_a8 : zR a8 0 10 := by rw [h_a8]; exact zR_zu hp_3p1 (by decide) (by decide) (by omega)
      refine zk_ret ?_
      try dsimp only
      exact ⟨i_a8, hp_3p2⟩
set_option maxHeartbeats 4000000 in
theorem s_HS_carry (x1 : Int) (x2 : Int) (x3 : Int) (i_hill_children : Int) (i_hill_laws : Int) (i_hill_inForce : Int) (i_hill_columns_many : Int) (i_hill_strengths : Nat → Int) (i_hill_expelled : Nat → Int) (i_hill_terms : Nat → Int) (i_hill_orders : Nat → Int) (i_hill_ordered : Nat → Int) (i_latestStatus : Int) (i_hill_changes : Int) (i_refusals : Nat → Int) (i_judge_piled : Int) (i_judge_tiring : Int) (i_judge_barred : Int) (i_judge_words : Nat → Int) (i_judge_pile : Nat → Int) (i_hill_columns_heights : Nat → Int) (i_hill_columns_weights : Nat → Int) (b_x1 : (-2147483648) ≤ x1 ∧ x1 ≤ 2147483647) (b_x2 : (-2147483648) ≤ x2 ∧ x2 ≤ 2147483647) (b_x3 : (-2147483648) ≤ x3 ∧ x3 ≤ 2147483647) (b_i_hill_children : 0 ≤ i_hill_children ∧ i_hill_children ≤ 6) (b_i_hill_laws : 0 ≤ i_hill_laws ∧ i_hill_laws ≤ 6) (b_i_hill_inForce : (-1) ≤ i_hill_inForce ∧ i_hill_inForce ≤ 5) (b_i_hill_columns_many : 0 ≤ i_hill_columns_many ∧ i_hill_columns_many ≤ 12) (h_i_hill_strengths : zR i_hill_strengths 0 60) (h_i_hill_expelled : zR i_hill_expelled 0 1) (h_i_hill_terms : zR i_hill_terms 0 99) (h_i_hill_orders : zR i_hill_orders (-2147483648) 2147483647) (h_i_hill_ordered : zR i_hill_ordered 0 424) (b_i_latestStatus : (-6) ≤ i_latestStatus ∧ i_latestStatus ≤ 0) (b_i_judge_piled : 0 ≤ i_judge_piled ∧ i_judge_piled ≤ 32) (b_i_judge_tiring : 0 ≤ i_judge_tiring ∧ i_judge_tiring ≤ 2147483647) (b_i_judge_barred : 0 ≤ i_judge_barred ∧ i_judge_barred ≤ 1) (h_i_judge_words : zR i_judge_words 0 99) (h_i_hill_columns_heights : zR i_hill_columns_heights 0 10) (h_i_hill_columns_weights : zR i_hill_columns_weights 0 30) : zok (f_HS_carry x1 x2 x3 i_hill_children i_hill_laws i_hill_inForce i_hill_columns_many i_hill_strengths i_hill_expelled i_hill_terms i_hill_orders i_hill_ordered i_latestStatus i_hill_changes i_refusals i_judge_piled i_judge_tiring i_judge_barred i_judge_words i_judge_pile i_hill_columns_heights i_hill_columns_weights) (fun o => ((-6) ≤ o.2.1 ∧ o.2.1 ≤ 0) ∧ (0 ≤ o.2.2.2.2.1 ∧ o.2.2.2.2.1 ≤ 32) ∧ (0 ≤ o.2.2.2.2.2.1 ∧ o.2.2.2.2.2.1 ≤ 2147483647) ∧ (0 ≤ o.2.2.2.2.2.2.1 ∧ o.2.2.2.2.2.2.1 ≤ 1) ∧ zR o.2.2.2.2.2.2.2.1 0 99 ∧ zR o.2.2.2.2.2.2.2.2.2.1 0 10 ∧ zR o.2.2.2.2.2.2.2.2.2.2 0 30) := by
  unfold f_HS_carry
  refine zk_d1 (s_HS_knows _ _ _ _ _ (by omega) (by omega) (by omega) (by omega) (by omega)) (fun v1 hp => ?_)
  try dsimp only at hp
  obtain ⟨hpp0, hpp1⟩ := hp
  refine zk_ifc (zci_ner (by omega)) (fun hc => ?_) (fun hc => ?_)
  · refine zk_d6 (s_Judge_effortOn _ _ _ _ _ _ _ _ _ _ _ _ _ _ _ _ _ _ _ (by omega) (by omega) (by omega) (by omega) (by omega) (by omega) (by omega) h_i_hill_columns_heights h_i_hill_columns_weights h_i_hill_strengths h_i_hill_expelled h_i_hill_terms h_i_hill_orders h_i_hill_ordered (by omega) (by omega) (by omega) h_i_judge_words) (fun v2 v3 v4 v5 a6 a7 hp_2 => ?_)
    try dsimp only at hp_2
    obtain ⟨hp_2p0, hp_2p1, hp_2p2, hp_2p3, hp_2p4⟩ := hp_2
    refine zk_ifc (zci_ne (by omega) (by omega)) (fun hc_2 => ?_) (fun hc_2 => ?_)
    · refine zk_d1 (s_Columns_top _ _ _ _ (by omega) (by omega) h_i_hill_columns_heights h_i_hill_columns_weights) (fun v8 hp_3 => ?_)
      try dsimp only at hp_3
      have hp_3p0 := hp_3
      refine zk_d2 (s_Columns_move _ _ _ _ _ (by omega) (by omega) (by omega) h_i_hill_columns_heights h_i_hill_columns_weights) (fun a9 a10 hp_4 => ?_)
      try dsimp only at hp_4
      obtain ⟨hp_4p0, hp_4p1⟩ := hp_4
      refine zk_d3 (s_HS_accept _ _ _ (by omega)) (fun v11 v12 v13 hp_5 => ?_)
      try dsimp only at hp_5
      obtain ⟨hp_5p0, hp_5p1, hp_5p2, hp_5p3⟩ := hp_5
      refine zk_ret ?_
      try dsimp only
      exact ⟨by omega, by omega, by omega, by omega, hp_2p4, hp_4p0, hp_4p1⟩
    · refine zk_d3 (s_HS_refuse _ _ _ (by omega) (by omega)) (fun v14 v15 a16 hp_6 => ?_)
      try dsimp only at hp_6
      obtain ⟨hp_6p0, hp_6p1, hp_6p2, hp_6p3⟩ := hp_6
      refine zk_ret ?_
      try dsimp only
      exact ⟨by omega, by omega, by omega, by omega, hp_2p4, h_i_hill_columns_heights, h_i_hill_columns_weights⟩
  · refine zk_d3 (s_HS_refuse _ _ _ (by omega) (by omega)) (fun v17 v18 a19 hp_7 => ?_)
    try dsimp only at hp_7
    obtain ⟨hp_7p0, hp_7p1, hp_7p2, hp_7p3⟩ := hp_7
    refine zk_ret ?_
    try dsimp only
    exact ⟨by omega, by omega, by omega, by omega, h_i_judge_words, h_i_hill_columns_heights, h_i_hill_columns_weights⟩
set_option maxHeartbeats 4000000 in
theorem s_HS_exchange (x1 : Int) (x2 : Int) (x3 : Int) (x4 : Int) (i_hill_children : Int) (i_hill_laws : Int) (i_hill_inForce : Int) (i_hill_columns_many : Int) (i_hill_strengths : Nat → Int) (i_hill_expelled : Nat → Int) (i_hill_terms : Nat → Int) (i_hill_orders : Nat → Int) (i_hill_ordered : Nat → Int) (i_latestStatus : Int) (i_hill_changes : Int) (i_refusals : Nat → Int) (i_judge_piled : Int) (i_judge_tiring : Int) (i_judge_barred : Int) (i_judge_words : Nat → Int) (i_judge_pile : Nat → Int) (i_hill_columns_heights : Nat → Int) (i_hill_columns_weights : Nat → Int) (b_x1 : (-2147483648) ≤ x1 ∧ x1 ≤ 2147483647) (b_x2 : (-2147483648) ≤ x2 ∧ x2 ≤ 2147483647) (b_x3 : (-2147483648) ≤ x3 ∧ x3 ≤ 2147483647) (b_x4 : (-2147483648) ≤ x4 ∧ x4 ≤ 2147483647) (b_i_hill_children : 0 ≤ i_hill_children ∧ i_hill_children ≤ 6) (b_i_hill_laws : 0 ≤ i_hill_laws ∧ i_hill_laws ≤ 6) (b_i_hill_inForce : (-1) ≤ i_hill_inForce ∧ i_hill_inForce ≤ 5) (b_i_hill_columns_many : 0 ≤ i_hill_columns_many ∧ i_hill_columns_many ≤ 12) (h_i_hill_strengths : zR i_hill_strengths 0 60) (h_i_hill_expelled : zR i_hill_expelled 0 1) (h_i_hill_terms : zR i_hill_terms 0 99) (h_i_hill_orders : zR i_hill_orders (-2147483648) 2147483647) (h_i_hill_ordered : zR i_hill_ordered 0 424) (b_i_latestStatus : (-6) ≤ i_latestStatus ∧ i_latestStatus ≤ 0) (b_i_judge_piled : 0 ≤ i_judge_piled ∧ i_judge_piled ≤ 32) (b_i_judge_tiring : 0 ≤ i_judge_tiring ∧ i_judge_tiring ≤ 2147483647) (b_i_judge_barred : 0 ≤ i_judge_barred ∧ i_judge_barred ≤ 1) (h_i_judge_words : zR i_judge_words 0 99) (h_i_hill_columns_heights : zR i_hill_columns_heights 0 10) (h_i_hill_columns_weights : zR i_hill_columns_weights 0 30) : zok (f_HS_exchange x1 x2 x3 x4 i_hill_children i_hill_laws i_hill_inForce i_hill_columns_many i_hill_strengths i_hill_expelled i_hill_terms i_hill_orders i_hill_ordered i_latestStatus i_hill_changes i_refusals i_judge_piled i_judge_tiring i_judge_barred i_judge_words i_judge_pile i_hill_columns_heights i_hill_columns_weights) (fun o => ((-6) ≤ o.2.1 ∧ o.2.1 ≤ 0) ∧ (0 ≤ o.2.2.2.2.1 ∧ o.2.2.2.2.1 ≤ 32) ∧ (0 ≤ o.2.2.2.2.2.1 ∧ o.2.2.2.2.2.1 ≤ 2147483647) ∧ (0 ≤ o.2.2.2.2.2.2.1 ∧ o.2.2.2.2.2.2.1 ≤ 1) ∧ zR o.2.2.2.2.2.2.2.1 0 99 ∧ zR o.2.2.2.2.2.2.2.2.2.1 0 10 ∧ zR o.2.2.2.2.2.2.2.2.2.2 0 30) := by
  unfold f_HS_exchange
  refine zk_d1 (s_HS_knows _ _ _ _ _ (by omega) (by omega) (by omega) (by omega) (by omega)) (fun v1 hp => ?_)
  try dsimp only at hp
  obtain ⟨hpp0, hpp1⟩ := hp
  refine zk_ifc (zci_eqr (by omega)) (fun hc => ?_) (fun hc => ?_)
  · unfold f_HS_exchange_25
    refine zk_d3 (s_HS_refuse _ _ _ (by omega) (by omega)) (fun v1_2 v2 a3 hp_2 => ?_)
    try dsimp only at hp_2
    obtain ⟨hp_2p0, hp_2p1, hp_2p2, hp_2p3⟩ := hp_2
    refine zk_ret ?_
    try dsimp only
    exact ⟨by omega, by omega, by omega, by omega, h_i_judge_words, h_i_hill_columns_heights, h_i_hill_columns_weights⟩
  · refine zk_d1 (s_Columns_has _ _ (by omega) (by omega)) (fun v2_2 hp_3 => ?_)
    try dsimp only at hp_3
    obtain ⟨hp_3p0, hp_3p1⟩ := hp_3
    refine zk_ifc (zci_ner (by omega)) (fun hc_2 => ?_) (fun hc_2 => ?_)
    · refine zk_d6 (s_Judge_effortOn _ _ _ _ _ _ _ _ _ _ _ _ _ _ _ _ _ _ _ (by omega) (by omega) (by omega) (by omega) (by omega) (by omega) (by omega) h_i_hill_columns_heights h_i_hill_columns_weights h_i_hill_strengths h_i_hill_expelled h_i_hill_terms h_i_hill_orders h_i_hill_ordered (by omega) (by omega) (by omega) h_i_judge_words) (fun v3 v4 v5 v6 a7 a8 hp_4 => ?_)
      try dsimp only at hp_4
      obtain ⟨hp_4p0, hp_4p1, hp_4p2, hp_4p3, hp_4p4⟩ := hp_4
      refine zk_ifc (zci_ne (by omega) (by omega)) (fun hc_3 => ?_) (fun hc_3 => ?_)
      · refine zk_d1 (s_Columns_top _ _ _ _ (by omega) (by omega) h_i_hill_columns_heights h_i_hill_columns_weights) (fun v9 hp_5 => ?_)
        try dsimp only at hp_5
        have hp_5p0 := hp_5
        refine zk_d2 (s_Columns_move _ _ _ _ _ (by omega) (by omega) (by omega) h_i_hill_columns_heights h_i_hill_columns_weights) (fun a10 a11 hp_6 => ?_)
        try dsimp only at hp_6
        obtain ⟨hp_6p0, hp_6p1⟩ := hp_6
        refine zk_d1 (s_Columns_top _ _ _ _ (by omega) (by omega) hp_6p0 hp_6p1) (fun v12 hp_7 => ?_)
        try dsimp only at hp_7
        have hp_7p0 := hp_7
        refine zk_n ?_
        refine zk_nE (fun v14 h_v14 => ?_)
        have r_v14 := zi_abs_f ((v9 - v12)) (by omega); rw [← h_v14] at r_v14
        refine zk_d6 (s_Judge_effortOn _ _ _ _ _ _ _ _ _ _ _ _ _ _ _ _ _ _ _ (by omega) (by omega) (by omega) (by omega) (by omega) (by omega) (by omega) hp_6p0 hp_6p1 h_i_hill_strengths h_i_hill_expelled h_i_hill_terms h_i_hill_orders h_i_hill_ordered (by omega) (by omega) (by omega) hp_4p4) (fun v15 v16 v17 v18 a19 a20 hp_8 => ?_)
        try dsimp only at hp_8
        obtain ⟨hp_8p0, hp_8p1, hp_8p2, hp_8p3, hp_8p4⟩ := hp_8
        refine zk_ifc (zci_eq (by omega) (by omega)) (fun hc_4 => ?_) (fun hc_4 => ?_)
        · unfold f_HS_exchange_141
          refine zk_d2 (s_Columns_move _ _ _ _ _ (by omega) (by omega) (by omega) hp_6p0 hp_6p1) (fun a1 a2 hp_9 => ?_)
          try dsimp only at hp_9
          obtain ⟨hp_9p0, hp_9p1⟩ := hp_9
          refine zk_d3 (s_HS_refuse _ _ _ (by omega) (by omega)) (fun v3_2 v4_2 a5 hp_10 => ?_)
          try dsimp only at hp_10
          obtain ⟨hp_10p0, hp_10p1, hp_10p2, hp_10p3⟩ := hp_10
          refine zk_ret ?_
          try dsimp only
          exact ⟨by omega, by omega, by omega, by omega, hp_8p4, hp_9p0, hp_9p1⟩
        · refine zk_gl 3 rfl (by decide) (by decide) (fun v21 h_v21 => ?_)
          have r_v21 := h_i_hill_terms (3)
          refine zk_ifc (zci_le (by omega) (by omega)) (fun hc_5 => ?_) (fun hc_5 => ?_)
          · refine zk_d2 (s_Columns_move _ _ _ _ _ (by omega) (by omega) (by omega) hp_6p0 hp_6p1) (fun a22 a23 hp_11 => ?_)
            try dsimp only at hp_11
            obtain ⟨hp_11p0, hp_11p1⟩ := hp_11
            refine zk_d3 (s_HS_accept _ _ _ (by omega)) (fun v24 v25 v26 hp_12 => ?_)
            try dsimp only at hp_12
            obtain ⟨hp_12p0, hp_12p1, hp_12p2, hp_12p3⟩ := hp_12
            refine zk_ret ?_
            try dsimp only
            exact ⟨by omega, by omega, by omega, by omega, hp_8p4, hp_11p0, hp_11p1⟩
          · unfold f_HS_exchange_141
            refine zk_d2 (s_Columns_move _ _ _ _ _ (by omega) (by omega) (by omega) hp_6p0 hp_6p1) (fun a1_2 a2_2 hp_13 => ?_)
            try dsimp only at hp_13
            obtain ⟨hp_13p0, hp_13p1⟩ := hp_13
            refine zk_d3 (s_HS_refuse _ _ _ (by omega) (by omega)) (fun v3_3 v4_3 a5_2 hp_14 => ?_)
            try dsimp only at hp_14
            obtain ⟨hp_14p0, hp_14p1, hp_14p2, hp_14p3⟩ := hp_14
            refine zk_ret ?_
            try dsimp only
            exact ⟨by omega, by omega, by omega, by omega, hp_8p4, hp_13p0, hp_13p1⟩
      · refine zk_d3 (s_HS_refuse _ _ _ (by omega) (by omega)) (fun v27 v28 a29 hp_15 => ?_)
        try dsimp only at hp_15
        obtain ⟨hp_15p0, hp_15p1, hp_15p2, hp_15p3⟩ := hp_15
        refine zk_ret ?_
        try dsimp only
        exact ⟨by omega, by omega, by omega, by omega, hp_4p4, h_i_hill_columns_heights, h_i_hill_columns_weights⟩
    · unfold f_HS_exchange_25
      refine zk_d3 (s_HS_refuse _ _ _ (by omega) (by omega)) (fun v1_3 v2_3 a3_2 hp_16 => ?_)
      try dsimp only at hp_16
      obtain ⟨hp_16p0, hp_16p1, hp_16p2, hp_16p3⟩ := hp_16
      refine zk_ret ?_
      try dsimp only
      exact ⟨by omega, by omega, by omega, by omega, h_i_judge_words, h_i_hill_columns_heights, h_i_hill_columns_weights⟩
set_option maxHeartbeats 4000000 in
theorem s_Columns_isSteep (x1 : Int) (x2 : Int) (x3 : Int) (i_many : Int) (i_heights : Nat → Int) (b_x1 : 0 ≤ x1 ∧ x1 ≤ 11) (b_x2 : (-1) ≤ x2 ∧ x2 ≤ 12) (b_x3 : 0 ≤ x3 ∧ x3 ≤ 99) (b_i_many : 0 ≤ i_many ∧ i_many ≤ 12) (h_i_heights : zR i_heights 0 10) : zok (f_Columns_isSteep x1 x2 x3 i_many i_heights) (fun o => (0 ≤ o ∧ o ≤ 1)) := by
  unfold f_Columns_isSteep
  refine zk_d1 (s_Columns_has _ _ (by omega) (by omega)) (fun v1 hp => ?_)
  try dsimp only at hp
  obtain ⟨hpp0, hpp1⟩ := hp
  refine zk_ifc (zci_eqr (by omega)) (fun hc => ?_) (fun hc => ?_)
  · exact zk_ret (by omega)
  · refine zk_d1 (s_Columns_has _ _ (by omega) (by omega)) (fun v2 hp_2 => ?_)
    try dsimp only at hp_2
    obtain ⟨hp_2p0, hp_2p1⟩ := hp_2
    refine zk_ifc (zci_eqr (by omega)) (fun hc_2 => ?_) (fun hc_2 => ?_)
    · exact zk_ret (by omega)
    · refine zk_gv (by omega) (by decide) (fun v3 h_v3 => ?_)
      have r_v3 := h_i_heights (x1.toNat)
      refine zk_gv (by omega) (by decide) (fun v4 h_v4 => ?_)
      have r_v4 := h_i_heights (x2.toNat)
      refine zk_n ?_
      refine zk_ifc (zci_le (by omega) (by omega)) (fun hc_3 => ?_) (fun hc_3 => ?_)
      · exact zk_ret (by omega)
      · exact zk_ret (by omega)
set_option maxHeartbeats 4000000 in
theorem s_Columns_lowestSteep_2 (i_many : Int) (i_heights : Nat → Int) (b_i_many : 0 ≤ i_many ∧ i_many ≤ 12) (h_i_heights : zR i_heights 0 10) : ∀ (n : Nat) (x1 : Int) (x2 : Int), (0 ≤ x1 ∧ x1 ≤ 99) → (0 ≤ x2 ∧ x2 ≤ 12) → (13 - x2) < (n : Int) → zok (f_Columns_lowestSteep_2 i_many i_heights n x1 x2) (fun o => ((-1) ≤ o ∧ o ≤ 11)) := by
  intro n
  induction n with
  | zero => intro x1 x2 b_x1 b_x2 hm; exfalso; omega
  | succ n ih =>
    intro x1 x2 b_x1 b_x2 hm
    show zok (f_Columns_lowestSteep_2_b i_many i_heights (f_Columns_lowestSteep_2 i_many i_heights n) x1 x2) _
    unfold f_Columns_lowestSteep_2_b
    refine zk_ifc (zci_le (by omega) (by omega)) (fun hc => ?_) (fun hc => ?_)
    · exact zk_ret (by omega)
    · refine zk_n ?_
      refine zk_d1 (s_Columns_isSteep _ _ _ _ _ (by omega) (by omega) (by omega) (by omega) h_i_heights) (fun v2 hp => ?_)
      try dsimp only at hp
      have hpp0 := hp
      refine zk_ifc (zci_ner (by omega)) (fun hc_2 => ?_) (fun hc_2 => ?_)
      · exact zk_ret (by omega)
      · refine zk_n ?_
        refine zk_d1 (s_Columns_isSteep _ _ _ _ _ (by omega) (by omega) (by omega) (by omega) h_i_heights) (fun v4 hp_2 => ?_)
        try dsimp only at hp_2
        have hp_2p0 := hp_2
        refine zk_ifc (zci_eqr (by omega)) (fun hc_3 => ?_) (fun hc_3 => ?_)
        · refine zk_n ?_
          exact ih _ _ (by omega) (by omega) (by omega)
        · exact zk_ret (by omega)
