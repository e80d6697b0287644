set_option maxHeartbeats 4000000 in
theorem s_LawReader_pass (x1 : Int) (i_tokens : Nat → Int) (i_at : Int) (b_x1 : 0 ≤ x1 ∧ x1 ≤ 265) (h_i_tokens : zR i_tokens 0 265) (b_i_at : 0 ≤ i_at ∧ i_at ≤ 400) : zok (f_LawReader_pass x1 i_tokens i_at) (fun o => (0 ≤ o.1 ∧ o.1 ≤ 1) ∧ (0 ≤ o.2 ∧ o.2 ≤ 400)) := by
  unfold f_LawReader_pass
  refine zk_gv (by omega) (by decide) (fun v1 h_v1 => ?_)
  have r_v1 := h_i_tokens (i_at.toNat)
  refine zk_ifc (zci_ne (by omega) (by omega)) (fun hc => ?_) (fun hc => ?_)
  · refine zk_ret ?_
    try dsimp only
    exact ⟨by omega, by omega⟩
  · refine zk_ifc (zci_lt (by omega) (by omega)) (fun hc_2 => ?_) (fun hc_2 => ?_)
    · refine zk_n ?_
      refine zk_ret ?_
      try dsimp only
      exact ⟨by omega, by omega⟩
    · refine zk_ret ?_
      try dsimp only
      exact ⟨by omega, by omega⟩
set_option maxHeartbeats 4000000 in
theorem s_LawReader_comparisonOf (x0 : Int) (b_x0 : 0 ≤ x0 ∧ x0 ≤ 265) : zok (f_LawReader_comparisonOf x0) (fun o => ((-1) ≤ o ∧ o ≤ 9) ∧ ((x0 = 60 ∧ o = 7) ∨ (x0 ≠ 60 ∧ x0 = 61 ∧ o = 9) ∨ (x0 ≠ 60 ∧ x0 ≠ 61 ∧ x0 = 62 ∧ o = 8) ∨ (x0 ≠ 60 ∧ x0 ≠ 61 ∧ x0 ≠ 62 ∧ o = (-1)))) := by
  unfold f_LawReader_comparisonOf
  refine zk_ifc (zci_eqr (by omega)) (fun hc => ?_) (fun hc => ?_)
  · exact zk_ret ⟨by omega, by first | exact Or.inl (by omega) | exact Or.inr (Or.inl (by omega)) | exact Or.inr (Or.inr (Or.inl (by omega))) | exact Or.inr (Or.inr (Or.inr ((by omega))))⟩
  · refine zk_ifc (zci_eqr (by omega)) (fun hc_2 => ?_) (fun hc_2 => ?_)
    · exact zk_ret ⟨by omega, by first | exact Or.inl (by omega) | exact Or.inr (Or.inl (by omega)) | exact Or.inr (Or.inr (Or.inl (by omega))) | exact Or.inr (Or.inr (Or.inr ((by omega))))⟩
    · refine zk_ifc (zci_eqr (by omega)) (fun hc_3 => ?_) (fun hc_3 => ?_)
      · exact zk_ret ⟨by omega, by first | exact Or.inl (by omega) | exact Or.inr (Or.inl (by omega)) | exact Or.inr (Or.inr (Or.inl (by omega))) | exact Or.inr (Or.inr (Or.inr ((by omega))))⟩
      · exact zk_ret ⟨by omega, by first | exact Or.inl (by omega) | exact Or.inr (Or.inl (by omega)) | exact Or.inr (Or.inr (Or.inl (by omega))) | exact Or.inr (Or.inr (Or.inr ((by omega))))⟩
set_option maxHeartbeats 4000000 in
theorem s_LawReader_readSum_7 (r_LawReader_readSum : Int → (Nat → Int) → (Nat → Int) → Int → Int → Int → (Nat → Int) → Option (Int × Int × Int × Int × (Nat → Int))) (r_LawReader_readPart : Int → (Nat → Int) → (Nat → Int) → Int → Int → Int → (Nat → Int) → Option (Int × Int × Int × Int × (Nat → Int))) (Nr : Nat) (hr_LawReader_readSum : ∀ (x1 : Int) (i_tokens : Nat → Int) (i_values : Nat → Int) (i_ordered : Int) (i_at : Int) (i_parts : Int) (i_orders : Nat → Int), (0 ≤ x1 ∧ x1 ≤ 8) → (zR i_tokens 0 265) → (1 ≤ i_ordered ∧ i_ordered ≤ 424) → (0 ≤ i_at ∧ i_at ≤ 400) → (0 ≤ i_parts ∧ i_parts ≤ 50) → (zR i_orders (-2147483648) 2147483647) → (2 * (9 - x1) + 1) < (Nr : Int) → zok (r_LawReader_readSum x1 i_tokens i_values i_ordered i_at i_parts i_orders) (fun o => (0 ≤ o.1 ∧ o.1 ≤ 1) ∧ (1 ≤ o.2.1 ∧ o.2.1 ≤ 424) ∧ (0 ≤ o.2.2.1 ∧ o.2.2.1 ≤ 400) ∧ (0 ≤ o.2.2.2.1 ∧ o.2.2.2.1 ≤ 50) ∧ zR o.2.2.2.2 (-2147483648) 2147483647)) (hr_LawReader_readPart : ∀ (x1 : Int) (i_tokens : Nat → Int) (i_values : Nat → Int) (i_ordered : Int) (i_at : Int) (i_parts : Int) (i_orders : Nat → Int), (0 ≤ x1 ∧ x1 ≤ 8) → (zR i_tokens 0 265) → (1 ≤ i_ordered ∧ i_ordered ≤ 424) → (0 ≤ i_at ∧ i_at ≤ 400) → (0 ≤ i_parts ∧ i_parts ≤ 50) → (zR i_orders (-2147483648) 2147483647) → (2 * (9 - x1)) < (Nr : Int) → zok (r_LawReader_readPart x1 i_tokens i_values i_ordered i_at i_parts i_orders) (fun o => (0 ≤ o.1 ∧ o.1 ≤ 1) ∧ (1 ≤ o.2.1 ∧ o.2.1 ≤ 424) ∧ (0 ≤ o.2.2.1 ∧ o.2.2.1 ≤ 400) ∧ (0 ≤ o.2.2.2.1 ∧ o.2.2.2.1 ≤ 50) ∧ zR o.2.2.2.2 (-2147483648) 2147483647)) (i_tokens : Nat → Int) (i_values : Nat → Int) (h_i_tokens : zR i_tokens 0 265) : ∀ (n : Nat) (x1 : Int) (x2 : Int) (x3 : Int) (x4 : Int) (i_ordered : Int) (i_at : Int) (i_parts : Int) (i_orders : Nat → Int), (0 ≤ x1 ∧ x1 ≤ 8) → ((-1) ≤ x2 ∧ x2 ≤ 6) → ((-1) ≤ x3 ∧ x3 ≤ 4) → (0 ≤ x4 ∧ x4 ≤ 400) → (1 ≤ i_ordered ∧ i_ordered ≤ 424) → (0 ≤ i_at ∧ i_at ≤ 400) → (0 ≤ i_parts ∧ i_parts ≤ 50) → (zR i_orders (-2147483648) 2147483647) → (2 * (9 - x1) + 1 < (Nr : Int) + 1) → (401 - x4) < (n : Int) → zok (f_LawReader_readSum_7 r_LawReader_readSum r_LawReader_readPart i_tokens i_values n x1 x2 x3 x4 i_ordered i_at i_parts i_orders) (fun o => (0 ≤ o.1 ∧ o.1 ≤ 1) ∧ (1 ≤ o.2.1 ∧ o.2.1 ≤ 424) ∧ (0 ≤ o.2.2.1 ∧ o.2.2.1 ≤ 400) ∧ (0 ≤ o.2.2.2.1 ∧ o.2.2.2.1 ≤ 50) ∧ zR o.2.2.2.2 (-2147483648) 2147483647) := by
  intro n
  induction n with
  | zero => intro x1 x2 x3 x4 i_ordered i_at i_parts i_orders b_x1 b_x2 b_x3 b_x4 b_i_ordered b_i_at b_i_parts h_i_orders p_0 hm; exfalso; omega
  | succ n ih =>
    intro x1 x2 x3 x4 i_ordered i_at i_parts i_orders b_x1 b_x2 b_x3 b_x4 b_i_ordered b_i_at b_i_parts h_i_orders p_0 hm
    show zok (f_LawReader_readSum_7_b r_LawReader_readSum r_LawReader_readPart i_tokens i_values (f_LawReader_readSum_7 r_LawReader_readSum r_LawReader_readPart i_tokens i_values n) x1 x2 x3 x4 i_ordered i_at i_parts i_orders) _
    unfold f_LawReader_readSum_7_b
    refine zk_ifc (zci_le (by omega) (by omega)) (fun hc => ?_) (fun hc => ?_)
    · refine zk_ret ?_
      try dsimp only
      exact ⟨by omega, by omega, by omega, by omega, h_i_orders⟩
    · refine zk_d5 (hr_LawReader_readPart _ _ _ _ _ _ _ (by omega) h_i_tokens (by omega) (by omega) (by omega) h_i_orders (by omega)) (fun v1 v2 v3 v4 a5 hp => ?_)
      try dsimp only at hp
      obtain ⟨hpp0, hpp1, hpp2, hpp3, hpp4⟩ := hp
      refine zk_ifc (zci_eqr (by omega)) (fun hc_2 => ?_) (fun hc_2 => ?_)
      · refine zk_ret ?_
        try dsimp only
        exact ⟨by omega, by omega, by omega, by omega, hpp4⟩
      · refine zk_ifc (zci_eq (by omega) (by omega)) (fun hc_3 => ?_) (fun hc_3 => ?_)
        · unfold f_LawReader_readSum_35
          refine zk_d2 (s_LawReader_pass _ _ _ (by omega) h_i_tokens (by omega)) (fun v1_2 v2_2 hp_2 => ?_)
          try dsimp only at hp_2
          obtain ⟨hp_2p0, hp_2p1⟩ := hp_2
          refine zk_ifc (zci_eqr (by omega)) (fun hc_4 => ?_) (fun hc_4 => ?_)
          · refine zk_d2 (s_LawReader_pass _ _ _ (by omega) h_i_tokens (by omega)) (fun v3_2 v4_2 hp_3 => ?_)
            try dsimp only at hp_3
            obtain ⟨hp_3p0, hp_3p1⟩ := hp_3
            refine zk_ifc (zci_eqr (by omega)) (fun hc_5 => ?_) (fun hc_5 => ?_)
            · unfold f_LawReader_readSum_63
              refine zk_ifc (zci_eq (by omega) (by omega)) (fun hc_6 => ?_) (fun hc_6 => ?_)
              · refine zk_ifc (zci_eq (by omega) (by omega)) (fun hc_7 => ?_) (fun hc_7 => ?_)
                · unfold f_LawReader_readSum_84
                  refine zk_d2 (s_LawReader_pass _ _ _ (by omega) h_i_tokens (by omega)) (fun v1_3 v2_3 hp_4 => ?_)
                  try dsimp only at hp_4
                  obtain ⟨hp_4p0, hp_4p1⟩ := hp_4
                  refine zk_ifc (zci_eqr (by omega)) (fun hc_8 => ?_) (fun hc_8 => ?_)
                  · refine zk_d2 (s_LawReader_pass _ _ _ (by omega) h_i_tokens (by omega)) (fun v3_3 v4_3 hp_5 => ?_)
                    try dsimp only at hp_5
                    obtain ⟨hp_5p0, hp_5p1⟩ := hp_5
                    refine zk_ifc (zci_eqr (by omega)) (fun hc_9 => ?_) (fun hc_9 => ?_)
                    · unfold f_LawReader_readSum_111
                      refine zk_ifc (zci_ne (by omega) (by omega)) (fun hc_10 => ?_) (fun hc_10 => ?_)
                      · exfalso; omega
                      · refine zk_ret ?_
                        try dsimp only
                        exact ⟨by omega, by omega, by omega, by omega, hpp4⟩
                    · unfold f_LawReader_readSum_111
                      refine zk_ifc (zci_ne (by omega) (by omega)) (fun hc_11 => ?_) (fun hc_11 => ?_)
                      · unfold f_LawReader_readSum_119
                        refine zk_n ?_
                        exact ih _ _ _ _ _ _ _ _ (by omega) (by omega) (by omega) (by omega) (by omega) (by omega) (by omega) hpp4 (by omega) (by omega)
                      · exfalso; omega
                  · unfold f_LawReader_readSum_111
                    refine zk_ifc (zci_ne (by omega) (by omega)) (fun hc_12 => ?_) (fun hc_12 => ?_)
                    · unfold f_LawReader_readSum_119
                      refine zk_n ?_
                      exact ih _ _ _ _ _ _ _ _ (by omega) (by omega) (by omega) (by omega) (by omega) (by omega) (by omega) hpp4 (by omega) (by omega)
                    · exfalso; omega
                · refine zk_d3 (s_LawReader_order _ _ _ _ (by omega) (by omega) hpp4) (fun v1_6 v2_4 a3 hp_6 => ?_)
                  try dsimp only at hp_6
                  obtain ⟨hp_6p0, hp_6p1, hp_6p2⟩ := hp_6
                  unfold f_LawReader_readSum_84
                  refine zk_d2 (s_LawReader_pass _ _ _ (by omega) h_i_tokens (by omega)) (fun v1_7 v2_5 hp_7 => ?_)
                  try dsimp only at hp_7
                  obtain ⟨hp_7p0, hp_7p1⟩ := hp_7
                  refine zk_ifc (zci_eqr (by omega)) (fun hc_13 => ?_) (fun hc_13 => ?_)
                  · refine zk_d2 (s_LawReader_pass _ _ _ (by omega) h_i_tokens (by omega)) (fun v3_4 v4_4 hp_8 => ?_)
                    try dsimp only at hp_8
                    obtain ⟨hp_8p0, hp_8p1⟩ := hp_8
                    refine zk_ifc (zci_eqr (by omega)) (fun hc_14 => ?_) (fun hc_14 => ?_)
                    · unfold f_LawReader_readSum_111
                      refine zk_ifc (zci_ne (by omega) (by omega)) (fun hc_15 => ?_) (fun hc_15 => ?_)
                      · exfalso; omega
                      · refine zk_ret ?_
                        try dsimp only
                        exact ⟨by omega, by omega, by omega, by omega, hp_6p2⟩
                    · unfold f_LawReader_readSum_111
                      refine zk_ifc (zci_ne (by omega) (by omega)) (fun hc_16 => ?_) (fun hc_16 => ?_)
                      · unfold f_LawReader_readSum_119
                        refine zk_n ?_
                        exact ih _ _ _ _ _ _ _ _ (by omega) (by omega) (by omega) (by omega) (by omega) (by omega) (by omega) hp_6p2 (by omega) (by omega)
                      · exfalso; omega
                  · unfold f_LawReader_readSum_111
                    refine zk_ifc (zci_ne (by omega) (by omega)) (fun hc_17 => ?_) (fun hc_17 => ?_)
                    · unfold f_LawReader_readSum_119
                      refine zk_n ?_
                      exact ih _ _ _ _ _ _ _ _ (by omega) (by omega) (by omega) (by omega) (by omega) (by omega) (by omega) hp_6p2 (by omega) (by omega)
                    · exfalso; omega
              · exfalso; omega
            · unfold f_LawReader_readSum_63
              refine zk_ifc (zci_eq (by omega) (by omega)) (fun hc_18 => ?_) (fun hc_18 => ?_)
              · exfalso; omega
              · unfold f_LawReader_readSum_119
                refine zk_n ?_
                exact ih _ _ _ _ _ _ _ _ (by omega) (by omega) (by omega) (by omega) (by omega) (by omega) (by omega) hpp4 (by omega) (by omega)
          · unfold f_LawReader_readSum_63
            refine zk_ifc (zci_eq (by omega) (by omega)) (fun hc_19 => ?_) (fun hc_19 => ?_)
            · exfalso; omega
            · unfold f_LawReader_readSum_119
              refine zk_n ?_
              exact ih _ _ _ _ _ _ _ _ (by omega) (by omega) (by omega) (by omega) (by omega) (by omega) (by omega) hpp4 (by omega) (by omega)
        · refine zk_d3 (s_LawReader_order _ _ _ _ (by omega) (by omega) hpp4) (fun v6 v7 a8 hp_9 => ?_)
          try dsimp only at hp_9
          obtain ⟨hp_9p0, hp_9p1, hp_9p2⟩ := hp_9
          unfold f_LawReader_readSum_35
          refine zk_d2 (s_LawReader_pass _ _ _ (by omega) h_i_tokens (by omega)) (fun v1_12 v2_6 hp_10 => ?_)
          try dsimp only at hp_10
          obtain ⟨hp_10p0, hp_10p1⟩ := hp_10
          refine zk_ifc (zci_eqr (by omega)) (fun hc_20 => ?_) (fun hc_20 => ?_)
          · refine zk_d2 (s_LawReader_pass _ _ _ (by omega) h_i_tokens (by omega)) (fun v3_5 v4_5 hp_11 => ?_)
            try dsimp only at hp_11
            obtain ⟨hp_11p0, hp_11p1⟩ := hp_11
            refine zk_ifc (zci_eqr (by omega)) (fun hc_21 => ?_) (fun hc_21 => ?_)
            · unfold f_LawReader_readSum_63
              refine zk_ifc (zci_eq (by omega) (by omega)) (fun hc_22 => ?_) (fun hc_22 => ?_)
              · refine zk_ifc (zci_eq (by omega) (by omega)) (fun hc_23 => ?_) (fun hc_23 => ?_)
                · unfold f_LawReader_readSum_84
                  refine zk_d2 (s_LawReader_pass _ _ _ (by omega) h_i_tokens (by omega)) (fun v1_13 v2_7 hp_12 => ?_)
                  try dsimp only at hp_12
                  obtain ⟨hp_12p0, hp_12p1⟩ := hp_12
                  refine zk_ifc (zci_eqr (by omega)) (fun hc_24 => ?_) (fun hc_24 => ?_)
                  · refine zk_d2 (s_LawReader_pass _ _ _ (by omega) h_i_tokens (by omega)) (fun v3_6 v4_6 hp_13 => ?_)
                    try dsimp only at hp_13
                    obtain ⟨hp_13p0, hp_13p1⟩ := hp_13
                    refine zk_ifc (zci_eqr (by omega)) (fun hc_25 => ?_) (fun hc_25 => ?_)
                    · unfold f_LawReader_readSum_111
                      refine zk_ifc (zci_ne (by omega) (by omega)) (fun hc_26 => ?_) (fun hc_26 => ?_)
                      · exfalso; omega
                      · refine zk_ret ?_
                        try dsimp only
                        exact ⟨by omega, by omega, by omega, by omega, hp_9p2⟩
                    · unfold f_LawReader_readSum_111
                      refine zk_ifc (zci_ne (by omega) (by omega)) (fun hc_27 => ?_) (fun hc_27 => ?_)
                      · unfold f_LawReader_readSum_119
                        refine zk_n ?_
                        exact ih _ _ _ _ _ _ _ _ (by omega) (by omega) (by omega) (by omega) (by omega) (by omega) (by omega) hp_9p2 (by omega) (by omega)
                      · exfalso; omega
                  · unfold f_LawReader_readSum_111
                    refine zk_ifc (zci_ne (by omega) (by omega)) (fun hc_28 => ?_) (fun hc_28 => ?_)
                    · unfold f_LawReader_readSum_119
                      refine zk_n ?_
                      exact ih _ _ _ _ _ _ _ _ (by omega) (by omega) (by omega) (by omega) (by omega) (by omega) (by omega) hp_9p2 (by omega) (by omega)
                    · exfalso; omega
                · refine zk_d3 (s_LawReader_order _ _ _ _ (by omega) (by omega) hp_9p2) (fun v1_16 v2_8 a3_2 hp_14 => ?_)
                  try dsimp only at hp_14
                  obtain ⟨hp_14p0, hp_14p1, hp_14p2⟩ := hp_14
                  unfold f_LawReader_readSum_84
                  refine zk_d2 (s_LawReader_pass _ _ _ (by omega) h_i_tokens (by omega)) (fun v1_17 v2_9 hp_15 => ?_)
                  try dsimp only at hp_15
                  obtain ⟨hp_15p0, hp_15p1⟩ := hp_15
                  refine zk_ifc (zci_eqr (by omega)) (fun hc_29 => ?_) (fun hc_29 => ?_)
                  · refine zk_d2 (s_LawReader_pass _ _ _ (by omega) h_i_tokens (by omega)) (fun v3_7 v4_7 hp_16 => ?_)
                    try dsimp only at hp_16
                    obtain ⟨hp_16p0, hp_16p1⟩ := hp_16
                    refine zk_ifc (zci_eqr (by omega)) (fun hc_30 => ?_) (fun hc_30 => ?_)
                    · unfold f_LawReader_readSum_111
                      refine zk_ifc (zci_ne (by omega) (by omega)) (fun hc_31 => ?_) (fun hc_31 => ?_)
                      · exfalso; omega
                      · refine zk_ret ?_
                        try dsimp only
                        exact ⟨by omega, by omega, by omega, by omega, hp_14p2⟩
                    · unfold f_LawReader_readSum_111
                      refine zk_ifc (zci_ne (by omega) (by omega)) (fun hc_32 => ?_) (fun hc_32 => ?_)
                      · unfold f_LawReader_readSum_119
                        refine zk_n ?_
                        exact ih _ _ _ _ _ _ _ _ (by omega) (by omega) (by omega) (by omega) (by omega) (by omega) (by omega) hp_14p2 (by omega) (by omega)
                      · exfalso; omega
                  · unfold f_LawReader_readSum_111
                    refine zk_ifc (zci_ne (by omega) (by omega)) (fun hc_33 => ?_) (fun hc_33 => ?_)
                    · unfold f_LawReader_readSum_119
                      refine zk_n ?_
                      exact ih _ _ _ _ _ _ _ _ (by omega) (by omega) (by omega) (by omega) (by omega) (by omega) (by omega) hp_14p2 (by omega) (by omega)
                    · exfalso; omega
              · exfalso; omega
            · unfold f_LawReader_readSum_63
              refine zk_ifc (zci_eq (by omega) (by omega)) (fun hc_34 => ?_) (fun hc_34 => ?_)
              · exfalso; omega
              · unfold f_LawReader_readSum_119
                refine zk_n ?_
                exact ih _ _ _ _ _ _ _ _ (by omega) (by omega) (by omega) (by omega) (by omega) (by omega) (by omega) hp_9p2 (by omega) (by omega)
          · unfold f_LawReader_readSum_63
            refine zk_ifc (zci_eq (by omega) (by omega)) (fun hc_35 => ?_) (fun hc_35 => ?_)
            · exfalso; omega
            · unfold f_LawReader_readSum_119
              refine zk_n ?_
              exact ih _ _ _ _ _ _ _ _ (by omega) (by omega) (by omega) (by omega) (by omega) (by omega) (by omega) hp_9p2 (by omega) (by omega)
set_option maxHeartbeats 4000000 in
theorem sb_LawReader_readSum (r_LawReader_readSum : Int → (Nat → Int) → (Nat → Int) → Int → Int → Int → (Nat → Int) → Option (Int × Int × Int × Int × (Nat → Int))) (r_LawReader_readPart : Int → (Nat → Int) → (Nat → Int) → Int → Int → Int → (Nat → Int) → Option (Int × Int × Int × Int × (Nat → Int))) (Nr : Nat) (hr_LawReader_readSum : ∀ (x1 : Int) (i_tokens : Nat → Int) (i_values : Nat → Int) (i_ordered : Int) (i_at : Int) (i_parts : Int) (i_orders : Nat → Int), (0 ≤ x1 ∧ x1 ≤ 8) → (zR i_tokens 0 265) → (1 ≤ i_ordered ∧ i_ordered ≤ 424) → (0 ≤ i_at ∧ i_at ≤ 400) → (0 ≤ i_parts ∧ i_parts ≤ 50) → (zR i_orders (-2147483648) 2147483647) → (2 * (9 - x1) + 1) < (Nr : Int) → zok (r_LawReader_readSum x1 i_tokens i_values i_ordered i_at i_parts i_orders) (fun o => (0 ≤ o.1 ∧ o.1 ≤ 1) ∧ (1 ≤ o.2.1 ∧ o.2.1 ≤ 424) ∧ (0 ≤ o.2.2.1 ∧ o.2.2.1 ≤ 400) ∧ (0 ≤ o.2.2.2.1 ∧ o.2.2.2.1 ≤ 50) ∧ zR o.2.2.2.2 (-2147483648) 2147483647)) (hr_LawReader_readPart : ∀ (x1 : Int) (i_tokens : Nat → Int) (i_values : Nat → Int) (i_ordered : Int) (i_at : Int) (i_parts : Int) (i_orders : Nat → Int), (0 ≤ x1 ∧ x1 ≤ 8) → (zR i_tokens 0 265) → (1 ≤ i_ordered ∧ i_ordered ≤ 424) → (0 ≤ i_at ∧ i_at ≤ 400) → (0 ≤ i_parts ∧ i_parts ≤ 50) → (zR i_orders (-2147483648) 2147483647) → (2 * (9 - x1)) < (Nr : Int) → zok (r_LawReader_readPart x1 i_tokens i_values i_ordered i_at i_parts i_orders) (fun o => (0 ≤ o.1 ∧ o.1 ≤ 1) ∧ (1 ≤ o.2.1 ∧ o.2.1 ≤ 424) ∧ (0 ≤ o.2.2.1 ∧ o.2.2.1 ≤ 400) ∧ (0 ≤ o.2.2.2.1 ∧ o.2.2.2.1 ≤ 50) ∧ zR o.2.2.2.2 (-2147483648) 2147483647)) (x1 : Int) (i_tokens : Nat → Int) (i_values : Nat → Int) (i_ordered : Int) (i_at : Int) (i_parts : Int) (i_orders : Nat → Int) (b_x1 : 0 ≤ x1 ∧ x1 ≤ 8) (h_i_tokens : zR i_tokens 0 265) (b_i_ordered : 1 ≤ i_ordered ∧ i_ordered ≤ 424) (b_i_at : 0 ≤ i_at ∧ i_at ≤ 400) (b_i_parts : 0 ≤ i_parts ∧ i_parts ≤ 50) (h_i_orders : zR i_orders (-2147483648) 2147483647) (hd : (2 * (9 - x1) + 1) < (Nr : Int) + 1) : zok (fb_LawReader_readSum r_LawReader_readSum r_LawReader_readPart x1 i_tokens i_values i_ordered i_at i_parts i_orders) (fun o => (0 ≤ o.1 ∧ o.1 ≤ 1) ∧ (1 ≤ o.2.1 ∧ o.2.1 ≤ 424) ∧ (0 ≤ o.2.2.1 ∧ o.2.2.1 ≤ 400) ∧ (0 ≤ o.2.2.2.1 ∧ o.2.2.2.1 ≤ 50) ∧ zR o.2.2.2.2 (-2147483648) 2147483647) := by
  unfold fb_LawReader_readSum
  exact s_LawReader_readSum_7 _ _ Nr hr_LawReader_readSum hr_LawReader_readPart _ _ h_i_tokens zfu _ _ _ _ _ _ _ _ (by omega) (by omega) (by omega) (by omega) (by omega) (by omega) (by omega) h_i_orders (by omega) (by unfold zfu; omega)
set_option maxHeartbeats 4000000 in
theorem sb_LawReader_readPart (r_LawReader_readSum : Int → (Nat → Int) → (Nat → Int) → Int → Int → Int → (Nat → Int) → Option (Int × Int × Int × Int × (Nat → Int))) (r_LawReader_readPart : Int → (Nat → Int) → (Nat → Int) → Int → Int → Int → (Nat → Int) → Option (Int × Int × Int × Int × (Nat → Int))) (Nr : Nat) (hr_LawReader_readSum : ∀ (x1 : Int) (i_tokens : Nat → Int) (i_values : Nat → Int) (i_ordered : Int) (i_at : Int) (i_parts : Int) (i_orders : Nat → Int), (0 ≤ x1 ∧ x1 ≤ 8) → (zR i_tokens 0 265) → (1 ≤ i_ordered ∧ i_ordered ≤ 424) → (0 ≤ i_at ∧ i_at ≤ 400) → (0 ≤ i_parts ∧ i_parts ≤ 50) → (zR i_orders (-2147483648) 2147483647) → (2 * (9 - x1) + 1) < (Nr : Int) → zok (r_LawReader_readSum x1 i_tokens i_values i_ordered i_at i_parts i_orders) (fun o => (0 ≤ o.1 ∧ o.1 ≤ 1) ∧ (1 ≤ o.2.1 ∧ o.2.1 ≤ 424) ∧ (0 ≤ o.2.2.1 ∧ o.2.2.1 ≤ 400) ∧ (0 ≤ o.2.2.2.1 ∧ o.2.2.2.1 ≤ 50) ∧ zR o.2.2.2.2 (-2147483648) 2147483647)) (hr_LawReader_readPart : ∀ (x1 : Int) (i_tokens : Nat → Int) (i_values : Nat → Int) (i_ordered : Int) (i_at : Int) (i_parts : Int) (i_orders : Nat → Int), (0 ≤ x1 ∧ x1 ≤ 8) → (zR i_tokens 0 265) → (1 ≤ i_ordered ∧ i_ordered ≤ 424) → (0 ≤ i_at ∧ i_at ≤ 400) → (0 ≤ i_parts ∧ i_parts ≤ 50) → (zR i_orders (-2147483648) 2147483647) → (2 * (9 - x1)) < (Nr : Int) → zok (r_LawReader_readPart x1 i_tokens i_values i_ordered i_at i_parts i_orders) (fun o => (0 ≤ o.1 ∧ o.1 ≤ 1) ∧ (1 ≤ o.2.1 ∧ o.2.1 ≤ 424) ∧ (0 ≤ o.2.2.1 ∧ o.2.2.1 ≤ 400) ∧ (0 ≤ o.2.2.2.1 ∧ o.2.2.2.1 ≤ 50) ∧ zR o.2.2.2.2 (-2147483648) 2147483647)) (x1 : Int) (i_tokens : Nat → Int) (i_values : Nat → Int) (i_ordered : Int) (i_at : Int) (i_parts : Int) (i_orders : Nat → Int) (b_x1 : 0 ≤ x1 ∧ x1 ≤ 8) (h_i_tokens : zR i_tokens 0 265) (b_i_ordered : 1 ≤ i_ordered ∧ i_ordered ≤ 424) (b_i_at : 0 ≤ i_at ∧ i_at ≤ 400) (b_i_parts : 0 ≤ i_parts ∧ i_parts ≤ 50) (h_i_orders : zR i_orders (-2147483648) 2147483647) (hd : (2 * (9 - x1)) < (Nr : Int) + 1) : zok (fb_LawReader_readPart r_LawReader_readSum r_LawReader_readPart x1 i_tokens i_values i_ordered i_at i_parts i_orders) (fun o => (0 ≤ o.1 ∧ o.1 ≤ 1) ∧ (1 ≤ o.2.1 ∧ o.2.1 ≤ 424) ∧ (0 ≤ o.2.2.1 ∧ o.2.2.1 ≤ 400) ∧ (0 ≤ o.2.2.2.1 ∧ o.2.2.2.1 ≤ 50) ∧ zR o.2.2.2.2 (-2147483648) 2147483647) := by
  unfold fb_LawReader_readPart
  refine zk_gv (by omega) (by decide) (fun v1 h_v1 => ?_)
  have r_v1 := h_i_tokens (i_at.toNat)
  refine zk_ifc (zci_ne (by omega) (by omega)) (fun hc => ?_) (fun hc => ?_)
  · refine zk_gv (by omega) (by decide) (fun v2 h_v2 => ?_)
    have r_v2 := h_i_tokens (i_at.toNat)
    refine zk_ifc (zci_ne (by omega) (by omega)) (fun hc_2 => ?_) (fun hc_2 => ?_)
    · unfold f_LawReader_readPart_74
      refine zk_ifc (zci_ner (by omega)) (fun hc_3 => ?_) (fun hc_3 => ?_)
      · exfalso; omega
      · refine zk_gv (by omega) (by decide) (fun v1_2 h_v1_2 => ?_)
        have r_v1_2 := h_i_tokens (i_at.toNat)
        refine zk_ifc (zci_ne (by omega) (by omega)) (fun hc_4 => ?_) (fun hc_4 => ?_)
        · refine zk_ret ?_
          try dsimp only
          exact ⟨by omega, by omega, by omega, by omega, h_i_orders⟩
        · unfold f_LawReader_readPart_94
          refine zk_ifc (zci_lt (by omega) (by omega)) (fun hc_5 => ?_) (fun hc_5 => ?_)
          · refine zk_n ?_
            refine zk_ifc (zci_eqr (by omega)) (fun hc_6 => ?_) (fun hc_6 => ?_)
            · unfold f_LawReader_readPart_125
              refine zk_gv (by omega) (by decide) (fun v1_4 h_v1_4 => ?_)
              refine zk_d3 (s_LawReader_order _ _ _ _ (by omega) (by omega) h_i_orders) (fun v2_2 v3 a4 hp => ?_)
              try dsimp only at hp
              obtain ⟨hpp0, hpp1, hpp2⟩ := hp
              refine zk_gv (by omega) (by decide) (fun v5 h_v5 => ?_)
              have r_v5 := h_i_tokens (i_at.toNat)
              refine zk_d2 (s_LawReader_pass _ _ _ (by omega) h_i_tokens (by omega)) (fun v6 v7 hp_2 => ?_)
              try dsimp only at hp_2
              obtain ⟨hp_2p0, hp_2p1⟩ := hp_2
              refine zk_gb (by omega) ?_
              refine zk_ret ?_
              try dsimp only
              exact ⟨by omega, by omega, by omega, by omega, hpp2⟩
            · exfalso; omega
          · refine zk_ret ?_
            try dsimp only
            exact ⟨by omega, by omega, by omega, by omega, h_i_orders⟩
    · unfold f_LawReader_readPart_74
      refine zk_ifc (zci_ner (by omega)) (fun hc_7 => ?_) (fun hc_7 => ?_)
      · unfold f_LawReader_readPart_94
        refine zk_ifc (zci_lt (by omega) (by omega)) (fun hc_8 => ?_) (fun hc_8 => ?_)
        · refine zk_n ?_
          refine zk_ifc (zci_eqr (by omega)) (fun hc_9 => ?_) (fun hc_9 => ?_)
          · exfalso; omega
          · unfold f_LawReader_readPart_125
            refine zk_gv (by omega) (by decide) (fun v1_6 h_v1_6 => ?_)
            refine zk_d3 (s_LawReader_order _ _ _ _ (by omega) (by omega) h_i_orders) (fun v2_3 v3_2 a4_2 hp_3 => ?_)
            try dsimp only at hp_3
            obtain ⟨hp_3p0, hp_3p1, hp_3p2⟩ := hp_3
            refine zk_gv (by omega) (by decide) (fun v5_2 h_v5_2 => ?_)
            have r_v5_2 := h_i_tokens (i_at.toNat)
            refine zk_d2 (s_LawReader_pass _ _ _ (by omega) h_i_tokens (by omega)) (fun v6_2 v7_2 hp_4 => ?_)
            try dsimp only at hp_4
            obtain ⟨hp_4p0, hp_4p1⟩ := hp_4
            refine zk_gb (by omega) ?_
            refine zk_ret ?_
            try dsimp only
            exact ⟨by omega, by omega, by omega, by omega, hp_3p2⟩
        · refine zk_ret ?_
          try dsimp only
          exact ⟨by omega, by omega, by omega, by omega, h_i_orders⟩
      · exfalso; omega
  · refine zk_ifc (zci_le (by omega) (by omega)) (fun hc_10 => ?_) (fun hc_10 => ?_)
    · refine zk_ret ?_
      try dsimp only
      exact ⟨by omega, by omega, by omega, by omega, h_i_orders⟩
    · refine zk_d2 (s_LawReader_pass _ _ _ (by omega) h_i_tokens (by omega)) (fun v3_3 v4 hp_5 => ?_)
      try dsimp only at hp_5
      obtain ⟨hp_5p0, hp_5p1⟩ := hp_5
      refine zk_ifc (zci_eqr (by omega)) (fun hc_11 => ?_) (fun hc_11 => ?_)
      · refine zk_ret ?_
        try dsimp only
        exact ⟨by omega, by omega, by omega, by omega, h_i_orders⟩
      · refine zk_n ?_
        refine zk_d5 (hr_LawReader_readSum _ _ _ _ _ _ _ (by omega) h_i_tokens (by omega) (by omega) (by omega) h_i_orders (by omega)) (fun v6_3 v7_3 v8 v9 a10 hp_6 => ?_)
        try dsimp only at hp_6
        obtain ⟨hp_6p0, hp_6p1, hp_6p2, hp_6p3, hp_6p4⟩ := hp_6
        refine zk_ifc (zci_eqr (by omega)) (fun hc_12 => ?_) (fun hc_12 => ?_)
        · refine zk_ret ?_
          try dsimp only
          exact ⟨by omega, by omega, by omega, by omega, hp_6p4⟩
        · refine zk_d2 (s_LawReader_pass _ _ _ (by omega) h_i_tokens (by omega)) (fun v11 v12 hp_7 => ?_)
          try dsimp only at hp_7
          obtain ⟨hp_7p0, hp_7p1⟩ := hp_7
          refine zk_ifc (zci_eqr (by omega)) (fun hc_13 => ?_) (fun hc_13 => ?_)
          · refine zk_ret ?_
            try dsimp only
            exact ⟨by omega, by omega, by omega, by omega, hp_6p4⟩
          · refine zk_ret ?_
            try dsimp only
            exact ⟨by omega, by omega, by omega, by omega, hp_6p4⟩
