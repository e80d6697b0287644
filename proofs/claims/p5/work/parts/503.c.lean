theorem sg_LawReader_readSum : ∀ n : Nat, (∀ (x1 : Int) (i_tokens : Nat → Int) (i_values : Nat → Int) (i_ordered : Int) (i_at : Int) (i_parts : Int) (i_orders : Nat → Int), (0 ≤ x1 ∧ x1 ≤ 8) → (zR i_tokens 0 265) → (1 ≤ i_ordered ∧ i_ordered ≤ 424) → (0 ≤ i_at ∧ i_at ≤ 400) → (0 ≤ i_parts ∧ i_parts ≤ 50) → (zR i_orders (-2147483648) 2147483647) → (2 * (9 - x1) + 1) < (n : Int) → zok ((g_LawReader_readSum n).1 x1 i_tokens i_values i_ordered i_at i_parts i_orders) (fun o => (0 ≤ o.1 ∧ o.1 ≤ 1) ∧ (1 ≤ o.2.1 ∧ o.2.1 ≤ 424) ∧ (0 ≤ o.2.2.1 ∧ o.2.2.1 ≤ 400) ∧ (0 ≤ o.2.2.2.1 ∧ o.2.2.2.1 ≤ 50) ∧ zR o.2.2.2.2 (-2147483648) 2147483647)) ∧ (∀ (x1 : Int) (i_tokens : Nat → Int) (i_values : Nat → Int) (i_ordered : Int) (i_at : Int) (i_parts : Int) (i_orders : Nat → Int), (0 ≤ x1 ∧ x1 ≤ 8) → (zR i_tokens 0 265) → (1 ≤ i_ordered ∧ i_ordered ≤ 424) → (0 ≤ i_at ∧ i_at ≤ 400) → (0 ≤ i_parts ∧ i_parts ≤ 50) → (zR i_orders (-2147483648) 2147483647) → (2 * (9 - x1)) < (n : Int) → zok ((g_LawReader_readSum n).2 x1 i_tokens i_values i_ordered i_at i_parts i_orders) (fun o => (0 ≤ o.1 ∧ o.1 ≤ 1) ∧ (1 ≤ o.2.1 ∧ o.2.1 ≤ 424) ∧ (0 ≤ o.2.2.1 ∧ o.2.2.1 ≤ 400) ∧ (0 ≤ o.2.2.2.1 ∧ o.2.2.2.1 ≤ 50) ∧ zR o.2.2.2.2 (-2147483648) 2147483647)) := by
  intro n
  induction n with
  | zero => exact ⟨fun x0 x1 x2 x3 x4 x5 x6 p0 p1 p2 p3 p4 p5 hd => absurd hd (by omega), fun x0 x1 x2 x3 x4 x5 x6 p0 p1 p2 p3 p4 p5 hd => absurd hd (by omega)⟩
  | succ n ih => exact ⟨fun x0 x1 x2 x3 x4 x5 x6 p0 p1 p2 p3 p4 p5 hd => sb_LawReader_readSum _ _ n (ih.1) (ih.2) x0 x1 x2 x3 x4 x5 x6 p0 p1 p2 p3 p4 p5 (by omega), fun x0 x1 x2 x3 x4 x5 x6 p0 p1 p2 p3 p4 p5 hd => sb_LawReader_readPart _ _ n (ih.1) (ih.2) x0 x1 x2 x3 x4 x5 x6 p0 p1 p2 p3 p4 p5 (by omega)⟩
theorem s_LawReader_readSum (x1 : Int) (i_tokens : Nat → Int) (i_values : Nat → Int) (i_ordered : Int) (i_at : Int) (i_parts : Int) (i_orders : Nat → Int) (b_x1 : 0 ≤ x1 ∧ x1 ≤ 8) (h_i_tokens : zR i_tokens 0 265) (b_i_ordered : 1 ≤ i_ordered ∧ i_ordered ≤ 424) (b_i_at : 0 ≤ i_at ∧ i_at ≤ 400) (b_i_parts : 0 ≤ i_parts ∧ i_parts ≤ 50) (h_i_orders : zR i_orders (-2147483648) 2147483647) : zok (f_LawReader_readSum x1 i_tokens i_values i_ordered i_at i_parts i_orders) (fun o => (0 ≤ o.1 ∧ o.1 ≤ 1) ∧ (1 ≤ o.2.1 ∧ o.2.1 ≤ 424) ∧ (0 ≤ o.2.2.1 ∧ o.2.2.1 ≤ 400) ∧ (0 ≤ o.2.2.2.1 ∧ o.2.2.2.1 ≤ 50) ∧ zR o.2.2.2.2 (-2147483648) 2147483647) :=
  (sg_LawReader_readSum zdp).1 x1 i_tokens i_values i_ordered i_at i_parts i_orders b_x1 h_i_tokens b_i_ordered b_i_at b_i_parts h_i_orders (by unfold zdp; omega)
theorem s_LawReader_readPart (x1 : Int) (i_tokens : Nat → Int) (i_values : Nat → Int) (i_ordered : Int) (i_at : Int) (i_parts : Int) (i_orders : Nat → Int) (b_x1 : 0 ≤ x1 ∧ x1 ≤ 8) (h_i_tokens : zR i_tokens 0 265) (b_i_ordered : 1 ≤ i_ordered ∧ i_ordered ≤ 424) (b_i_at : 0 ≤ i_at ∧ i_at ≤ 400) (b_i_parts : 0 ≤ i_parts ∧ i_parts ≤ 50) (h_i_orders : zR i_orders (-2147483648) 2147483647) : zok (f_LawReader_readPart x1 i_tokens i_values i_ordered i_at i_parts i_orders) (fun o => (0 ≤ o.1 ∧ o.1 ≤ 1) ∧ (1 ≤ o.2.1 ∧ o.2.1 ≤ 424) ∧ (0 ≤ o.2.2.1 ∧ o.2.2.1 ≤ 400) ∧ (0 ≤ o.2.2.2.1 ∧ o.2.2.2.1 ≤ 50) ∧ zR o.2.2.2.2 (-2147483648) 2147483647) :=
  (sg_LawReader_readSum zdp).2 x1 i_tokens i_values i_ordered i_at i_parts i_orders b_x1 h_i_tokens b_i_ordered b_i_at b_i_parts h_i_orders (by unfold zdp; omega)
set_option maxHeartbeats 4000000 in
theorem s_LawReader_aimHere (x1 : Int) (i_ordered : Int) (i_orders : Nat → Int) (b_x1 : (-1) ≤ x1 ∧ x1 ≤ 424) (b_i_ordered : 1 ≤ i_ordered ∧ i_ordered ≤ 424) (h_i_orders : zR i_orders (-2147483648) 2147483647) : zok (f_LawReader_aimHere x1 i_ordered i_orders) (fun o => zR o (-2147483648) 2147483647) := by
  unfold f_LawReader_aimHere
  refine zk_ifc (zci_ltr (by omega)) (fun hc => ?_) (fun hc => ?_)
  · exact zk_ret h_i_orders
  · refine zk_ifc (zci_le (by omega) (by omega)) (fun hc_2 => ?_) (fun hc_2 => ?_)
    · exact zk_ret h_i_orders
    · refine zk_nE (fun v1 h_v1 => ?_)
      have r_v1 := zi_shl_f i_ordered 4; rw [← h_v1] at r_v1
      refine zk_gv (by omega) (by decide) (fun v2 h_v2 => ?_)
      have r_v2 := h_i_orders (x1.toNat)
      refine zk_nE (fun v3 h_v3 => ?_)
      have r_v3 := zi_and_m v2 (m := 15) (by decide); rw [← h_v3] at r_v3
      refine zk_nE (fun v4 h_v4 => ?_)
      have r_v4 := zi_or_f v1 v3; rw [← h_v4] at r_v4
      refine zk_sv (by omega) (by decide) (fun a5 h_a5 => ?_)
      have i_a5 : zR a5 (-2147483648) 2147483647 := by rw [h_a5]; exact zR_zu h_i_orders (by decide) (by decide) (by omega)
      exact zk_ret i_a5
set_option maxHeartbeats 4000000 in
theorem s_LawReader_readTest_7 (r_LawReader_readTest : Int → (Nat → Int) → (Nat → Int) → Int → Int → Int → (Nat → Int) → Option (Int × Int × Int × Int × (Nat → Int))) (r_LawReader_readPlain : Int → (Nat → Int) → (Nat → Int) → Int → Int → Int → (Nat → Int) → Option (Int × Int × Int × Int × (Nat → Int))) (Nr : Nat) (hr_LawReader_readTest : ∀ (x1 : Int) (i_tokens : Nat → Int) (i_values : Nat → Int) (i_ordered : Int) (i_at : Int) (i_parts : Int) (i_orders : Nat → Int), (0 ≤ x1 ∧ x1 ≤ 8) → (zR i_tokens 0 265) → (1 ≤ i_ordered ∧ i_ordered ≤ 424) → (0 ≤ i_at ∧ i_at ≤ 400) → (0 ≤ i_parts ∧ i_parts ≤ 50) → (zR i_orders (-2147483648) 2147483647) → (2 * (9 - x1) + 1) < (Nr : Int) → zok (r_LawReader_readTest x1 i_tokens i_values i_ordered i_at i_parts i_orders) (fun o => (0 ≤ o.1 ∧ o.1 ≤ 1) ∧ (1 ≤ o.2.1 ∧ o.2.1 ≤ 424) ∧ (0 ≤ o.2.2.1 ∧ o.2.2.1 ≤ 400) ∧ (0 ≤ o.2.2.2.1 ∧ o.2.2.2.1 ≤ 50) ∧ zR o.2.2.2.2 (-2147483648) 2147483647)) (hr_LawReader_readPlain : ∀ (x1 : Int) (i_tokens : Nat → Int) (i_values : Nat → Int) (i_ordered : Int) (i_at : Int) (i_parts : Int) (i_orders : Nat → Int), (0 ≤ x1 ∧ x1 ≤ 8) → (zR i_tokens 0 265) → (1 ≤ i_ordered ∧ i_ordered ≤ 424) → (0 ≤ i_at ∧ i_at ≤ 400) → (0 ≤ i_parts ∧ i_parts ≤ 50) → (zR i_orders (-2147483648) 2147483647) → (2 * (9 - x1)) < (Nr : Int) → zok (r_LawReader_readPlain x1 i_tokens i_values i_ordered i_at i_parts i_orders) (fun o => (0 ≤ o.1 ∧ o.1 ≤ 1) ∧ (1 ≤ o.2.1 ∧ o.2.1 ≤ 424) ∧ (0 ≤ o.2.2.1 ∧ o.2.2.1 ≤ 400) ∧ (0 ≤ o.2.2.2.1 ∧ o.2.2.2.1 ≤ 50) ∧ zR o.2.2.2.2 (-2147483648) 2147483647)) (i_tokens : Nat → Int) (i_values : Nat → Int) (h_i_tokens : zR i_tokens 0 265) : ∀ (n : Nat) (x1 : Int) (x2 : Int) (x3 : Int) (x4 : Int) (i_ordered : Int) (i_at : Int) (i_parts : Int) (i_orders : Nat → Int), (0 ≤ x1 ∧ x1 ≤ 8) → ((-1) ≤ x2 ∧ x2 ≤ 424) → ((-1) ≤ x3 ∧ x3 ≤ 424) → (0 ≤ x4 ∧ x4 ≤ 400) → (1 ≤ i_ordered ∧ i_ordered ≤ 424) → (0 ≤ i_at ∧ i_at ≤ 400) → (0 ≤ i_parts ∧ i_parts ≤ 50) → (zR i_orders (-2147483648) 2147483647) → (2 * (9 - x1) + 1 < (Nr : Int) + 1) → (401 - x4) < (n : Int) → zok (f_LawReader_readTest_7 r_LawReader_readTest r_LawReader_readPlain i_tokens i_values n x1 x2 x3 x4 i_ordered i_at i_parts i_orders) (fun o => (0 ≤ o.1 ∧ o.1 ≤ 1) ∧ (1 ≤ o.2.1 ∧ o.2.1 ≤ 424) ∧ (0 ≤ o.2.2.1 ∧ o.2.2.1 ≤ 400) ∧ (0 ≤ o.2.2.2.1 ∧ o.2.2.2.1 ≤ 50) ∧ zR o.2.2.2.2 (-2147483648) 2147483647) := by
  intro n
  induction n with
  | zero => intro x1 x2 x3 x4 i_ordered i_at i_parts i_orders b_x1 b_x2 b_x3 b_x4 b_i_ordered b_i_at b_i_parts h_i_orders p_0 hm; exfalso; omega
  | succ n ih =>
    intro x1 x2 x3 x4 i_ordered i_at i_parts i_orders b_x1 b_x2 b_x3 b_x4 b_i_ordered b_i_at b_i_parts h_i_orders p_0 hm
    show zok (f_LawReader_readTest_7_b r_LawReader_readTest r_LawReader_readPlain i_tokens i_values (f_LawReader_readTest_7 r_LawReader_readTest r_LawReader_readPlain i_tokens i_values n) x1 x2 x3 x4 i_ordered i_at i_parts i_orders) _
    unfold f_LawReader_readTest_7_b
    refine zk_ifc (zci_le (by omega) (by omega)) (fun hc => ?_) (fun hc => ?_)
    · refine zk_ret ?_
      try dsimp only
      exact ⟨by omega, by omega, by omega, by omega, h_i_orders⟩
    · refine zk_d5 (hr_LawReader_readPlain _ _ _ _ _ _ _ (by omega) h_i_tokens (by omega) (by omega) (by omega) h_i_orders (by omega)) (fun v1 v2 v3 v4 a5 hp => ?_)
      try dsimp only at hp
      obtain ⟨hpp0, hpp1, hpp2, hpp3, hpp4⟩ := hp
      refine zk_ifc (zci_eqr (by omega)) (fun hc_2 => ?_) (fun hc_2 => ?_)
      · refine zk_ret ?_
        try dsimp only
        exact ⟨by omega, by omega, by omega, by omega, hpp4⟩
      · refine zk_d1 (s_LawReader_aimHere _ _ _ (by omega) (by omega) hpp4) (fun a6 hp_2 => ?_)
        try dsimp only at hp_2
        have hp_2p0 := hp_2
        refine zk_d2 (s_LawReader_pass _ _ _ (by omega) h_i_tokens (by omega)) (fun v7 v8 hp_3 => ?_)
        try dsimp only at hp_3
        obtain ⟨hp_3p0, hp_3p1⟩ := hp_3
        refine zk_ifc (zci_eqr (by omega)) (fun hc_3 => ?_) (fun hc_3 => ?_)
        · refine zk_d1 (s_LawReader_aimHere _ _ _ (by omega) (by omega) hp_2p0) (fun a9 hp_4 => ?_)
          try dsimp only at hp_4
          have hp_4p0 := hp_4
          refine zk_d2 (s_LawReader_pass _ _ _ (by omega) h_i_tokens (by omega)) (fun v10 v11 hp_5 => ?_)
          try dsimp only at hp_5
          obtain ⟨hp_5p0, hp_5p1⟩ := hp_5
          refine zk_ifc (zci_ner (by omega)) (fun hc_4 => ?_) (fun hc_4 => ?_)
          · refine zk_d3 (s_LawReader_order _ _ _ _ (by omega) (by omega) hp_4p0) (fun v12 v13 a14 hp_6 => ?_)
            try dsimp only at hp_6
            obtain ⟨hp_6p0, hp_6p1, hp_6p2⟩ := hp_6
            unfold f_LawReader_readTest_76
            refine zk_n ?_
            exact ih _ _ _ _ _ _ _ _ (by omega) (by omega) (by omega) (by omega) (by omega) (by omega) (by omega) hp_6p2 (by omega) (by omega)
          · refine zk_ret ?_
            try dsimp only
            exact ⟨by omega, by omega, by omega, by omega, hp_4p0⟩
        · refine zk_d3 (s_LawReader_order _ _ _ _ (by omega) (by omega) hp_2p0) (fun v15 v16 a17 hp_7 => ?_)
          try dsimp only at hp_7
          obtain ⟨hp_7p0, hp_7p1, hp_7p2⟩ := hp_7
          unfold f_LawReader_readTest_76
          refine zk_n ?_
          exact ih _ _ _ _ _ _ _ _ (by omega) (by omega) (by omega) (by omega) (by omega) (by omega) (by omega) hp_7p2 (by omega) (by omega)
set_option maxHeartbeats 4000000 in
theorem sb_LawReader_readTest (r_LawReader_readTest : Int → (Nat → Int) → (Nat → Int) → Int → Int → Int → (Nat → Int) → Option (Int × Int × Int × Int × (Nat → Int))) (r_LawReader_readPlain : Int → (Nat → Int) → (Nat → Int) → Int → Int → Int → (Nat → Int) → Option (Int × Int × Int × Int × (Nat → Int))) (Nr : Nat) (hr_LawReader_readTest : ∀ (x1 : Int) (i_tokens : Nat → Int) (i_values : Nat → Int) (i_ordered : Int) (i_at : Int) (i_parts : Int) (i_orders : Nat → Int), (0 ≤ x1 ∧ x1 ≤ 8) → (zR i_tokens 0 265) → (1 ≤ i_ordered ∧ i_ordered ≤ 424) → (0 ≤ i_at ∧ i_at ≤ 400) → (0 ≤ i_parts ∧ i_parts ≤ 50) → (zR i_orders (-2147483648) 2147483647) → (2 * (9 - x1) + 1) < (Nr : Int) → zok (r_LawReader_readTest x1 i_tokens i_values i_ordered i_at i_parts i_orders) (fun o => (0 ≤ o.1 ∧ o.1 ≤ 1) ∧ (1 ≤ o.2.1 ∧ o.2.1 ≤ 424) ∧ (0 ≤ o.2.2.1 ∧ o.2.2.1 ≤ 400) ∧ (0 ≤ o.2.2.2.1 ∧ o.2.2.2.1 ≤ 50) ∧ zR o.2.2.2.2 (-2147483648) 2147483647)) (hr_LawReader_readPlain : ∀ (x1 : Int) (i_tokens : Nat → Int) (i_values : Nat → Int) (i_ordered : Int) (i_at : Int) (i_parts : Int) (i_orders : Nat → Int), (0 ≤ x1 ∧ x1 ≤ 8) → (zR i_tokens 0 265) → (1 ≤ i_ordered ∧ i_ordered ≤ 424) → (0 ≤ i_at ∧ i_at ≤ 400) → (0 ≤ i_parts ∧ i_parts ≤ 50) → (zR i_orders (-2147483648) 2147483647) → (2 * (9 - x1)) < (Nr : Int) → zok (r_LawReader_readPlain x1 i_tokens i_values i_ordered i_at i_parts i_orders) (fun o => (0 ≤ o.1 ∧ o.1 ≤ 1) ∧ (1 ≤ o.2.1 ∧ o.2.1 ≤ 424) ∧ (0 ≤ o.2.2.1 ∧ o.2.2.1 ≤ 400) ∧ (0 ≤ o.2.2.2.1 ∧ o.2.2.2.1 ≤ 50) ∧ zR o.2.2.2.2 (-2147483648) 2147483647)) (x1 : Int) (i_tokens : Nat → Int) (i_values : Nat → Int) (i_ordered : Int) (i_at : Int) (i_parts : Int) (i_orders : Nat → Int) (b_x1 : 0 ≤ x1 ∧ x1 ≤ 8) (h_i_tokens : zR i_tokens 0 265) (b_i_ordered : 1 ≤ i_ordered ∧ i_ordered ≤ 424) (b_i_at : 0 ≤ i_at ∧ i_at ≤ 400) (b_i_parts : 0 ≤ i_parts ∧ i_parts ≤ 50) (h_i_orders : zR i_orders (-2147483648) 2147483647) (hd : (2 * (9 - x1) + 1) < (Nr : Int) + 1) : zok (fb_LawReader_readTest r_LawReader_readTest r_LawReader_readPlain x1 i_tokens i_values i_ordered i_at i_parts i_orders) (fun o => (0 ≤ o.1 ∧ o.1 ≤ 1) ∧ (1 ≤ o.2.1 ∧ o.2.1 ≤ 424) ∧ (0 ≤ o.2.2.1 ∧ o.2.2.1 ≤ 400) ∧ (0 ≤ o.2.2.2.1 ∧ o.2.2.2.1 ≤ 50) ∧ zR o.2.2.2.2 (-2147483648) 2147483647) := by
  unfold fb_LawReader_readTest
  exact s_LawReader_readTest_7 _ _ Nr hr_LawReader_readTest hr_LawReader_readPlain _ _ h_i_tokens zfu _ _ _ _ _ _ _ _ (by omega) (by omega) (by omega) (by omega) (by omega) (by omega) (by omega) h_i_orders (by omega) (by unfold zfu; omega)
set_option maxHeartbeats 4000000 in
theorem s_LawReader_readPlain_4 (r_LawReader_readTest : Int → (Nat → Int) → (Nat → Int) → Int → Int → Int → (Nat → Int) → Option (Int × Int × Int × Int × (Nat → Int))) (r_LawReader_readPlain : Int → (Nat → Int) → (Nat → Int) → Int → Int → Int → (Nat → Int) → Option (Int × Int × Int × Int × (Nat → Int))) (Nr : Nat) (hr_LawReader_readTest : ∀ (x1 : Int) (i_tokens : Nat → Int) (i_values : Nat → Int) (i_ordered : Int) (i_at : Int) (i_parts : Int) (i_orders : Nat → Int), (0 ≤ x1 ∧ x1 ≤ 8) → (zR i_tokens 0 265) → (1 ≤ i_ordered ∧ i_ordered ≤ 424) → (0 ≤ i_at ∧ i_at ≤ 400) → (0 ≤ i_parts ∧ i_parts ≤ 50) → (zR i_orders (-2147483648) 2147483647) → (2 * (9 - x1) + 1) < (Nr : Int) → zok (r_LawReader_readTest x1 i_tokens i_values i_ordered i_at i_parts i_orders) (fun o => (0 ≤ o.1 ∧ o.1 ≤ 1) ∧ (1 ≤ o.2.1 ∧ o.2.1 ≤ 424) ∧ (0 ≤ o.2.2.1 ∧ o.2.2.1 ≤ 400) ∧ (0 ≤ o.2.2.2.1 ∧ o.2.2.2.1 ≤ 50) ∧ zR o.2.2.2.2 (-2147483648) 2147483647)) (hr_LawReader_readPlain : ∀ (x1 : Int) (i_tokens : Nat → Int) (i_values : Nat → Int) (i_ordered : Int) (i_at : Int) (i_parts : Int) (i_orders : Nat → Int), (0 ≤ x1 ∧ x1 ≤ 8) → (zR i_tokens 0 265) → (1 ≤ i_ordered ∧ i_ordered ≤ 424) → (0 ≤ i_at ∧ i_at ≤ 400) → (0 ≤ i_parts ∧ i_parts ≤ 50) → (zR i_orders (-2147483648) 2147483647) → (2 * (9 - x1)) < (Nr : Int) → zok (r_LawReader_readPlain x1 i_tokens i_values i_ordered i_at i_parts i_orders) (fun o => (0 ≤ o.1 ∧ o.1 ≤ 1) ∧ (1 ≤ o.2.1 ∧ o.2.1 ≤ 424) ∧ (0 ≤ o.2.2.1 ∧ o.2.2.1 ≤ 400) ∧ (0 ≤ o.2.2.2.1 ∧ o.2.2.2.1 ≤ 50) ∧ zR o.2.2.2.2 (-2147483648) 2147483647)) (i_tokens : Nat → Int) (i_values : Nat → Int) (h_i_tokens : zR i_tokens 0 265) : ∀ (n : Nat) (x1 : Int) (x2 : Int) (x3 : Int) (i_ordered : Int) (i_at : Int) (i_parts : Int) (i_orders : Nat → Int), (0 ≤ x1 ∧ x1 ≤ 8) → (0 ≤ x2 ∧ x2 ≤ 1) → (0 ≤ x3 ∧ x3 ≤ 400) → (1 ≤ i_ordered ∧ i_ordered ≤ 424) → (0 ≤ i_at ∧ i_at ≤ 400) → (0 ≤ i_parts ∧ i_parts ≤ 50) → (zR i_orders (-2147483648) 2147483647) → (2 * (9 - x1) < (Nr : Int) + 1) → (401 - x3) < (n : Int) → zok (f_LawReader_readPlain_4 r_LawReader_readTest r_LawReader_readPlain i_tokens i_values n x1 x2 x3 i_ordered i_at i_parts i_orders) (fun o => (0 ≤ o.1 ∧ o.1 ≤ 1) ∧ (1 ≤ o.2.1 ∧ o.2.1 ≤ 424) ∧ (0 ≤ o.2.2.1 ∧ o.2.2.1 ≤ 400) ∧ (0 ≤ o.2.2.2.1 ∧ o.2.2.2.1 ≤ 50) ∧ zR o.2.2.2.2 (-2147483648) 2147483647) := by
  intro n
  induction n with
  | zero => intro x1 x2 x3 i_ordered i_at i_parts i_orders b_x1 b_x2 b_x3 b_i_ordered b_i_at b_i_parts h_i_orders p_0 hm; exfalso; omega
  | succ n ih =>
    intro x1 x2 x3 i_ordered i_at i_parts i_orders b_x1 b_x2 b_x3 b_i_ordered b_i_at b_i_parts h_i_orders p_0 hm
    show zok (f_LawReader_readPlain_4_b r_LawReader_readTest r_LawReader_readPlain i_tokens i_values (f_LawReader_readPlain_4 r_LawReader_readTest r_LawReader_readPlain i_tokens i_values n) x1 x2 x3 i_ordered i_at i_parts i_orders) _
    unfold f_LawReader_readPlain_4_b
    refine zk_ifc (zci_le (by omega) (by omega)) (fun hc => ?_) (fun hc => ?_)
    · unfold f_LawReader_readPlain_37
      refine zk_gv (by omega) (by decide) (fun v1 h_v1 => ?_)
      have r_v1 := h_i_tokens (i_at.toNat)
      refine zk_ifc (zci_ne (by omega) (by omega)) (fun hc_2 => ?_) (fun hc_2 => ?_)
      · refine zk_d5 (s_LawReader_readSum _ _ _ _ _ _ _ (by omega) h_i_tokens (by omega) (by omega) (by omega) h_i_orders) (fun v2 v3 v4 v5 a6 hp => ?_)
        try dsimp only at hp
        obtain ⟨hpp0, hpp1, hpp2, hpp3, hpp4⟩ := hp
        refine zk_ifc (zci_ner (by omega)) (fun hc_3 => ?_) (fun hc_3 => ?_)
        · refine zk_gv (by omega) (by decide) (fun v7 h_v7 => ?_)
          have r_v7 := h_i_tokens (v4.toNat)
          refine zk_d1 (s_LawReader_comparisonOf _ (by omega)) (fun v8 hp_2 => ?_)
          try dsimp only at hp_2
          obtain ⟨hp_2p0, hp_2p1⟩ := hp_2
          refine zk_ifc (zci_eq (by omega) (by omega)) (fun hc_4 => ?_) (fun hc_4 => ?_)
          · refine zk_ret ?_
            try dsimp only
            exact ⟨by omega, by omega, by omega, by omega, hpp4⟩
          · refine zk_gv (by omega) (by decide) (fun v9 h_v9 => ?_)
            have r_v9 := h_i_tokens (v4.toNat)
            refine zk_d2 (s_LawReader_pass _ _ _ (by omega) h_i_tokens (by omega)) (fun v10 v11 hp_3 => ?_)
            try dsimp only at hp_3
            obtain ⟨hp_3p0, hp_3p1⟩ := hp_3
            refine zk_ifc (zci_eqr (by omega)) (fun hc_5 => ?_) (fun hc_5 => ?_)
            · refine zk_ret ?_
              try dsimp only
              exact ⟨by omega, by omega, by omega, by omega, hpp4⟩
            · refine zk_d5 (s_LawReader_readSum _ _ _ _ _ _ _ (by omega) h_i_tokens (by omega) (by omega) (by omega) hpp4) (fun v12 v13 v14 v15 a16 hp_4 => ?_)
              try dsimp only at hp_4
              obtain ⟨hp_4p0, hp_4p1, hp_4p2, hp_4p3, hp_4p4⟩ := hp_4
              refine zk_ifc (zci_ner (by omega)) (fun hc_6 => ?_) (fun hc_6 => ?_)
              · refine zk_d3 (s_LawReader_order _ _ _ _ (by omega) (by omega) hp_4p4) (fun v17 v18 a19 hp_5 => ?_)
                try dsimp only at hp_5
                obtain ⟨hp_5p0, hp_5p1, hp_5p2⟩ := hp_5
                unfold f_LawReader_readPlain_148
                refine zk_ifc (zci_eqr (by omega)) (fun hc_7 => ?_) (fun hc_7 => ?_)
                · refine zk_ret ?_
                  try dsimp only
                  exact ⟨by omega, by omega, by omega, by omega, hp_5p2⟩
                · refine zk_d3 (s_LawReader_order _ _ _ _ (by omega) (by omega) hp_5p2) (fun v1_2 v2_2 a3 hp_6 => ?_)
                  try dsimp only at hp_6
                  obtain ⟨hp_6p0, hp_6p1, hp_6p2⟩ := hp_6
                  refine zk_ret ?_
                  try dsimp only
                  exact ⟨by omega, by omega, by omega, by omega, hp_6p2⟩
              · refine zk_ret ?_
                try dsimp only
                exact ⟨by omega, by omega, by omega, by omega, hp_4p4⟩
        · refine zk_ret ?_
          try dsimp only
          exact ⟨by omega, by omega, by omega, by omega, hpp4⟩
      · refine zk_ifc (zci_le (by omega) (by omega)) (fun hc_8 => ?_) (fun hc_8 => ?_)
        · refine zk_ret ?_
          try dsimp only
          exact ⟨by omega, by omega, by omega, by omega, h_i_orders⟩
        · refine zk_d2 (s_LawReader_pass _ _ _ (by omega) h_i_tokens (by omega)) (fun v20 v21 hp_7 => ?_)
          try dsimp only at hp_7
          obtain ⟨hp_7p0, hp_7p1⟩ := hp_7
          refine zk_ifc (zci_eqr (by omega)) (fun hc_9 => ?_) (fun hc_9 => ?_)
          · refine zk_ret ?_
            try dsimp only
            exact ⟨by omega, by omega, by omega, by omega, h_i_orders⟩
          · refine zk_n ?_
            refine zk_d5 (hr_LawReader_readTest _ _ _ _ _ _ _ (by omega) h_i_tokens (by omega) (by omega) (by omega) h_i_orders (by omega)) (fun v23 v24 v25 v26 a27 hp_8 => ?_)
            try dsimp only at hp_8
            obtain ⟨hp_8p0, hp_8p1, hp_8p2, hp_8p3, hp_8p4⟩ := hp_8
            refine zk_ifc (zci_eqr (by omega)) (fun hc_10 => ?_) (fun hc_10 => ?_)
            · refine zk_ret ?_
              try dsimp only
              exact ⟨by omega, by omega, by omega, by omega, hp_8p4⟩
            · refine zk_d2 (s_LawReader_pass _ _ _ (by omega) h_i_tokens (by omega)) (fun v28 v29 hp_9 => ?_)
              try dsimp only at hp_9
              obtain ⟨hp_9p0, hp_9p1⟩ := hp_9
              refine zk_ifc (zci_ner (by omega)) (fun hc_11 => ?_) (fun hc_11 => ?_)
              · unfold f_LawReader_readPlain_148
                refine zk_ifc (zci_eqr (by omega)) (fun hc_12 => ?_) (fun hc_12 => ?_)
                · refine zk_ret ?_
                  try dsimp only
                  exact ⟨by omega, by omega, by omega, by omega, hp_8p4⟩
                · refine zk_d3 (s_LawReader_order _ _ _ _ (by omega) (by omega) hp_8p4) (fun v1_3 v2_3 a3_2 hp_10 => ?_)
                  try dsimp only at hp_10
                  obtain ⟨hp_10p0, hp_10p1, hp_10p2⟩ := hp_10
                  refine zk_ret ?_
                  try dsimp only
                  exact ⟨by omega, by omega, by omega, by omega, hp_10p2⟩
              · refine zk_ret ?_
                try dsimp only
                exact ⟨by omega, by omega, by omega, by omega, hp_8p4⟩
    · refine zk_d2 (s_LawReader_pass _ _ _ (by omega) h_i_tokens (by omega)) (fun v1_4 v2_4 hp_11 => ?_)
      try dsimp only at hp_11
      obtain ⟨hp_11p0, hp_11p1⟩ := hp_11
      refine zk_ifc (zci_eqr (by omega)) (fun hc_13 => ?_) (fun hc_13 => ?_)
      · unfold f_LawReader_readPlain_37
        refine zk_gv (by omega) (by decide) (fun v1_5 h_v1_5 => ?_)
        have r_v1_5 := h_i_tokens (v2_4.toNat)
        refine zk_ifc (zci_ne (by omega) (by omega)) (fun hc_14 => ?_) (fun hc_14 => ?_)
        · refine zk_d5 (s_LawReader_readSum _ _ _ _ _ _ _ (by omega) h_i_tokens (by omega) (by omega) (by omega) h_i_orders) (fun v2_5 v3_2 v4_2 v5_2 a6_2 hp_12 => ?_)
          try dsimp only at hp_12
          obtain ⟨hp_12p0, hp_12p1, hp_12p2, hp_12p3, hp_12p4⟩ := hp_12
          refine zk_ifc (zci_ner (by omega)) (fun hc_15 => ?_) (fun hc_15 => ?_)
          · refine zk_gv (by omega) (by decide) (fun v7_2 h_v7_2 => ?_)
            have r_v7_2 := h_i_tokens (v4_2.toNat)
            refine zk_d1 (s_LawReader_comparisonOf _ (by omega)) (fun v8_2 hp_13 => ?_)
            try dsimp only at hp_13
            obtain ⟨hp_13p0, hp_13p1⟩ := hp_13
            refine zk_ifc (zci_eq (by omega) (by omega)) (fun hc_16 => ?_) (fun hc_16 => ?_)
            · refine zk_ret ?_
              try dsimp only
              exact ⟨by omega, by omega, by omega, by omega, hp_12p4⟩
            · refine zk_gv (by omega) (by decide) (fun v9_2 h_v9_2 => ?_)
              have r_v9_2 := h_i_tokens (v4_2.toNat)
              refine zk_d2 (s_LawReader_pass _ _ _ (by omega) h_i_tokens (by omega)) (fun v10_2 v11_2 hp_14 => ?_)
              try dsimp only at hp_14
              obtain ⟨hp_14p0, hp_14p1⟩ := hp_14
              refine zk_ifc (zci_eqr (by omega)) (fun hc_17 => ?_) (fun hc_17 => ?_)
              · refine zk_ret ?_
                try dsimp only
                exact ⟨by omega, by omega, by omega, by omega, hp_12p4⟩
              · refine zk_d5 (s_LawReader_readSum _ _ _ _ _ _ _ (by omega) h_i_tokens (by omega) (by omega) (by omega) hp_12p4) (fun v12_2 v13_2 v14_2 v15_2 a16_2 hp_15 => ?_)
                try dsimp only at hp_15
                obtain ⟨hp_15p0, hp_15p1, hp_15p2, hp_15p3, hp_15p4⟩ := hp_15
                refine zk_ifc (zci_ner (by omega)) (fun hc_18 => ?_) (fun hc_18 => ?_)
                · refine zk_d3 (s_LawReader_order _ _ _ _ (by omega) (by omega) hp_15p4) (fun v17_2 v18_2 a19_2 hp_16 => ?_)
                  try dsimp only at hp_16
                  obtain ⟨hp_16p0, hp_16p1, hp_16p2⟩ := hp_16
                  unfold f_LawReader_readPlain_148
                  refine zk_ifc (zci_eqr (by omega)) (fun hc_19 => ?_) (fun hc_19 => ?_)
                  · refine zk_ret ?_
                    try dsimp only
                    exact ⟨by omega, by omega, by omega, by omega, hp_16p2⟩
                  · refine zk_d3 (s_LawReader_order _ _ _ _ (by omega) (by omega) hp_16p2) (fun v1_6 v2_6 a3_3 hp_17 => ?_)
                    try dsimp only at hp_17
                    obtain ⟨hp_17p0, hp_17p1, hp_17p2⟩ := hp_17
                    refine zk_ret ?_
                    try dsimp only
                    exact ⟨by omega, by omega, by omega, by omega, hp_17p2⟩
                · refine zk_ret ?_
                  try dsimp only
                  exact ⟨by omega, by omega, by omega, by omega, hp_15p4⟩
          · refine zk_ret ?_
            try dsimp only
            exact ⟨by omega, by omega, by omega, by omega, hp_12p4⟩
        · refine zk_ifc (zci_le (by omega) (by omega)) (fun hc_20 => ?_) (fun hc_20 => ?_)
          · refine zk_ret ?_
            try dsimp only
            exact ⟨by omega, by omega, by omega, by omega, h_i_orders⟩
          · refine zk_d2 (s_LawReader_pass _ _ _ (by omega) h_i_tokens (by omega)) (fun v20_2 v21_2 hp_18 => ?_)
            try dsimp only at hp_18
            obtain ⟨hp_18p0, hp_18p1⟩ := hp_18
            refine zk_ifc (zci_eqr (by omega)) (fun hc_21 => ?_) (fun hc_21 => ?_)
            · refine zk_ret ?_
              try dsimp only
              exact ⟨by omega, by omega, by omega, by omega, h_i_orders⟩
            · refine zk_n ?_
              refine zk_d5 (hr_LawReader_readTest _ _ _ _ _ _ _ (by omega) h_i_tokens (by omega) (by omega) (by omega) h_i_orders (by omega)) (fun v23_2 v24_2 v25_2 v26_2 a27_2 hp_19 => ?_)
              try dsimp only at hp_19
              obtain ⟨hp_19p0, hp_19p1, hp_19p2, hp_19p3, hp_19p4⟩ := hp_19
              refine zk_ifc (zci_eqr (by omega)) (fun hc_22 => ?_) (fun hc_22 => ?_)
              · refine zk_ret ?_
                try dsimp only
                exact ⟨by omega, by omega, by omega, by omega, hp_19p4⟩
              · refine zk_d2 (s_LawReader_pass _ _ _ (by omega) h_i_tokens (by omega)) (fun v28_2 v29_2 hp_20 => ?_)
                try dsimp only at hp_20
                obtain ⟨hp_20p0, hp_20p1⟩ := hp_20
                refine zk_ifc (zci_ner (by omega)) (fun hc_23 => ?_) (fun hc_23 => ?_)
                · unfold f_LawReader_readPlain_148
                  refine zk_ifc (zci_eqr (by omega)) (fun hc_24 => ?_) (fun hc_24 => ?_)
                  · refine zk_ret ?_
                    try dsimp only
                    exact ⟨by omega, by omega, by omega, by omega, hp_19p4⟩
                  · refine zk_d3 (s_LawReader_order _ _ _ _ (by omega) (by omega) hp_19p4) (fun v1_7 v2_7 a3_4 hp_21 => ?_)
                    try dsimp only at hp_21
                    obtain ⟨hp_21p0, hp_21p1, hp_21p2⟩ := hp_21
                    refine zk_ret ?_
                    try dsimp only
                    exact ⟨by omega, by omega, by omega, by omega, hp_21p2⟩
                · refine zk_ret ?_
                  try dsimp only
                  exact ⟨by omega, by omega, by omega, by omega, hp_19p4⟩
      · refine zk_ifc (zci_ner (by omega)) (fun hc_25 => ?_) (fun hc_25 => ?_)
        · unfold f_LawReader_readPlain_30
          refine zk_n ?_
          exact ih _ _ _ _ _ _ _ (by omega) (by omega) (by omega) (by omega) (by omega) (by omega) h_i_orders (by omega) (by omega)
        · unfold f_LawReader_readPlain_30
          refine zk_n ?_
          exact ih _ _ _ _ _ _ _ (by omega) (by omega) (by omega) (by omega) (by omega) (by omega) h_i_orders (by omega) (by omega)
set_option maxHeartbeats 4000000 in
theorem sb_LawReader_readPlain (r_LawReader_readTest : Int → (Nat → Int) → (Nat → Int) → Int → Int → Int → (Nat → Int) → Option (Int × Int × Int × Int × (Nat → Int))) (r_LawReader_readPlain : Int → (Nat → Int) → (Nat → Int) → Int → Int → Int → (Nat → Int) → Option (Int × Int × Int × Int × (Nat → Int))) (Nr : Nat) (hr_LawReader_readTest : ∀ (x1 : Int) (i_tokens : Nat → Int) (i_values : Nat → Int) (i_ordered : Int) (i_at : Int) (i_parts : Int) (i_orders : Nat → Int), (0 ≤ x1 ∧ x1 ≤ 8) → (zR i_tokens 0 265) → (1 ≤ i_ordered ∧ i_ordered ≤ 424) → (0 ≤ i_at ∧ i_at ≤ 400) → (0 ≤ i_parts ∧ i_parts ≤ 50) → (zR i_orders (-2147483648) 2147483647) → (2 * (9 - x1) + 1) < (Nr : Int) → zok (r_LawReader_readTest x1 i_tokens i_values i_ordered i_at i_parts i_orders) (fun o => (0 ≤ o.1 ∧ o.1 ≤ 1) ∧ (1 ≤ o.2.1 ∧ o.2.1 ≤ 424) ∧ (0 ≤ o.2.2.1 ∧ o.2.2.1 ≤ 400) ∧ (0 ≤ o.2.2.2.1 ∧ o.2.2.2.1 ≤ 50) ∧ zR o.2.2.2.2 (-2147483648) 2147483647)) (hr_LawReader_readPlain : ∀ (x1 : Int) (i_tokens : Nat → Int) (i_values : Nat → Int) (i_ordered : Int) (i_at : Int) (i_parts : Int) (i_orders : Nat → Int), (0 ≤ x1 ∧ x1 ≤ 8) → (zR i_tokens 0 265) → (1 ≤ i_ordered ∧ i_ordered ≤ 424) → (0 ≤ i_at ∧ i_at ≤ 400) → (0 ≤ i_parts ∧ i_parts ≤ 50) → (zR i_orders (-2147483648) 2147483647) → (2 * (9 - x1)) < (Nr : Int) → zok (r_LawReader_readPlain x1 i_tokens i_values i_ordered i_at i_parts i_orders) (fun o => (0 ≤ o.1 ∧ o.1 ≤ 1) ∧ (1 ≤ o.2.1 ∧ o.2.1 ≤ 424) ∧ (0 ≤ o.2.2.1 ∧ o.2.2.1 ≤ 400) ∧ (0 ≤ o.2.2.2.1 ∧ o.2.2.2.1 ≤ 50) ∧ zR o.2.2.2.2 (-2147483648) 2147483647)) (x1 : Int) (i_tokens : Nat → Int) (i_values : Nat → Int) (i_ordered : Int) (i_at : Int) (i_parts : Int) (i_orders : Nat → Int) (b_x1 : 0 ≤ x1 ∧ x1 ≤ 8) (h_i_tokens : zR i_tokens 0 265) (b_i_ordered : 1 ≤ i_ordered ∧ i_ordered ≤ 424) (b_i_at : 0 ≤ i_at ∧ i_at ≤ 400) (b_i_parts : 0 ≤ i_parts ∧ i_parts ≤ 50) (h_i_orders : zR i_orders (-2147483648) 2147483647) (hd : (2 * (9 - x1)) < (Nr : Int) + 1) : zok (fb_LawReader_readPlain r_LawReader_readTest r_LawReader_readPlain x1 i_tokens i_values i_ordered i_at i_parts i_orders) (fun o => (0 ≤ o.1 ∧ o.1 ≤ 1) ∧ (1 ≤ o.2.1 ∧ o.2.1 ≤ 424) ∧ (0 ≤ o.2.2.1 ∧ o.2.2.1 ≤ 400) ∧ (0 ≤ o.2.2.2.1 ∧ o.2.2.2.1 ≤ 50) ∧ zR o.2.2.2.2 (-2147483648) 2147483647) := by
  unfold fb_LawReader_readPlain
  exact s_LawReader_readPlain_4 _ _ Nr hr_LawReader_readTest hr_LawReader_readPlain _ _ h_i_tokens zfu _ _ _ _ _ _ _ (by omega) (by omega) (by omega) (by omega) (by omega) (by omega) h_i_orders (by omega) (by unfold zfu; omega)
theorem sg_LawReader_readTest : ∀ n : Nat, (∀ (x1 : Int) (i_tokens : Nat → Int) (i_values : Nat → Int) (i_ordered : Int) (i_at : Int) (i_parts : Int) (i_orders : Nat → Int), (0 ≤ x1 ∧ x1 ≤ 8) → (zR i_tokens 0 265) → (1 ≤ i_ordered ∧ i_ordered ≤ 424) → (0 ≤ i_at ∧ i_at ≤ 400) → (0 ≤ i_parts ∧ i_parts ≤ 50) → (zR i_orders (-2147483648) 2147483647) → (2 * (9 - x1) + 1) < (n : Int) → zok ((g_LawReader_readTest n).1 x1 i_tokens i_values i_ordered i_at i_parts i_orders) (fun o => (0 ≤ o.1 ∧ o.1 ≤ 1) ∧ (1 ≤ o.2.1 ∧ o.2.1 ≤ 424) ∧ (0 ≤ o.2.2.1 ∧ o.2.2.1 ≤ 400) ∧ (0 ≤ o.2.2.2.1 ∧ o.2.2.2.1 ≤ 50) ∧ zR o.2.2.2.2 (-2147483648) 2147483647)) ∧ (∀ (x1 : Int) (i_tokens : Nat → Int) (i_values : Nat → Int) (i_ordered : Int) (i_at : Int) (i_parts : Int) (i_orders : Nat → Int), (0 ≤ x1 ∧ x1 ≤ 8) → (zR i_tokens 0 265) → (1 ≤ i_ordered ∧ i_ordered ≤ 424) → (0 ≤ i_at ∧ i_at ≤ 400) → (0 ≤ i_parts ∧ i_parts ≤ 50) → (zR i_orders (-2147483648) 2147483647) → (2 * (9 - x1)) < (n : Int) → zok ((g_LawReader_readTest n).2 x1 i_tokens i_values i_ordered i_at i_parts i_orders) (fun o => (0 ≤ o.1 ∧ o.1 ≤ 1) ∧ (1 ≤ o.2.1 ∧ o.2.1 ≤ 424) ∧ (0 ≤ o.2.2.1 ∧ o.2.2.1 ≤ 400) ∧ (0 ≤ o.2.2.2.1 ∧ o.2.2.2.1 ≤ 50) ∧ zR o.2.2.2.2 (-2147483648) 2147483647)) := by
  intro n
  induction n with
  | zero => exact ⟨fun x0 x1 x2 x3 x4 x5 x6 p0 p1 p2 p3 p4 p5 hd => absurd hd (by omega), fun x0 x1 x2 x3 x4 x5 x6 p0 p1 p2 p3 p4 p5 hd => absurd hd (by omega)⟩
  | succ n ih => exact ⟨fun x0 x1 x2 x3 x4 x5 x6 p0 p1 p2 p3 p4 p5 hd => sb_LawReader_readTest _ _ n (ih.1) (ih.2) x0 x1 x2 x3 x4 x5 x6 p0 p1 p2 p3 p4 p5 (by omega), fun x0 x1 x2 x3 x4 x5 x6 p0 p1 p2 p3 p4 p5 hd => sb_LawReader_readPlain _ _ n (ih.1) (ih.2) x0 x1 x2 x3 x4 x5 x6 p0 p1 p2 p3 p4 p5 (by omega)⟩
theorem s_LawReader_readTest (x1 : Int) (i_tokens : Nat → Int) (i_values : Nat → Int) (i_ordered : Int) (i_at : Int) (i_parts : Int) (i_orders : Nat → Int) (b_x1 : 0 ≤ x1 ∧ x1 ≤ 8) (h_i_tokens : zR i_tokens 0 265) (b_i_ordered : 1 ≤ i_ordered ∧ i_ordered ≤ 424) (b_i_at : 0 ≤ i_at ∧ i_at ≤ 400) (b_i_parts : 0 ≤ i_parts ∧ i_parts ≤ 50) (h_i_orders : zR i_orders (-2147483648) 2147483647) : zok (f_LawReader_readTest x1 i_tokens i_values i_ordered i_at i_parts i_orders) (fun o => (0 ≤ o.1 ∧ o.1 ≤ 1) ∧ (1 ≤ o.2.1 ∧ o.2.1 ≤ 424) ∧ (0 ≤ o.2.2.1 ∧ o.2.2.1 ≤ 400) ∧ (0 ≤ o.2.2.2.1 ∧ o.2.2.2.1 ≤ 50) ∧ zR o.2.2.2.2 (-2147483648) 2147483647) :=
  (sg_LawReader_readTest zdp).1 x1 i_tokens i_values i_ordered i_at i_parts i_orders b_x1 h_i_tokens b_i_ordered b_i_at b_i_parts h_i_orders (by unfold zdp; omega)
theorem s_LawReader_readPlain (x1 : Int) (i_tokens : Nat → Int) (i_values : Nat → Int) (i_ordered : Int) (i_at : Int) (i_parts : Int) (i_orders : Nat → Int) (b_x1 : 0 ≤ x1 ∧ x1 ≤ 8) (h_i_tokens : zR i_tokens 0 265) (b_i_ordered : 1 ≤ i_ordered ∧ i_ordered ≤ 424) (b_i_at : 0 ≤ i_at ∧ i_at ≤ 400) (b_i_parts : 0 ≤ i_parts ∧ i_parts ≤ 50) (h_i_orders : zR i_orders (-2147483648) 2147483647) : zok (f_LawReader_readPlain x1 i_tokens i_values i_ordered i_at i_parts i_orders) (fun o => (0 ≤ o.1 ∧ o.1 ≤ 1) ∧ (1 ≤ o.2.1 ∧ o.2.1 ≤ 424) ∧ (0 ≤ o.2.2.1 ∧ o.2.2.1 ≤ 400) ∧ (0 ≤ o.2.2.2.1 ∧ o.2.2.2.1 ≤ 50) ∧ zR o.2.2.2.2 (-2147483648) 2147483647) :=
  (sg_LawReader_readTest zdp).2 x1 i_tokens i_values i_ordered i_at i_parts i_orders b_x1 h_i_tokens b_i_ordered b_i_at b_i_parts h_i_orders (by unfold zdp; omega)
set_option maxHeartbeats 4000000 in
theorem s_LawReader_readClause (i_tokens : Nat → Int) (i_values : Nat → Int) (i_ordered : Int) (i_at : Int) (i_parts : Int) (i_orders : Nat → Int) (h_i_tokens : zR i_tokens 0 265) (b_i_ordered : 0 ≤ i_ordered ∧ i_ordered ≤ 424) (b_i_at : 0 ≤ i_at ∧ i_at ≤ 400) (b_i_parts : 0 ≤ i_parts ∧ i_parts ≤ 50) (h_i_orders : zR i_orders (-2147483648) 2147483647) : zok (f_LawReader_readClause i_tokens i_values i_ordered i_at i_parts i_orders) (fun o => (0 ≤ o.1 ∧ o.1 ≤ 1) ∧ (1 ≤ o.2.1 ∧ o.2.1 ≤ 424) ∧ (0 ≤ o.2.2.1 ∧ o.2.2.1 ≤ 400) ∧ (0 ≤ o.2.2.2.1 ∧ o.2.2.2.1 ≤ 50) ∧ zR o.2.2.2.2 (-2147483648) 2147483647) := by
  unfold f_LawReader_readClause
  refine zk_d3 (s_LawReader_order _ _ _ _ (by omega) (by omega) h_i_orders) (fun v1 v2 a3 hp => ?_)
  try dsimp only at hp
  obtain ⟨hpp0, hpp1, hpp2⟩ := hp
  refine zk_d2 (s_LawReader_pass _ _ _ (by omega) h_i_tokens (by omega)) (fun v4 v5 hp_2 => ?_)
  try dsimp only at hp_2
  obtain ⟨hp_2p0, hp_2p1⟩ := hp_2
  refine zk_ifc (zci_eqr (by omega)) (fun hc => ?_) (fun hc => ?_)
  · refine zk_d2 (s_LawReader_pass _ _ _ (by omega) h_i_tokens (by omega)) (fun v6 v7 hp_3 => ?_)
    try dsimp only at hp_3
    obtain ⟨hp_3p0, hp_3p1⟩ := hp_3
    refine zk_ifc (zci_ner (by omega)) (fun hc_2 => ?_) (fun hc_2 => ?_)
    · unfold f_LawReader_readClause_42
      refine zk_d2 (s_LawReader_pass _ _ _ (by omega) h_i_tokens (by omega)) (fun v1_2 v2_2 hp_4 => ?_)
      try dsimp only at hp_4
      obtain ⟨hp_4p0, hp_4p1⟩ := hp_4
      refine zk_ifc (zci_ner (by omega)) (fun hc_3 => ?_) (fun hc_3 => ?_)
      · refine zk_d5 (s_LawReader_readTest _ _ _ _ _ _ _ (by omega) h_i_tokens (by omega) (by omega) (by omega) hpp2) (fun v3 v4_2 v5_2 v6_2 a7 hp_5 => ?_)
        try dsimp only at hp_5
        obtain ⟨hp_5p0, hp_5p1, hp_5p2, hp_5p3, hp_5p4⟩ := hp_5
        refine zk_ifc (zci_ner (by omega)) (fun hc_4 => ?_) (fun hc_4 => ?_)
        · unfold f_LawReader_readClause_72
          refine zk_ifc (zci_eqr (by omega)) (fun hc_5 => ?_) (fun hc_5 => ?_)
          · unfold f_LawReader_readClause_84
            refine zk_d3 (s_LawReader_order _ _ _ _ (by omega) (by omega) hp_5p4) (fun v1_3 v2_3 a3_2 hp_6 => ?_)
            try dsimp only at hp_6
            obtain ⟨hp_6p0, hp_6p1, hp_6p2⟩ := hp_6
            refine zk_d1 (s_LawReader_aimHere _ _ _ (by omega) (by omega) hp_6p2) (fun a4 hp_7 => ?_)
            try dsimp only at hp_7
            have hp_7p0 := hp_7
            refine zk_ret ?_
            try dsimp only
            exact ⟨by omega, by omega, by omega, by omega, hp_7p0⟩
          · exfalso; omega
        · refine zk_ret ?_
          try dsimp only
          exact ⟨by omega, by omega, by omega, by omega, hp_5p4⟩
      · refine zk_d3 (s_LawReader_order _ _ _ _ (by omega) (by omega) hpp2) (fun v8 v9 a10 hp_8 => ?_)
        try dsimp only at hp_8
        obtain ⟨hp_8p0, hp_8p1, hp_8p2⟩ := hp_8
        unfold f_LawReader_readClause_72
        refine zk_ifc (zci_eqr (by omega)) (fun hc_6 => ?_) (fun hc_6 => ?_)
        · unfold f_LawReader_readClause_84
          refine zk_d3 (s_LawReader_order _ _ _ _ (by omega) (by omega) hp_8p2) (fun v1_4 v2_4 a3_3 hp_9 => ?_)
          try dsimp only at hp_9
          obtain ⟨hp_9p0, hp_9p1, hp_9p2⟩ := hp_9
          refine zk_d1 (s_LawReader_aimHere _ _ _ (by omega) (by omega) hp_9p2) (fun a4_2 hp_10 => ?_)
          try dsimp only at hp_10
          have hp_10p0 := hp_10
          refine zk_ret ?_
          try dsimp only
          exact ⟨by omega, by omega, by omega, by omega, hp_10p0⟩
        · exfalso; omega
    · refine zk_ret ?_
      try dsimp only
      exact ⟨by omega, by omega, by omega, by omega, hpp2⟩
  · refine zk_d5 (s_LawReader_readSum _ _ _ _ _ _ _ (by omega) h_i_tokens (by omega) (by omega) (by omega) hpp2) (fun v8_2 v9_2 v10 v11 a12 hp_11 => ?_)
    try dsimp only at hp_11
    obtain ⟨hp_11p0, hp_11p1, hp_11p2, hp_11p3, hp_11p4⟩ := hp_11
    refine zk_ifc (zci_ner (by omega)) (fun hc_7 => ?_) (fun hc_7 => ?_)
    · unfold f_LawReader_readClause_42
      refine zk_d2 (s_LawReader_pass _ _ _ (by omega) h_i_tokens (by omega)) (fun v1_5 v2_5 hp_12 => ?_)
      try dsimp only at hp_12
      obtain ⟨hp_12p0, hp_12p1⟩ := hp_12
      refine zk_ifc (zci_ner (by omega)) (fun hc_8 => ?_) (fun hc_8 => ?_)
      · refine zk_d5 (s_LawReader_readTest _ _ _ _ _ _ _ (by omega) h_i_tokens (by omega) (by omega) (by omega) hp_11p4) (fun v3_2 v4_3 v5_3 v6_3 a7_2 hp_13 => ?_)
        try dsimp only at hp_13
        obtain ⟨hp_13p0, hp_13p1, hp_13p2, hp_13p3, hp_13p4⟩ := hp_13
        refine zk_ifc (zci_ner (by omega)) (fun hc_9 => ?_) (fun hc_9 => ?_)
        · unfold f_LawReader_readClause_72
          refine zk_ifc (zci_eqr (by omega)) (fun hc_10 => ?_) (fun hc_10 => ?_)
          · exfalso; omega
          · unfold f_LawReader_readClause_84
            refine zk_d3 (s_LawReader_order _ _ _ _ (by omega) (by omega) hp_13p4) (fun v1_6 v2_6 a3_4 hp_14 => ?_)
            try dsimp only at hp_14
            obtain ⟨hp_14p0, hp_14p1, hp_14p2⟩ := hp_14
            refine zk_d1 (s_LawReader_aimHere _ _ _ (by omega) (by omega) hp_14p2) (fun a4_3 hp_15 => ?_)
            try dsimp only at hp_15
            have hp_15p0 := hp_15
            refine zk_ret ?_
            try dsimp only
            exact ⟨by omega, by omega, by omega, by omega, hp_15p0⟩
        · refine zk_ret ?_
          try dsimp only
          exact ⟨by omega, by omega, by omega, by omega, hp_13p4⟩
      · refine zk_d3 (s_LawReader_order _ _ _ _ (by omega) (by omega) hp_11p4) (fun v8_3 v9_3 a10_2 hp_16 => ?_)
        try dsimp only at hp_16
        obtain ⟨hp_16p0, hp_16p1, hp_16p2⟩ := hp_16
        unfold f_LawReader_readClause_72
        refine zk_ifc (zci_eqr (by omega)) (fun hc_11 => ?_) (fun hc_11 => ?_)
        · exfalso; omega
        · unfold f_LawReader_readClause_84
          refine zk_d3 (s_LawReader_order _ _ _ _ (by omega) (by omega) hp_16p2) (fun v1_7 v2_7 a3_5 hp_17 => ?_)
          try dsimp only at hp_17
          obtain ⟨hp_17p0, hp_17p1, hp_17p2⟩ := hp_17
          refine zk_d1 (s_LawReader_aimHere _ _ _ (by omega) (by omega) hp_17p2) (fun a4_4 hp_18 => ?_)
          try dsimp only at hp_18
          have hp_18p0 := hp_18
          refine zk_ret ?_
          try dsimp only
          exact ⟨by omega, by omega, by omega, by omega, hp_18p0⟩
    · refine zk_ret ?_
      try dsimp only
      exact ⟨by omega, by omega, by omega, by omega, hp_11p4⟩
