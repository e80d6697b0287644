set_option maxHeartbeats 4000000 in
theorem s_Scales_sets (x1 : Int) (i_hill_changes : Int) (i_hill_columns_many : Int) (i_hill_columns_heights : Nat → Int) (i_hill_columns_weights : Nat → Int) (i_version : Int) (i_setsBy : Nat → Int) (b_x1 : (-2147483648) ≤ x1 ∧ x1 ≤ 2147483647) (b_i_hill_columns_many : 0 ≤ i_hill_columns_many ∧ i_hill_columns_many ≤ 12) (h_i_hill_columns_heights : zR i_hill_columns_heights 0 10) (h_i_hill_columns_weights : zR i_hill_columns_weights 0 30) (h_i_setsBy : zR i_setsBy 0 1000000000) : zok (f_Scales_sets x1 i_hill_changes i_hill_columns_many i_hill_columns_heights i_hill_columns_weights i_version i_setsBy) (fun o => ((-1) ≤ o.1 ∧ o.1 ≤ 1000000000) ∧ zR o.2.2 0 1000000000) := by
  unfold f_Scales_sets
  refine zk_ifc (zci_ltr (by omega)) (fun hc => ?_) (fun hc => ?_)
  · refine zk_ret ?_
    try dsimp only
    exact ⟨by omega, h_i_setsBy⟩
  · refine zk_ifc (zci_le (by omega) (by omega)) (fun hc_2 => ?_) (fun hc_2 => ?_)
    · refine zk_if (fun hc_3 => ?_) (fun hc_3 => ?_)
      · refine zk_gv (by omega) (by decide) (fun v1 h_v1 => ?_)
        have r_v1 := h_i_setsBy (x1.toNat)
        refine zk_ret ?_
        try dsimp only
        exact ⟨by omega, h_i_setsBy⟩
      · refine zk_d1 (s_Scales_weighAll _ _ _ _ (by omega) h_i_hill_columns_heights h_i_hill_columns_weights h_i_setsBy) (fun a2 hp => ?_)
        try dsimp only at hp
        have hpp0 := hp
        refine zk_gv (by omega) (by decide) (fun v3 h_v3 => ?_)
        have r_v3 := hpp0 (x1.toNat)
        refine zk_ret ?_
        try dsimp only
        exact ⟨by omega, hpp0⟩
    · refine zk_ret ?_
      try dsimp only
      exact ⟨by omega, h_i_setsBy⟩
set_option maxHeartbeats 4000000 in
theorem s_HS_weighs (x1 : Int) (i_hill_changes : Int) (i_hill_columns_many : Int) (i_hill_columns_heights : Nat → Int) (i_hill_columns_weights : Nat → Int) (i_scales_version : Int) (i_scales_setsBy : Nat → Int) (b_x1 : (-2147483648) ≤ x1 ∧ x1 ≤ 2147483647) (b_i_hill_columns_many : 0 ≤ i_hill_columns_many ∧ i_hill_columns_many ≤ 12) (h_i_hill_columns_heights : zR i_hill_columns_heights 0 10) (h_i_hill_columns_weights : zR i_hill_columns_weights 0 30) (h_i_scales_setsBy : zR i_scales_setsBy 0 1000000000) : zok (f_HS_weighs x1 i_hill_changes i_hill_columns_many i_hill_columns_heights i_hill_columns_weights i_scales_version i_scales_setsBy) (fun o => ((-1) ≤ o.1 ∧ o.1 ≤ 1000000000) ∧ zR o.2.2 0 1000000000) := by
  unfold f_HS_weighs
  refine zk_d3 (s_Scales_sets _ _ _ _ _ _ _ (by omega) (by omega) h_i_hill_columns_heights h_i_hill_columns_weights h_i_scales_setsBy) (fun v1 v2 a3 hp => ?_)
  try dsimp only at hp
  obtain ⟨hpp0, hpp1⟩ := hp
  refine zk_ret ?_
  try dsimp only
  exact ⟨by omega, hpp1⟩
set_option maxHeartbeats 4000000 in
theorem s_HS_trips (x1 : Int) (x2 : Int) (i_hill_children : Int) (i_latestStatus : Int) (i_hill_changes : Int) (i_refusals : Nat → Int) (i_hill_trips : Nat → Int) (b_x1 : (-2147483648) ≤ x1 ∧ x1 ≤ 2147483647) (b_x2 : (-2147483648) ≤ x2 ∧ x2 ≤ 2147483647) (b_i_hill_children : 0 ≤ i_hill_children ∧ i_hill_children ≤ 6) (b_i_latestStatus : (-6) ≤ i_latestStatus ∧ i_latestStatus ≤ 0) (h_i_hill_trips : zR i_hill_trips 0 20) : zok (f_HS_trips x1 x2 i_hill_children i_latestStatus i_hill_changes i_refusals i_hill_trips) (fun o => ((-6) ≤ o.2.1 ∧ o.2.1 ≤ 0) ∧ zR o.2.2.2.2 0 20) := by
  unfold f_HS_trips
  refine zk_ifc (zci_ltr (by omega)) (fun hc => ?_) (fun hc => ?_)
  · unfold f_HS_trips_10
    refine zk_d3 (s_HS_refuse _ _ _ (by omega) (by omega)) (fun v1 v2 a3 hp => ?_)
    try dsimp only at hp
    obtain ⟨hpp0, hpp1, hpp2, hpp3⟩ := hp
    refine zk_ret ?_
    try dsimp only
    exact ⟨by omega, h_i_hill_trips⟩
  · refine zk_ifc (zci_le (by omega) (by omega)) (fun hc_2 => ?_) (fun hc_2 => ?_)
    · refine zk_d1 (s_Hill_hasChild _ _ (by omega) (by omega)) (fun v1_2 hp_2 => ?_)
      try dsimp only at hp_2
      obtain ⟨hp_2p0, hp_2p1⟩ := hp_2
      refine zk_ifc (zci_ner (by omega)) (fun hc_3 => ?_) (fun hc_3 => ?_)
      · refine zk_gv (by omega) (by decide) (fun v2_2 h_v2_2 => ?_)
        have r_v2_2 := h_i_hill_trips (x1.toNat)
        refine zk_sv (by omega) (by decide) (fun a3_2 h_a3_2 => ?_)
        have i_a3_2 : zR a3_2 0 20 := by rw [h_a3_2]; exact zR_zu h_i_hill_trips (by decide) (by decide) (by omega)
        refine zk_d3 (s_HS_accept _ _ _ (by omega)) (fun v4 v5 v6 hp_3 => ?_)
        try dsimp only at hp_3
        obtain ⟨hp_3p0, hp_3p1, hp_3p2, hp_3p3⟩ := hp_3
        refine zk_ret ?_
        try dsimp only
        exact ⟨by omega, i_a3_2⟩
      · refine zk_d3 (s_HS_refuse _ _ _ (by omega) (by omega)) (fun v7 v8 a9 hp_4 => ?_)
        try dsimp only at hp_4
        obtain ⟨hp_4p0, hp_4p1, hp_4p2, hp_4p3⟩ := hp_4
        refine zk_ret ?_
        try dsimp only
        exact ⟨by omega, h_i_hill_trips⟩
    · unfold f_HS_trips_10
      refine zk_d3 (s_HS_refuse _ _ _ (by omega) (by omega)) (fun v1_3 v2_3 a3_3 hp_5 => ?_)
      try dsimp only at hp_5
      obtain ⟨hp_5p0, hp_5p1, hp_5p2, hp_5p3⟩ := hp_5
      refine zk_ret ?_
      try dsimp only
      exact ⟨by omega, h_i_hill_trips⟩
set_option maxHeartbeats 4000000 in
theorem s_Scales_note_44 (i_hill_children : Int) (b_i_hill_children : 0 ≤ i_hill_children ∧ i_hill_children ≤ 6) : ∀ (n : Nat) (x1 : Int) (x2 : Int) (i_sets : Int) (i_lowest : Int) (i_inAll : Int) (i_inAny : Int) (i_setsWith : Nat → Int), (0 ≤ x1 ∧ x1 ≤ 63) → (0 ≤ x2 ∧ x2 ≤ 6) → ((-1) ≤ i_lowest ∧ i_lowest ≤ 63) → (0 ≤ i_inAll ∧ i_inAll ≤ 63) → (0 ≤ i_inAny ∧ i_inAny ≤ 63) → (7 - x2) < (n : Int) → zok (f_Scales_note_44 i_hill_children n x1 x2 i_sets i_lowest i_inAll i_inAny i_setsWith) (fun o => ((-1) ≤ o.2.1 ∧ o.2.1 ≤ 63) ∧ (0 ≤ o.2.2.1 ∧ o.2.2.1 ≤ 63) ∧ (0 ≤ o.2.2.2.1 ∧ o.2.2.2.1 ≤ 63)) := by
  intro n
  induction n with
  | zero => intro x1 x2 i_sets i_lowest i_inAll i_inAny i_setsWith b_x1 b_x2 b_i_lowest b_i_inAll b_i_inAny hm; exfalso; omega
  | succ n ih =>
    intro x1 x2 i_sets i_lowest i_inAll i_inAny i_setsWith b_x1 b_x2 b_i_lowest b_i_inAll b_i_inAny hm
    show zok (f_Scales_note_44_b i_hill_children (f_Scales_note_44 i_hill_children n) x1 x2 i_sets i_lowest i_inAll i_inAny i_setsWith) _
    unfold f_Scales_note_44_b
    refine zk_ifc (zci_le (by omega) (by omega)) (fun hc => ?_) (fun hc => ?_)
    · refine zk_ret ?_
      try dsimp only
      exact ⟨by omega, by omega, by omega⟩
    · refine zk_gv (by omega) (by decide) (fun v1 h_v1 => ?_)
      refine zk_nE (fun v2 h_v2 => ?_)
      have r_v2 := zi_shr_f x1 x2; rw [← h_v2] at r_v2
      refine zk_nE (fun v3 h_v3 => ?_)
      have r_v3 := zi_and_m v2 (m := 1) (by decide); rw [← h_v3] at r_v3
      refine zk_n ?_
      refine zk_sv (by omega) (by decide) (fun a5 h_a5 => ?_)
      refine zk_n ?_
      exact ih _ _ _ _ _ _ _ (by omega) (by omega) (by omega) (by omega) (by omega) (by omega)
set_option maxHeartbeats 4000000 in
theorem s_Scales_note (x1 : Int) (i_hill_children : Int) (i_sets : Int) (i_lowest : Int) (i_inAll : Int) (i_inAny : Int) (i_setsWith : Nat → Int) (b_x1 : 0 ≤ x1 ∧ x1 ≤ 63) (b_i_hill_children : 0 ≤ i_hill_children ∧ i_hill_children ≤ 6) (b_i_lowest : (-1) ≤ i_lowest ∧ i_lowest ≤ 63) (b_i_inAll : 0 ≤ i_inAll ∧ i_inAll ≤ 63) (b_i_inAny : 0 ≤ i_inAny ∧ i_inAny ≤ 63) : zok (f_Scales_note x1 i_hill_children i_sets i_lowest i_inAll i_inAny i_setsWith) (fun o => ((-1) ≤ o.2.1 ∧ o.2.1 ≤ 63) ∧ (0 ≤ o.2.2.1 ∧ o.2.2.1 ≤ 63) ∧ (0 ≤ o.2.2.2.1 ∧ o.2.2.2.1 ≤ 63)) := by
  unfold f_Scales_note
  refine zk_if (fun hc => ?_) (fun hc => ?_)
  · unfold f_Scales_note_12
    refine zk_n ?_
    refine zk_nE (fun v2 h_v2 => ?_)
    have r_v2 := zi_and_le i_inAll (m := x1) (by omega); rw [← h_v2] at r_v2
    refine zk_nE (fun v3 h_v3 => ?_)
    have r_v3 := zi_or6 (a := i_inAny) (b := x1) (by omega) (by omega); rw [← h_v3] at r_v3
    exact s_Scales_note_44 _ (by omega) zfu _ _ _ _ _ _ _ (by omega) (by omega) (by omega) (by omega) (by omega) (by unfold zfu; omega)
  · unfold f_Scales_note_12
    refine zk_n ?_
    refine zk_nE (fun v2_2 h_v2_2 => ?_)
    have r_v2_2 := zi_and_le i_inAll (m := x1) (by omega); rw [← h_v2_2] at r_v2_2
    refine zk_nE (fun v3_2 h_v3_2 => ?_)
    have r_v3_2 := zi_or6 (a := i_inAny) (b := x1) (by omega) (by omega); rw [← h_v3_2] at r_v3_2
    exact s_Scales_note_44 _ (by omega) zfu _ _ _ _ _ _ _ (by omega) (by omega) (by omega) (by omega) (by omega) (by unfold zfu; omega)
set_option maxHeartbeats 4000000 in
theorem s_Arrays_fill_n6_5   : ∀ (n : Nat) (x1 : Int) (x2 : Int) (x3 : Int) (i_a0 : Nat → Int), (0 ≤ x1 ∧ x1 ≤ 0) → (0 ≤ x2 ∧ x2 ≤ 6) → (6 ≤ x3 ∧ x3 ≤ 6) → (7 - x2) < (n : Int) → zok (f_Arrays_fill_n6_5  n x1 x2 x3 i_a0) (fun o => True) := by
  intro n
  induction n with
  | zero => intro x1 x2 x3 i_a0 b_x1 b_x2 b_x3 hm; exfalso; omega
  | succ n ih =>
    intro x1 x2 x3 i_a0 b_x1 b_x2 b_x3 hm
    show zok (f_Arrays_fill_n6_5_b  (f_Arrays_fill_n6_5  n) x1 x2 x3 i_a0) _
    unfold f_Arrays_fill_n6_5_b
    refine zk_ifc (zci_le (by omega) (by omega)) (fun hc => ?_) (fun hc => ?_)
    · exact zk_ret trivial
    · refine zk_sv (by omega) (by decide) (fun a1 h_a1 => ?_)
      refine zk_n ?_
      exact ih _ _ _ _ (by omega) (by omega) (by omega) (by omega)
set_option maxHeartbeats 4000000 in
theorem s_Arrays_fill_n6 (x1 : Int) (i_a0 : Nat → Int) (b_x1 : 0 ≤ x1 ∧ x1 ≤ 0) : zok (f_Arrays_fill_n6 x1 i_a0) (fun o => True) := by
  unfold f_Arrays_fill_n6
  exact s_Arrays_fill_n6_5 zfu _ _ _ _ (by omega) (by omega) (by omega) (by unfold zfu; omega)
set_option maxHeartbeats 4000000 in
theorem s_Scales_tripsOf_4 (i_hill_children : Int) (i_hill_trips : Nat → Int) (b_i_hill_children : 0 ≤ i_hill_children ∧ i_hill_children ≤ 6) (h_i_hill_trips : zR i_hill_trips 0 20) : ∀ (n : Nat) (x1 : Int) (x2 : Int) (x3 : Int), (0 ≤ x1 ∧ x1 ≤ 63) → (0 ≤ x3 ∧ x3 ≤ 6) → (7 - x3) < (n : Int) → zok (f_Scales_tripsOf_4 i_hill_children i_hill_trips n x1 x2 x3) (fun o => True) := by
  intro n
  induction n with
  | zero => intro x1 x2 x3 b_x1 b_x3 hm; exfalso; omega
  | succ n ih =>
    intro x1 x2 x3 b_x1 b_x3 hm
    show zok (f_Scales_tripsOf_4_b i_hill_children i_hill_trips (f_Scales_tripsOf_4 i_hill_children i_hill_trips n) x1 x2 x3) _
    unfold f_Scales_tripsOf_4_b
    refine zk_ifc (zci_le (by omega) (by omega)) (fun hc => ?_) (fun hc => ?_)
    · exact zk_ret trivial
    · refine zk_nE (fun v1 h_v1 => ?_)
      have r_v1 := zi_shr_f x1 x3; rw [← h_v1] at r_v1
      refine zk_nE (fun v2 h_v2 => ?_)
      have r_v2 := zi_and_m v1 (m := 1) (by decide); rw [← h_v2] at r_v2
      refine zk_gv (by omega) (by decide) (fun v3 h_v3 => ?_)
      have r_v3 := h_i_hill_trips (x3.toNat)
      refine zk_nE (fun v4 h_v4 => ?_)
      have r_v4 := zmulb (a := v2) (b := v3) 1 20 (by omega) (by omega); rw [← h_v4] at r_v4
      refine zk_n ?_
      refine zk_n ?_
      exact ih _ _ _ (by omega) (by omega) (by omega)
set_option maxHeartbeats 4000000 in
theorem s_Scales_tripsOf (x1 : Int) (i_hill_children : Int) (i_hill_trips : Nat → Int) (b_x1 : 0 ≤ x1 ∧ x1 ≤ 63) (b_i_hill_children : 0 ≤ i_hill_children ∧ i_hill_children ≤ 6) (h_i_hill_trips : zR i_hill_trips 0 20) : zok (f_Scales_tripsOf x1 i_hill_children i_hill_trips) (fun o => True) := by
  unfold f_Scales_tripsOf
  exact s_Scales_tripsOf_4 _ _ (by omega) h_i_hill_trips zfu _ _ _ (by omega) (by omega) (by unfold zfu; omega)
set_option maxHeartbeats 4000000 in
theorem s_Scales_suspect_43 (i_hill_children : Int) (i_hill_trips : Nat → Int) (b_i_hill_children : 0 ≤ i_hill_children ∧ i_hill_children ≤ 6) (h_i_hill_trips : zR i_hill_trips 0 20) : ∀ (n : Nat) (x1 : Int) (x2 : Int) (x3 : Int) (x4 : Int) (i_sets : Int) (i_lowest : Int) (i_inAll : Int) (i_inAny : Int) (i_setsWith : Nat → Int), (1 ≤ x1 ∧ x1 ≤ 9) → (0 ≤ x2 ∧ x2 ≤ 999) → (0 ≤ x3 ∧ x3 ≤ 63) → (0 ≤ x4 ∧ x4 ≤ 64) → ((-1) ≤ i_lowest ∧ i_lowest ≤ 63) → (0 ≤ i_inAll ∧ i_inAll ≤ 63) → (0 ≤ i_inAny ∧ i_inAny ≤ 63) → (65 - x4) < (n : Int) → zok (f_Scales_suspect_43 i_hill_children i_hill_trips n x1 x2 x3 x4 i_sets i_lowest i_inAll i_inAny i_setsWith) (fun o => ((-1) ≤ o.2.1 ∧ o.2.1 ≤ 63) ∧ (0 ≤ o.2.2.1 ∧ o.2.2.1 ≤ 63) ∧ (0 ≤ o.2.2.2.1 ∧ o.2.2.2.1 ≤ 63)) := by
  intro n
  induction n with
  | zero => intro x1 x2 x3 x4 i_sets i_lowest i_inAll i_inAny i_setsWith b_x1 b_x2 b_x3 b_x4 b_i_lowest b_i_inAll b_i_inAny hm; exfalso; omega
  | succ n ih =>
    intro x1 x2 x3 x4 i_sets i_lowest i_inAll i_inAny i_setsWith b_x1 b_x2 b_x3 b_x4 b_i_lowest b_i_inAll b_i_inAny hm
    show zok (f_Scales_suspect_43_b i_hill_children i_hill_trips (f_Scales_suspect_43 i_hill_children i_hill_trips n) x1 x2 x3 x4 i_sets i_lowest i_inAll i_inAny i_setsWith) _
    unfold f_Scales_suspect_43_b
    refine zk_ifc (zci_lt (by omega) (by omega)) (fun hc => ?_) (fun hc => ?_)
    · refine zk_ret ?_
      try dsimp only
      exact ⟨by omega, by omega, by omega⟩
    · refine zk_d1 (s_Scales_tripsOf _ _ _ (by omega) (by omega) h_i_hill_trips) (fun v1 hp => ?_)
      refine zk_nE (fun v2 h_v2 => ?_)
      refine zk_if (fun hc_2 => ?_) (fun hc_2 => ?_)
      · unfold f_Scales_suspect_67
        refine zk_n ?_
        exact ih _ _ _ _ _ _ _ _ _ (by omega) (by omega) (by omega) (by omega) (by omega) (by omega) (by omega) (by omega)
      · refine zk_d5 (s_Scales_note _ _ _ _ _ _ _ (by omega) (by omega) (by omega) (by omega) (by omega)) (fun v3 v4 v5 v6 a7 hp_2 => ?_)
        try dsimp only at hp_2
        obtain ⟨hp_2p0, hp_2p1, hp_2p2⟩ := hp_2
        unfold f_Scales_suspect_67
        refine zk_n ?_
        exact ih _ _ _ _ _ _ _ _ _ (by omega) (by omega) (by omega) (by omega) (by omega) (by omega) (by omega) (by omega)
set_option maxHeartbeats 4000000 in
theorem s_Scales_suspect (x1 : Int) (x2 : Int) (i_hill_children : Int) (i_hill_trips : Nat → Int) (i_sets : Int) (i_lowest : Int) (i_inAll : Int) (i_inAny : Int) (i_setsWith : Nat → Int) (b_x1 : 1 ≤ x1 ∧ x1 ≤ 9) (b_x2 : 0 ≤ x2 ∧ x2 ≤ 999) (b_i_hill_children : 0 ≤ i_hill_children ∧ i_hill_children ≤ 6) (h_i_hill_trips : zR i_hill_trips 0 20) (b_i_lowest : (-1) ≤ i_lowest ∧ i_lowest ≤ 63) (b_i_inAll : 0 ≤ i_inAll ∧ i_inAll ≤ 63) (b_i_inAny : 0 ≤ i_inAny ∧ i_inAny ≤ 63) : zok (f_Scales_suspect x1 x2 i_hill_children i_hill_trips i_sets i_lowest i_inAll i_inAny i_setsWith) (fun o => ((-1) ≤ o.2.1 ∧ o.2.1 ≤ 63) ∧ (0 ≤ o.2.2.1 ∧ o.2.2.1 ≤ 63) ∧ (0 ≤ o.2.2.2.1 ∧ o.2.2.2.1 ≤ 63)) := by
  unfold f_Scales_suspect
  refine zk_nE (fun v1 h_v1 => ?_)
  have r_v1 := zi_shl1 (y := i_hill_children) (by omega); rw [← h_v1] at r_v1
  refine zk_n ?_
  refine zk_d1 (s_Arrays_fill_n6 _ _ (by omega)) (fun a3 hp => ?_)
  exact s_Scales_suspect_43 _ _ (by omega) h_i_hill_trips zfu _ _ _ _ _ _ _ _ _ (by omega) (by omega) (by omega) (by omega) (by omega) (by omega) (by omega) (by unfold zfu; omega)
set_option maxHeartbeats 4000000 in
theorem s_Scales_bestToWeigh_6 (i_sets : Int) (i_hill_children : Int) (i_setsWith : Nat → Int) (b_i_hill_children : 0 ≤ i_hill_children ∧ i_hill_children ≤ 6) : ∀ (n : Nat) (x1 : Int) (x2 : Int) (x3 : Int), ((-1) ≤ x1 ∧ x1 ≤ 5) → ((-2147483648) ≤ x2 ∧ x2 ≤ 2147483647) → (0 ≤ x3 ∧ x3 ≤ 6) → (7 - x3) < (n : Int) → zok (f_Scales_bestToWeigh_6 i_sets i_hill_children i_setsWith n x1 x2 x3) (fun o => ((-1) ≤ o ∧ o ≤ 5)) := by
  intro n
  induction n with
  | zero => intro x1 x2 x3 b_x1 b_x2 b_x3 hm; exfalso; omega
  | succ n ih =>
    intro x1 x2 x3 b_x1 b_x2 b_x3 hm
    show zok (f_Scales_bestToWeigh_6_b i_sets i_hill_children i_setsWith (f_Scales_bestToWeigh_6 i_sets i_hill_children i_setsWith n) x1 x2 x3) _
    unfold f_Scales_bestToWeigh_6_b
    refine zk_ifc (zci_le (by omega) (by omega)) (fun hc => ?_) (fun hc => ?_)
    · exact zk_ret (by omega)
    · refine zk_gv (by omega) (by decide) (fun v1 h_v1 => ?_)
      refine zk_gv (by omega) (by decide) (fun v2 h_v2 => ?_)
      refine zk_n ?_
      refine zk_nE (fun v4 h_v4 => ?_)
      have r_v4 := zi_max_i v1 (i_sets - v2); rw [← h_v4] at r_v4
      refine zk_ifc (zci_eq (by omega) (by omega)) (fun hc_2 => ?_) (fun hc_2 => ?_)
      · unfold f_Scales_bestToWeigh_50
        unfold f_Scales_bestToWeigh_55
        refine zk_n ?_
        exact ih _ _ _ (by omega) (by omega) (by omega) (by omega)
      · refine zk_ifc (zci_le (by omega) (by omega)) (fun hc_3 => ?_) (fun hc_3 => ?_)
        · unfold f_Scales_bestToWeigh_55
          refine zk_n ?_
          exact ih _ _ _ (by omega) (by omega) (by omega) (by omega)
        · unfold f_Scales_bestToWeigh_50
          unfold f_Scales_bestToWeigh_55
          refine zk_n ?_
          exact ih _ _ _ (by omega) (by omega) (by omega) (by omega)
set_option maxHeartbeats 4000000 in
theorem s_Scales_bestToWeigh (i_sets : Int) (i_hill_children : Int) (i_setsWith : Nat → Int) (b_i_hill_children : 0 ≤ i_hill_children ∧ i_hill_children ≤ 6) : zok (f_Scales_bestToWeigh i_sets i_hill_children i_setsWith) (fun o => ((-1) ≤ o ∧ o ≤ 5)) := by
  unfold f_Scales_bestToWeigh
  exact s_Scales_bestToWeigh_6 _ _ _ (by omega) zfu _ _ _ (by omega) (by omega) (by omega) (by unfold zfu; omega)
set_option maxHeartbeats 4000000 in
theorem s_Scales_finding (x1 : Int) (i_sets : Int) (i_lowest : Int) (i_inAll : Int) (i_inAny : Int) (i_hill_children : Int) (i_setsWith : Nat → Int) (b_x1 : (-2147483648) ≤ x1 ∧ x1 ≤ 2147483647) (b_i_lowest : (-1) ≤ i_lowest ∧ i_lowest ≤ 63) (b_i_inAll : 0 ≤ i_inAll ∧ i_inAll ≤ 63) (b_i_inAny : 0 ≤ i_inAny ∧ i_inAny ≤ 63) (b_i_hill_children : 0 ≤ i_hill_children ∧ i_hill_children ≤ 6) : zok (f_Scales_finding x1 i_sets i_lowest i_inAll i_inAny i_hill_children i_setsWith) (fun o => True) := by
  unfold f_Scales_finding
  refine zk_ifc (zci_ner (by omega)) (fun hc => ?_) (fun hc => ?_)
  · refine zk_if (fun hc_2 => ?_) (fun hc_2 => ?_)
    · refine zk_ifc (zci_eqr (by omega)) (fun hc_3 => ?_) (fun hc_3 => ?_)
      · exact zk_ret trivial
      · refine zk_ifc (zci_eqr (by omega)) (fun hc_4 => ?_) (fun hc_4 => ?_)
        · exact zk_ret trivial
        · refine zk_ifc (zci_eqr (by omega)) (fun hc_5 => ?_) (fun hc_5 => ?_)
          · refine zk_nE (fun v1 h_v1 => ?_)
            have r_v1 := zi_shl1 (y := i_hill_children) (by omega); rw [← h_v1] at r_v1
            refine zk_n ?_
            refine zk_nE (fun v3 h_v3 => ?_)
            have r_v3 := zi_xor_f i_inAny (-1); rw [← h_v3] at r_v3
            refine zk_nE (fun v4 h_v4 => ?_)
            have r_v4 := zi_and_f (v1 - 1) v3; rw [← h_v4] at r_v4
            exact zk_ret trivial
          · refine zk_ifc (zci_eqr (by omega)) (fun hc_6 => ?_) (fun hc_6 => ?_)
            · refine zk_d1 (s_Scales_bestToWeigh _ _ _ (by omega)) (fun v5 hp => ?_)
              try dsimp only at hp
              have hpp0 := hp
              exact zk_ret trivial
            · exact zk_ret trivial
    · exact zk_ret trivial
  · exact zk_ret trivial
set_option maxHeartbeats 4000000 in
theorem s_HS_culprits (x1 : Int) (x2 : Int) (x3 : Int) (i_hill_children : Int) (i_hill_trips : Nat → Int) (i_scales_sets : Int) (i_scales_lowest : Int) (i_scales_inAll : Int) (i_scales_inAny : Int) (i_scales_setsWith : Nat → Int) (b_x1 : (-2147483648) ≤ x1 ∧ x1 ≤ 2147483647) (b_x2 : (-2147483648) ≤ x2 ∧ x2 ≤ 2147483647) (b_x3 : (-2147483648) ≤ x3 ∧ x3 ≤ 2147483647) (b_i_hill_children : 0 ≤ i_hill_children ∧ i_hill_children ≤ 6) (h_i_hill_trips : zR i_hill_trips 0 20) (b_i_scales_lowest : (-1) ≤ i_scales_lowest ∧ i_scales_lowest ≤ 63) (b_i_scales_inAll : 0 ≤ i_scales_inAll ∧ i_scales_inAll ≤ 63) (b_i_scales_inAny : 0 ≤ i_scales_inAny ∧ i_scales_inAny ≤ 63) : zok (f_HS_culprits x1 x2 x3 i_hill_children i_hill_trips i_scales_sets i_scales_lowest i_scales_inAll i_scales_inAny i_scales_setsWith) (fun o => ((-1) ≤ o.2.2.1 ∧ o.2.2.1 ≤ 63) ∧ (0 ≤ o.2.2.2.1 ∧ o.2.2.2.1 ≤ 63) ∧ (0 ≤ o.2.2.2.2.1 ∧ o.2.2.2.2.1 ≤ 63)) := by
  unfold f_HS_culprits
  refine zk_ifc (zci_lt (by omega) (by omega)) (fun hc => ?_) (fun hc => ?_)
  · refine zk_ret ?_
    try dsimp only
    exact ⟨by omega, by omega, by omega⟩
  · refine zk_ifc (zci_lt (by omega) (by omega)) (fun hc_2 => ?_) (fun hc_2 => ?_)
    · refine zk_ret ?_
      try dsimp only
      exact ⟨by omega, by omega, by omega⟩
    · refine zk_ifc (zci_ltr (by omega)) (fun hc_3 => ?_) (fun hc_3 => ?_)
      · refine zk_ret ?_
        try dsimp only
        exact ⟨by omega, by omega, by omega⟩
      · refine zk_ifc (zci_le (by omega) (by omega)) (fun hc_4 => ?_) (fun hc_4 => ?_)
        · refine zk_d5 (s_Scales_suspect _ _ _ _ _ _ _ _ _ (by omega) (by omega) (by omega) h_i_hill_trips (by omega) (by omega) (by omega)) (fun v1 v2 v3 v4 a5 hp => ?_)
          try dsimp only at hp
          obtain ⟨hpp0, hpp1, hpp2⟩ := hp
          refine zk_d1 (s_Scales_finding _ _ _ _ _ _ _ (by omega) (by omega) (by omega) (by omega) (by omega)) (fun v6 hp_2 => ?_)
          refine zk_ret ?_
          try dsimp only
          exact ⟨by omega, by omega, by omega⟩
        · refine zk_ret ?_
          try dsimp only
          exact ⟨by omega, by omega, by omega⟩
set_option maxHeartbeats 4000000 in
theorem s_Columns_become (i_a1_many : Int) (i_a1_heights : Nat → Int) (i_a1_weights : Nat → Int) (i_many : Int) (i_heights : Nat → Int) (i_weights : Nat → Int) (b_i_a1_many : 0 ≤ i_a1_many ∧ i_a1_many ≤ 12) (h_i_a1_heights : zR i_a1_heights 0 10) (h_i_a1_weights : zR i_a1_weights 0 30) (b_i_many : 0 ≤ i_many ∧ i_many ≤ 12) (h_i_heights : zR i_heights 0 10) (h_i_weights : zR i_weights 0 30) : zok (f_Columns_become i_a1_many i_a1_heights i_a1_weights i_many i_heights i_weights) (fun o => (0 ≤ o.1 ∧ o.1 ≤ 12) ∧ zR o.2.1 0 10 ∧ zR o.2.2 0 30) := by
  unfold f_Columns_become
  refine zk_cp (by omega) (fun a1 h_a1 => ?_)
  have i_a1 : zR a1 0 10 := by rw [h_a1]; exact zR_cp h_i_a1_heights h_i_heights
  refine zk_cp (by omega) (fun a2 h_a2 => ?_)
  have i_a2 : zR a2 0 30 := by rw [h_a2]; exact zR_cp h_i_a1_weights h_i_weights
  refine zk_ret ?_
  try dsimp only
  exact ⟨by omega, i_a1, i_a2⟩
set_option maxHeartbeats 4000000 in
theorem s_Schools_shadesBehind_55 (r_Schools_shadesBehind : Int → Int → Int → Int → Int → Int → Int → Int → (Nat → Int) → (Nat → Int) → (Nat → Int) → (Nat → Int) → (Nat → Int) → (Nat → Int) → (Nat → Int) → (Nat → Int) → Int → Int → Int → (Nat → Int) → (Nat → Int) → (Nat → Int) → (Nat → Int) → (Nat → Int) → Option (Int × (Nat → Int) × (Nat → Int) × Int × Int × Int × (Nat → Int) × (Nat → Int) × (Nat → Int) × (Nat → Int) × (Nat → Int))) (r_Schools_shadesCarried : Int → Int → Int → Int → Int → Int → Int → Int → Int → Int → (Nat → Int) → (Nat → Int) → (Nat → Int) → (Nat → Int) → (Nat → Int) → (Nat → Int) → (Nat → Int) → (Nat → Int) → Int → Int → Int → (Nat → Int) → (Nat → Int) → (Nat → Int) → (Nat → Int) → (Nat → Int) → Option (Int × (Nat → Int) × (Nat → Int) × Int × Int × Int × (Nat → Int) × (Nat → Int) × (Nat → Int) × (Nat → Int) × (Nat → Int))) (Nr : Nat) (hr_Schools_shadesBehind : ∀ (x1 : Int) (x2 : Int) (i_hill_children : Int) (i_hill_parishes : Int) (i_hill_laws : Int) (i_hill_inForce : Int) (i_hill_changes : Int) (i_columns_many : Int) (i_hill_strengths : Nat → Int) (i_hill_expelled : Nat → Int) (i_hill_places : Nat → Int) (i_hill_terms : Nat → Int) (i_hill_orders : Nat → Int) (i_hill_ordered : Nat → Int) (i_from : Nat → Int) (i_to : Nat → Int) (i_carriers_judge_piled : Int) (i_carriers_judge_tiring : Int) (i_carriers_judge_barred : Int) (i_carriers_notes : Nat → Int) (i_columns_heights : Nat → Int) (i_columns_weights : Nat → Int) (i_carriers_judge_words : Nat → Int) (i_carriers_judge_pile : Nat → Int), (0 ≤ x1 ∧ x1 ≤ 4) → (0 ≤ x2 ∧ x2 ≤ 1) → (0 ≤ i_hill_children ∧ i_hill_children ≤ 6) → (0 ≤ i_hill_parishes ∧ i_hill_parishes ≤ 6) → (0 ≤ i_hill_laws ∧ i_hill_laws ≤ 6) → ((-1) ≤ i_hill_inForce ∧ i_hill_inForce ≤ 5) → (0 ≤ i_columns_many ∧ i_columns_many ≤ 12) → (zR i_hill_strengths 0 60) → (zR i_hill_expelled 0 1) → (zR i_hill_places 0 11) → (zR i_hill_terms 0 99) → (zR i_hill_orders (-2147483648) 2147483647) → (zR i_hill_ordered 0 424) → (zR i_from (-1) 11) → (zR i_to (-1) 11) → (0 ≤ i_carriers_judge_piled ∧ i_carriers_judge_piled ≤ 32) → (0 ≤ i_carriers_judge_tiring ∧ i_carriers_judge_tiring ≤ 2147483647) → (0 ≤ i_carriers_judge_barred ∧ i_carriers_judge_barred ≤ 1) → (zR i_carriers_notes (-2147483648) 2147483647) → (zR i_columns_heights 0 10) → (zR i_columns_weights 0 30) → (zR i_carriers_judge_words 0 99) → (2 * x1 + 1) < (Nr : Int) → zok (r_Schools_shadesBehind x1 x2 i_hill_children i_hill_parishes i_hill_laws i_hill_inForce i_hill_changes i_columns_many i_hill_strengths i_hill_expelled i_hill_places i_hill_terms i_hill_orders i_hill_ordered i_from i_to i_carriers_judge_piled i_carriers_judge_tiring i_carriers_judge_barred i_carriers_notes i_columns_heights i_columns_weights i_carriers_judge_words i_carriers_judge_pile) (fun o => (0 ≤ o.2.2.2.1 ∧ o.2.2.2.1 ≤ 32) ∧ (0 ≤ o.2.2.2.2.1 ∧ o.2.2.2.2.1 ≤ 2147483647) ∧ (0 ≤ o.2.2.2.2.2.1 ∧ o.2.2.2.2.2.1 ≤ 1) ∧ zR o.2.1 (-1) 11 ∧ zR o.2.2.1 (-1) 11 ∧ zR o.2.2.2.2.2.2.1 (-2147483648) 2147483647 ∧ zR o.2.2.2.2.2.2.2.1 0 10 ∧ zR o.2.2.2.2.2.2.2.2.1 0 30 ∧ zR o.2.2.2.2.2.2.2.2.2.1 0 99)) (hr_Schools_shadesCarried : ∀ (x1 : Int) (x2 : Int) (x3 : Int) (x4 : Int) (i_hill_children : Int) (i_hill_parishes : Int) (i_hill_laws : Int) (i_hill_inForce : Int) (i_hill_changes : Int) (i_columns_many : Int) (i_hill_strengths : Nat → Int) (i_hill_expelled : Nat → Int) (i_hill_places : Nat → Int) (i_hill_terms : Nat → Int) (i_hill_orders : Nat → Int) (i_hill_ordered : Nat → Int) (i_from : Nat → Int) (i_to : Nat → Int) (i_carriers_judge_piled : Int) (i_carriers_judge_tiring : Int) (i_carriers_judge_barred : Int) (i_carriers_notes : Nat → Int) (i_columns_heights : Nat → Int) (i_columns_weights : Nat → Int) (i_carriers_judge_words : Nat → Int) (i_carriers_judge_pile : Nat → Int), (1 ≤ x1 ∧ x1 ≤ 4) → (0 ≤ x2 ∧ x2 ≤ 1) → (0 ≤ x3 ∧ x3 ≤ 11) → (0 ≤ x4 ∧ x4 ≤ 11) → (0 ≤ i_hill_children ∧ i_hill_children ≤ 6) → (0 ≤ i_hill_parishes ∧ i_hill_parishes ≤ 6) → (0 ≤ i_hill_laws ∧ i_hill_laws ≤ 6) → ((-1) ≤ i_hill_inForce ∧ i_hill_inForce ≤ 5) → (1 ≤ i_columns_many ∧ i_columns_many ≤ 12) → (zR i_hill_strengths 0 60) → (zR i_hill_expelled 0 1) → (zR i_hill_places 0 11) → (zR i_hill_terms 0 99) → (zR i_hill_orders (-2147483648) 2147483647) → (zR i_hill_ordered 0 424) → (zR i_from (-1) 11) → (zR i_to (-1) 11) → (0 ≤ i_carriers_judge_piled ∧ i_carriers_judge_piled ≤ 32) → (0 ≤ i_carriers_judge_tiring ∧ i_carriers_judge_tiring ≤ 2147483647) → (0 ≤ i_carriers_judge_barred ∧ i_carriers_judge_barred ≤ 1) → (zR i_carriers_notes (-2147483648) 2147483647) → (zR i_columns_heights 0 10) → (zR i_columns_weights 0 30) → (zR i_carriers_judge_words 0 99) → (2 * x1) < (Nr : Int) → zok (r_Schools_shadesCarried x1 x2 x3 x4 i_hill_children i_hill_parishes i_hill_laws i_hill_inForce i_hill_changes i_columns_many i_hill_strengths i_hill_expelled i_hill_places i_hill_terms i_hill_orders i_hill_ordered i_from i_to i_carriers_judge_piled i_carriers_judge_tiring i_carriers_judge_barred i_carriers_notes i_columns_heights i_columns_weights i_carriers_judge_words i_carriers_judge_pile) (fun o => (0 ≤ o.2.2.2.1 ∧ o.2.2.2.1 ≤ 32) ∧ (0 ≤ o.2.2.2.2.1 ∧ o.2.2.2.2.1 ≤ 2147483647) ∧ (0 ≤ o.2.2.2.2.2.1 ∧ o.2.2.2.2.2.1 ≤ 1) ∧ zR o.2.1 (-1) 11 ∧ zR o.2.2.1 (-1) 11 ∧ zR o.2.2.2.2.2.2.1 (-2147483648) 2147483647 ∧ zR o.2.2.2.2.2.2.2.1 0 10 ∧ zR o.2.2.2.2.2.2.2.2.1 0 30 ∧ zR o.2.2.2.2.2.2.2.2.2.1 0 99)) (i_hill_children : Int) (i_hill_parishes : Int) (i_hill_laws : Int) (i_hill_inForce : Int) (i_hill_changes : Int) (i_columns_many : Int) (i_hill_strengths : Nat → Int) (i_hill_expelled : Nat → Int) (i_hill_places : Nat → Int) (i_hill_terms : Nat → Int) (i_hill_orders : Nat → Int) (i_hill_ordered : Nat → Int) (k40 : Int → Int → Int → Int → (Nat → Int) → (Nat → Int) → Int → Int → Int → (Nat → Int) → (Nat → Int) → (Nat → Int) → (Nat → Int) → (Nat → Int) → Option (Int × (Nat → Int) × (Nat → Int) × Int × Int × Int × (Nat → Int) × (Nat → Int) × (Nat → Int) × (Nat → Int) × (Nat → Int))) (Nk40 : Nat) (hk40 : ∀ (x1 : Int) (x2 : Int) (x3 : Int) (x4 : Int) (i_from : Nat → Int) (i_to : Nat → Int) (i_carriers_judge_piled : Int) (i_carriers_judge_tiring : Int) (i_carriers_judge_barred : Int) (i_carriers_notes : Nat → Int) (i_columns_heights : Nat → Int) (i_columns_weights : Nat → Int) (i_carriers_judge_words : Nat → Int) (i_carriers_judge_pile : Nat → Int), (1 ≤ x1 ∧ x1 ≤ 4) → (0 ≤ x2 ∧ x2 ≤ 1) → (0 ≤ x4 ∧ x4 ≤ 12) → (zR i_from (-1) 11) → (zR i_to (-1) 11) → (0 ≤ i_carriers_judge_piled ∧ i_carriers_judge_piled ≤ 32) → (0 ≤ i_carriers_judge_tiring ∧ i_carriers_judge_tiring ≤ 2147483647) → (0 ≤ i_carriers_judge_barred ∧ i_carriers_judge_barred ≤ 1) → (zR i_carriers_notes (-2147483648) 2147483647) → (zR i_columns_heights 0 10) → (zR i_columns_weights 0 30) → (zR i_carriers_judge_words 0 99) → (2 * x1 + 1 < (Nr : Int) + 1) → (13 - x4) < (Nk40 : Int) → zok (k40 x1 x2 x3 x4 i_from i_to i_carriers_judge_piled i_carriers_judge_tiring i_carriers_judge_barred i_carriers_notes i_columns_heights i_columns_weights i_carriers_judge_words i_carriers_judge_pile) (fun o => (0 ≤ o.2.2.2.1 ∧ o.2.2.2.1 ≤ 32) ∧ (0 ≤ o.2.2.2.2.1 ∧ o.2.2.2.2.1 ≤ 2147483647) ∧ (0 ≤ o.2.2.2.2.2.1 ∧ o.2.2.2.2.2.1 ≤ 1) ∧ zR o.2.1 (-1) 11 ∧ zR o.2.2.1 (-1) 11 ∧ zR o.2.2.2.2.2.2.1 (-2147483648) 2147483647 ∧ zR o.2.2.2.2.2.2.2.1 0 10 ∧ zR o.2.2.2.2.2.2.2.2.1 0 30 ∧ zR o.2.2.2.2.2.2.2.2.2.1 0 99)) (b_i_hill_children : 0 ≤ i_hill_children ∧ i_hill_children ≤ 6) (b_i_hill_parishes : 0 ≤ i_hill_parishes ∧ i_hill_parishes ≤ 6) (b_i_hill_laws : 0 ≤ i_hill_laws ∧ i_hill_laws ≤ 6) (b_i_hill_inForce : (-1) ≤ i_hill_inForce ∧ i_hill_inForce ≤ 5) (b_i_columns_many : 1 ≤ i_columns_many ∧ i_columns_many ≤ 12) (h_i_hill_strengths : zR i_hill_strengths 0 60) (h_i_hill_expelled : zR i_hill_expelled 0 1) (h_i_hill_places : zR i_hill_places 0 11) (h_i_hill_terms : zR i_hill_terms 0 99) (h_i_hill_orders : zR i_hill_orders (-2147483648) 2147483647) (h_i_hill_ordered : zR i_hill_ordered 0 424) : ∀ (n : Nat) (x1 : Int) (x2 : Int) (x3 : Int) (x4 : Int) (x5 : Int) (i_from : Nat → Int) (i_to : Nat → Int) (i_carriers_judge_piled : Int) (i_carriers_judge_tiring : Int) (i_carriers_judge_barred : Int) (i_carriers_notes : Nat → Int) (i_columns_heights : Nat → Int) (i_columns_weights : Nat → Int) (i_carriers_judge_words : Nat → Int) (i_carriers_judge_pile : Nat → Int), (1 ≤ x1 ∧ x1 ≤ 4) → (0 ≤ x2 ∧ x2 ≤ 1) → (0 ≤ x4 ∧ x4 ≤ 11) → (0 ≤ x5 ∧ x5 ≤ 12) → (zR i_from (-1) 11) → (zR i_to (-1) 11) → (0 ≤ i_carriers_judge_piled ∧ i_carriers_judge_piled ≤ 32) → (0 ≤ i_carriers_judge_tiring ∧ i_carriers_judge_tiring ≤ 2147483647) → (0 ≤ i_carriers_judge_barred ∧ i_carriers_judge_barred ≤ 1) → (zR i_carriers_notes (-2147483648) 2147483647) → (zR i_columns_heights 0 10) → (zR i_columns_weights 0 30) → (zR i_carriers_judge_words 0 99) → (2 * x1 + 1 < (Nr : Int) + 1) → (13 - x4) < (Nk40 : Int) + 1 → (13 - x5) < (n : Int) → zok (f_Schools_shadesBehind_55 r_Schools_shadesBehind r_Schools_shadesCarried i_hill_children i_hill_parishes i_hill_laws i_hill_inForce i_hill_changes i_columns_many i_hill_strengths i_hill_expelled i_hill_places i_hill_terms i_hill_orders i_hill_ordered k40 n x1 x2 x3 x4 x5 i_from i_to i_carriers_judge_piled i_carriers_judge_tiring i_carriers_judge_barred i_carriers_notes i_columns_heights i_columns_weights i_carriers_judge_words i_carriers_judge_pile) (fun o => (0 ≤ o.2.2.2.1 ∧ o.2.2.2.1 ≤ 32) ∧ (0 ≤ o.2.2.2.2.1 ∧ o.2.2.2.2.1 ≤ 2147483647) ∧ (0 ≤ o.2.2.2.2.2.1 ∧ o.2.2.2.2.2.1 ≤ 1) ∧ zR o.2.1 (-1) 11 ∧ zR o.2.2.1 (-1) 11 ∧ zR o.2.2.2.2.2.2.1 (-2147483648) 2147483647 ∧ zR o.2.2.2.2.2.2.2.1 0 10 ∧ zR o.2.2.2.2.2.2.2.2.1 0 30 ∧ zR o.2.2.2.2.2.2.2.2.2.1 0 99) := by
  intro n
  induction n with
  | zero => intro x1 x2 x3 x4 x5 i_from i_to i_carriers_judge_piled i_carriers_judge_tiring i_carriers_judge_barred i_carriers_notes i_columns_heights i_columns_weights i_carriers_judge_words i_carriers_judge_pile b_x1 b_x2 b_x4 b_x5 h_i_from h_i_to b_i_carriers_judge_piled b_i_carriers_judge_tiring b_i_carriers_judge_barred h_i_carriers_notes h_i_columns_heights h_i_columns_weights h_i_carriers_judge_words p_0 mk40 hm; exfalso; omega
  | succ n ih =>
    intro x1 x2 x3 x4 x5 i_from i_to i_carriers_judge_piled i_carriers_judge_tiring i_carriers_judge_barred i_carriers_notes i_columns_heights i_columns_weights i_carriers_judge_words i_carriers_judge_pile b_x1 b_x2 b_x4 b_x5 h_i_from h_i_to b_i_carriers_judge_piled b_i_carriers_judge_tiring b_i_carriers_judge_barred h_i_carriers_notes h_i_columns_heights h_i_columns_weights h_i_carriers_judge_words p_0 mk40 hm
    show zok (f_Schools_shadesBehind_55_b r_Schools_shadesBehind r_Schools_shadesCarried i_hill_children i_hill_parishes i_hill_laws i_hill_inForce i_hill_changes i_columns_many i_hill_strengths i_hill_expelled i_hill_places i_hill_terms i_hill_orders i_hill_ordered k40 (f_Schools_shadesBehind_55 r_Schools_shadesBehind r_Schools_shadesCarried i_hill_children i_hill_parishes i_hill_laws i_hill_inForce i_hill_changes i_columns_many i_hill_strengths i_hill_expelled i_hill_places i_hill_terms i_hill_orders i_hill_ordered k40 n) x1 x2 x3 x4 x5 i_from i_to i_carriers_judge_piled i_carriers_judge_tiring i_carriers_judge_barred i_carriers_notes i_columns_heights i_columns_weights i_carriers_judge_words i_carriers_judge_pile) _
    unfold f_Schools_shadesBehind_55_b
    refine zk_ifc (zci_le (by omega) (by omega)) (fun hc => ?_) (fun hc => ?_)
    · refine zk_n ?_
      exact hk40 _ _ _ _ _ _ _ _ _ _ _ _ _ _ (by omega) (by omega) (by omega) h_i_from h_i_to (by omega) (by omega) (by omega) h_i_carriers_notes h_i_columns_heights h_i_columns_weights h_i_carriers_judge_words (by omega) (by omega)
    · refine zk_d1 (s_Columns_top _ _ _ _ (by omega) (by omega) h_i_columns_heights h_i_columns_weights) (fun v2 hp => ?_)
      try dsimp only at hp
      have hpp0 := hp
      refine zk_d1 (s_Columns_high _ _ _ (by omega) (by omega) h_i_columns_heights) (fun v3 hp_2 => ?_)
      try dsimp only at hp_2
      obtain ⟨hp_2p0, hp_2p1⟩ := hp_2
      refine zk_d1 (s_Columns_high _ _ _ (by omega) (by omega) h_i_columns_heights) (fun v4 hp_3 => ?_)
      try dsimp only at hp_3
      obtain ⟨hp_3p0, hp_3p1⟩ := hp_3
      refine zk_d7 (s_Carriers_note _ _ _ _ _ _ _ _ _ _ _ _ _ _ _ _ _ _ _ _ (by omega) (by omega) (by omega) (by omega) (by omega) (by omega) (by omega) (by omega) h_i_hill_strengths h_i_hill_expelled h_i_hill_terms h_i_hill_orders h_i_hill_ordered (by omega) (by omega) (by omega) h_i_carriers_notes h_i_carriers_judge_words) (fun v5 v6 v7 v8 a9 a10 a11 hp_4 => ?_)
      try dsimp only at hp_4
      obtain ⟨hp_4p0, hp_4p1, hp_4p2, hp_4p3, hp_4p4, hp_4p5⟩ := hp_4
      refine zk_ifc (zci_ne (by omega) (by omega)) (fun hc_2 => ?_) (fun hc_2 => ?_)
      · refine zk_d11 (hr_Schools_shadesCarried _ _ _ _ _ _ _ _ _ _ _ _ _ _ _ _ _ _ _ _ _ _ _ _ _ _ (by omega) (by omega) (by omega) (by omega) (by omega) (by omega) (by omega) (by omega) (by omega) h_i_hill_strengths h_i_hill_expelled h_i_hill_places h_i_hill_terms h_i_hill_orders h_i_hill_ordered h_i_from h_i_to (by omega) (by omega) (by omega) hp_4p4 h_i_columns_heights h_i_columns_weights hp_4p5 (by omega)) (fun v12 a13 a14 v15 v16 v17 a18 a19 a20 a21 a22 hp_5 => ?_)
        try dsimp only at hp_5
        obtain ⟨hp_5p0, hp_5p1, hp_5p2, hp_5p3, hp_5p4, hp_5p5, hp_5p6, hp_5p7, hp_5p8⟩ := hp_5
        refine zk_if (fun hc_3 => ?_) (fun hc_3 => ?_)
        · unfold f_Schools_shadesBehind_148
          refine zk_sv (by omega) (by decide) (fun a1 h_a1 => ?_)
          have i_a1 : zR a1 (-1) 11 := by rw [h_a1]; exact zR_zu hp_5p3 (by decide) (by decide) (by omega)
          refine zk_sv (by omega) (by decide) (fun a2 h_a2 => ?_)
          have i_a2 : zR a2 (-1) 11 := by rw [h_a2]; exact zR_zu hp_5p4 (by decide) (by decide) (by omega)
          unfold f_Schools_shadesBehind_167
          refine zk_n ?_
          exact ih _ _ _ _ _ _ _ _ _ _ _ _ _ _ _ (by omega) (by omega) (by omega) (by omega) i_a1 i_a2 (by omega) (by omega) (by omega) hp_5p5 hp_5p6 hp_5p7 hp_5p8 (by omega) (by omega) (by omega)
        · refine zk_ifc (zci_ner (by omega)) (fun hc_4 => ?_) (fun hc_4 => ?_)
          · refine zk_if (fun hc_5 => ?_) (fun hc_5 => ?_)
            · unfold f_Schools_shadesBehind_167
              refine zk_n ?_
              exact ih _ _ _ _ _ _ _ _ _ _ _ _ _ _ _ (by omega) (by omega) (by omega) (by omega) hp_5p3 hp_5p4 (by omega) (by omega) (by omega) hp_5p5 hp_5p6 hp_5p7 hp_5p8 (by omega) (by omega) (by omega)
            · unfold f_Schools_shadesBehind_148
              refine zk_sv (by omega) (by decide) (fun a1_2 h_a1_2 => ?_)
              have i_a1_2 : zR a1_2 (-1) 11 := by rw [h_a1_2]; exact zR_zu hp_5p3 (by decide) (by decide) (by omega)
              refine zk_sv (by omega) (by decide) (fun a2_2 h_a2_2 => ?_)
              have i_a2_2 : zR a2_2 (-1) 11 := by rw [h_a2_2]; exact zR_zu hp_5p4 (by decide) (by decide) (by omega)
              unfold f_Schools_shadesBehind_167
              refine zk_n ?_
              exact ih _ _ _ _ _ _ _ _ _ _ _ _ _ _ _ (by omega) (by omega) (by omega) (by omega) i_a1_2 i_a2_2 (by omega) (by omega) (by omega) hp_5p5 hp_5p6 hp_5p7 hp_5p8 (by omega) (by omega) (by omega)
          · refine zk_if (fun hc_6 => ?_) (fun hc_6 => ?_)
            · unfold f_Schools_shadesBehind_167
              refine zk_n ?_
              exact ih _ _ _ _ _ _ _ _ _ _ _ _ _ _ _ (by omega) (by omega) (by omega) (by omega) hp_5p3 hp_5p4 (by omega) (by omega) (by omega) hp_5p5 hp_5p6 hp_5p7 hp_5p8 (by omega) (by omega) (by omega)
            · unfold f_Schools_shadesBehind_148
              refine zk_sv (by omega) (by decide) (fun a1_3 h_a1_3 => ?_)
              have i_a1_3 : zR a1_3 (-1) 11 := by rw [h_a1_3]; exact zR_zu hp_5p3 (by decide) (by decide) (by omega)
              refine zk_sv (by omega) (by decide) (fun a2_3 h_a2_3 => ?_)
              have i_a2_3 : zR a2_3 (-1) 11 := by rw [h_a2_3]; exact zR_zu hp_5p4 (by decide) (by decide) (by omega)
              unfold f_Schools_shadesBehind_167
              refine zk_n ?_
              exact ih _ _ _ _ _ _ _ _ _ _ _ _ _ _ _ (by omega) (by omega) (by omega) (by omega) i_a1_3 i_a2_3 (by omega) (by omega) (by omega) hp_5p5 hp_5p6 hp_5p7 hp_5p8 (by omega) (by omega) (by omega)
      · unfold f_Schools_shadesBehind_167
        refine zk_n ?_
        exact ih _ _ _ _ _ _ _ _ _ _ _ _ _ _ _ (by omega) (by omega) (by omega) (by omega) h_i_from h_i_to (by omega) (by omega) (by omega) hp_4p4 h_i_columns_heights h_i_columns_weights hp_4p5 (by omega) (by omega) (by omega)
