section
set_option maxHeartbeats 8000000 in
theorem ot_5 {x1 : Int} {i_latestStatus : Int} {i_hill_children : Int} {i_hill_changes : Int} {i_refusals : Nat → Int} {i_hill_strengths : Nat → Int} {i_hill_expelled : Nat → Int} {i_hill_trips : Nat → Int} {v : Int × Int × Int × Int × (Nat → Int) × (Nat → Int) × (Nat → Int) × (Nat → Int)} (h : f_HS_child x1 i_latestStatus i_hill_children i_hill_changes i_refusals i_hill_strengths i_hill_expelled i_hill_trips = some v) : v.2.2.2.1 = i_hill_changes → v.2.2.1 = i_hill_children ∧ v.2.2.2.2.2.1 = i_hill_strengths ∧ v.2.2.2.2.2.2.1 = i_hill_expelled := by
  unfold f_HS_child at h
  rcases xp_if h with ⟨_, h⟩ | ⟨_, h⟩
  · unfold f_HS_child_11 at h
    obtain ⟨w0_0, w0_1, w0_2, e, h⟩ := xz_d3 h
    cases h
    first | exact fun e => absurd e (by dsimp only; omega) | exact fun _ => ⟨rfl, rfl, rfl⟩
  · rcases xp_if h with ⟨_, h⟩ | ⟨_, h⟩
    · rcases xp_if h with ⟨_, h⟩ | ⟨_, h⟩
      · obtain ⟨w0_0, w0_1, w0_2, w0_3, w0_4, e, h⟩ := xz_d5 h
        obtain ⟨w1_0, w1_1, w1_2, e, h⟩ := xz_d3 h
        have k := k_accept e
        cases k
        cases h
        first | exact fun e => absurd e (by dsimp only; omega) | exact fun _ => ⟨rfl, rfl, rfl⟩
      · obtain ⟨w0_0, w0_1, w0_2, e, h⟩ := xz_d3 h
        cases h
        first | exact fun e => absurd e (by dsimp only; omega) | exact fun _ => ⟨rfl, rfl, rfl⟩
    · unfold f_HS_child_11 at h
      obtain ⟨w0_0, w0_1, w0_2, e, h⟩ := xz_d3 h
      cases h
      first | exact fun e => absurd e (by dsimp only; omega) | exact fun _ => ⟨rfl, rfl, rfl⟩
set_option maxHeartbeats 8000000 in
theorem ot_6 {x1 : Int} {x2 : Int} {i_hill_children : Int} {i_latestStatus : Int} {i_hill_changes : Int} {i_refusals : Nat → Int} {i_hill_expelled : Nat → Int} {v : Int × Int × Int × (Nat → Int) × (Nat → Int)} (h : f_HS_expel x1 x2 i_hill_children i_latestStatus i_hill_changes i_refusals i_hill_expelled = some v) : v.2.2.1 = i_hill_changes → v.2.2.2.2 = i_hill_expelled := by
  unfold f_HS_expel at h
  rcases xp_if h with ⟨_, h⟩ | ⟨_, h⟩
  · unfold f_HS_expel_9 at h
    obtain ⟨w0_0, w0_1, w0_2, e, h⟩ := xz_d3 h
    cases h
    first | exact fun e => absurd e (by dsimp only; omega) | exact fun _ => rfl
  · rcases xp_if h with ⟨_, h⟩ | ⟨_, h⟩
    · obtain ⟨w0_0, e, h⟩ := xz_d1 h
      rcases xp_if h with ⟨_, h⟩ | ⟨_, h⟩
      · replace h := (xp_g h).2
        replace h := (xp_s h).2
        obtain ⟨w1_0, w1_1, w1_2, e, h⟩ := xz_d3 h
        have k := k_accept e
        cases k
        cases h
        first | exact fun e => absurd e (by dsimp only; omega) | exact fun _ => rfl
      · obtain ⟨w1_0, w1_1, w1_2, e, h⟩ := xz_d3 h
        cases h
        first | exact fun e => absurd e (by dsimp only; omega) | exact fun _ => rfl
    · unfold f_HS_expel_9 at h
      obtain ⟨w0_0, w0_1, w0_2, e, h⟩ := xz_d3 h
      cases h
      first | exact fun e => absurd e (by dsimp only; omega) | exact fun _ => rfl
set_option maxHeartbeats 8000000 in
theorem ot_8 {x1 : Int} {i_hill_columns_many : Int} {i_latestStatus : Int} {i_hill_parishes : Int} {i_hill_changes : Int} {i_refusals : Nat → Int} {i_hill_places : Nat → Int} {v : Int × Int × Int × Int × (Nat → Int) × (Nat → Int)} (h : f_HS_parish x1 i_hill_columns_many i_latestStatus i_hill_parishes i_hill_changes i_refusals i_hill_places = some v) : v.2.2.2.1 = i_hill_changes → v.2.2.1 = i_hill_parishes ∧ v.2.2.2.2.2 = i_hill_places := by
  unfold f_HS_parish at h
  obtain ⟨w0_0, e, h⟩ := xz_d1 h
  rcases xp_if h with ⟨_, h⟩ | ⟨_, h⟩
  · rcases xp_if h with ⟨_, h⟩ | ⟨_, h⟩
    · replace h := (xp_s h).2
      replace h := xp_n h
      obtain ⟨w1_0, w1_1, w1_2, e, h⟩ := xz_d3 h
      have k := k_accept e
      cases k
      cases h
      first | exact fun e => absurd e (by dsimp only; omega) | exact fun _ => ⟨rfl, rfl⟩
    · obtain ⟨w1_0, w1_1, w1_2, e, h⟩ := xz_d3 h
      cases h
      first | exact fun e => absurd e (by dsimp only; omega) | exact fun _ => ⟨rfl, rfl⟩
  · obtain ⟨w1_0, w1_1, w1_2, e, h⟩ := xz_d3 h
    cases h
    first | exact fun e => absurd e (by dsimp only; omega) | exact fun _ => ⟨rfl, rfl⟩
set_option maxHeartbeats 8000000 in
theorem ot_9 {x1 : Int} {x2 : Int} {i_latestStatus : Int} {i_hill_changes : Int} {i_refusals : Nat → Int} {i_hill_terms : Nat → Int} {v : Int × Int × Int × (Nat → Int) × (Nat → Int)} (h : f_HS_terms x1 x2 i_latestStatus i_hill_changes i_refusals i_hill_terms = some v) : v.2.2.1 = i_hill_changes → v.2.2.2.2 = i_hill_terms := by
  unfold f_HS_terms at h
  rcases xp_if h with ⟨_, h⟩ | ⟨_, h⟩
  · unfold f_HS_terms_30 at h
    obtain ⟨w0_0, w0_1, w0_2, e, h⟩ := xz_d3 h
    cases h
    first | exact fun e => absurd e (by dsimp only; omega) | exact fun _ => rfl
  · rcases xp_if h with ⟨_, h⟩ | ⟨_, h⟩
    · unfold f_HS_terms_30 at h
      obtain ⟨w0_0, w0_1, w0_2, e, h⟩ := xz_d3 h
      cases h
      first | exact fun e => absurd e (by dsimp only; omega) | exact fun _ => rfl
    · replace h := (xp_g h).2
      rcases xp_if h with ⟨_, h⟩ | ⟨_, h⟩
      · unfold f_HS_terms_30 at h
        obtain ⟨w0_0, w0_1, w0_2, e, h⟩ := xz_d3 h
        cases h
        first | exact fun e => absurd e (by dsimp only; omega) | exact fun _ => rfl
      · replace h := (xp_g h).2
        rcases xp_if h with ⟨_, h⟩ | ⟨_, h⟩
        · replace h := (xp_g h).2
          replace h := (xp_s h).2
          obtain ⟨w0_0, w0_1, w0_2, e, h⟩ := xz_d3 h
          have k := k_accept e
          cases k
          cases h
          first | exact fun e => absurd e (by dsimp only; omega) | exact fun _ => rfl
        · unfold f_HS_terms_30 at h
          obtain ⟨w0_0, w0_1, w0_2, e, h⟩ := xz_d3 h
          cases h
          first | exact fun e => absurd e (by dsimp only; omega) | exact fun _ => rfl
set_option maxHeartbeats 8000000 in
theorem ot_14 {i_tape : Nat → Int} {i_taped : Int} {i_latestFault : Int} {i_latestStatus : Int} {i_hill_laws : Int} {i_hill_changes : Int} {i_refusals : Nat → Int} {i_reader_ordered : Int} {i_reader_at : Int} {i_reader_parts : Int} {i_hill_orders : Nat → Int} {i_hill_ordered : Nat → Int} {i_reader_orders : Nat → Int} {i_reader_tokens : Nat → Int} {i_reader_places : Nat → Int} {i_reader_values : Nat → Int} {v : Int × Int × Int × Int × Int × Int × (Nat → Int) × Int × Int × Int × (Nat → Int) × (Nat → Int) × (Nat → Int) × (Nat → Int) × (Nat → Int) × (Nat → Int)} (h : f_HS_law i_tape i_taped i_latestFault i_latestStatus i_hill_laws i_hill_changes i_refusals i_reader_ordered i_reader_at i_reader_parts i_hill_orders i_hill_ordered i_reader_orders i_reader_tokens i_reader_places i_reader_values = some v) : v.2.2.2.2.2.1 = i_hill_changes → v.2.2.2.2.1 = i_hill_laws ∧ v.2.2.2.2.2.2.2.2.2.2.1 = i_hill_orders ∧ v.2.2.2.2.2.2.2.2.2.2.2.1 = i_hill_ordered := by
  unfold f_HS_law at h
  rcases xp_if h with ⟨_, h⟩ | ⟨_, h⟩
  · obtain ⟨w0_0, w0_1, w0_2, w0_3, w0_4, w0_5, w0_6, w0_7, e, h⟩ := xz_d8 h
    rcases xp_if h with ⟨_, h⟩ | ⟨_, h⟩
    · obtain ⟨w1_0, w1_1, w1_2, w1_3, e, h⟩ := xz_d4 h
      obtain ⟨w2_0, w2_1, w2_2, e, h⟩ := xz_d3 h
      have k := k_accept e
      cases k
      cases h
      first | exact fun e => absurd e (by dsimp only; omega) | exact fun _ => ⟨rfl, rfl, rfl⟩
    · obtain ⟨w1_0, w1_1, w1_2, e, h⟩ := xz_d3 h
      cases h
      first | exact fun e => absurd e (by dsimp only; omega) | exact fun _ => ⟨rfl, rfl, rfl⟩
  · obtain ⟨w0_0, w0_1, w0_2, e, h⟩ := xz_d3 h
    cases h
    first | exact fun e => absurd e (by dsimp only; omega) | exact fun _ => ⟨rfl, rfl, rfl⟩
set_option maxHeartbeats 8000000 in
theorem ot_16 {x1 : Int} {i_hill_laws : Int} {i_latestStatus : Int} {i_hill_inForce : Int} {i_hill_changes : Int} {i_refusals : Nat → Int} {v : Int × Int × Int × Int × (Nat → Int)} (h : f_HS_force x1 i_hill_laws i_latestStatus i_hill_inForce i_hill_changes i_refusals = some v) : v.2.2.2.1 = i_hill_changes → v.2.2.1 = i_hill_inForce := by
  unfold f_HS_force at h
  rcases xp_if h with ⟨_, h⟩ | ⟨_, h⟩
  · unfold f_HS_force_27 at h
    obtain ⟨w0_0, w0_1, w0_2, e, h⟩ := xz_d3 h
    have k := k_accept e
    cases k
    cases h
    first | exact fun e => absurd e (by dsimp only; omega) | exact fun _ => rfl
  · rcases xp_if h with ⟨_, h⟩ | ⟨_, h⟩
    · unfold f_HS_force_20 at h
      obtain ⟨w0_0, w0_1, w0_2, e, h⟩ := xz_d3 h
      cases h
      first | exact fun e => absurd e (by dsimp only; omega) | exact fun _ => rfl
    · rcases xp_if h with ⟨_, h⟩ | ⟨_, h⟩
      · unfold f_HS_force_27 at h
        obtain ⟨w0_0, w0_1, w0_2, e, h⟩ := xz_d3 h
        have k := k_accept e
        cases k
        cases h
        first | exact fun e => absurd e (by dsimp only; omega) | exact fun _ => rfl
      · unfold f_HS_force_20 at h
        obtain ⟨w0_0, w0_1, w0_2, e, h⟩ := xz_d3 h
        cases h
        first | exact fun e => absurd e (by dsimp only; omega) | exact fun _ => rfl
set_option maxHeartbeats 8000000 in
theorem ot_35 {x1 : Int} {i_kept : Nat → Int} {i_images_0_children : Int} {i_images_0_parishes : Int} {i_images_0_laws : Int} {i_images_0_inForce : Int} {i_images_1_children : Int} {i_images_1_parishes : Int} {i_images_1_laws : Int} {i_images_1_inForce : Int} {i_images_0_columns_many : Int} {i_images_0_strengths : Nat → Int} {i_images_0_expelled : Nat → Int} {i_images_0_trips : Nat → Int} {i_images_0_places : Nat → Int} {i_images_0_terms : Nat → Int} {i_images_0_goals : Nat → Int} {i_images_0_orders : Nat → Int} {i_images_0_ordered : Nat → Int} {i_images_1_columns_many : Int} {i_images_1_strengths : Nat → Int} {i_images_1_expelled : Nat → Int} {i_images_1_trips : Nat → Int} {i_images_1_places : Nat → Int} {i_images_1_terms : Nat → Int} {i_images_1_goals : Nat → Int} {i_images_1_orders : Nat → Int} {i_images_1_ordered : Nat → Int} {i_images_0_columns_heights : Nat → Int} {i_images_0_columns_weights : Nat → Int} {i_images_1_columns_heights : Nat → Int} {i_images_1_columns_weights : Nat → Int} {i_latestStatus : Int} {i_hill_children : Int} {i_hill_parishes : Int} {i_hill_laws : Int} {i_hill_inForce : Int} {i_hill_changes : Int} {i_refusals : Nat → Int} {i_hill_columns_many : Int} {i_hill_strengths : Nat → Int} {i_hill_expelled : Nat → Int} {i_hill_trips : Nat → Int} {i_hill_places : Nat → Int} {i_hill_terms : Nat → Int} {i_hill_goals : Nat → Int} {i_hill_orders : Nat → Int} {i_hill_ordered : Nat → Int} {i_hill_columns_heights : Nat → Int} {i_hill_columns_weights : Nat → Int} {v : Int × Int × Int × Int × Int × Int × Int × (Nat → Int) × Int × (Nat → Int) × (Nat → Int) × (Nat → Int) × (Nat → Int) × (Nat → Int) × (Nat → Int) × (Nat → Int) × (Nat → Int) × (Nat → Int) × (Nat → Int)} (h : f_HS_back x1 i_kept i_images_0_children i_images_0_parishes i_images_0_laws i_images_0_inForce i_images_1_children i_images_1_parishes i_images_1_laws i_images_1_inForce i_images_0_columns_many i_images_0_strengths i_images_0_expelled i_images_0_trips i_images_0_places i_images_0_terms i_images_0_goals i_images_0_orders i_images_0_ordered i_images_1_columns_many i_images_1_strengths i_images_1_expelled i_images_1_trips i_images_1_places i_images_1_terms i_images_1_goals i_images_1_orders i_images_1_ordered i_images_0_columns_heights i_images_0_columns_weights i_images_1_columns_heights i_images_1_columns_weights i_latestStatus i_hill_children i_hill_parishes i_hill_laws i_hill_inForce i_hill_changes i_refusals i_hill_columns_many i_hill_strengths i_hill_expelled i_hill_trips i_hill_places i_hill_terms i_hill_goals i_hill_orders i_hill_ordered i_hill_columns_heights i_hill_columns_weights = some v) : v.2.2.2.2.2.2.1 = i_hill_changes → v.2.2.1 = i_hill_children ∧ v.2.2.2.1 = i_hill_parishes ∧ v.2.2.2.2.1 = i_hill_laws ∧ v.2.2.2.2.2.1 = i_hill_inForce ∧ v.2.2.2.2.2.2.2.2.2.1 = i_hill_strengths ∧ v.2.2.2.2.2.2.2.2.2.2.1 = i_hill_expelled ∧ v.2.2.2.2.2.2.2.2.2.2.2.2.1 = i_hill_places ∧ v.2.2.2.2.2.2.2.2.2.2.2.2.2.1 = i_hill_terms ∧ v.2.2.2.2.2.2.2.2.2.2.2.2.2.2.2.1 = i_hill_orders ∧ v.2.2.2.2.2.2.2.2.2.2.2.2.2.2.2.2.1 = i_hill_ordered := by
  unfold f_HS_back at h
  rcases xp_if h with ⟨_, h⟩ | ⟨_, h⟩
  · unfold f_HS_back_9 at h
    obtain ⟨w0_0, w0_1, w0_2, e, h⟩ := xz_d3 h
    cases h
    first | exact fun e => absurd e (by dsimp only; omega) | exact fun _ => ⟨rfl, rfl, rfl, rfl, rfl, rfl, rfl, rfl, rfl, rfl⟩
  · rcases xp_if h with ⟨_, h⟩ | ⟨_, h⟩
    · replace h := (xp_g h).2
      rcases xp_if h with ⟨_, h⟩ | ⟨_, h⟩
      · rcases xp_if h with ⟨_, h⟩ | ⟨_, h⟩
        · obtain ⟨w0_0, w0_1, w0_2, w0_3, w0_4, w0_5, w0_6, w0_7, w0_8, w0_9, w0_10, w0_11, w0_12, w0_13, w0_14, e, h⟩ := xz_d15 h
          unfold f_HS_back_44 at h
          obtain ⟨w1_0, w1_1, w1_2, e, h⟩ := xz_d3 h
          have k := k_accept e
          cases k
          cases h
          first | exact fun e => absurd e (by dsimp only; omega) | exact fun _ => ⟨rfl, rfl, rfl, rfl, rfl, rfl, rfl, rfl, rfl, rfl⟩
        · rcases xp_if h with ⟨_, h⟩ | ⟨_, h⟩
          · obtain ⟨w0_0, w0_1, w0_2, w0_3, w0_4, w0_5, w0_6, w0_7, w0_8, w0_9, w0_10, w0_11, w0_12, w0_13, w0_14, e, h⟩ := xz_d15 h
            unfold f_HS_back_44 at h
            obtain ⟨w1_0, w1_1, w1_2, e, h⟩ := xz_d3 h
            have k := k_accept e
            cases k
            cases h
            first | exact fun e => absurd e (by dsimp only; omega) | exact fun _ => ⟨rfl, rfl, rfl, rfl, rfl, rfl, rfl, rfl, rfl, rfl⟩
          · exact nomatch h
      · obtain ⟨w0_0, w0_1, w0_2, e, h⟩ := xz_d3 h
        cases h
        first | exact fun e => absurd e (by dsimp only; omega) | exact fun _ => ⟨rfl, rfl, rfl, rfl, rfl, rfl, rfl, rfl, rfl, rfl⟩
    · unfold f_HS_back_9 at h
      obtain ⟨w0_0, w0_1, w0_2, e, h⟩ := xz_d3 h
      cases h
      first | exact fun e => absurd e (by dsimp only; omega) | exact fun _ => ⟨rfl, rfl, rfl, rfl, rfl, rfl, rfl, rfl, rfl, rfl⟩
end
section
noncomputable def SIM5 (σ : Nat → Int) (τ : Nat → Nat → Int) : Prop := NOK (σ 30) (σ 26) (σ 28) (σ 29) (τ 34) (τ 35) (τ 38) (τ 40) (τ 41) (τ 48) ∧ SOK (σ 27) (τ 37) (σ 49) (σ 26) (σ 28) (σ 29) (τ 34) (τ 35) (τ 38) (τ 40) (τ 41) (σ 30) (τ 63) (τ 64) (σ 40) (σ 41) (σ 42) (σ 43) (τ 59) (τ 60) ∧ STW (σ 49) (τ 63) (τ 64) ∧ (τ 6 0 ≠ 0 → STW (σ 62) (τ 85) (τ 86)) ∧ (τ 6 1 ≠ 0 → STW (σ 63) (τ 87) (τ 88))
noncomputable def XX5 (σ : Nat → Int) (τ : Nat → Nat → Int) : Prop := (zR (τ 40) (-2147483648) 2147483647) ∧ (zR (τ 41) 0 424) ∧ (zR (τ 48) (-2147483648) 2147483647) ∧ (zR (τ 56) 0 30) ∧ (zR (τ 57) 0 5) ∧ (zR (τ 81) 0 10) ∧ (zR (τ 82) 0 30) ∧ (0 ≤ (σ 37) ∧ (σ 37) ≤ 5)
set_option maxHeartbeats 4000000 in
set_option maxRecDepth 10000 in
theorem INV_XX5 {N : Int} {σ : Nat → Int} {τ : Nat → Nat → Int} (h : INV N σ τ) : XX5 σ τ := by
  have zg1 := h.2
  have zg2 := zg1.2
  have zg3 := zg2.2
  have zg4 := zg3.2
  have zg5 := zg4.2
  have zg6 := zg5.2
  have zg7 := zg6.2
  have zg8 := zg7.2
  have zg9 := zg8.2
  have zg10 := zg9.2
  have zg11 := zg10.2
  have zg12 := zg11.2
  have zg13 := zg12.2
  have zg14 := zg13.2
  have zg15 := zg14.2
  have zg16 := zg15.2
  have zg17 := zg16.2
  have zg18 := zg17.2
  have zg19 := zg18.2
  have zg20 := zg19.2
  have zg21 := zg20.2
  have zg22 := zg21.2
  have zg23 := zg22.2
  have zg24 := zg23.2
  have zg25 := zg24.2
  have zg26 := zg25.2
  have zg27 := zg26.2
  have zg28 := zg27.2
  have zg29 := zg28.2
  have zg30 := zg29.2
  have zg31 := zg30.2
  have zg32 := zg31.2
  have zg33 := zg32.2
  have zg34 := zg33.2
  have zg35 := zg34.2
  have zg36 := zg35.2
  have zg37 := zg36.2
  have zg38 := zg37.2
  have zg39 := zg38.2
  have zg40 := zg39.2
  have zg41 := zg40.2
  have zg42 := zg41.2
  have zg43 := zg42.2
  have zg44 := zg43.2
  have zg45 := zg44.2
  have zg46 := zg45.2
  have zg47 := zg46.2
  have zg48 := zg47.2
  have zg49 := zg48.2
  have zg50 := zg49.2
  have zg51 := zg50.2
  have zg52 := zg51.2
  have zg53 := zg52.2
  have zg54 := zg53.2
  have zg55 := zg54.2
  have zg56 := zg55.2
  have zg57 := zg56.2
  have zg58 := zg57.2
  have zg59 := zg58.2
  have zg60 := zg59.2
  have zg61 := zg60.2
  have zg62 := zg61.2
  have zg63 := zg62.2
  have zg64 := zg63.2
  have zg65 := zg64.2
  have zg66 := zg65.2
  have zg67 := zg66.2
  have zg68 := zg67.2
  have zg69 := zg68.2
  have zg70 := zg69.2
  have zg71 := zg70.2
  have zg72 := zg71.2
  have zg73 := zg72.2
  have zg74 := zg73.2
  have zg75 := zg74.2
  have zg76 := zg75.2
  have zg77 := zg76.2
  have zg78 := zg77.2
  have zg79 := zg78.2
  have zg80 := zg79.2
  have zg81 := zg80.2
  have zg82 := zg81.2
  have zg83 := zg82.2
  have zg84 := zg83.2
  have zg85 := zg84.2
  have zg86 := zg85.2
  have zg87 := zg86.2
  have zg88 := zg87.2
  have zg89 := zg88.2
  have zg90 := zg89.2
  have zg91 := zg90.2
  have zg92 := zg91.2
  have zg93 := zg92.2
  have zg94 := zg93.2
  have zg95 := zg94.2
  have zg96 := zg95.2
  have zg97 := zg96.2
  have zg98 := zg97.2
  have zg99 := zg98.2
  have zg100 := zg99.2
  have zg101 := zg100.2
  have zg102 := zg101.2
  have zg103 := zg102.2
  have zg104 := zg103.2
  have zg105 := zg104.2
  have zg106 := zg105.2
  have zg107 := zg106.2
  have zg108 := zg107.2
  have zg109 := zg108.2
  have zg110 := zg109.2
  have zg111 := zg110.2
  have zg112 := zg111.2
  have zg113 := zg112.2
  have zg114 := zg113.2
  have zg115 := zg114.2
  have zg116 := zg115.2
  have zg117 := zg116.2
  have zg118 := zg117.2
  have zg119 := zg118.2
  have zg120 := zg119.2
  have zg121 := zg120.2
  have zg122 := zg121.2
  have zg123 := zg122.2
  have zg124 := zg123.2
  have zg125 := zg124.2
  have I_t40 := zg51.1
  have I_t41 := zg52.1
  have I_t48 := zg57.1
  have I_t56 := zg64.1
  have I_t57 := zg65.1
  have I_t81 := zg88.1
  have I_t82 := zg89.1
  have I_s37 := zg13.1
  exact ⟨I_t40, I_t41, I_t48, I_t56, I_t57, I_t81, I_t82, I_s37⟩
set_option maxHeartbeats 4000000 in
set_option maxRecDepth 10000 in
theorem INV_63 {N : Int} {σ : Nat → Int} {τ : Nat → Nat → Int} (h : INV N σ τ) : zR (τ 63) 0 10 := by
  have zg1 := h.2
  have zg2 := zg1.2
  have zg3 := zg2.2
  have zg4 := zg3.2
  have zg5 := zg4.2
  have zg6 := zg5.2
  have zg7 := zg6.2
  have zg8 := zg7.2
  have zg9 := zg8.2
  have zg10 := zg9.2
  have zg11 := zg10.2
  have zg12 := zg11.2
  have zg13 := zg12.2
  have zg14 := zg13.2
  have zg15 := zg14.2
  have zg16 := zg15.2
  have zg17 := zg16.2
  have zg18 := zg17.2
  have zg19 := zg18.2
  have zg20 := zg19.2
  have zg21 := zg20.2
  have zg22 := zg21.2
  have zg23 := zg22.2
  have zg24 := zg23.2
  have zg25 := zg24.2
  have zg26 := zg25.2
  have zg27 := zg26.2
  have zg28 := zg27.2
  have zg29 := zg28.2
  have zg30 := zg29.2
  have zg31 := zg30.2
  have zg32 := zg31.2
  have zg33 := zg32.2
  have zg34 := zg33.2
  have zg35 := zg34.2
  have zg36 := zg35.2
  have zg37 := zg36.2
  have zg38 := zg37.2
  have zg39 := zg38.2
  have zg40 := zg39.2
  have zg41 := zg40.2
  have zg42 := zg41.2
  have zg43 := zg42.2
  have zg44 := zg43.2
  have zg45 := zg44.2
  have zg46 := zg45.2
  have zg47 := zg46.2
  have zg48 := zg47.2
  have zg49 := zg48.2
  have zg50 := zg49.2
  have zg51 := zg50.2
  have zg52 := zg51.2
  have zg53 := zg52.2
  have zg54 := zg53.2
  have zg55 := zg54.2
  have zg56 := zg55.2
  have zg57 := zg56.2
  have zg58 := zg57.2
  have zg59 := zg58.2
  have zg60 := zg59.2
  have zg61 := zg60.2
  have zg62 := zg61.2
  have zg63 := zg62.2
  have zg64 := zg63.2
  have zg65 := zg64.2
  have zg66 := zg65.2
  have zg67 := zg66.2
  have zg68 := zg67.2
  have zg69 := zg68.2
  have zg70 := zg69.2
  have zg71 := zg70.2
  have zg72 := zg71.2
  have zg73 := zg72.2
  have zg74 := zg73.2
  have zg75 := zg74.2
  have zg76 := zg75.2
  have zg77 := zg76.2
  have zg78 := zg77.2
  have zg79 := zg78.2
  have zg80 := zg79.2
  have zg81 := zg80.2
  have zg82 := zg81.2
  have zg83 := zg82.2
  have zg84 := zg83.2
  have zg85 := zg84.2
  have zg86 := zg85.2
  have zg87 := zg86.2
  have zg88 := zg87.2
  have zg89 := zg88.2
  have zg90 := zg89.2
  have zg91 := zg90.2
  have zg92 := zg91.2
  have zg93 := zg92.2
  have zg94 := zg93.2
  have zg95 := zg94.2
  have zg96 := zg95.2
  have zg97 := zg96.2
  have zg98 := zg97.2
  have zg99 := zg98.2
  have zg100 := zg99.2
  have zg101 := zg100.2
  have zg102 := zg101.2
  have zg103 := zg102.2
  have zg104 := zg103.2
  have zg105 := zg104.2
  have zg106 := zg105.2
  have zg107 := zg106.2
  have zg108 := zg107.2
  have zg109 := zg108.2
  have zg110 := zg109.2
  have zg111 := zg110.2
  have zg112 := zg111.2
  have zg113 := zg112.2
  have zg114 := zg113.2
  have zg115 := zg114.2
  have zg116 := zg115.2
  have zg117 := zg116.2
  have zg118 := zg117.2
  have zg119 := zg118.2
  have zg120 := zg119.2
  have zg121 := zg120.2
  have zg122 := zg121.2
  have zg123 := zg122.2
  have zg124 := zg123.2
  have zg125 := zg124.2
  have I_t63 := zg70.1
  exact I_t63
theorem NOK_st {cg cg' ch la fo ch' la' fo' : Int} {st ex te ord od st' ex' te' ord' od' nt : Nat → Int} (hN : NOK cg ch la fo st ex te ord od nt) (le : cg ≤ cg') (same : cg' = cg → ch' = ch ∧ la' = la ∧ fo' = fo ∧ st' = st ∧ ex' = ex ∧ te' = te ∧ ord' = ord ∧ od' = od) : NOK cg' ch' la' fo' st' ex' te' ord' od' nt := by
  by_cases e : cg' = cg
  · obtain ⟨rfl, rfl, rfl, rfl, rfl, rfl, rfl, rfl⟩ := same e
    rw [e]
    exact hN
  · exact NOK_up hN (by omega)
theorem SOK_st {pa many ch la fo : Int} {st ex te ord od pl : Nat → Int} {cg cg' pa' many' ch' la' fo' ver lt lf sh : Int} {row pl' st' ex' te' ord' od' H W H' W' fr tt : Nat → Int} (hR : RI row) (hm : 0 ≤ many ∧ many ≤ 12) (em : many = row 0) (hP : PREL pa pl te row) (ht : zR te 0 99) (hh : zR H 0 10) (hh' : zR H' 0 10) (hK : SOK pa pl many ch la fo st ex te ord od cg H W ver lt lf sh fr tt) (le : cg ≤ cg') (same : cg' = cg → (pa' = pa ∧ pl' = pl ∧ many' = many ∧ ch' = ch ∧ la' = la ∧ fo' = fo ∧ st' = st ∧ ex' = ex ∧ te' = te ∧ ord' = ord ∧ od' = od) ∧ CREL many H W H' W') : SOK pa' pl' many' ch' la' fo' st' ex' te' ord' od' cg' H' W' ver lt lf sh fr tt := by
  by_cases e : cg' = cg
  · obtain ⟨⟨rfl, rfl, rfl, rfl, rfl, rfl, rfl, rfl, rfl, rfl, rfl⟩, hC⟩ := same e
    rw [e]
    exact SOK_same hR hm em hP ht hh hh' hC hK
  · exact SOK_up hK (by omega)
theorem FOK_x {ch la fo : Int} {st ex te ord od : Nat → Int} {row : Nat → Int} (hJ : JREL ch la fo st ex te ord od row) (hR : RI row) (h1 : zR ord (-2147483648) 2147483647) (h2 : zR od 0 424) (h3 : zR te 0 99) (h4 : 0 ≤ la) : FOK ch la fo st ex te ord od row := ⟨hJ, hR, h1, h2, h3, h4⟩
end
section
set_option maxHeartbeats 8000000 in
set_option maxRecDepth 10000 in
theorem qk5_0 {N : Int} {σ : Nat → Int} {τ : Nat → Nat → Int} (hX : XX3 σ τ) (hY : XX5 σ τ) (hB : 0 ≤ σ 30 ∧ σ 30 ≤ 5000) (hS : SIM2 σ τ) (hT : SIM3 σ τ) (hV : SIM5 σ τ)  {o : Int × Int × Int × Int × Int × Int × Int × (Nat → Int) × (Nat → Int) × (Nat → Int) × (Nat → Int) × (Nat → Int)} (h : f_OP_0 N (σ 3) (σ 4) (σ 5) (σ 26) (σ 27) (σ 30) (σ 49) (τ 2) (τ 3) (τ 4) (τ 34) (τ 35) (τ 36) (τ 37) (τ 38) (τ 39) (τ 63) = some o) (hI : zR ((zta τ [(2, o.2.2.2.2.2.2.2.1), (3, o.2.2.2.2.2.2.2.2.1), (4, o.2.2.2.2.2.2.2.2.2.1), (39, o.2.2.2.2.2.2.2.2.2.2.1), (63, o.2.2.2.2.2.2.2.2.2.2.2)]) 63) 0 10) : (True) ∧ SIM5 (zst σ [(3, o.2.2.1), (4, o.2.2.2.1), (5, o.2.2.2.2.1), (30, o.2.2.2.2.2.1), (49, o.2.2.2.2.2.2.1)]) (zta τ [(2, o.2.2.2.2.2.2.2.1), (3, o.2.2.2.2.2.2.2.2.1), (4, o.2.2.2.2.2.2.2.2.2.1), (39, o.2.2.2.2.2.2.2.2.2.2.1), (63, o.2.2.2.2.2.2.2.2.2.2.2)]) := by
  obtain ⟨x_RI, x_h16, x_h17, x_b0, x_e0, x_t1, x_m, x_em, x_ch, x_ech, x_pa, x_epa, x_la, x_fo, x_h63, x_h64, x_st, x_ex, x_pl, x_te, x_Rst, x_Rex, x_Rtr, x_Rpl, x_Rte, x_Rgo, x_im, x_k6, x_k0, x_kp, x_m0, x_m1, x_h85, x_h87, x_m61, x_h83⟩ := hX
  obtain ⟨y_t40, y_t41, y_t48, y_t56, y_t57, y_t81, y_t82, y_s37⟩ := hY
  have S4 := hS.2.2.2.1
  have T1 := hT.1
  have hF := FOK_x (x3_J x_RI x_ch x_ech x_Rst x_Rex x_st x_ex x_Rte x_te x_la x_fo S4) x_RI y_t40 y_t41 x_te x_la.1
  have hP := (x3_P x_RI x_pa x_epa x_Rpl x_pl x_Rte)
  obtain ⟨V1, V2, V3, V4, V5⟩ := hV
  unfold f_OP_0 at h
  obtain ⟨x_ans, n_s3, n_s30, n_t2, n_s49, n_t39, n_t63, e1, h⟩ := xz_d7 h
  obtain ⟨y_ans, n_s4, n_s5, n_t3, n_t4, e2, h⟩ := xz_d5 h
  have c : HCH (σ 30) (σ 49) (τ 63) (τ 64) n_s30 n_s49 n_t63 (τ 64) := hc_column e1
  have v1 : NOK n_s30 (σ 26) (σ 28) (σ 29) (τ 34) (τ 35) (τ 38) (τ 40) (τ 41) (τ 48) := NOK_st V1 c.1 (fun e => ⟨rfl, rfl, rfl, rfl, rfl, rfl, rfl, rfl⟩)
  have h63 : zR n_t63 0 10 := by cases h; exact hI
  have v2 : SOK (σ 27) (τ 37) n_s49 (σ 26) (σ 28) (σ 29) (τ 34) (τ 35) (τ 38) (τ 40) (τ 41) n_s30 n_t63 (τ 64) (σ 40) (σ 41) (σ 42) (σ 43) (τ 59) (τ 60) := SOK_st x_RI x_m x_em hP x_te x_h63 h63 V2 c.1 (fun e => ⟨⟨rfl, rfl, (c.2 e).1, rfl, rfl, rfl, rfl, rfl, rfl, rfl, rfl⟩, (c.2 e).2⟩)
  have v3 : STW n_s49 n_t63 (τ 64) := sw_column x_m V3 e1
  cases h
  exact ⟨trivial, v1, v2, v3, V4, V5⟩
set_option maxHeartbeats 8000000 in
set_option maxRecDepth 10000 in
theorem qk5_1 {N : Int} {σ : Nat → Int} {τ : Nat → Nat → Int} (hX : XX3 σ τ) (hY : XX5 σ τ) (hB : 0 ≤ σ 30 ∧ σ 30 ≤ 5000) (hS : SIM2 σ τ) (hT : SIM3 σ τ) (hV : SIM5 σ τ) (a1 : Int) (a2 : Int) (b_a1 : (-2147483648) ≤ a1 ∧ a1 ≤ 2147483647) (b_a2 : (-2147483648) ≤ a2 ∧ a2 ≤ 2147483647) {o : Int × Int × Int × Int × Int × Int × (Nat → Int) × (Nat → Int) × (Nat → Int) × (Nat → Int) × (Nat → Int)} (h : f_OP_1 N a1 a2 (σ 3) (σ 4) (σ 5) (σ 26) (σ 27) (σ 30) (σ 49) (τ 2) (τ 3) (τ 4) (τ 34) (τ 35) (τ 36) (τ 37) (τ 38) (τ 39) (τ 63) (τ 64) = some o) (hI : zR ((zta τ [(2, o.2.2.2.2.2.2.1), (3, o.2.2.2.2.2.2.2.1), (4, o.2.2.2.2.2.2.2.2.1), (63, o.2.2.2.2.2.2.2.2.2.1), (64, o.2.2.2.2.2.2.2.2.2.2)]) 63) 0 10) : (True) ∧ SIM5 (zst σ [(3, o.2.2.1), (4, o.2.2.2.1), (5, o.2.2.2.2.1), (30, o.2.2.2.2.2.1)]) (zta τ [(2, o.2.2.2.2.2.2.1), (3, o.2.2.2.2.2.2.2.1), (4, o.2.2.2.2.2.2.2.2.1), (63, o.2.2.2.2.2.2.2.2.2.1), (64, o.2.2.2.2.2.2.2.2.2.2)]) := by
  obtain ⟨x_RI, x_h16, x_h17, x_b0, x_e0, x_t1, x_m, x_em, x_ch, x_ech, x_pa, x_epa, x_la, x_fo, x_h63, x_h64, x_st, x_ex, x_pl, x_te, x_Rst, x_Rex, x_Rtr, x_Rpl, x_Rte, x_Rgo, x_im, x_k6, x_k0, x_kp, x_m0, x_m1, x_h85, x_h87, x_m61, x_h83⟩ := hX
  obtain ⟨y_t40, y_t41, y_t48, y_t56, y_t57, y_t81, y_t82, y_s37⟩ := hY
  have S4 := hS.2.2.2.1
  have T1 := hT.1
  have hF := FOK_x (x3_J x_RI x_ch x_ech x_Rst x_Rex x_st x_ex x_Rte x_te x_la x_fo S4) x_RI y_t40 y_t41 x_te x_la.1
  have hP := (x3_P x_RI x_pa x_epa x_Rpl x_pl x_Rte)
  obtain ⟨V1, V2, V3, V4, V5⟩ := hV
  unfold f_OP_1 at h
  obtain ⟨x_ans, n_s3, n_s30, n_t2, n_t63, n_t64, e1, h⟩ := xz_d6 h
  obtain ⟨y_ans, n_s4, n_s5, n_t3, n_t4, e2, h⟩ := xz_d5 h
  have c : HCH (σ 30) (σ 49) (τ 63) (τ 64) n_s30 (σ 49) n_t63 n_t64 := hc_stone b_a1 x_m x_h63 e1
  have v1 : NOK n_s30 (σ 26) (σ 28) (σ 29) (τ 34) (τ 35) (τ 38) (τ 40) (τ 41) (τ 48) := NOK_st V1 c.1 (fun e => ⟨rfl, rfl, rfl, rfl, rfl, rfl, rfl, rfl⟩)
  have h63 : zR n_t63 0 10 := by cases h; exact hI
  have v2 : SOK (σ 27) (τ 37) (σ 49) (σ 26) (σ 28) (σ 29) (τ 34) (τ 35) (τ 38) (τ 40) (τ 41) n_s30 n_t63 n_t64 (σ 40) (σ 41) (σ 42) (σ 43) (τ 59) (τ 60) := SOK_st x_RI x_m x_em hP x_te x_h63 h63 V2 c.1 (fun e => ⟨⟨rfl, rfl, rfl, rfl, rfl, rfl, rfl, rfl, rfl, rfl, rfl⟩, (c.2 e).2⟩)
  have v3 : STW (σ 49) n_t63 n_t64 := sw_stone b_a1 b_a2 x_m x_h63 V3 e1
  cases h
  exact ⟨trivial, v1, v2, v3, V4, V5⟩
set_option maxHeartbeats 8000000 in
set_option maxRecDepth 10000 in
theorem qk5_2 {N : Int} {σ : Nat → Int} {τ : Nat → Nat → Int} (hX : XX3 σ τ) (hY : XX5 σ τ) (hB : 0 ≤ σ 30 ∧ σ 30 ≤ 5000) (hS : SIM2 σ τ) (hT : SIM3 σ τ) (hV : SIM5 σ τ) (a1 : Int) (b_a1 : (-2147483648) ≤ a1 ∧ a1 ≤ 2147483647) {o : Int × Int × Int × Int × Int × Int × (Nat → Int) × (Nat → Int) × (Nat → Int) × (Nat → Int)} (h : f_OP_2 N a1 (σ 3) (σ 4) (σ 5) (σ 26) (σ 27) (σ 30) (σ 49) (τ 2) (τ 3) (τ 4) (τ 34) (τ 35) (τ 36) (τ 37) (τ 38) (τ 39) (τ 63) (τ 64) = some o) (hI : zR ((zta τ [(2, o.2.2.2.2.2.2.1), (3, o.2.2.2.2.2.2.2.1), (4, o.2.2.2.2.2.2.2.2.1), (63, o.2.2.2.2.2.2.2.2.2)]) 63) 0 10) : (True) ∧ SIM5 (zst σ [(3, o.2.2.1), (4, o.2.2.2.1), (5, o.2.2.2.2.1), (30, o.2.2.2.2.2.1)]) (zta τ [(2, o.2.2.2.2.2.2.1), (3, o.2.2.2.2.2.2.2.1), (4, o.2.2.2.2.2.2.2.2.1), (63, o.2.2.2.2.2.2.2.2.2)]) := by
  obtain ⟨x_RI, x_h16, x_h17, x_b0, x_e0, x_t1, x_m, x_em, x_ch, x_ech, x_pa, x_epa, x_la, x_fo, x_h63, x_h64, x_st, x_ex, x_pl, x_te, x_Rst, x_Rex, x_Rtr, x_Rpl, x_Rte, x_Rgo, x_im, x_k6, x_k0, x_kp, x_m0, x_m1, x_h85, x_h87, x_m61, x_h83⟩ := hX
  obtain ⟨y_t40, y_t41, y_t48, y_t56, y_t57, y_t81, y_t82, y_s37⟩ := hY
  have S4 := hS.2.2.2.1
  have T1 := hT.1
  have hF := FOK_x (x3_J x_RI x_ch x_ech x_Rst x_Rex x_st x_ex x_Rte x_te x_la x_fo S4) x_RI y_t40 y_t41 x_te x_la.1
  have hP := (x3_P x_RI x_pa x_epa x_Rpl x_pl x_Rte)
  obtain ⟨V1, V2, V3, V4, V5⟩ := hV
  unfold f_OP_2 at h
  obtain ⟨x_ans, n_s3, n_s30, n_t2, n_t63, e1, h⟩ := xz_d5 h
  obtain ⟨y_ans, n_s4, n_s5, n_t3, n_t4, e2, h⟩ := xz_d5 h
  have c : HCH (σ 30) (σ 49) (τ 63) (τ 64) n_s30 (σ 49) n_t63 (τ 64) := hc_lift e1
  have v1 : NOK n_s30 (σ 26) (σ 28) (σ 29) (τ 34) (τ 35) (τ 38) (τ 40) (τ 41) (τ 48) := NOK_st V1 c.1 (fun e => ⟨rfl, rfl, rfl, rfl, rfl, rfl, rfl, rfl⟩)
  have h63 : zR n_t63 0 10 := by cases h; exact hI
  have v2 : SOK (σ 27) (τ 37) (σ 49) (σ 26) (σ 28) (σ 29) (τ 34) (τ 35) (τ 38) (τ 40) (τ 41) n_s30 n_t63 (τ 64) (σ 40) (σ 41) (σ 42) (σ 43) (τ 59) (τ 60) := SOK_st x_RI x_m x_em hP x_te x_h63 h63 V2 c.1 (fun e => ⟨⟨rfl, rfl, rfl, rfl, rfl, rfl, rfl, rfl, rfl, rfl, rfl⟩, (c.2 e).2⟩)
  have v3 : STW (σ 49) n_t63 (τ 64) := sw_lift V3 e1
  cases h
  exact ⟨trivial, v1, v2, v3, V4, V5⟩
set_option maxHeartbeats 8000000 in
set_option maxRecDepth 10000 in
theorem qk5_3 {N : Int} {σ : Nat → Int} {τ : Nat → Nat → Int} (hX : XX3 σ τ) (hY : XX5 σ τ) (hB : 0 ≤ σ 30 ∧ σ 30 ≤ 5000) (hS : SIM2 σ τ) (hT : SIM3 σ τ) (hV : SIM5 σ τ) (a1 : Int) (a2 : Int) (b_a1 : (-2147483648) ≤ a1 ∧ a1 ≤ 2147483647) (b_a2 : (-2147483648) ≤ a2 ∧ a2 ≤ 2147483647) {o : Int × Int × Int} (h : f_OP_3 N a1 a2 (σ 4) (σ 49) (τ 4) (τ 63) (τ 64) = some o) (hI : zR (τ 63) 0 10) : (True) ∧ SIM5 (zst σ [(4, o.2.2)]) τ := by
  obtain ⟨x_RI, x_h16, x_h17, x_b0, x_e0, x_t1, x_m, x_em, x_ch, x_ech, x_pa, x_epa, x_la, x_fo, x_h63, x_h64, x_st, x_ex, x_pl, x_te, x_Rst, x_Rex, x_Rtr, x_Rpl, x_Rte, x_Rgo, x_im, x_k6, x_k0, x_kp, x_m0, x_m1, x_h85, x_h87, x_m61, x_h83⟩ := hX
  obtain ⟨y_t40, y_t41, y_t48, y_t56, y_t57, y_t81, y_t82, y_s37⟩ := hY
  have S4 := hS.2.2.2.1
  have T1 := hT.1
  have hF := FOK_x (x3_J x_RI x_ch x_ech x_Rst x_Rex x_st x_ex x_Rte x_te x_la x_fo S4) x_RI y_t40 y_t41 x_te x_la.1
  have hP := (x3_P x_RI x_pa x_epa x_Rpl x_pl x_Rte)
  obtain ⟨V1, V2, V3, V4, V5⟩ := hV
  unfold f_OP_3 at h
  obtain ⟨x_ans, e1, h⟩ := xz_d1 h
  obtain ⟨y_ans, n_s4, e2, h⟩ := xz_d2 h
  cases h
  exact ⟨trivial, V1, V2, V3, V4, V5⟩
set_option maxHeartbeats 8000000 in
set_option maxRecDepth 10000 in
theorem qk5_4 {N : Int} {σ : Nat → Int} {τ : Nat → Nat → Int} (hX : XX3 σ τ) (hY : XX5 σ τ) (hB : 0 ≤ σ 30 ∧ σ 30 ≤ 5000) (hS : SIM2 σ τ) (hT : SIM3 σ τ) (hV : SIM5 σ τ) (a1 : Int) (b_a1 : (-2147483648) ≤ a1 ∧ a1 ≤ 2147483647) {o : Int × Int × Int} (h : f_OP_4 N a1 (σ 4) (σ 49) (τ 4) (τ 63) (τ 64) = some o) (hI : zR (τ 63) 0 10) : (True) ∧ SIM5 (zst σ [(4, o.2.2)]) τ := by
  obtain ⟨x_RI, x_h16, x_h17, x_b0, x_e0, x_t1, x_m, x_em, x_ch, x_ech, x_pa, x_epa, x_la, x_fo, x_h63, x_h64, x_st, x_ex, x_pl, x_te, x_Rst, x_Rex, x_Rtr, x_Rpl, x_Rte, x_Rgo, x_im, x_k6, x_k0, x_kp, x_m0, x_m1, x_h85, x_h87, x_m61, x_h83⟩ := hX
  obtain ⟨y_t40, y_t41, y_t48, y_t56, y_t57, y_t81, y_t82, y_s37⟩ := hY
  have S4 := hS.2.2.2.1
  have T1 := hT.1
  have hF := FOK_x (x3_J x_RI x_ch x_ech x_Rst x_Rex x_st x_ex x_Rte x_te x_la x_fo S4) x_RI y_t40 y_t41 x_te x_la.1
  have hP := (x3_P x_RI x_pa x_epa x_Rpl x_pl x_Rte)
  obtain ⟨V1, V2, V3, V4, V5⟩ := hV
  unfold f_OP_4 at h
  obtain ⟨x_ans, e1, h⟩ := xz_d1 h
  obtain ⟨y_ans, n_s4, e2, h⟩ := xz_d2 h
  cases h
  exact ⟨trivial, V1, V2, V3, V4, V5⟩
set_option maxHeartbeats 8000000 in
set_option maxRecDepth 10000 in
theorem qk5_5 {N : Int} {σ : Nat → Int} {τ : Nat → Nat → Int} (hX : XX3 σ τ) (hY : XX5 σ τ) (hB : 0 ≤ σ 30 ∧ σ 30 ≤ 5000) (hS : SIM2 σ τ) (hT : SIM3 σ τ) (hV : SIM5 σ τ) (a1 : Int) (b_a1 : (-2147483648) ≤ a1 ∧ a1 ≤ 2147483647) {o : Int × Int × Int × Int × Int × Int × Int × (Nat → Int) × (Nat → Int) × (Nat → Int) × (Nat → Int) × (Nat → Int) × (Nat → Int)} (h : f_OP_5 N a1 (σ 3) (σ 4) (σ 5) (σ 26) (σ 27) (σ 30) (σ 49) (τ 2) (τ 3) (τ 4) (τ 34) (τ 35) (τ 36) (τ 37) (τ 38) (τ 39) = some o) (hI : zR ((zta τ [(2, o.2.2.2.2.2.2.2.1), (3, o.2.2.2.2.2.2.2.2.1), (4, o.2.2.2.2.2.2.2.2.2.1), (34, o.2.2.2.2.2.2.2.2.2.2.1), (35, o.2.2.2.2.2.2.2.2.2.2.2.1), (36, o.2.2.2.2.2.2.2.2.2.2.2.2)]) 63) 0 10) : (True) ∧ SIM5 (zst σ [(3, o.2.2.1), (4, o.2.2.2.1), (5, o.2.2.2.2.1), (26, o.2.2.2.2.2.1), (30, o.2.2.2.2.2.2.1)]) (zta τ [(2, o.2.2.2.2.2.2.2.1), (3, o.2.2.2.2.2.2.2.2.1), (4, o.2.2.2.2.2.2.2.2.2.1), (34, o.2.2.2.2.2.2.2.2.2.2.1), (35, o.2.2.2.2.2.2.2.2.2.2.2.1), (36, o.2.2.2.2.2.2.2.2.2.2.2.2)]) := by
  obtain ⟨x_RI, x_h16, x_h17, x_b0, x_e0, x_t1, x_m, x_em, x_ch, x_ech, x_pa, x_epa, x_la, x_fo, x_h63, x_h64, x_st, x_ex, x_pl, x_te, x_Rst, x_Rex, x_Rtr, x_Rpl, x_Rte, x_Rgo, x_im, x_k6, x_k0, x_kp, x_m0, x_m1, x_h85, x_h87, x_m61, x_h83⟩ := hX
  obtain ⟨y_t40, y_t41, y_t48, y_t56, y_t57, y_t81, y_t82, y_s37⟩ := hY
  have S4 := hS.2.2.2.1
  have T1 := hT.1
  have hF := FOK_x (x3_J x_RI x_ch x_ech x_Rst x_Rex x_st x_ex x_Rte x_te x_la x_fo S4) x_RI y_t40 y_t41 x_te x_la.1
  have hP := (x3_P x_RI x_pa x_epa x_Rpl x_pl x_Rte)
  obtain ⟨V1, V2, V3, V4, V5⟩ := hV
  unfold f_OP_5 at h
  obtain ⟨x_ans, n_s3, n_s26, n_s30, n_t2, n_t34, n_t35, n_t36, e1, h⟩ := xz_d8 h
  obtain ⟨y_ans, n_s4, n_s5, n_t3, n_t4, e2, h⟩ := xz_d5 h
  have c : HCH (σ 30) (σ 49) (τ 63) (τ 64) n_s30 (σ 49) (τ 63) (τ 64) := ⟨mo_5 e1, fun _ => ⟨rfl, CREL_0⟩⟩
  have ot : n_s30 = σ 30 → n_s26 = (σ 26) ∧ n_t34 = (τ 34) ∧ n_t35 = (τ 35) := ot_5 e1
  have v1 : NOK n_s30 n_s26 (σ 28) (σ 29) n_t34 n_t35 (τ 38) (τ 40) (τ 41) (τ 48) := NOK_st V1 c.1 (fun e => ⟨(ot e).1, rfl, rfl, (ot e).2.1, (ot e).2.2, rfl, rfl, rfl⟩)
  have h63 : zR (τ 63) 0 10 := by cases h; exact hI
  have v2 : SOK (σ 27) (τ 37) (σ 49) n_s26 (σ 28) (σ 29) n_t34 n_t35 (τ 38) (τ 40) (τ 41) n_s30 (τ 63) (τ 64) (σ 40) (σ 41) (σ 42) (σ 43) (τ 59) (τ 60) := SOK_st x_RI x_m x_em hP x_te x_h63 h63 V2 c.1 (fun e => ⟨⟨rfl, rfl, rfl, (ot e).1, rfl, rfl, (ot e).2.1, (ot e).2.2, rfl, rfl, rfl⟩, (c.2 e).2⟩)
  cases h
  exact ⟨trivial, v1, v2, V3, V4, V5⟩
set_option maxHeartbeats 8000000 in
set_option maxRecDepth 10000 in
theorem qk5_6 {N : Int} {σ : Nat → Int} {τ : Nat → Nat → Int} (hX : XX3 σ τ) (hY : XX5 σ τ) (hB : 0 ≤ σ 30 ∧ σ 30 ≤ 5000) (hS : SIM2 σ τ) (hT : SIM3 σ τ) (hV : SIM5 σ τ) (a1 : Int) (a2 : Int) (b_a1 : (-2147483648) ≤ a1 ∧ a1 ≤ 2147483647) (b_a2 : (-2147483648) ≤ a2 ∧ a2 ≤ 2147483647) {o : Int × Int × Int × Int × Int × Int × (Nat → Int) × (Nat → Int) × (Nat → Int) × (Nat → Int)} (h : f_OP_6 N a1 a2 (σ 3) (σ 4) (σ 5) (σ 26) (σ 27) (σ 30) (σ 49) (τ 2) (τ 3) (τ 4) (τ 34) (τ 35) (τ 36) (τ 37) (τ 38) (τ 39) = some o) (hI : zR ((zta τ [(2, o.2.2.2.2.2.2.1), (3, o.2.2.2.2.2.2.2.1), (4, o.2.2.2.2.2.2.2.2.1), (35, o.2.2.2.2.2.2.2.2.2)]) 63) 0 10) : (True) ∧ SIM5 (zst σ [(3, o.2.2.1), (4, o.2.2.2.1), (5, o.2.2.2.2.1), (30, o.2.2.2.2.2.1)]) (zta τ [(2, o.2.2.2.2.2.2.1), (3, o.2.2.2.2.2.2.2.1), (4, o.2.2.2.2.2.2.2.2.1), (35, o.2.2.2.2.2.2.2.2.2)]) := by
  obtain ⟨x_RI, x_h16, x_h17, x_b0, x_e0, x_t1, x_m, x_em, x_ch, x_ech, x_pa, x_epa, x_la, x_fo, x_h63, x_h64, x_st, x_ex, x_pl, x_te, x_Rst, x_Rex, x_Rtr, x_Rpl, x_Rte, x_Rgo, x_im, x_k6, x_k0, x_kp, x_m0, x_m1, x_h85, x_h87, x_m61, x_h83⟩ := hX
  obtain ⟨y_t40, y_t41, y_t48, y_t56, y_t57, y_t81, y_t82, y_s37⟩ := hY
  have S4 := hS.2.2.2.1
  have T1 := hT.1
  have hF := FOK_x (x3_J x_RI x_ch x_ech x_Rst x_Rex x_st x_ex x_Rte x_te x_la x_fo S4) x_RI y_t40 y_t41 x_te x_la.1
  have hP := (x3_P x_RI x_pa x_epa x_Rpl x_pl x_Rte)
  obtain ⟨V1, V2, V3, V4, V5⟩ := hV
  unfold f_OP_6 at h
  obtain ⟨x_ans, n_s3, n_s30, n_t2, n_t35, e1, h⟩ := xz_d5 h
  obtain ⟨y_ans, n_s4, n_s5, n_t3, n_t4, e2, h⟩ := xz_d5 h
  have c : HCH (σ 30) (σ 49) (τ 63) (τ 64) n_s30 (σ 49) (τ 63) (τ 64) := ⟨mo_6 e1, fun _ => ⟨rfl, CREL_0⟩⟩
  have ot : n_s30 = σ 30 → n_t35 = (τ 35) := ot_6 e1
  have v1 : NOK n_s30 (σ 26) (σ 28) (σ 29) (τ 34) n_t35 (τ 38) (τ 40) (τ 41) (τ 48) := NOK_st V1 c.1 (fun e => ⟨rfl, rfl, rfl, rfl, (ot e), rfl, rfl, rfl⟩)
  have h63 : zR (τ 63) 0 10 := by cases h; exact hI
  have v2 : SOK (σ 27) (τ 37) (σ 49) (σ 26) (σ 28) (σ 29) (τ 34) n_t35 (τ 38) (τ 40) (τ 41) n_s30 (τ 63) (τ 64) (σ 40) (σ 41) (σ 42) (σ 43) (τ 59) (τ 60) := SOK_st x_RI x_m x_em hP x_te x_h63 h63 V2 c.1 (fun e => ⟨⟨rfl, rfl, rfl, rfl, rfl, rfl, rfl, (ot e), rfl, rfl, rfl⟩, (c.2 e).2⟩)
  cases h
  exact ⟨trivial, v1, v2, V3, V4, V5⟩
set_option maxHeartbeats 8000000 in
set_option maxRecDepth 10000 in
theorem qk5_7 {N : Int} {σ : Nat → Int} {τ : Nat → Nat → Int} (hX : XX3 σ τ) (hY : XX5 σ τ) (hB : 0 ≤ σ 30 ∧ σ 30 ≤ 5000) (hS : SIM2 σ τ) (hT : SIM3 σ τ) (hV : SIM5 σ τ) (a1 : Int) (a2 : Int) (b_a1 : (-2147483648) ≤ a1 ∧ a1 ≤ 2147483647) (b_a2 : (-2147483648) ≤ a2 ∧ a2 ≤ 2147483647) {o : Int × Int × Int} (h : f_OP_7 N a1 a2 (σ 4) (σ 26) (τ 4) (τ 34) (τ 35) (τ 36) = some o) (hI : zR (τ 63) 0 10) : (True) ∧ SIM5 (zst σ [(4, o.2.2)]) τ := by
  obtain ⟨x_RI, x_h16, x_h17, x_b0, x_e0, x_t1, x_m, x_em, x_ch, x_ech, x_pa, x_epa, x_la, x_fo, x_h63, x_h64, x_st, x_ex, x_pl, x_te, x_Rst, x_Rex, x_Rtr, x_Rpl, x_Rte, x_Rgo, x_im, x_k6, x_k0, x_kp, x_m0, x_m1, x_h85, x_h87, x_m61, x_h83⟩ := hX
  obtain ⟨y_t40, y_t41, y_t48, y_t56, y_t57, y_t81, y_t82, y_s37⟩ := hY
  have S4 := hS.2.2.2.1
  have T1 := hT.1
  have hF := FOK_x (x3_J x_RI x_ch x_ech x_Rst x_Rex x_st x_ex x_Rte x_te x_la x_fo S4) x_RI y_t40 y_t41 x_te x_la.1
  have hP := (x3_P x_RI x_pa x_epa x_Rpl x_pl x_Rte)
  obtain ⟨V1, V2, V3, V4, V5⟩ := hV
  unfold f_OP_7 at h
  obtain ⟨x_ans, e1, h⟩ := xz_d1 h
  obtain ⟨y_ans, n_s4, e2, h⟩ := xz_d2 h
  cases h
  exact ⟨trivial, V1, V2, V3, V4, V5⟩
set_option maxHeartbeats 8000000 in
set_option maxRecDepth 10000 in
theorem qk5_8 {N : Int} {σ : Nat → Int} {τ : Nat → Nat → Int} (hX : XX3 σ τ) (hY : XX5 σ τ) (hB : 0 ≤ σ 30 ∧ σ 30 ≤ 5000) (hS : SIM2 σ τ) (hT : SIM3 σ τ) (hV : SIM5 σ τ) (a1 : Int) (b_a1 : (-2147483648) ≤ a1 ∧ a1 ≤ 2147483647) {o : Int × Int × Int × Int × Int × Int × Int × (Nat → Int) × (Nat → Int) × (Nat → Int) × (Nat → Int)} (h : f_OP_8 N a1 (σ 3) (σ 4) (σ 5) (σ 26) (σ 27) (σ 30) (σ 49) (τ 2) (τ 3) (τ 4) (τ 34) (τ 35) (τ 36) (τ 37) (τ 38) (τ 39) = some o) (hI : zR ((zta τ [(2, o.2.2.2.2.2.2.2.1), (3, o.2.2.2.2.2.2.2.2.1), (4, o.2.2.2.2.2.2.2.2.2.1), (37, o.2.2.2.2.2.2.2.2.2.2)]) 63) 0 10) : (True) ∧ SIM5 (zst σ [(3, o.2.2.1), (4, o.2.2.2.1), (5, o.2.2.2.2.1), (27, o.2.2.2.2.2.1), (30, o.2.2.2.2.2.2.1)]) (zta τ [(2, o.2.2.2.2.2.2.2.1), (3, o.2.2.2.2.2.2.2.2.1), (4, o.2.2.2.2.2.2.2.2.2.1), (37, o.2.2.2.2.2.2.2.2.2.2)]) := by
  obtain ⟨x_RI, x_h16, x_h17, x_b0, x_e0, x_t1, x_m, x_em, x_ch, x_ech, x_pa, x_epa, x_la, x_fo, x_h63, x_h64, x_st, x_ex, x_pl, x_te, x_Rst, x_Rex, x_Rtr, x_Rpl, x_Rte, x_Rgo, x_im, x_k6, x_k0, x_kp, x_m0, x_m1, x_h85, x_h87, x_m61, x_h83⟩ := hX
  obtain ⟨y_t40, y_t41, y_t48, y_t56, y_t57, y_t81, y_t82, y_s37⟩ := hY
  have S4 := hS.2.2.2.1
  have T1 := hT.1
  have hF := FOK_x (x3_J x_RI x_ch x_ech x_Rst x_Rex x_st x_ex x_Rte x_te x_la x_fo S4) x_RI y_t40 y_t41 x_te x_la.1
  have hP := (x3_P x_RI x_pa x_epa x_Rpl x_pl x_Rte)
  obtain ⟨V1, V2, V3, V4, V5⟩ := hV
  unfold f_OP_8 at h
  obtain ⟨x_ans, n_s3, n_s27, n_s30, n_t2, n_t37, e1, h⟩ := xz_d6 h
  obtain ⟨y_ans, n_s4, n_s5, n_t3, n_t4, e2, h⟩ := xz_d5 h
  have c : HCH (σ 30) (σ 49) (τ 63) (τ 64) n_s30 (σ 49) (τ 63) (τ 64) := ⟨mo_8 e1, fun _ => ⟨rfl, CREL_0⟩⟩
  have ot : n_s30 = σ 30 → n_s27 = (σ 27) ∧ n_t37 = (τ 37) := ot_8 e1
  have v1 : NOK n_s30 (σ 26) (σ 28) (σ 29) (τ 34) (τ 35) (τ 38) (τ 40) (τ 41) (τ 48) := NOK_st V1 c.1 (fun e => ⟨rfl, rfl, rfl, rfl, rfl, rfl, rfl, rfl⟩)
  have h63 : zR (τ 63) 0 10 := by cases h; exact hI
  have v2 : SOK n_s27 n_t37 (σ 49) (σ 26) (σ 28) (σ 29) (τ 34) (τ 35) (τ 38) (τ 40) (τ 41) n_s30 (τ 63) (τ 64) (σ 40) (σ 41) (σ 42) (σ 43) (τ 59) (τ 60) := SOK_st x_RI x_m x_em hP x_te x_h63 h63 V2 c.1 (fun e => ⟨⟨(ot e).1, (ot e).2, rfl, rfl, rfl, rfl, rfl, rfl, rfl, rfl, rfl⟩, (c.2 e).2⟩)
  cases h
  exact ⟨trivial, v1, v2, V3, V4, V5⟩
set_option maxHeartbeats 8000000 in
set_option maxRecDepth 10000 in
theorem qk5_9 {N : Int} {σ : Nat → Int} {τ : Nat → Nat → Int} (hX : XX3 σ τ) (hY : XX5 σ τ) (hB : 0 ≤ σ 30 ∧ σ 30 ≤ 5000) (hS : SIM2 σ τ) (hT : SIM3 σ τ) (hV : SIM5 σ τ) (a1 : Int) (a2 : Int) (b_a1 : (-2147483648) ≤ a1 ∧ a1 ≤ 2147483647) (b_a2 : (-2147483648) ≤ a2 ∧ a2 ≤ 2147483647) {o : Int × Int × Int × Int × Int × Int × (Nat → Int) × (Nat → Int) × (Nat → Int) × (Nat → Int)} (h : f_OP_9 N a1 a2 (σ 3) (σ 4) (σ 5) (σ 26) (σ 27) (σ 30) (σ 49) (τ 2) (τ 3) (τ 4) (τ 34) (τ 35) (τ 36) (τ 37) (τ 38) (τ 39) = some o) (hI : zR ((zta τ [(2, o.2.2.2.2.2.2.1), (3, o.2.2.2.2.2.2.2.1), (4, o.2.2.2.2.2.2.2.2.1), (38, o.2.2.2.2.2.2.2.2.2)]) 63) 0 10) : (True) ∧ SIM5 (zst σ [(3, o.2.2.1), (4, o.2.2.2.1), (5, o.2.2.2.2.1), (30, o.2.2.2.2.2.1)]) (zta τ [(2, o.2.2.2.2.2.2.1), (3, o.2.2.2.2.2.2.2.1), (4, o.2.2.2.2.2.2.2.2.1), (38, o.2.2.2.2.2.2.2.2.2)]) := by
  obtain ⟨x_RI, x_h16, x_h17, x_b0, x_e0, x_t1, x_m, x_em, x_ch, x_ech, x_pa, x_epa, x_la, x_fo, x_h63, x_h64, x_st, x_ex, x_pl, x_te, x_Rst, x_Rex, x_Rtr, x_Rpl, x_Rte, x_Rgo, x_im, x_k6, x_k0, x_kp, x_m0, x_m1, x_h85, x_h87, x_m61, x_h83⟩ := hX
  obtain ⟨y_t40, y_t41, y_t48, y_t56, y_t57, y_t81, y_t82, y_s37⟩ := hY
  have S4 := hS.2.2.2.1
  have T1 := hT.1
  have hF := FOK_x (x3_J x_RI x_ch x_ech x_Rst x_Rex x_st x_ex x_Rte x_te x_la x_fo S4) x_RI y_t40 y_t41 x_te x_la.1
  have hP := (x3_P x_RI x_pa x_epa x_Rpl x_pl x_Rte)
  obtain ⟨V1, V2, V3, V4, V5⟩ := hV
  unfold f_OP_9 at h
  obtain ⟨x_ans, n_s3, n_s30, n_t2, n_t38, e1, h⟩ := xz_d5 h
  obtain ⟨y_ans, n_s4, n_s5, n_t3, n_t4, e2, h⟩ := xz_d5 h
  have c : HCH (σ 30) (σ 49) (τ 63) (τ 64) n_s30 (σ 49) (τ 63) (τ 64) := ⟨mo_9 e1, fun _ => ⟨rfl, CREL_0⟩⟩
  have ot : n_s30 = σ 30 → n_t38 = (τ 38) := ot_9 e1
  have v1 : NOK n_s30 (σ 26) (σ 28) (σ 29) (τ 34) (τ 35) n_t38 (τ 40) (τ 41) (τ 48) := NOK_st V1 c.1 (fun e => ⟨rfl, rfl, rfl, rfl, rfl, (ot e), rfl, rfl⟩)
  have h63 : zR (τ 63) 0 10 := by cases h; exact hI
  have v2 : SOK (σ 27) (τ 37) (σ 49) (σ 26) (σ 28) (σ 29) (τ 34) (τ 35) n_t38 (τ 40) (τ 41) n_s30 (τ 63) (τ 64) (σ 40) (σ 41) (σ 42) (σ 43) (τ 59) (τ 60) := SOK_st x_RI x_m x_em hP x_te x_h63 h63 V2 c.1 (fun e => ⟨⟨rfl, rfl, rfl, rfl, rfl, rfl, rfl, rfl, (ot e), rfl, rfl⟩, (c.2 e).2⟩)
  cases h
  exact ⟨trivial, v1, v2, V3, V4, V5⟩
end
section
set_option maxHeartbeats 8000000 in
set_option maxRecDepth 10000 in
theorem qk5_10 {N : Int} {σ : Nat → Int} {τ : Nat → Nat → Int} (hX : XX3 σ τ) (hY : XX5 σ τ) (hB : 0 ≤ σ 30 ∧ σ 30 ≤ 5000) (hS : SIM2 σ τ) (hT : SIM3 σ τ) (hV : SIM5 σ τ) (a1 : Int) (a2 : Int) (a3 : Int) (a4 : Int) (a5 : Int) (b_a1 : (-2147483648) ≤ a1 ∧ a1 ≤ 2147483647) (b_a2 : (-2147483648) ≤ a2 ∧ a2 ≤ 2147483647) (b_a3 : (-2147483648) ≤ a3 ∧ a3 ≤ 2147483647) (b_a4 : (-2147483648) ≤ a4 ∧ a4 ≤ 2147483647) (b_a5 : (-2147483648) ≤ a5 ∧ a5 ≤ 2147483647) {o : Int × Int × Int × Int × Int × (Nat → Int) × (Nat → Int)} (h : f_OP_10 N a1 a2 a3 a4 a5 (σ 0) (σ 4) (σ 7) (τ 1) (τ 7) = some o) (hI : zR ((zta τ [(1, o.2.2.2.2.2.1), (7, o.2.2.2.2.2.2)]) 63) 0 10) : (True) ∧ SIM5 (zst σ [(0, o.2.2.1), (4, o.2.2.2.1), (7, o.2.2.2.2.1)]) (zta τ [(1, o.2.2.2.2.2.1), (7, o.2.2.2.2.2.2)]) := by
  obtain ⟨x_RI, x_h16, x_h17, x_b0, x_e0, x_t1, x_m, x_em, x_ch, x_ech, x_pa, x_epa, x_la, x_fo, x_h63, x_h64, x_st, x_ex, x_pl, x_te, x_Rst, x_Rex, x_Rtr, x_Rpl, x_Rte, x_Rgo, x_im, x_k6, x_k0, x_kp, x_m0, x_m1, x_h85, x_h87, x_m61, x_h83⟩ := hX
  obtain ⟨y_t40, y_t41, y_t48, y_t56, y_t57, y_t81, y_t82, y_s37⟩ := hY
  have S4 := hS.2.2.2.1
  have T1 := hT.1
  have hF := FOK_x (x3_J x_RI x_ch x_ech x_Rst x_Rex x_st x_ex x_Rte x_te x_la x_fo S4) x_RI y_t40 y_t41 x_te x_la.1
  have hP := (x3_P x_RI x_pa x_epa x_Rpl x_pl x_Rte)
  obtain ⟨V1, V2, V3, V4, V5⟩ := hV
  unfold f_OP_10 at h
  obtain ⟨x_ans, n_s0, n_t1, e1, h⟩ := xz_d3 h
  obtain ⟨y_ans, n_s4, n_s7, n_t7, e2, h⟩ := xz_d4 h
  cases h
  exact ⟨trivial, V1, V2, V3, V4, V5⟩
set_option maxHeartbeats 8000000 in
set_option maxRecDepth 10000 in
theorem qk5_11 {N : Int} {σ : Nat → Int} {τ : Nat → Nat → Int} (hX : XX3 σ τ) (hY : XX5 σ τ) (hB : 0 ≤ σ 30 ∧ σ 30 ≤ 5000) (hS : SIM2 σ τ) (hT : SIM3 σ τ) (hV : SIM5 σ τ) (a1 : Int) (b_a1 : (-2147483648) ≤ a1 ∧ a1 ≤ 2147483647) {o : Int × Int × Int × Int × Int} (h : f_OP_11 N a1 (σ 0) (σ 4) (σ 7) = some o) (hI : zR (τ 63) 0 10) : (True) ∧ SIM5 (zst σ [(0, o.2.2.1), (4, o.2.2.2.1), (7, o.2.2.2.2)]) τ := by
  obtain ⟨x_RI, x_h16, x_h17, x_b0, x_e0, x_t1, x_m, x_em, x_ch, x_ech, x_pa, x_epa, x_la, x_fo, x_h63, x_h64, x_st, x_ex, x_pl, x_te, x_Rst, x_Rex, x_Rtr, x_Rpl, x_Rte, x_Rgo, x_im, x_k6, x_k0, x_kp, x_m0, x_m1, x_h85, x_h87, x_m61, x_h83⟩ := hX
  obtain ⟨y_t40, y_t41, y_t48, y_t56, y_t57, y_t81, y_t82, y_s37⟩ := hY
  have S4 := hS.2.2.2.1
  have T1 := hT.1
  have hF := FOK_x (x3_J x_RI x_ch x_ech x_Rst x_Rex x_st x_ex x_Rte x_te x_la x_fo S4) x_RI y_t40 y_t41 x_te x_la.1
  have hP := (x3_P x_RI x_pa x_epa x_Rpl x_pl x_Rte)
  obtain ⟨V1, V2, V3, V4, V5⟩ := hV
  unfold f_OP_11 at h
  obtain ⟨x_ans, n_s0, e1, h⟩ := xz_d2 h
  obtain ⟨y_ans, n_s4, n_s7, e2, h⟩ := xz_d3 h
  cases h
  exact ⟨trivial, V1, V2, V3, V4, V5⟩
set_option maxHeartbeats 8000000 in
set_option maxRecDepth 10000 in
theorem qk5_12 {N : Int} {σ : Nat → Int} {τ : Nat → Nat → Int} (hX : XX3 σ τ) (hY : XX5 σ τ) (hB : 0 ≤ σ 30 ∧ σ 30 ≤ 5000) (hS : SIM2 σ τ) (hT : SIM3 σ τ) (hV : SIM5 σ τ)  {o : Int × Int × Int × Int × Int × Int × Int × Int × Int × Int × (Nat → Int) × (Nat → Int) × (Nat → Int) × (Nat → Int) × (Nat → Int)} (h : f_OP_12 N (σ 0) (σ 2) (σ 3) (σ 4) (σ 5) (σ 6) (σ 7) (σ 26) (σ 27) (σ 30) (σ 49) (τ 1) (τ 2) (τ 3) (τ 4) (τ 7) (τ 34) (τ 35) (τ 36) (τ 37) (τ 38) (τ 39) (τ 63) (τ 64) = some o) (hI : zR ((zta τ [(2, o.2.2.2.2.2.2.2.2.2.2.1), (3, o.2.2.2.2.2.2.2.2.2.2.2.1), (4, o.2.2.2.2.2.2.2.2.2.2.2.2.1), (63, o.2.2.2.2.2.2.2.2.2.2.2.2.2.1), (64, o.2.2.2.2.2.2.2.2.2.2.2.2.2.2)]) 63) 0 10) : (True) ∧ SIM5 (zst σ [(0, o.2.2.1), (2, o.2.2.2.1), (3, o.2.2.2.2.1), (4, o.2.2.2.2.2.1), (5, o.2.2.2.2.2.2.1), (6, o.2.2.2.2.2.2.2.1), (7, o.2.2.2.2.2.2.2.2.1), (30, o.2.2.2.2.2.2.2.2.2.1)]) (zta τ [(2, o.2.2.2.2.2.2.2.2.2.2.1), (3, o.2.2.2.2.2.2.2.2.2.2.2.1), (4, o.2.2.2.2.2.2.2.2.2.2.2.2.1), (63, o.2.2.2.2.2.2.2.2.2.2.2.2.2.1), (64, o.2.2.2.2.2.2.2.2.2.2.2.2.2.2)]) := by
  obtain ⟨x_RI, x_h16, x_h17, x_b0, x_e0, x_t1, x_m, x_em, x_ch, x_ech, x_pa, x_epa, x_la, x_fo, x_h63, x_h64, x_st, x_ex, x_pl, x_te, x_Rst, x_Rex, x_Rtr, x_Rpl, x_Rte, x_Rgo, x_im, x_k6, x_k0, x_kp, x_m0, x_m1, x_h85, x_h87, x_m61, x_h83⟩ := hX
  obtain ⟨y_t40, y_t41, y_t48, y_t56, y_t57, y_t81, y_t82, y_s37⟩ := hY
  have S4 := hS.2.2.2.1
  have T1 := hT.1
  have hF := FOK_x (x3_J x_RI x_ch x_ech x_Rst x_Rex x_st x_ex x_Rte x_te x_la x_fo S4) x_RI y_t40 y_t41 x_te x_la.1
  have hP := (x3_P x_RI x_pa x_epa x_Rpl x_pl x_Rte)
  obtain ⟨V1, V2, V3, V4, V5⟩ := hV
  unfold f_OP_12 at h
  obtain ⟨x_ans, n_s0, n_s2, n_s3, n_s30, n_t2, n_t63, n_t64, e1, h⟩ := xz_d8 h
  obtain ⟨y_ans, n_s4, n_s5, n_s6, n_s7, n_t3, n_t4, e2, h⟩ := xz_d7 h
  have c : HCH (σ 30) (σ 49) (τ 63) (τ 64) n_s30 (σ 49) n_t63 n_t64 := hc_row e1
  have v1 : NOK n_s30 (σ 26) (σ 28) (σ 29) (τ 34) (τ 35) (τ 38) (τ 40) (τ 41) (τ 48) := NOK_st V1 c.1 (fun e => ⟨rfl, rfl, rfl, rfl, rfl, rfl, rfl, rfl⟩)
  have h63 : zR n_t63 0 10 := by cases h; exact hI
  have v2 : SOK (σ 27) (τ 37) (σ 49) (σ 26) (σ 28) (σ 29) (τ 34) (τ 35) (τ 38) (τ 40) (τ 41) n_s30 n_t63 n_t64 (σ 40) (σ 41) (σ 42) (σ 43) (τ 59) (τ 60) := SOK_st x_RI x_m x_em hP x_te x_h63 h63 V2 c.1 (fun e => ⟨⟨rfl, rfl, rfl, rfl, rfl, rfl, rfl, rfl, rfl, rfl, rfl⟩, (c.2 e).2⟩)
  have v3 : STW (σ 49) n_t63 n_t64 := sw_row x_m x_t1 x_h63 V3 e1
  cases h
  exact ⟨trivial, v1, v2, v3, V4, V5⟩
set_option maxHeartbeats 8000000 in
set_option maxRecDepth 10000 in
theorem qk5_13 {N : Int} {σ : Nat → Int} {τ : Nat → Nat → Int} (hX : XX3 σ τ) (hY : XX5 σ τ) (hB : 0 ≤ σ 30 ∧ σ 30 ≤ 5000) (hS : SIM2 σ τ) (hT : SIM3 σ τ) (hV : SIM5 σ τ)  {o : Int × Int × Int} (h : f_OP_13 N (σ 2) (σ 4) (σ 6) = some o) (hI : zR (τ 63) 0 10) : (True) ∧ SIM5 (zst σ [(4, o.2.2)]) τ := by
  obtain ⟨x_RI, x_h16, x_h17, x_b0, x_e0, x_t1, x_m, x_em, x_ch, x_ech, x_pa, x_epa, x_la, x_fo, x_h63, x_h64, x_st, x_ex, x_pl, x_te, x_Rst, x_Rex, x_Rtr, x_Rpl, x_Rte, x_Rgo, x_im, x_k6, x_k0, x_kp, x_m0, x_m1, x_h85, x_h87, x_m61, x_h83⟩ := hX
  obtain ⟨y_t40, y_t41, y_t48, y_t56, y_t57, y_t81, y_t82, y_s37⟩ := hY
  have S4 := hS.2.2.2.1
  have T1 := hT.1
  have hF := FOK_x (x3_J x_RI x_ch x_ech x_Rst x_Rex x_st x_ex x_Rte x_te x_la x_fo S4) x_RI y_t40 y_t41 x_te x_la.1
  have hP := (x3_P x_RI x_pa x_epa x_Rpl x_pl x_Rte)
  obtain ⟨V1, V2, V3, V4, V5⟩ := hV
  unfold f_OP_13 at h
  obtain ⟨x_ans, e1, h⟩ := xz_d1 h
  obtain ⟨y_ans, n_s4, e2, h⟩ := xz_d2 h
  cases h
  exact ⟨trivial, V1, V2, V3, V4, V5⟩
set_option maxHeartbeats 8000000 in
set_option maxRecDepth 10000 in
theorem qk5_14 {N : Int} {σ : Nat → Int} {τ : Nat → Nat → Int} (hX : XX3 σ τ) (hY : XX5 σ τ) (hB : 0 ≤ σ 30 ∧ σ 30 ≤ 5000) (hS : SIM2 σ τ) (hT : SIM3 σ τ) (hV : SIM5 σ τ)  {o : Int × Int × Int × Int × Int × Int × Int × Int × Int × Int × Int × Int × Int × Int × Int × Int × Int × Int × Int × Int × Int × Int × Int × Int × (Nat → Int) × (Nat → Int) × (Nat → Int) × (Nat → Int) × (Nat → Int) × (Nat → Int) × (Nat → Int) × (Nat → Int) × (Nat → Int) × (Nat → Int) × (Nat → Int) × (Nat → Int) × (Nat → Int) × (Nat → Int)} (h : f_OP_14 N (σ 0) (σ 1) (σ 3) (σ 4) (σ 5) (σ 7) (σ 8) (σ 9) (σ 10) (σ 11) (σ 12) (σ 13) (σ 14) (σ 15) (σ 16) (σ 17) (σ 18) (σ 26) (σ 27) (σ 28) (σ 30) (σ 31) (σ 32) (σ 33) (σ 49) (τ 1) (τ 2) (τ 3) (τ 4) (τ 7) (τ 8) (τ 9) (τ 10) (τ 11) (τ 12) (τ 13) (τ 34) (τ 35) (τ 36) (τ 37) (τ 38) (τ 39) (τ 40) (τ 41) (τ 42) (τ 43) (τ 44) (τ 45) = some o) (hI : zR ((zta τ [(2, o.2.2.2.2.2.2.2.2.2.2.2.2.2.2.2.2.2.2.2.2.2.2.2.2.1), (3, o.2.2.2.2.2.2.2.2.2.2.2.2.2.2.2.2.2.2.2.2.2.2.2.2.2.1), (4, o.2.2.2.2.2.2.2.2.2.2.2.2.2.2.2.2.2.2.2.2.2.2.2.2.2.2.1), (8, o.2.2.2.2.2.2.2.2.2.2.2.2.2.2.2.2.2.2.2.2.2.2.2.2.2.2.2.1), (9, o.2.2.2.2.2.2.2.2.2.2.2.2.2.2.2.2.2.2.2.2.2.2.2.2.2.2.2.2.1), (10, o.2.2.2.2.2.2.2.2.2.2.2.2.2.2.2.2.2.2.2.2.2.2.2.2.2.2.2.2.2.1), (11, o.2.2.2.2.2.2.2.2.2.2.2.2.2.2.2.2.2.2.2.2.2.2.2.2.2.2.2.2.2.2.1), (12, o.2.2.2.2.2.2.2.2.2.2.2.2.2.2.2.2.2.2.2.2.2.2.2.2.2.2.2.2.2.2.2.1), (40, o.2.2.2.2.2.2.2.2.2.2.2.2.2.2.2.2.2.2.2.2.2.2.2.2.2.2.2.2.2.2.2.2.1), (41, o.2.2.2.2.2.2.2.2.2.2.2.2.2.2.2.2.2.2.2.2.2.2.2.2.2.2.2.2.2.2.2.2.2.1), (42, o.2.2.2.2.2.2.2.2.2.2.2.2.2.2.2.2.2.2.2.2.2.2.2.2.2.2.2.2.2.2.2.2.2.2.1), (43, o.2.2.2.2.2.2.2.2.2.2.2.2.2.2.2.2.2.2.2.2.2.2.2.2.2.2.2.2.2.2.2.2.2.2.2.1), (44, o.2.2.2.2.2.2.2.2.2.2.2.2.2.2.2.2.2.2.2.2.2.2.2.2.2.2.2.2.2.2.2.2.2.2.2.2.1), (45, o.2.2.2.2.2.2.2.2.2.2.2.2.2.2.2.2.2.2.2.2.2.2.2.2.2.2.2.2.2.2.2.2.2.2.2.2.2)]) 63) 0 10) : (True) ∧ SIM5 (zst σ [(0, o.2.2.1), (1, o.2.2.2.1), (3, o.2.2.2.2.1), (4, o.2.2.2.2.2.1), (5, o.2.2.2.2.2.2.1), (7, o.2.2.2.2.2.2.2.1), (8, o.2.2.2.2.2.2.2.2.1), (9, o.2.2.2.2.2.2.2.2.2.1), (10, o.2.2.2.2.2.2.2.2.2.2.1), (11, o.2.2.2.2.2.2.2.2.2.2.2.1), (12, o.2.2.2.2.2.2.2.2.2.2.2.2.1), (13, o.2.2.2.2.2.2.2.2.2.2.2.2.2.1), (14, o.2.2.2.2.2.2.2.2.2.2.2.2.2.2.1), (15, o.2.2.2.2.2.2.2.2.2.2.2.2.2.2.2.1), (16, o.2.2.2.2.2.2.2.2.2.2.2.2.2.2.2.2.1), (17, o.2.2.2.2.2.2.2.2.2.2.2.2.2.2.2.2.2.1), (18, o.2.2.2.2.2.2.2.2.2.2.2.2.2.2.2.2.2.2.1), (28, o.2.2.2.2.2.2.2.2.2.2.2.2.2.2.2.2.2.2.2.1), (30, o.2.2.2.2.2.2.2.2.2.2.2.2.2.2.2.2.2.2.2.2.1), (31, o.2.2.2.2.2.2.2.2.2.2.2.2.2.2.2.2.2.2.2.2.2.1), (32, o.2.2.2.2.2.2.2.2.2.2.2.2.2.2.2.2.2.2.2.2.2.2.1), (33, o.2.2.2.2.2.2.2.2.2.2.2.2.2.2.2.2.2.2.2.2.2.2.2.1)]) (zta τ [(2, o.2.2.2.2.2.2.2.2.2.2.2.2.2.2.2.2.2.2.2.2.2.2.2.2.1), (3, o.2.2.2.2.2.2.2.2.2.2.2.2.2.2.2.2.2.2.2.2.2.2.2.2.2.1), (4, o.2.2.2.2.2.2.2.2.2.2.2.2.2.2.2.2.2.2.2.2.2.2.2.2.2.2.1), (8, o.2.2.2.2.2.2.2.2.2.2.2.2.2.2.2.2.2.2.2.2.2.2.2.2.2.2.2.1), (9, o.2.2.2.2.2.2.2.2.2.2.2.2.2.2.2.2.2.2.2.2.2.2.2.2.2.2.2.2.1), (10, o.2.2.2.2.2.2.2.2.2.2.2.2.2.2.2.2.2.2.2.2.2.2.2.2.2.2.2.2.2.1), (11, o.2.2.2.2.2.2.2.2.2.2.2.2.2.2.2.2.2.2.2.2.2.2.2.2.2.2.2.2.2.2.1), (12, o.2.2.2.2.2.2.2.2.2.2.2.2.2.2.2.2.2.2.2.2.2.2.2.2.2.2.2.2.2.2.2.1), (40, o.2.2.2.2.2.2.2.2.2.2.2.2.2.2.2.2.2.2.2.2.2.2.2.2.2.2.2.2.2.2.2.2.1), (41, o.2.2.2.2.2.2.2.2.2.2.2.2.2.2.2.2.2.2.2.2.2.2.2.2.2.2.2.2.2.2.2.2.2.1), (42, o.2.2.2.2.2.2.2.2.2.2.2.2.2.2.2.2.2.2.2.2.2.2.2.2.2.2.2.2.2.2.2.2.2.2.1), (43, o.2.2.2.2.2.2.2.2.2.2.2.2.2.2.2.2.2.2.2.2.2.2.2.2.2.2.2.2.2.2.2.2.2.2.2.1), (44, o.2.2.2.2.2.2.2.2.2.2.2.2.2.2.2.2.2.2.2.2.2.2.2.2.2.2.2.2.2.2.2.2.2.2.2.2.1), (45, o.2.2.2.2.2.2.2.2.2.2.2.2.2.2.2.2.2.2.2.2.2.2.2.2.2.2.2.2.2.2.2.2.2.2.2.2.2)]) := by
  obtain ⟨x_RI, x_h16, x_h17, x_b0, x_e0, x_t1, x_m, x_em, x_ch, x_ech, x_pa, x_epa, x_la, x_fo, x_h63, x_h64, x_st, x_ex, x_pl, x_te, x_Rst, x_Rex, x_Rtr, x_Rpl, x_Rte, x_Rgo, x_im, x_k6, x_k0, x_kp, x_m0, x_m1, x_h85, x_h87, x_m61, x_h83⟩ := hX
  obtain ⟨y_t40, y_t41, y_t48, y_t56, y_t57, y_t81, y_t82, y_s37⟩ := hY
  have S4 := hS.2.2.2.1
  have T1 := hT.1
  have hF := FOK_x (x3_J x_RI x_ch x_ech x_Rst x_Rex x_st x_ex x_Rte x_te x_la x_fo S4) x_RI y_t40 y_t41 x_te x_la.1
  have hP := (x3_P x_RI x_pa x_epa x_Rpl x_pl x_Rte)
  obtain ⟨V1, V2, V3, V4, V5⟩ := hV
  unfold f_OP_14 at h
  obtain ⟨x_ans, n_s0, n_s1, n_s3, n_s28, n_s30, n_t2, n_s31, n_s32, n_s33, n_t40, n_t41, n_t42, n_t43, n_t44, n_t45, e1, h⟩ := xz_d16 h
  obtain ⟨y_ans, n_s4, n_s5, n_s7, n_s8, n_s9, n_s10, n_s11, n_s12, n_s13, n_s14, n_s15, n_s16, n_s17, n_s18, n_t3, n_t4, n_t8, n_t9, n_t10, n_t11, n_t12, e2, h⟩ := xz_d22 h
  have c : HCH (σ 30) (σ 49) (τ 63) (τ 64) n_s30 (σ 49) (τ 63) (τ 64) := ⟨mo_14 e1, fun _ => ⟨rfl, CREL_0⟩⟩
  have ot : n_s30 = σ 30 → n_s28 = (σ 28) ∧ n_t40 = (τ 40) ∧ n_t41 = (τ 41) := ot_14 e1
  have v1 : NOK n_s30 (σ 26) n_s28 (σ 29) (τ 34) (τ 35) (τ 38) n_t40 n_t41 (τ 48) := NOK_st V1 c.1 (fun e => ⟨rfl, (ot e).1, rfl, rfl, rfl, rfl, (ot e).2.1, (ot e).2.2⟩)
  have h63 : zR (τ 63) 0 10 := by cases h; exact hI
  have v2 : SOK (σ 27) (τ 37) (σ 49) (σ 26) n_s28 (σ 29) (τ 34) (τ 35) (τ 38) n_t40 n_t41 n_s30 (τ 63) (τ 64) (σ 40) (σ 41) (σ 42) (σ 43) (τ 59) (τ 60) := SOK_st x_RI x_m x_em hP x_te x_h63 h63 V2 c.1 (fun e => ⟨⟨rfl, rfl, rfl, rfl, (ot e).1, rfl, rfl, rfl, rfl, (ot e).2.1, (ot e).2.2⟩, (c.2 e).2⟩)
  cases h
  exact ⟨trivial, v1, v2, V3, V4, V5⟩
set_option maxHeartbeats 8000000 in
set_option maxRecDepth 10000 in
theorem qk5_15 {N : Int} {σ : Nat → Int} {τ : Nat → Nat → Int} (hX : XX3 σ τ) (hY : XX5 σ τ) (hB : 0 ≤ σ 30 ∧ σ 30 ≤ 5000) (hS : SIM2 σ τ) (hT : SIM3 σ τ) (hV : SIM5 σ τ)  {o : Int × Int × Int} (h : f_OP_15 N (σ 1) (σ 4) (σ 12) = some o) (hI : zR (τ 63) 0 10) : (True) ∧ SIM5 (zst σ [(4, o.2.2)]) τ := by
  obtain ⟨x_RI, x_h16, x_h17, x_b0, x_e0, x_t1, x_m, x_em, x_ch, x_ech, x_pa, x_epa, x_la, x_fo, x_h63, x_h64, x_st, x_ex, x_pl, x_te, x_Rst, x_Rex, x_Rtr, x_Rpl, x_Rte, x_Rgo, x_im, x_k6, x_k0, x_kp, x_m0, x_m1, x_h85, x_h87, x_m61, x_h83⟩ := hX
  obtain ⟨y_t40, y_t41, y_t48, y_t56, y_t57, y_t81, y_t82, y_s37⟩ := hY
  have S4 := hS.2.2.2.1
  have T1 := hT.1
  have hF := FOK_x (x3_J x_RI x_ch x_ech x_Rst x_Rex x_st x_ex x_Rte x_te x_la x_fo S4) x_RI y_t40 y_t41 x_te x_la.1
  have hP := (x3_P x_RI x_pa x_epa x_Rpl x_pl x_Rte)
  obtain ⟨V1, V2, V3, V4, V5⟩ := hV
  unfold f_OP_15 at h
  obtain ⟨x_ans, e1, h⟩ := xz_d1 h
  obtain ⟨y_ans, n_s4, e2, h⟩ := xz_d2 h
  cases h
  exact ⟨trivial, V1, V2, V3, V4, V5⟩
set_option maxHeartbeats 8000000 in
set_option maxRecDepth 10000 in
theorem qk5_16 {N : Int} {σ : Nat → Int} {τ : Nat → Nat → Int} (hX : XX3 σ τ) (hY : XX5 σ τ) (hB : 0 ≤ σ 30 ∧ σ 30 ≤ 5000) (hS : SIM2 σ τ) (hT : SIM3 σ τ) (hV : SIM5 σ τ) (a1 : Int) (b_a1 : (-2147483648) ≤ a1 ∧ a1 ≤ 2147483647) {o : Int × Int × Int × Int × Int × Int × Int × (Nat → Int) × (Nat → Int) × (Nat → Int)} (h : f_OP_16 N a1 (σ 3) (σ 4) (σ 5) (σ 26) (σ 27) (σ 28) (σ 29) (σ 30) (σ 49) (τ 2) (τ 3) (τ 4) (τ 34) (τ 35) (τ 36) (τ 37) (τ 38) (τ 39) = some o) (hI : zR ((zta τ [(2, o.2.2.2.2.2.2.2.1), (3, o.2.2.2.2.2.2.2.2.1), (4, o.2.2.2.2.2.2.2.2.2)]) 63) 0 10) : (True) ∧ SIM5 (zst σ [(3, o.2.2.1), (4, o.2.2.2.1), (5, o.2.2.2.2.1), (29, o.2.2.2.2.2.1), (30, o.2.2.2.2.2.2.1)]) (zta τ [(2, o.2.2.2.2.2.2.2.1), (3, o.2.2.2.2.2.2.2.2.1), (4, o.2.2.2.2.2.2.2.2.2)]) := by
  obtain ⟨x_RI, x_h16, x_h17, x_b0, x_e0, x_t1, x_m, x_em, x_ch, x_ech, x_pa, x_epa, x_la, x_fo, x_h63, x_h64, x_st, x_ex, x_pl, x_te, x_Rst, x_Rex, x_Rtr, x_Rpl, x_Rte, x_Rgo, x_im, x_k6, x_k0, x_kp, x_m0, x_m1, x_h85, x_h87, x_m61, x_h83⟩ := hX
  obtain ⟨y_t40, y_t41, y_t48, y_t56, y_t57, y_t81, y_t82, y_s37⟩ := hY
  have S4 := hS.2.2.2.1
  have T1 := hT.1
  have hF := FOK_x (x3_J x_RI x_ch x_ech x_Rst x_Rex x_st x_ex x_Rte x_te x_la x_fo S4) x_RI y_t40 y_t41 x_te x_la.1
  have hP := (x3_P x_RI x_pa x_epa x_Rpl x_pl x_Rte)
  obtain ⟨V1, V2, V3, V4, V5⟩ := hV
  unfold f_OP_16 at h
  obtain ⟨x_ans, n_s3, n_s29, n_s30, n_t2, e1, h⟩ := xz_d5 h
  obtain ⟨y_ans, n_s4, n_s5, n_t3, n_t4, e2, h⟩ := xz_d5 h
  have c : HCH (σ 30) (σ 49) (τ 63) (τ 64) n_s30 (σ 49) (τ 63) (τ 64) := ⟨mo_16 e1, fun _ => ⟨rfl, CREL_0⟩⟩
  have ot : n_s30 = σ 30 → n_s29 = (σ 29) := ot_16 e1
  have v1 : NOK n_s30 (σ 26) (σ 28) n_s29 (τ 34) (τ 35) (τ 38) (τ 40) (τ 41) (τ 48) := NOK_st V1 c.1 (fun e => ⟨rfl, rfl, (ot e), rfl, rfl, rfl, rfl, rfl⟩)
  have h63 : zR (τ 63) 0 10 := by cases h; exact hI
  have v2 : SOK (σ 27) (τ 37) (σ 49) (σ 26) (σ 28) n_s29 (τ 34) (τ 35) (τ 38) (τ 40) (τ 41) n_s30 (τ 63) (τ 64) (σ 40) (σ 41) (σ 42) (σ 43) (τ 59) (τ 60) := SOK_st x_RI x_m x_em hP x_te x_h63 h63 V2 c.1 (fun e => ⟨⟨rfl, rfl, rfl, rfl, rfl, (ot e), rfl, rfl, rfl, rfl, rfl⟩, (c.2 e).2⟩)
  cases h
  exact ⟨trivial, v1, v2, V3, V4, V5⟩
set_option maxHeartbeats 8000000 in
set_option maxRecDepth 10000 in
theorem qk5_17 {N : Int} {σ : Nat → Int} {τ : Nat → Nat → Int} (hX : XX3 σ τ) (hY : XX5 σ τ) (hB : 0 ≤ σ 30 ∧ σ 30 ≤ 5000) (hS : SIM2 σ τ) (hT : SIM3 σ τ) (hV : SIM5 σ τ) (a1 : Int) (a2 : Int) (a3 : Int) (b_a1 : (-2147483648) ≤ a1 ∧ a1 ≤ 2147483647) (b_a2 : (-2147483648) ≤ a2 ∧ a2 ≤ 2147483647) (b_a3 : (-2147483648) ≤ a3 ∧ a3 ≤ 2147483647) {o : Int × Int × Int × Int × Int × Int × Int × Int × Int × Int × (Nat → Int) × (Nat → Int) × (Nat → Int) × (Nat → Int) × (Nat → Int) × (Nat → Int)} (h : f_OP_17 N a1 a2 a3 (σ 4) (σ 19) (σ 20) (σ 21) (σ 22) (σ 26) (σ 28) (σ 29) (σ 34) (σ 35) (σ 36) (σ 49) (τ 4) (τ 14) (τ 15) (τ 16) (τ 17) (τ 34) (τ 35) (τ 38) (τ 40) (τ 41) (τ 46) (τ 47) (τ 63) (τ 64) = some o) (hI : zR ((zta τ [(14, o.2.2.2.2.2.2.2.2.2.2.1), (15, o.2.2.2.2.2.2.2.2.2.2.2.1), (16, o.2.2.2.2.2.2.2.2.2.2.2.2.1), (17, o.2.2.2.2.2.2.2.2.2.2.2.2.2.1), (46, o.2.2.2.2.2.2.2.2.2.2.2.2.2.2.1), (47, o.2.2.2.2.2.2.2.2.2.2.2.2.2.2.2)]) 63) 0 10) : (True) ∧ SIM5 (zst σ [(4, o.2.2.1), (19, o.2.2.2.1), (20, o.2.2.2.2.1), (21, o.2.2.2.2.2.1), (22, o.2.2.2.2.2.2.1), (34, o.2.2.2.2.2.2.2.1), (35, o.2.2.2.2.2.2.2.2.1), (36, o.2.2.2.2.2.2.2.2.2.1)]) (zta τ [(14, o.2.2.2.2.2.2.2.2.2.2.1), (15, o.2.2.2.2.2.2.2.2.2.2.2.1), (16, o.2.2.2.2.2.2.2.2.2.2.2.2.1), (17, o.2.2.2.2.2.2.2.2.2.2.2.2.2.1), (46, o.2.2.2.2.2.2.2.2.2.2.2.2.2.2.1), (47, o.2.2.2.2.2.2.2.2.2.2.2.2.2.2.2)]) := by
  obtain ⟨x_RI, x_h16, x_h17, x_b0, x_e0, x_t1, x_m, x_em, x_ch, x_ech, x_pa, x_epa, x_la, x_fo, x_h63, x_h64, x_st, x_ex, x_pl, x_te, x_Rst, x_Rex, x_Rtr, x_Rpl, x_Rte, x_Rgo, x_im, x_k6, x_k0, x_kp, x_m0, x_m1, x_h85, x_h87, x_m61, x_h83⟩ := hX
  obtain ⟨y_t40, y_t41, y_t48, y_t56, y_t57, y_t81, y_t82, y_s37⟩ := hY
  have S4 := hS.2.2.2.1
  have T1 := hT.1
  have hF := FOK_x (x3_J x_RI x_ch x_ech x_Rst x_Rex x_st x_ex x_Rte x_te x_la x_fo S4) x_RI y_t40 y_t41 x_te x_la.1
  have hP := (x3_P x_RI x_pa x_epa x_Rpl x_pl x_Rte)
  obtain ⟨V1, V2, V3, V4, V5⟩ := hV
  unfold f_OP_17 at h
  obtain ⟨x_ans, n_s34, n_s35, n_s36, n_t46, n_t47, e1, h⟩ := xz_d6 h
  obtain ⟨y_ans, n_s4, n_s19, n_s20, n_s21, n_s22, n_t14, n_t15, n_t16, n_t17, e2, h⟩ := xz_d10 h
  cases h
  exact ⟨trivial, V1, V2, V3, V4, V5⟩
set_option maxHeartbeats 8000000 in
set_option maxRecDepth 10000 in
theorem qk5_18 {N : Int} {σ : Nat → Int} {τ : Nat → Nat → Int} (hX : XX3 σ τ) (hY : XX5 σ τ) (hB : 0 ≤ σ 30 ∧ σ 30 ≤ 5000) (hS : SIM2 σ τ) (hT : SIM3 σ τ) (hV : SIM5 σ τ) (a1 : Int) (a2 : Int) (a3 : Int) (b_a1 : (-2147483648) ≤ a1 ∧ a1 ≤ 2147483647) (b_a2 : (-2147483648) ≤ a2 ∧ a2 ≤ 2147483647) (b_a3 : (-2147483648) ≤ a3 ∧ a3 ≤ 2147483647) {o : Int × Int × Int × Int × Int × Int × Int × Int × Int × Int × (Nat → Int) × (Nat → Int) × (Nat → Int) × (Nat → Int) × (Nat → Int) × (Nat → Int)} (h : f_OP_18 N a1 a2 a3 (σ 4) (σ 19) (σ 20) (σ 21) (σ 22) (σ 26) (σ 28) (σ 29) (σ 34) (σ 35) (σ 36) (σ 49) (τ 4) (τ 14) (τ 15) (τ 16) (τ 17) (τ 34) (τ 35) (τ 38) (τ 40) (τ 41) (τ 46) (τ 47) (τ 63) (τ 64) = some o) (hI : zR ((zta τ [(14, o.2.2.2.2.2.2.2.2.2.2.1), (15, o.2.2.2.2.2.2.2.2.2.2.2.1), (16, o.2.2.2.2.2.2.2.2.2.2.2.2.1), (17, o.2.2.2.2.2.2.2.2.2.2.2.2.2.1), (46, o.2.2.2.2.2.2.2.2.2.2.2.2.2.2.1), (47, o.2.2.2.2.2.2.2.2.2.2.2.2.2.2.2)]) 63) 0 10) : (True) ∧ SIM5 (zst σ [(4, o.2.2.1), (19, o.2.2.2.1), (20, o.2.2.2.2.1), (21, o.2.2.2.2.2.1), (22, o.2.2.2.2.2.2.1), (34, o.2.2.2.2.2.2.2.1), (35, o.2.2.2.2.2.2.2.2.1), (36, o.2.2.2.2.2.2.2.2.2.1)]) (zta τ [(14, o.2.2.2.2.2.2.2.2.2.2.1), (15, o.2.2.2.2.2.2.2.2.2.2.2.1), (16, o.2.2.2.2.2.2.2.2.2.2.2.2.1), (17, o.2.2.2.2.2.2.2.2.2.2.2.2.2.1), (46, o.2.2.2.2.2.2.2.2.2.2.2.2.2.2.1), (47, o.2.2.2.2.2.2.2.2.2.2.2.2.2.2.2)]) := by
  obtain ⟨x_RI, x_h16, x_h17, x_b0, x_e0, x_t1, x_m, x_em, x_ch, x_ech, x_pa, x_epa, x_la, x_fo, x_h63, x_h64, x_st, x_ex, x_pl, x_te, x_Rst, x_Rex, x_Rtr, x_Rpl, x_Rte, x_Rgo, x_im, x_k6, x_k0, x_kp, x_m0, x_m1, x_h85, x_h87, x_m61, x_h83⟩ := hX
  obtain ⟨y_t40, y_t41, y_t48, y_t56, y_t57, y_t81, y_t82, y_s37⟩ := hY
  have S4 := hS.2.2.2.1
  have T1 := hT.1
  have hF := FOK_x (x3_J x_RI x_ch x_ech x_Rst x_Rex x_st x_ex x_Rte x_te x_la x_fo S4) x_RI y_t40 y_t41 x_te x_la.1
  have hP := (x3_P x_RI x_pa x_epa x_Rpl x_pl x_Rte)
  obtain ⟨V1, V2, V3, V4, V5⟩ := hV
  unfold f_OP_18 at h
  obtain ⟨x_ans, n_s34, n_s35, n_s36, n_t46, n_t47, e1, h⟩ := xz_d6 h
  obtain ⟨y_ans, n_s4, n_s19, n_s20, n_s21, n_s22, n_t14, n_t15, n_t16, n_t17, e2, h⟩ := xz_d10 h
  cases h
  exact ⟨trivial, V1, V2, V3, V4, V5⟩
set_option maxHeartbeats 8000000 in
set_option maxRecDepth 10000 in
theorem qk5_19 {N : Int} {σ : Nat → Int} {τ : Nat → Nat → Int} (hX : XX3 σ τ) (hY : XX5 σ τ) (hB : 0 ≤ σ 30 ∧ σ 30 ≤ 5000) (hS : SIM2 σ τ) (hT : SIM3 σ τ) (hV : SIM5 σ τ) (a1 : Int) (a2 : Int) (a3 : Int) (b_a1 : (-2147483648) ≤ a1 ∧ a1 ≤ 2147483647) (b_a2 : (-2147483648) ≤ a2 ∧ a2 ≤ 2147483647) (b_a3 : (-2147483648) ≤ a3 ∧ a3 ≤ 2147483647) {o : Int × Int × Int × Int × Int × Int × Int × Int × Int × Int × Int × Int × Int × (Nat → Int) × (Nat → Int) × (Nat → Int) × (Nat → Int) × (Nat → Int) × (Nat → Int) × (Nat → Int) × (Nat → Int) × (Nat → Int) × (Nat → Int) × (Nat → Int)} (h : f_OP_19 N a1 a2 a3 (σ 3) (σ 4) (σ 5) (σ 19) (σ 20) (σ 21) (σ 22) (σ 26) (σ 27) (σ 28) (σ 29) (σ 30) (σ 34) (σ 35) (σ 36) (σ 49) (τ 2) (τ 3) (τ 4) (τ 14) (τ 15) (τ 16) (τ 17) (τ 34) (τ 35) (τ 36) (τ 37) (τ 38) (τ 39) (τ 40) (τ 41) (τ 46) (τ 47) (τ 63) (τ 64) = some o) (hI : zR ((zta τ [(2, o.2.2.2.2.2.2.2.2.2.2.2.2.2.1), (3, o.2.2.2.2.2.2.2.2.2.2.2.2.2.2.1), (4, o.2.2.2.2.2.2.2.2.2.2.2.2.2.2.2.1), (14, o.2.2.2.2.2.2.2.2.2.2.2.2.2.2.2.2.1), (15, o.2.2.2.2.2.2.2.2.2.2.2.2.2.2.2.2.2.1), (16, o.2.2.2.2.2.2.2.2.2.2.2.2.2.2.2.2.2.2.1), (17, o.2.2.2.2.2.2.2.2.2.2.2.2.2.2.2.2.2.2.2.1), (46, o.2.2.2.2.2.2.2.2.2.2.2.2.2.2.2.2.2.2.2.2.1), (47, o.2.2.2.2.2.2.2.2.2.2.2.2.2.2.2.2.2.2.2.2.2.1), (63, o.2.2.2.2.2.2.2.2.2.2.2.2.2.2.2.2.2.2.2.2.2.2.1), (64, o.2.2.2.2.2.2.2.2.2.2.2.2.2.2.2.2.2.2.2.2.2.2.2)]) 63) 0 10) : (True) ∧ SIM5 (zst σ [(3, o.2.2.1), (4, o.2.2.2.1), (5, o.2.2.2.2.1), (19, o.2.2.2.2.2.1), (20, o.2.2.2.2.2.2.1), (21, o.2.2.2.2.2.2.2.1), (22, o.2.2.2.2.2.2.2.2.1), (30, o.2.2.2.2.2.2.2.2.2.1), (34, o.2.2.2.2.2.2.2.2.2.2.1), (35, o.2.2.2.2.2.2.2.2.2.2.2.1), (36, o.2.2.2.2.2.2.2.2.2.2.2.2.1)]) (zta τ [(2, o.2.2.2.2.2.2.2.2.2.2.2.2.2.1), (3, o.2.2.2.2.2.2.2.2.2.2.2.2.2.2.1), (4, o.2.2.2.2.2.2.2.2.2.2.2.2.2.2.2.1), (14, o.2.2.2.2.2.2.2.2.2.2.2.2.2.2.2.2.1), (15, o.2.2.2.2.2.2.2.2.2.2.2.2.2.2.2.2.2.1), (16, o.2.2.2.2.2.2.2.2.2.2.2.2.2.2.2.2.2.2.1), (17, o.2.2.2.2.2.2.2.2.2.2.2.2.2.2.2.2.2.2.2.1), (46, o.2.2.2.2.2.2.2.2.2.2.2.2.2.2.2.2.2.2.2.2.1), (47, o.2.2.2.2.2.2.2.2.2.2.2.2.2.2.2.2.2.2.2.2.2.1), (63, o.2.2.2.2.2.2.2.2.2.2.2.2.2.2.2.2.2.2.2.2.2.2.1), (64, o.2.2.2.2.2.2.2.2.2.2.2.2.2.2.2.2.2.2.2.2.2.2.2)]) := by
  obtain ⟨x_RI, x_h16, x_h17, x_b0, x_e0, x_t1, x_m, x_em, x_ch, x_ech, x_pa, x_epa, x_la, x_fo, x_h63, x_h64, x_st, x_ex, x_pl, x_te, x_Rst, x_Rex, x_Rtr, x_Rpl, x_Rte, x_Rgo, x_im, x_k6, x_k0, x_kp, x_m0, x_m1, x_h85, x_h87, x_m61, x_h83⟩ := hX
  obtain ⟨y_t40, y_t41, y_t48, y_t56, y_t57, y_t81, y_t82, y_s37⟩ := hY
  have S4 := hS.2.2.2.1
  have T1 := hT.1
  have hF := FOK_x (x3_J x_RI x_ch x_ech x_Rst x_Rex x_st x_ex x_Rte x_te x_la x_fo S4) x_RI y_t40 y_t41 x_te x_la.1
  have hP := (x3_P x_RI x_pa x_epa x_Rpl x_pl x_Rte)
  obtain ⟨V1, V2, V3, V4, V5⟩ := hV
  unfold f_OP_19 at h
  obtain ⟨x_ans, n_s3, n_s30, n_t2, n_s34, n_s35, n_s36, n_t46, n_t47, n_t63, n_t64, e1, h⟩ := xz_d11 h
  obtain ⟨y_ans, n_s4, n_s5, n_s19, n_s20, n_s21, n_s22, n_t3, n_t4, n_t14, n_t15, n_t16, n_t17, e2, h⟩ := xz_d13 h
  have c : HCH (σ 30) (σ 49) (τ 63) (τ 64) n_s30 (σ 49) n_t63 n_t64 := hc_carry e1
  have v1 : NOK n_s30 (σ 26) (σ 28) (σ 29) (τ 34) (τ 35) (τ 38) (τ 40) (τ 41) (τ 48) := NOK_st V1 c.1 (fun e => ⟨rfl, rfl, rfl, rfl, rfl, rfl, rfl, rfl⟩)
  have h63 : zR n_t63 0 10 := by cases h; exact hI
  have v2 : SOK (σ 27) (τ 37) (σ 49) (σ 26) (σ 28) (σ 29) (τ 34) (τ 35) (τ 38) (τ 40) (τ 41) n_s30 n_t63 n_t64 (σ 40) (σ 41) (σ 42) (σ 43) (τ 59) (τ 60) := SOK_st x_RI x_m x_em hP x_te x_h63 h63 V2 c.1 (fun e => ⟨⟨rfl, rfl, rfl, rfl, rfl, rfl, rfl, rfl, rfl, rfl, rfl⟩, (c.2 e).2⟩)
  have v3 : STW (σ 49) n_t63 n_t64 := sw_carry b_a1 b_a2 b_a3 x_ch x_m x_h63 V3 e1
  cases h
  exact ⟨trivial, v1, v2, v3, V4, V5⟩
end
section
set_option maxHeartbeats 8000000 in
set_option maxRecDepth 10000 in
theorem qk5_20 {N : Int} {σ : Nat → Int} {τ : Nat → Nat → Int} (hX : XX3 σ τ) (hY : XX5 σ τ) (hB : 0 ≤ σ 30 ∧ σ 30 ≤ 5000) (hS : SIM2 σ τ) (hT : SIM3 σ τ) (hV : SIM5 σ τ) (a1 : Int) (a2 : Int) (a3 : Int) (a4 : Int) (b_a1 : (-2147483648) ≤ a1 ∧ a1 ≤ 2147483647) (b_a2 : (-2147483648) ≤ a2 ∧ a2 ≤ 2147483647) (b_a3 : (-2147483648) ≤ a3 ∧ a3 ≤ 2147483647) (b_a4 : (-2147483648) ≤ a4 ∧ a4 ≤ 2147483647) {o : Int × Int × Int × Int × Int × Int × Int × Int × Int × Int × Int × Int × Int × (Nat → Int) × (Nat → Int) × (Nat → Int) × (Nat → Int) × (Nat → Int) × (Nat → Int) × (Nat → Int) × (Nat → Int) × (Nat → Int) × (Nat → Int) × (Nat → Int)} (h : f_OP_20 N a1 a2 a3 a4 (σ 3) (σ 4) (σ 5) (σ 19) (σ 20) (σ 21) (σ 22) (σ 26) (σ 27) (σ 28) (σ 29) (σ 30) (σ 34) (σ 35) (σ 36) (σ 49) (τ 2) (τ 3) (τ 4) (τ 14) (τ 15) (τ 16) (τ 17) (τ 34) (τ 35) (τ 36) (τ 37) (τ 38) (τ 39) (τ 40) (τ 41) (τ 46) (τ 47) (τ 63) (τ 64) = some o) (hI : zR ((zta τ [(2, o.2.2.2.2.2.2.2.2.2.2.2.2.2.1), (3, o.2.2.2.2.2.2.2.2.2.2.2.2.2.2.1), (4, o.2.2.2.2.2.2.2.2.2.2.2.2.2.2.2.1), (14, o.2.2.2.2.2.2.2.2.2.2.2.2.2.2.2.2.1), (15, o.2.2.2.2.2.2.2.2.2.2.2.2.2.2.2.2.2.1), (16, o.2.2.2.2.2.2.2.2.2.2.2.2.2.2.2.2.2.2.1), (17, o.2.2.2.2.2.2.2.2.2.2.2.2.2.2.2.2.2.2.2.1), (46, o.2.2.2.2.2.2.2.2.2.2.2.2.2.2.2.2.2.2.2.2.1), (47, o.2.2.2.2.2.2.2.2.2.2.2.2.2.2.2.2.2.2.2.2.2.1), (63, o.2.2.2.2.2.2.2.2.2.2.2.2.2.2.2.2.2.2.2.2.2.2.1), (64, o.2.2.2.2.2.2.2.2.2.2.2.2.2.2.2.2.2.2.2.2.2.2.2)]) 63) 0 10) : (True) ∧ SIM5 (zst σ [(3, o.2.2.1), (4, o.2.2.2.1), (5, o.2.2.2.2.1), (19, o.2.2.2.2.2.1), (20, o.2.2.2.2.2.2.1), (21, o.2.2.2.2.2.2.2.1), (22, o.2.2.2.2.2.2.2.2.1), (30, o.2.2.2.2.2.2.2.2.2.1), (34, o.2.2.2.2.2.2.2.2.2.2.1), (35, o.2.2.2.2.2.2.2.2.2.2.2.1), (36, o.2.2.2.2.2.2.2.2.2.2.2.2.1)]) (zta τ [(2, o.2.2.2.2.2.2.2.2.2.2.2.2.2.1), (3, o.2.2.2.2.2.2.2.2.2.2.2.2.2.2.1), (4, o.2.2.2.2.2.2.2.2.2.2.2.2.2.2.2.1), (14, o.2.2.2.2.2.2.2.2.2.2.2.2.2.2.2.2.1), (15, o.2.2.2.2.2.2.2.2.2.2.2.2.2.2.2.2.2.1), (16, o.2.2.2.2.2.2.2.2.2.2.2.2.2.2.2.2.2.2.1), (17, o.2.2.2.2.2.2.2.2.2.2.2.2.2.2.2.2.2.2.2.1), (46, o.2.2.2.2.2.2.2.2.2.2.2.2.2.2.2.2.2.2.2.2.1), (47, o.2.2.2.2.2.2.2.2.2.2.2.2.2.2.2.2.2.2.2.2.2.1), (63, o.2.2.2.2.2.2.2.2.2.2.2.2.2.2.2.2.2.2.2.2.2.2.1), (64, o.2.2.2.2.2.2.2.2.2.2.2.2.2.2.2.2.2.2.2.2.2.2.2)]) := by
  obtain ⟨x_RI, x_h16, x_h17, x_b0, x_e0, x_t1, x_m, x_em, x_ch, x_ech, x_pa, x_epa, x_la, x_fo, x_h63, x_h64, x_st, x_ex, x_pl, x_te, x_Rst, x_Rex, x_Rtr, x_Rpl, x_Rte, x_Rgo, x_im, x_k6, x_k0, x_kp, x_m0, x_m1, x_h85, x_h87, x_m61, x_h83⟩ := hX
  obtain ⟨y_t40, y_t41, y_t48, y_t56, y_t57, y_t81, y_t82, y_s37⟩ := hY
  have S4 := hS.2.2.2.1
  have T1 := hT.1
  have hF := FOK_x (x3_J x_RI x_ch x_ech x_Rst x_Rex x_st x_ex x_Rte x_te x_la x_fo S4) x_RI y_t40 y_t41 x_te x_la.1
  have hP := (x3_P x_RI x_pa x_epa x_Rpl x_pl x_Rte)
  obtain ⟨V1, V2, V3, V4, V5⟩ := hV
  unfold f_OP_20 at h
  obtain ⟨x_ans, n_s3, n_s30, n_t2, n_s34, n_s35, n_s36, n_t46, n_t47, n_t63, n_t64, e1, h⟩ := xz_d11 h
  obtain ⟨y_ans, n_s4, n_s5, n_s19, n_s20, n_s21, n_s22, n_t3, n_t4, n_t14, n_t15, n_t16, n_t17, e2, h⟩ := xz_d13 h
  have c : HCH (σ 30) (σ 49) (τ 63) (τ 64) n_s30 (σ 49) n_t63 n_t64 := hc_exchange b_a1 b_a2 b_a3 x_ch x_m x_h63 e1
  have v1 : NOK n_s30 (σ 26) (σ 28) (σ 29) (τ 34) (τ 35) (τ 38) (τ 40) (τ 41) (τ 48) := NOK_st V1 c.1 (fun e => ⟨rfl, rfl, rfl, rfl, rfl, rfl, rfl, rfl⟩)
  have h63 : zR n_t63 0 10 := by cases h; exact hI
  have v2 : SOK (σ 27) (τ 37) (σ 49) (σ 26) (σ 28) (σ 29) (τ 34) (τ 35) (τ 38) (τ 40) (τ 41) n_s30 n_t63 n_t64 (σ 40) (σ 41) (σ 42) (σ 43) (τ 59) (τ 60) := SOK_st x_RI x_m x_em hP x_te x_h63 h63 V2 c.1 (fun e => ⟨⟨rfl, rfl, rfl, rfl, rfl, rfl, rfl, rfl, rfl, rfl, rfl⟩, (c.2 e).2⟩)
  have v3 : STW (σ 49) n_t63 n_t64 := sw_exchange b_a1 b_a2 b_a3 b_a4 x_ch x_m x_h63 V3 e1
  cases h
  exact ⟨trivial, v1, v2, v3, V4, V5⟩
set_option maxHeartbeats 8000000 in
set_option maxRecDepth 10000 in
theorem qk5_21 {N : Int} {σ : Nat → Int} {τ : Nat → Nat → Int} (hX : XX3 σ τ) (hY : XX5 σ τ) (hB : 0 ≤ σ 30 ∧ σ 30 ≤ 5000) (hS : SIM2 σ τ) (hT : SIM3 σ τ) (hV : SIM5 σ τ)  {o : Int × Int × Int × (Nat → Int) × (Nat → Int)} (h : f_OP_21 N (σ 4) (σ 49) (τ 4) (τ 16) (τ 17) (τ 38) (τ 63) = some o) (hI : zR ((zta τ [(16, o.2.2.2.1), (17, o.2.2.2.2)]) 63) 0 10) : (True) ∧ SIM5 (zst σ [(4, o.2.2.1)]) (zta τ [(16, o.2.2.2.1), (17, o.2.2.2.2)]) := by
  obtain ⟨x_RI, x_h16, x_h17, x_b0, x_e0, x_t1, x_m, x_em, x_ch, x_ech, x_pa, x_epa, x_la, x_fo, x_h63, x_h64, x_st, x_ex, x_pl, x_te, x_Rst, x_Rex, x_Rtr, x_Rpl, x_Rte, x_Rgo, x_im, x_k6, x_k0, x_kp, x_m0, x_m1, x_h85, x_h87, x_m61, x_h83⟩ := hX
  obtain ⟨y_t40, y_t41, y_t48, y_t56, y_t57, y_t81, y_t82, y_s37⟩ := hY
  have S4 := hS.2.2.2.1
  have T1 := hT.1
  have hF := FOK_x (x3_J x_RI x_ch x_ech x_Rst x_Rex x_st x_ex x_Rte x_te x_la x_fo S4) x_RI y_t40 y_t41 x_te x_la.1
  have hP := (x3_P x_RI x_pa x_epa x_Rpl x_pl x_Rte)
  obtain ⟨V1, V2, V3, V4, V5⟩ := hV
  unfold f_OP_21 at h
  obtain ⟨x_ans, e1, h⟩ := xz_d1 h
  obtain ⟨y_ans, n_s4, n_t16, n_t17, e2, h⟩ := xz_d4 h
  cases h
  exact ⟨trivial, V1, V2, V3, V4, V5⟩
set_option maxHeartbeats 8000000 in
set_option maxRecDepth 10000 in
theorem qk5_22 {N : Int} {σ : Nat → Int} {τ : Nat → Nat → Int} (hX : XX3 σ τ) (hY : XX5 σ τ) (hB : 0 ≤ σ 30 ∧ σ 30 ≤ 5000) (hS : SIM2 σ τ) (hT : SIM3 σ τ) (hV : SIM5 σ τ)  {o : Int × Int × Int × Int × (Nat → Int) × (Nat → Int) × (Nat → Int) × (Nat → Int) × (Nat → Int)} (h : f_OP_22 N (σ 4) (σ 26) (σ 27) (σ 30) (σ 49) (τ 4) (τ 16) (τ 17) (τ 34) (τ 35) (τ 36) (τ 37) (τ 38) (τ 39) (τ 63) (τ 64) = some o) (hI : zR ((zta τ [(4, o.2.2.2.2.1), (16, o.2.2.2.2.2.1), (17, o.2.2.2.2.2.2.1), (63, o.2.2.2.2.2.2.2.1), (64, o.2.2.2.2.2.2.2.2)]) 63) 0 10) : (True) ∧ SIM5 (zst σ [(4, o.2.2.1), (30, o.2.2.2.1)]) (zta τ [(4, o.2.2.2.2.1), (16, o.2.2.2.2.2.1), (17, o.2.2.2.2.2.2.1), (63, o.2.2.2.2.2.2.2.1), (64, o.2.2.2.2.2.2.2.2)]) := by
  obtain ⟨x_RI, x_h16, x_h17, x_b0, x_e0, x_t1, x_m, x_em, x_ch, x_ech, x_pa, x_epa, x_la, x_fo, x_h63, x_h64, x_st, x_ex, x_pl, x_te, x_Rst, x_Rex, x_Rtr, x_Rpl, x_Rte, x_Rgo, x_im, x_k6, x_k0, x_kp, x_m0, x_m1, x_h85, x_h87, x_m61, x_h83⟩ := hX
  obtain ⟨y_t40, y_t41, y_t48, y_t56, y_t57, y_t81, y_t82, y_s37⟩ := hY
  have S4 := hS.2.2.2.1
  have T1 := hT.1
  have hF := FOK_x (x3_J x_RI x_ch x_ech x_Rst x_Rex x_st x_ex x_Rte x_te x_la x_fo S4) x_RI y_t40 y_t41 x_te x_la.1
  have hP := (x3_P x_RI x_pa x_epa x_Rpl x_pl x_Rte)
  obtain ⟨V1, V2, V3, V4, V5⟩ := hV
  unfold f_OP_22 at h
  obtain ⟨x_ans, n_s30, n_t63, n_t64, e1, h⟩ := xz_d4 h
  obtain ⟨y_ans, n_s4, n_t4, n_t16, n_t17, e2, h⟩ := xz_d5 h
  have c : HCH (σ 30) (σ 49) (τ 63) (τ 64) n_s30 (σ 49) n_t63 n_t64 := hc_slide e1
  have v1 : NOK n_s30 (σ 26) (σ 28) (σ 29) (τ 34) (τ 35) (τ 38) (τ 40) (τ 41) (τ 48) := NOK_st V1 c.1 (fun e => ⟨rfl, rfl, rfl, rfl, rfl, rfl, rfl, rfl⟩)
  have h63 : zR n_t63 0 10 := by cases h; exact hI
  have v2 : SOK (σ 27) (τ 37) (σ 49) (σ 26) (σ 28) (σ 29) (τ 34) (τ 35) (τ 38) (τ 40) (τ 41) n_s30 n_t63 n_t64 (σ 40) (σ 41) (σ 42) (σ 43) (τ 59) (τ 60) := SOK_st x_RI x_m x_em hP x_te x_h63 h63 V2 c.1 (fun e => ⟨⟨rfl, rfl, rfl, rfl, rfl, rfl, rfl, rfl, rfl, rfl, rfl⟩, (c.2 e).2⟩)
  have v3 : STW (σ 49) n_t63 n_t64 := sw_slide x_m x_te x_h63 V3 e1
  cases h
  exact ⟨trivial, v1, v2, v3, V4, V5⟩
set_option maxHeartbeats 8000000 in
set_option maxRecDepth 10000 in
theorem qk5_23 {N : Int} {σ : Nat → Int} {τ : Nat → Nat → Int} (hX : XX3 σ τ) (hY : XX5 σ τ) (hB : 0 ≤ σ 30 ∧ σ 30 ≤ 5000) (hS : SIM2 σ τ) (hT : SIM3 σ τ) (hV : SIM5 σ τ) (a1 : Int) (b_a1 : (-2147483648) ≤ a1 ∧ a1 ≤ 2147483647) {o : Int × Int × Int × (Nat → Int) × (Nat → Int)} (h : f_OP_23 N a1 (σ 4) (σ 27) (σ 49) (τ 4) (τ 16) (τ 17) (τ 37) (τ 38) (τ 63) = some o) (hI : zR ((zta τ [(16, o.2.2.2.1), (17, o.2.2.2.2)]) 63) 0 10) : (True) ∧ SIM5 (zst σ [(4, o.2.2.1)]) (zta τ [(16, o.2.2.2.1), (17, o.2.2.2.2)]) := by
  obtain ⟨x_RI, x_h16, x_h17, x_b0, x_e0, x_t1, x_m, x_em, x_ch, x_ech, x_pa, x_epa, x_la, x_fo, x_h63, x_h64, x_st, x_ex, x_pl, x_te, x_Rst, x_Rex, x_Rtr, x_Rpl, x_Rte, x_Rgo, x_im, x_k6, x_k0, x_kp, x_m0, x_m1, x_h85, x_h87, x_m61, x_h83⟩ := hX
  obtain ⟨y_t40, y_t41, y_t48, y_t56, y_t57, y_t81, y_t82, y_s37⟩ := hY
  have S4 := hS.2.2.2.1
  have T1 := hT.1
  have hF := FOK_x (x3_J x_RI x_ch x_ech x_Rst x_Rex x_st x_ex x_Rte x_te x_la x_fo S4) x_RI y_t40 y_t41 x_te x_la.1
  have hP := (x3_P x_RI x_pa x_epa x_Rpl x_pl x_Rte)
  obtain ⟨V1, V2, V3, V4, V5⟩ := hV
  unfold f_OP_23 at h
  obtain ⟨x_ans, e1, h⟩ := xz_d1 h
  obtain ⟨y_ans, n_s4, n_t16, n_t17, e2, h⟩ := xz_d4 h
  cases h
  exact ⟨trivial, V1, V2, V3, V4, V5⟩
set_option maxHeartbeats 8000000 in
set_option maxRecDepth 10000 in
theorem qk5_24 {N : Int} {σ : Nat → Int} {τ : Nat → Nat → Int} (hX : XX3 σ τ) (hY : XX5 σ τ) (hB : 0 ≤ σ 30 ∧ σ 30 ≤ 5000) (hS : SIM2 σ τ) (hT : SIM3 σ τ) (hV : SIM5 σ τ) (a1 : Int) (a2 : Int) (a3 : Int) (a4 : Int) (b_a1 : (-2147483648) ≤ a1 ∧ a1 ≤ 2147483647) (b_a2 : (-2147483648) ≤ a2 ∧ a2 ≤ 2147483647) (b_a3 : (-2147483648) ≤ a3 ∧ a3 ≤ 2147483647) (b_a4 : (-2147483648) ≤ a4 ∧ a4 ≤ 2147483647) {o : Int × Int × Int × Int × Int × Int × Int × Int × Int × Int × (Nat → Int) × (Nat → Int) × (Nat → Int) × (Nat → Int) × (Nat → Int) × (Nat → Int) × (Nat → Int) × (Nat → Int)} (h : f_OP_24 N a1 a2 a3 a4 (σ 4) (σ 19) (σ 20) (σ 21) (σ 22) (σ 26) (σ 27) (σ 28) (σ 29) (σ 34) (σ 35) (σ 36) (σ 49) (τ 4) (τ 14) (τ 15) (τ 16) (τ 17) (τ 34) (τ 35) (τ 37) (τ 38) (τ 40) (τ 41) (τ 46) (τ 47) (τ 63) (τ 64) = some o) (hI : zR ((zta τ [(14, o.2.2.2.2.2.2.2.2.2.2.1), (15, o.2.2.2.2.2.2.2.2.2.2.2.1), (16, o.2.2.2.2.2.2.2.2.2.2.2.2.1), (17, o.2.2.2.2.2.2.2.2.2.2.2.2.2.1), (46, o.2.2.2.2.2.2.2.2.2.2.2.2.2.2.1), (47, o.2.2.2.2.2.2.2.2.2.2.2.2.2.2.2.1), (63, o.2.2.2.2.2.2.2.2.2.2.2.2.2.2.2.2.1), (64, o.2.2.2.2.2.2.2.2.2.2.2.2.2.2.2.2.2)]) 63) 0 10) : (True) ∧ SIM5 (zst σ [(4, o.2.2.1), (19, o.2.2.2.1), (20, o.2.2.2.2.1), (21, o.2.2.2.2.2.1), (22, o.2.2.2.2.2.2.1), (34, o.2.2.2.2.2.2.2.1), (35, o.2.2.2.2.2.2.2.2.1), (36, o.2.2.2.2.2.2.2.2.2.1)]) (zta τ [(14, o.2.2.2.2.2.2.2.2.2.2.1), (15, o.2.2.2.2.2.2.2.2.2.2.2.1), (16, o.2.2.2.2.2.2.2.2.2.2.2.2.1), (17, o.2.2.2.2.2.2.2.2.2.2.2.2.2.1), (46, o.2.2.2.2.2.2.2.2.2.2.2.2.2.2.1), (47, o.2.2.2.2.2.2.2.2.2.2.2.2.2.2.2.1), (63, o.2.2.2.2.2.2.2.2.2.2.2.2.2.2.2.2.1), (64, o.2.2.2.2.2.2.2.2.2.2.2.2.2.2.2.2.2)]) := by
  obtain ⟨x_RI, x_h16, x_h17, x_b0, x_e0, x_t1, x_m, x_em, x_ch, x_ech, x_pa, x_epa, x_la, x_fo, x_h63, x_h64, x_st, x_ex, x_pl, x_te, x_Rst, x_Rex, x_Rtr, x_Rpl, x_Rte, x_Rgo, x_im, x_k6, x_k0, x_kp, x_m0, x_m1, x_h85, x_h87, x_m61, x_h83⟩ := hX
  obtain ⟨y_t40, y_t41, y_t48, y_t56, y_t57, y_t81, y_t82, y_s37⟩ := hY
  have S4 := hS.2.2.2.1
  have T1 := hT.1
  have hF := FOK_x (x3_J x_RI x_ch x_ech x_Rst x_Rex x_st x_ex x_Rte x_te x_la x_fo S4) x_RI y_t40 y_t41 x_te x_la.1
  have hP := (x3_P x_RI x_pa x_epa x_Rpl x_pl x_Rte)
  obtain ⟨V1, V2, V3, V4, V5⟩ := hV
  unfold f_OP_24 at h
  obtain ⟨x_ans, n_s34, n_s35, n_s36, n_t46, n_t47, n_t63, n_t64, e1, h⟩ := xz_d8 h
  obtain ⟨y_ans, n_s4, n_s19, n_s20, n_s21, n_s22, n_t14, n_t15, n_t16, n_t17, e2, h⟩ := xz_d10 h
  have c : HCH (σ 30) (σ 49) (τ 63) (τ 64) (σ 30) (σ 49) n_t63 n_t64 := ⟨Int.le_refl _, fun _ => ⟨rfl, hc_gains b_a2 b_a3 b_a4 x_ch x_m x_h63 e1⟩⟩
  have v1 : NOK (σ 30) (σ 26) (σ 28) (σ 29) (τ 34) (τ 35) (τ 38) (τ 40) (τ 41) (τ 48) := NOK_st V1 c.1 (fun e => ⟨rfl, rfl, rfl, rfl, rfl, rfl, rfl, rfl⟩)
  have h63 : zR n_t63 0 10 := by cases h; exact hI
  have v2 : SOK (σ 27) (τ 37) (σ 49) (σ 26) (σ 28) (σ 29) (τ 34) (τ 35) (τ 38) (τ 40) (τ 41) (σ 30) n_t63 n_t64 (σ 40) (σ 41) (σ 42) (σ 43) (τ 59) (τ 60) := SOK_st x_RI x_m x_em hP x_te x_h63 h63 V2 c.1 (fun e => ⟨⟨rfl, rfl, rfl, rfl, rfl, rfl, rfl, rfl, rfl, rfl, rfl⟩, (c.2 e).2⟩)
  have v3 : STW (σ 49) n_t63 n_t64 := STW_c V3 (hc_gains b_a2 b_a3 b_a4 x_ch x_m x_h63 e1)
  cases h
  exact ⟨trivial, v1, v2, v3, V4, V5⟩
set_option maxHeartbeats 8000000 in
set_option maxRecDepth 10000 in
theorem qk5_25 {N : Int} {σ : Nat → Int} {τ : Nat → Nat → Int} (hX : XX3 σ τ) (hY : XX5 σ τ) (hB : 0 ≤ σ 30 ∧ σ 30 ≤ 5000) (hS : SIM2 σ τ) (hT : SIM3 σ τ) (hV : SIM5 σ τ) (a1 : Int) (a2 : Int) (b_a1 : (-2147483648) ≤ a1 ∧ a1 ≤ 2147483647) (b_a2 : (-2147483648) ≤ a2 ∧ a2 ≤ 2147483647) {o : Int × Int × Int × Int × Int × Int × (Nat → Int) × (Nat → Int) × (Nat → Int) × (Nat → Int)} (h : f_OP_25 N a1 a2 (σ 3) (σ 4) (σ 5) (σ 26) (σ 27) (σ 30) (σ 49) (τ 2) (τ 3) (τ 4) (τ 34) (τ 35) (τ 36) (τ 37) (τ 38) (τ 39) = some o) (hI : zR ((zta τ [(2, o.2.2.2.2.2.2.1), (3, o.2.2.2.2.2.2.2.1), (4, o.2.2.2.2.2.2.2.2.1), (39, o.2.2.2.2.2.2.2.2.2)]) 63) 0 10) : (True) ∧ SIM5 (zst σ [(3, o.2.2.1), (4, o.2.2.2.1), (5, o.2.2.2.2.1), (30, o.2.2.2.2.2.1)]) (zta τ [(2, o.2.2.2.2.2.2.1), (3, o.2.2.2.2.2.2.2.1), (4, o.2.2.2.2.2.2.2.2.1), (39, o.2.2.2.2.2.2.2.2.2)]) := by
  obtain ⟨x_RI, x_h16, x_h17, x_b0, x_e0, x_t1, x_m, x_em, x_ch, x_ech, x_pa, x_epa, x_la, x_fo, x_h63, x_h64, x_st, x_ex, x_pl, x_te, x_Rst, x_Rex, x_Rtr, x_Rpl, x_Rte, x_Rgo, x_im, x_k6, x_k0, x_kp, x_m0, x_m1, x_h85, x_h87, x_m61, x_h83⟩ := hX
  obtain ⟨y_t40, y_t41, y_t48, y_t56, y_t57, y_t81, y_t82, y_s37⟩ := hY
  have S4 := hS.2.2.2.1
  have T1 := hT.1
  have hF := FOK_x (x3_J x_RI x_ch x_ech x_Rst x_Rex x_st x_ex x_Rte x_te x_la x_fo S4) x_RI y_t40 y_t41 x_te x_la.1
  have hP := (x3_P x_RI x_pa x_epa x_Rpl x_pl x_Rte)
  obtain ⟨V1, V2, V3, V4, V5⟩ := hV
  unfold f_OP_25 at h
  obtain ⟨x_ans, n_s3, n_s30, n_t2, n_t39, e1, h⟩ := xz_d5 h
  obtain ⟨y_ans, n_s4, n_s5, n_t3, n_t4, e2, h⟩ := xz_d5 h
  have c : HCH (σ 30) (σ 49) (τ 63) (τ 64) n_s30 (σ 49) (τ 63) (τ 64) := ⟨mo_25 e1, fun _ => ⟨rfl, CREL_0⟩⟩
  have v1 : NOK n_s30 (σ 26) (σ 28) (σ 29) (τ 34) (τ 35) (τ 38) (τ 40) (τ 41) (τ 48) := NOK_st V1 c.1 (fun e => ⟨rfl, rfl, rfl, rfl, rfl, rfl, rfl, rfl⟩)
  have h63 : zR (τ 63) 0 10 := by cases h; exact hI
  have v2 : SOK (σ 27) (τ 37) (σ 49) (σ 26) (σ 28) (σ 29) (τ 34) (τ 35) (τ 38) (τ 40) (τ 41) n_s30 (τ 63) (τ 64) (σ 40) (σ 41) (σ 42) (σ 43) (τ 59) (τ 60) := SOK_st x_RI x_m x_em hP x_te x_h63 h63 V2 c.1 (fun e => ⟨⟨rfl, rfl, rfl, rfl, rfl, rfl, rfl, rfl, rfl, rfl, rfl⟩, (c.2 e).2⟩)
  cases h
  exact ⟨trivial, v1, v2, V3, V4, V5⟩
set_option maxHeartbeats 8000000 in
set_option maxRecDepth 10000 in
theorem qk5_26 {N : Int} {σ : Nat → Int} {τ : Nat → Nat → Int} (hX : XX3 σ τ) (hY : XX5 σ τ) (hB : 0 ≤ σ 30 ∧ σ 30 ≤ 5000) (hS : SIM2 σ τ) (hT : SIM3 σ τ) (hV : SIM5 σ τ) (a1 : Int) (a2 : Int) (a3 : Int) (b_a1 : (-2147483648) ≤ a1 ∧ a1 ≤ 2147483647) (b_a2 : (-2147483648) ≤ a2 ∧ a2 ≤ 2147483647) (b_a3 : (-2147483648) ≤ a3 ∧ a3 ≤ 2147483647) {o : Int × Int × Int × Int × Int × Int × Int × Int × Int × Int × Int × Int × Int × Int × Int × Int × Int × Int × Int × Int × Int × Int × Int × (Nat → Int) × (Nat → Int) × (Nat → Int) × (Nat → Int) × (Nat → Int) × (Nat → Int) × (Nat → Int) × (Nat → Int) × (Nat → Int) × (Nat → Int) × (Nat → Int) × (Nat → Int) × (Nat → Int) × (Nat → Int) × (Nat → Int) × (Nat → Int) × (Nat → Int) × (Nat → Int) × (Nat → Int) × (Nat → Int) × (Nat → Int) × (Nat → Int) × (Nat → Int) × (Nat → Int) × (Nat → Int) × (Nat → Int) × (Nat → Int) × (Nat → Int)} (h : f_OP_26 N a1 a2 a3 (σ 4) (σ 19) (σ 20) (σ 21) (σ 22) (σ 23) (σ 26) (σ 28) (σ 29) (σ 30) (σ 34) (σ 35) (σ 36) (σ 37) (σ 38) (σ 39) (σ 49) (σ 64) (σ 65) (σ 66) (σ 67) (σ 68) (σ 69) (σ 70) (σ 71) (σ 72) (τ 4) (τ 14) (τ 15) (τ 18) (τ 19) (τ 20) (τ 21) (τ 22) (τ 23) (τ 24) (τ 25) (τ 26) (τ 27) (τ 34) (τ 35) (τ 38) (τ 39) (τ 40) (τ 41) (τ 46) (τ 47) (τ 48) (τ 49) (τ 50) (τ 51) (τ 52) (τ 53) (τ 54) (τ 55) (τ 56) (τ 57) (τ 58) (τ 63) (τ 64) (τ 89) (τ 90) (τ 91) = some o) (hI : zR ((zta τ [(14, o.2.2.2.2.2.2.2.2.2.2.2.2.2.2.2.2.2.2.2.2.2.2.2.1), (15, o.2.2.2.2.2.2.2.2.2.2.2.2.2.2.2.2.2.2.2.2.2.2.2.2.1), (18, o.2.2.2.2.2.2.2.2.2.2.2.2.2.2.2.2.2.2.2.2.2.2.2.2.2.1), (19, o.2.2.2.2.2.2.2.2.2.2.2.2.2.2.2.2.2.2.2.2.2.2.2.2.2.2.1), (20, o.2.2.2.2.2.2.2.2.2.2.2.2.2.2.2.2.2.2.2.2.2.2.2.2.2.2.2.1), (21, o.2.2.2.2.2.2.2.2.2.2.2.2.2.2.2.2.2.2.2.2.2.2.2.2.2.2.2.2.1), (22, o.2.2.2.2.2.2.2.2.2.2.2.2.2.2.2.2.2.2.2.2.2.2.2.2.2.2.2.2.2.1), (23, o.2.2.2.2.2.2.2.2.2.2.2.2.2.2.2.2.2.2.2.2.2.2.2.2.2.2.2.2.2.2.1), (24, o.2.2.2.2.2.2.2.2.2.2.2.2.2.2.2.2.2.2.2.2.2.2.2.2.2.2.2.2.2.2.2.1), (25, o.2.2.2.2.2.2.2.2.2.2.2.2.2.2.2.2.2.2.2.2.2.2.2.2.2.2.2.2.2.2.2.2.1), (26, o.2.2.2.2.2.2.2.2.2.2.2.2.2.2.2.2.2.2.2.2.2.2.2.2.2.2.2.2.2.2.2.2.2.1), (27, o.2.2.2.2.2.2.2.2.2.2.2.2.2.2.2.2.2.2.2.2.2.2.2.2.2.2.2.2.2.2.2.2.2.2.1), (46, o.2.2.2.2.2.2.2.2.2.2.2.2.2.2.2.2.2.2.2.2.2.2.2.2.2.2.2.2.2.2.2.2.2.2.2.1), (47, o.2.2.2.2.2.2.2.2.2.2.2.2.2.2.2.2.2.2.2.2.2.2.2.2.2.2.2.2.2.2.2.2.2.2.2.2.1), (48, o.2.2.2.2.2.2.2.2.2.2.2.2.2.2.2.2.2.2.2.2.2.2.2.2.2.2.2.2.2.2.2.2.2.2.2.2.2.1), (49, o.2.2.2.2.2.2.2.2.2.2.2.2.2.2.2.2.2.2.2.2.2.2.2.2.2.2.2.2.2.2.2.2.2.2.2.2.2.2.1), (50, o.2.2.2.2.2.2.2.2.2.2.2.2.2.2.2.2.2.2.2.2.2.2.2.2.2.2.2.2.2.2.2.2.2.2.2.2.2.2.2.1), (51, o.2.2.2.2.2.2.2.2.2.2.2.2.2.2.2.2.2.2.2.2.2.2.2.2.2.2.2.2.2.2.2.2.2.2.2.2.2.2.2.2.1), (52, o.2.2.2.2.2.2.2.2.2.2.2.2.2.2.2.2.2.2.2.2.2.2.2.2.2.2.2.2.2.2.2.2.2.2.2.2.2.2.2.2.2.1), (53, o.2.2.2.2.2.2.2.2.2.2.2.2.2.2.2.2.2.2.2.2.2.2.2.2.2.2.2.2.2.2.2.2.2.2.2.2.2.2.2.2.2.2.1), (54, o.2.2.2.2.2.2.2.2.2.2.2.2.2.2.2.2.2.2.2.2.2.2.2.2.2.2.2.2.2.2.2.2.2.2.2.2.2.2.2.2.2.2.2.1), (55, o.2.2.2.2.2.2.2.2.2.2.2.2.2.2.2.2.2.2.2.2.2.2.2.2.2.2.2.2.2.2.2.2.2.2.2.2.2.2.2.2.2.2.2.2.1), (56, o.2.2.2.2.2.2.2.2.2.2.2.2.2.2.2.2.2.2.2.2.2.2.2.2.2.2.2.2.2.2.2.2.2.2.2.2.2.2.2.2.2.2.2.2.2.1), (57, o.2.2.2.2.2.2.2.2.2.2.2.2.2.2.2.2.2.2.2.2.2.2.2.2.2.2.2.2.2.2.2.2.2.2.2.2.2.2.2.2.2.2.2.2.2.2.1), (58, o.2.2.2.2.2.2.2.2.2.2.2.2.2.2.2.2.2.2.2.2.2.2.2.2.2.2.2.2.2.2.2.2.2.2.2.2.2.2.2.2.2.2.2.2.2.2.2.1), (89, o.2.2.2.2.2.2.2.2.2.2.2.2.2.2.2.2.2.2.2.2.2.2.2.2.2.2.2.2.2.2.2.2.2.2.2.2.2.2.2.2.2.2.2.2.2.2.2.2.1), (90, o.2.2.2.2.2.2.2.2.2.2.2.2.2.2.2.2.2.2.2.2.2.2.2.2.2.2.2.2.2.2.2.2.2.2.2.2.2.2.2.2.2.2.2.2.2.2.2.2.2.1), (91, o.2.2.2.2.2.2.2.2.2.2.2.2.2.2.2.2.2.2.2.2.2.2.2.2.2.2.2.2.2.2.2.2.2.2.2.2.2.2.2.2.2.2.2.2.2.2.2.2.2.2)]) 63) 0 10) : (True) ∧ SIM5 (zst σ [(4, o.2.2.1), (19, o.2.2.2.1), (20, o.2.2.2.2.1), (21, o.2.2.2.2.2.1), (22, o.2.2.2.2.2.2.1), (23, o.2.2.2.2.2.2.2.1), (34, o.2.2.2.2.2.2.2.2.1), (35, o.2.2.2.2.2.2.2.2.2.1), (36, o.2.2.2.2.2.2.2.2.2.2.1), (37, o.2.2.2.2.2.2.2.2.2.2.2.1), (38, o.2.2.2.2.2.2.2.2.2.2.2.2.1), (39, o.2.2.2.2.2.2.2.2.2.2.2.2.2.1), (64, o.2.2.2.2.2.2.2.2.2.2.2.2.2.2.1), (65, o.2.2.2.2.2.2.2.2.2.2.2.2.2.2.2.1), (66, o.2.2.2.2.2.2.2.2.2.2.2.2.2.2.2.2.1), (67, o.2.2.2.2.2.2.2.2.2.2.2.2.2.2.2.2.2.1), (68, o.2.2.2.2.2.2.2.2.2.2.2.2.2.2.2.2.2.2.1), (69, o.2.2.2.2.2.2.2.2.2.2.2.2.2.2.2.2.2.2.2.1), (70, o.2.2.2.2.2.2.2.2.2.2.2.2.2.2.2.2.2.2.2.2.1), (71, o.2.2.2.2.2.2.2.2.2.2.2.2.2.2.2.2.2.2.2.2.2.1), (72, o.2.2.2.2.2.2.2.2.2.2.2.2.2.2.2.2.2.2.2.2.2.2.1)]) (zta τ [(14, o.2.2.2.2.2.2.2.2.2.2.2.2.2.2.2.2.2.2.2.2.2.2.2.1), (15, o.2.2.2.2.2.2.2.2.2.2.2.2.2.2.2.2.2.2.2.2.2.2.2.2.1), (18, o.2.2.2.2.2.2.2.2.2.2.2.2.2.2.2.2.2.2.2.2.2.2.2.2.2.1), (19, o.2.2.2.2.2.2.2.2.2.2.2.2.2.2.2.2.2.2.2.2.2.2.2.2.2.2.1), (20, o.2.2.2.2.2.2.2.2.2.2.2.2.2.2.2.2.2.2.2.2.2.2.2.2.2.2.2.1), (21, o.2.2.2.2.2.2.2.2.2.2.2.2.2.2.2.2.2.2.2.2.2.2.2.2.2.2.2.2.1), (22, o.2.2.2.2.2.2.2.2.2.2.2.2.2.2.2.2.2.2.2.2.2.2.2.2.2.2.2.2.2.1), (23, o.2.2.2.2.2.2.2.2.2.2.2.2.2.2.2.2.2.2.2.2.2.2.2.2.2.2.2.2.2.2.1), (24, o.2.2.2.2.2.2.2.2.2.2.2.2.2.2.2.2.2.2.2.2.2.2.2.2.2.2.2.2.2.2.2.1), (25, o.2.2.2.2.2.2.2.2.2.2.2.2.2.2.2.2.2.2.2.2.2.2.2.2.2.2.2.2.2.2.2.2.1), (26, o.2.2.2.2.2.2.2.2.2.2.2.2.2.2.2.2.2.2.2.2.2.2.2.2.2.2.2.2.2.2.2.2.2.1), (27, o.2.2.2.2.2.2.2.2.2.2.2.2.2.2.2.2.2.2.2.2.2.2.2.2.2.2.2.2.2.2.2.2.2.2.1), (46, o.2.2.2.2.2.2.2.2.2.2.2.2.2.2.2.2.2.2.2.2.2.2.2.2.2.2.2.2.2.2.2.2.2.2.2.1), (47, o.2.2.2.2.2.2.2.2.2.2.2.2.2.2.2.2.2.2.2.2.2.2.2.2.2.2.2.2.2.2.2.2.2.2.2.2.1), (48, o.2.2.2.2.2.2.2.2.2.2.2.2.2.2.2.2.2.2.2.2.2.2.2.2.2.2.2.2.2.2.2.2.2.2.2.2.2.1), (49, o.2.2.2.2.2.2.2.2.2.2.2.2.2.2.2.2.2.2.2.2.2.2.2.2.2.2.2.2.2.2.2.2.2.2.2.2.2.2.1), (50, o.2.2.2.2.2.2.2.2.2.2.2.2.2.2.2.2.2.2.2.2.2.2.2.2.2.2.2.2.2.2.2.2.2.2.2.2.2.2.2.1), (51, o.2.2.2.2.2.2.2.2.2.2.2.2.2.2.2.2.2.2.2.2.2.2.2.2.2.2.2.2.2.2.2.2.2.2.2.2.2.2.2.2.1), (52, o.2.2.2.2.2.2.2.2.2.2.2.2.2.2.2.2.2.2.2.2.2.2.2.2.2.2.2.2.2.2.2.2.2.2.2.2.2.2.2.2.2.1), (53, o.2.2.2.2.2.2.2.2.2.2.2.2.2.2.2.2.2.2.2.2.2.2.2.2.2.2.2.2.2.2.2.2.2.2.2.2.2.2.2.2.2.2.1), (54, o.2.2.2.2.2.2.2.2.2.2.2.2.2.2.2.2.2.2.2.2.2.2.2.2.2.2.2.2.2.2.2.2.2.2.2.2.2.2.2.2.2.2.2.1), (55, o.2.2.2.2.2.2.2.2.2.2.2.2.2.2.2.2.2.2.2.2.2.2.2.2.2.2.2.2.2.2.2.2.2.2.2.2.2.2.2.2.2.2.2.2.1), (56, o.2.2.2.2.2.2.2.2.2.2.2.2.2.2.2.2.2.2.2.2.2.2.2.2.2.2.2.2.2.2.2.2.2.2.2.2.2.2.2.2.2.2.2.2.2.1), (57, o.2.2.2.2.2.2.2.2.2.2.2.2.2.2.2.2.2.2.2.2.2.2.2.2.2.2.2.2.2.2.2.2.2.2.2.2.2.2.2.2.2.2.2.2.2.2.1), (58, o.2.2.2.2.2.2.2.2.2.2.2.2.2.2.2.2.2.2.2.2.2.2.2.2.2.2.2.2.2.2.2.2.2.2.2.2.2.2.2.2.2.2.2.2.2.2.2.1), (89, o.2.2.2.2.2.2.2.2.2.2.2.2.2.2.2.2.2.2.2.2.2.2.2.2.2.2.2.2.2.2.2.2.2.2.2.2.2.2.2.2.2.2.2.2.2.2.2.2.1), (90, o.2.2.2.2.2.2.2.2.2.2.2.2.2.2.2.2.2.2.2.2.2.2.2.2.2.2.2.2.2.2.2.2.2.2.2.2.2.2.2.2.2.2.2.2.2.2.2.2.2.1), (91, o.2.2.2.2.2.2.2.2.2.2.2.2.2.2.2.2.2.2.2.2.2.2.2.2.2.2.2.2.2.2.2.2.2.2.2.2.2.2.2.2.2.2.2.2.2.2.2.2.2.2)]) := by
  obtain ⟨x_RI, x_h16, x_h17, x_b0, x_e0, x_t1, x_m, x_em, x_ch, x_ech, x_pa, x_epa, x_la, x_fo, x_h63, x_h64, x_st, x_ex, x_pl, x_te, x_Rst, x_Rex, x_Rtr, x_Rpl, x_Rte, x_Rgo, x_im, x_k6, x_k0, x_kp, x_m0, x_m1, x_h85, x_h87, x_m61, x_h83⟩ := hX
  obtain ⟨y_t40, y_t41, y_t48, y_t56, y_t57, y_t81, y_t82, y_s37⟩ := hY
  have S4 := hS.2.2.2.1
  have T1 := hT.1
  have hF := FOK_x (x3_J x_RI x_ch x_ech x_Rst x_Rex x_st x_ex x_Rte x_te x_la x_fo S4) x_RI y_t40 y_t41 x_te x_la.1
  have hP := (x3_P x_RI x_pa x_epa x_Rpl x_pl x_Rte)
  obtain ⟨V1, V2, V3, V4, V5⟩ := hV
  unfold f_OP_26 at h
  obtain ⟨x_ans, n_s34, n_s35, n_s36, n_s37, n_s38, n_s39, n_t46, n_t47, n_t48, n_t49, n_t50, n_t51, n_t52, n_t53, n_t54, n_t55, n_t56, n_t57, n_t58, n_s64, n_s65, n_s66, n_s67, n_s68, n_s69, n_s70, n_s71, n_s72, n_t89, n_t90, n_t91, e1, h⟩ := xz_d32 h
  obtain ⟨y_ans, n_s4, n_s19, n_s20, n_s21, n_s22, n_s23, n_t14, n_t15, n_t18, n_t19, n_t20, n_t21, n_t22, n_t23, n_t24, n_t25, n_t26, n_t27, e2, h⟩ := xz_d19 h
  have c := pn_plan hF hB x_m x_h63 x_h64 y_s37 y_t56 y_t57 V1 e1
  cases h
  exact ⟨trivial, c, V2, V3, V4, V5⟩
set_option maxHeartbeats 8000000 in
set_option maxRecDepth 10000 in
theorem qk5_27 {N : Int} {σ : Nat → Int} {τ : Nat → Nat → Int} (hX : XX3 σ τ) (hY : XX5 σ τ) (hB : 0 ≤ σ 30 ∧ σ 30 ≤ 5000) (hS : SIM2 σ τ) (hT : SIM3 σ τ) (hV : SIM5 σ τ) (a1 : Int) (b_a1 : (-2147483648) ≤ a1 ∧ a1 ≤ 2147483647) {o : Int × Int × Int × Int × (Nat → Int) × (Nat → Int)} (h : f_OP_27 N a1 (σ 4) (σ 30) (σ 44) (σ 49) (τ 4) (τ 28) (τ 61) (τ 63) (τ 64) = some o) (hI : zR ((zta τ [(28, o.2.2.2.2.1), (61, o.2.2.2.2.2)]) 63) 0 10) : (True) ∧ SIM5 (zst σ [(4, o.2.2.1), (44, o.2.2.2.1)]) (zta τ [(28, o.2.2.2.2.1), (61, o.2.2.2.2.2)]) := by
  obtain ⟨x_RI, x_h16, x_h17, x_b0, x_e0, x_t1, x_m, x_em, x_ch, x_ech, x_pa, x_epa, x_la, x_fo, x_h63, x_h64, x_st, x_ex, x_pl, x_te, x_Rst, x_Rex, x_Rtr, x_Rpl, x_Rte, x_Rgo, x_im, x_k6, x_k0, x_kp, x_m0, x_m1, x_h85, x_h87, x_m61, x_h83⟩ := hX
  obtain ⟨y_t40, y_t41, y_t48, y_t56, y_t57, y_t81, y_t82, y_s37⟩ := hY
  have S4 := hS.2.2.2.1
  have T1 := hT.1
  have hF := FOK_x (x3_J x_RI x_ch x_ech x_Rst x_Rex x_st x_ex x_Rte x_te x_la x_fo S4) x_RI y_t40 y_t41 x_te x_la.1
  have hP := (x3_P x_RI x_pa x_epa x_Rpl x_pl x_Rte)
  obtain ⟨V1, V2, V3, V4, V5⟩ := hV
  unfold f_OP_27 at h
  obtain ⟨x_ans, n_s44, n_t61, e1, h⟩ := xz_d3 h
  obtain ⟨y_ans, n_s4, n_t28, e2, h⟩ := xz_d3 h
  cases h
  exact ⟨trivial, V1, V2, V3, V4, V5⟩
set_option maxHeartbeats 8000000 in
set_option maxRecDepth 10000 in
theorem qk5_28 {N : Int} {σ : Nat → Int} {τ : Nat → Nat → Int} (hX : XX3 σ τ) (hY : XX5 σ τ) (hB : 0 ≤ σ 30 ∧ σ 30 ≤ 5000) (hS : SIM2 σ τ) (hT : SIM3 σ τ) (hV : SIM5 σ τ) (a1 : Int) (a2 : Int) (b_a1 : (-2147483648) ≤ a1 ∧ a1 ≤ 2147483647) (b_a2 : (-2147483648) ≤ a2 ∧ a2 ≤ 2147483647) {o : Int × Int × Int × Int × Int × Int × (Nat → Int) × (Nat → Int) × (Nat → Int) × (Nat → Int)} (h : f_OP_28 N a1 a2 (σ 3) (σ 4) (σ 5) (σ 26) (σ 27) (σ 30) (σ 49) (τ 2) (τ 3) (τ 4) (τ 34) (τ 35) (τ 36) (τ 37) (τ 38) (τ 39) = some o) (hI : zR ((zta τ [(2, o.2.2.2.2.2.2.1), (3, o.2.2.2.2.2.2.2.1), (4, o.2.2.2.2.2.2.2.2.1), (36, o.2.2.2.2.2.2.2.2.2)]) 63) 0 10) : (True) ∧ SIM5 (zst σ [(3, o.2.2.1), (4, o.2.2.2.1), (5, o.2.2.2.2.1), (30, o.2.2.2.2.2.1)]) (zta τ [(2, o.2.2.2.2.2.2.1), (3, o.2.2.2.2.2.2.2.1), (4, o.2.2.2.2.2.2.2.2.1), (36, o.2.2.2.2.2.2.2.2.2)]) := by
  obtain ⟨x_RI, x_h16, x_h17, x_b0, x_e0, x_t1, x_m, x_em, x_ch, x_ech, x_pa, x_epa, x_la, x_fo, x_h63, x_h64, x_st, x_ex, x_pl, x_te, x_Rst, x_Rex, x_Rtr, x_Rpl, x_Rte, x_Rgo, x_im, x_k6, x_k0, x_kp, x_m0, x_m1, x_h85, x_h87, x_m61, x_h83⟩ := hX
  obtain ⟨y_t40, y_t41, y_t48, y_t56, y_t57, y_t81, y_t82, y_s37⟩ := hY
  have S4 := hS.2.2.2.1
  have T1 := hT.1
  have hF := FOK_x (x3_J x_RI x_ch x_ech x_Rst x_Rex x_st x_ex x_Rte x_te x_la x_fo S4) x_RI y_t40 y_t41 x_te x_la.1
  have hP := (x3_P x_RI x_pa x_epa x_Rpl x_pl x_Rte)
  obtain ⟨V1, V2, V3, V4, V5⟩ := hV
  unfold f_OP_28 at h
  obtain ⟨x_ans, n_s3, n_s30, n_t2, n_t36, e1, h⟩ := xz_d5 h
  obtain ⟨y_ans, n_s4, n_s5, n_t3, n_t4, e2, h⟩ := xz_d5 h
  have c : HCH (σ 30) (σ 49) (τ 63) (τ 64) n_s30 (σ 49) (τ 63) (τ 64) := ⟨mo_28 e1, fun _ => ⟨rfl, CREL_0⟩⟩
  have v1 : NOK n_s30 (σ 26) (σ 28) (σ 29) (τ 34) (τ 35) (τ 38) (τ 40) (τ 41) (τ 48) := NOK_st V1 c.1 (fun e => ⟨rfl, rfl, rfl, rfl, rfl, rfl, rfl, rfl⟩)
  have h63 : zR (τ 63) 0 10 := by cases h; exact hI
  have v2 : SOK (σ 27) (τ 37) (σ 49) (σ 26) (σ 28) (σ 29) (τ 34) (τ 35) (τ 38) (τ 40) (τ 41) n_s30 (τ 63) (τ 64) (σ 40) (σ 41) (σ 42) (σ 43) (τ 59) (τ 60) := SOK_st x_RI x_m x_em hP x_te x_h63 h63 V2 c.1 (fun e => ⟨⟨rfl, rfl, rfl, rfl, rfl, rfl, rfl, rfl, rfl, rfl, rfl⟩, (c.2 e).2⟩)
  cases h
  exact ⟨trivial, v1, v2, V3, V4, V5⟩
set_option maxHeartbeats 8000000 in
set_option maxRecDepth 10000 in
theorem qk5_29 {N : Int} {σ : Nat → Int} {τ : Nat → Nat → Int} (hX : XX3 σ τ) (hY : XX5 σ τ) (hB : 0 ≤ σ 30 ∧ σ 30 ≤ 5000) (hS : SIM2 σ τ) (hT : SIM3 σ τ) (hV : SIM5 σ τ) (a1 : Int) (a2 : Int) (a3 : Int) (b_a1 : (-2147483648) ≤ a1 ∧ a1 ≤ 2147483647) (b_a2 : (-2147483648) ≤ a2 ∧ a2 ≤ 2147483647) (b_a3 : (-2147483648) ≤ a3 ∧ a3 ≤ 2147483647) {o : Int × Int × Int × Int × Int × Int × Int × (Nat → Int) × (Nat → Int)} (h : f_OP_29 N a1 a2 a3 (σ 4) (σ 26) (σ 45) (σ 46) (σ 47) (σ 48) (τ 4) (τ 29) (τ 36) (τ 62) = some o) (hI : zR ((zta τ [(29, o.2.2.2.2.2.2.2.1), (62, o.2.2.2.2.2.2.2.2)]) 63) 0 10) : (True) ∧ SIM5 (zst σ [(4, o.2.2.1), (45, o.2.2.2.1), (46, o.2.2.2.2.1), (47, o.2.2.2.2.2.1), (48, o.2.2.2.2.2.2.1)]) (zta τ [(29, o.2.2.2.2.2.2.2.1), (62, o.2.2.2.2.2.2.2.2)]) := by
  obtain ⟨x_RI, x_h16, x_h17, x_b0, x_e0, x_t1, x_m, x_em, x_ch, x_ech, x_pa, x_epa, x_la, x_fo, x_h63, x_h64, x_st, x_ex, x_pl, x_te, x_Rst, x_Rex, x_Rtr, x_Rpl, x_Rte, x_Rgo, x_im, x_k6, x_k0, x_kp, x_m0, x_m1, x_h85, x_h87, x_m61, x_h83⟩ := hX
  obtain ⟨y_t40, y_t41, y_t48, y_t56, y_t57, y_t81, y_t82, y_s37⟩ := hY
  have S4 := hS.2.2.2.1
  have T1 := hT.1
  have hF := FOK_x (x3_J x_RI x_ch x_ech x_Rst x_Rex x_st x_ex x_Rte x_te x_la x_fo S4) x_RI y_t40 y_t41 x_te x_la.1
  have hP := (x3_P x_RI x_pa x_epa x_Rpl x_pl x_Rte)
  obtain ⟨V1, V2, V3, V4, V5⟩ := hV
  unfold f_OP_29 at h
  obtain ⟨x_ans, n_s45, n_s46, n_s47, n_s48, n_t62, e1, h⟩ := xz_d6 h
  obtain ⟨y_ans, n_s4, n_t29, e2, h⟩ := xz_d3 h
  cases h
  exact ⟨trivial, V1, V2, V3, V4, V5⟩
end
section
set_option maxHeartbeats 8000000 in
set_option maxRecDepth 10000 in
theorem qk5_30 {N : Int} {σ : Nat → Int} {τ : Nat → Nat → Int} (hX : XX3 σ τ) (hY : XX5 σ τ) (hB : 0 ≤ σ 30 ∧ σ 30 ≤ 5000) (hS : SIM2 σ τ) (hT : SIM3 σ τ) (hV : SIM5 σ τ) (a1 : Int) (a2 : Int) (a3 : Int) (b_a1 : (-2147483648) ≤ a1 ∧ a1 ≤ 2147483647) (b_a2 : (-2147483648) ≤ a2 ∧ a2 ≤ 2147483647) (b_a3 : (-2147483648) ≤ a3 ∧ a3 ≤ 2147483647) {o : Int × Int × Int × Int × Int × Int × Int × Int × Int × Int × Int × Int × Int × Int × Int × (Nat → Int) × (Nat → Int) × (Nat → Int) × (Nat → Int) × (Nat → Int) × (Nat → Int) × (Nat → Int) × (Nat → Int) × (Nat → Int) × (Nat → Int) × (Nat → Int) × (Nat → Int) × (Nat → Int) × (Nat → Int)} (h : f_OP_30 N a1 a2 a3 (σ 4) (σ 19) (σ 20) (σ 21) (σ 22) (σ 26) (σ 27) (σ 28) (σ 29) (σ 30) (σ 34) (σ 35) (σ 36) (σ 40) (σ 41) (σ 42) (σ 43) (σ 49) (σ 60) (τ 4) (τ 14) (τ 15) (τ 16) (τ 17) (τ 30) (τ 31) (τ 32) (τ 34) (τ 35) (τ 37) (τ 38) (τ 40) (τ 41) (τ 46) (τ 47) (τ 48) (τ 59) (τ 60) (τ 63) (τ 64) (τ 81) (τ 82) = some o) (hI : zR ((zta τ [(14, o.2.2.2.2.2.2.2.2.2.2.2.2.2.2.2.1), (15, o.2.2.2.2.2.2.2.2.2.2.2.2.2.2.2.2.1), (16, o.2.2.2.2.2.2.2.2.2.2.2.2.2.2.2.2.2.1), (17, o.2.2.2.2.2.2.2.2.2.2.2.2.2.2.2.2.2.2.1), (30, o.2.2.2.2.2.2.2.2.2.2.2.2.2.2.2.2.2.2.2.1), (31, o.2.2.2.2.2.2.2.2.2.2.2.2.2.2.2.2.2.2.2.2.1), (32, o.2.2.2.2.2.2.2.2.2.2.2.2.2.2.2.2.2.2.2.2.2.1), (46, o.2.2.2.2.2.2.2.2.2.2.2.2.2.2.2.2.2.2.2.2.2.2.1), (47, o.2.2.2.2.2.2.2.2.2.2.2.2.2.2.2.2.2.2.2.2.2.2.2.1), (48, o.2.2.2.2.2.2.2.2.2.2.2.2.2.2.2.2.2.2.2.2.2.2.2.2.1), (59, o.2.2.2.2.2.2.2.2.2.2.2.2.2.2.2.2.2.2.2.2.2.2.2.2.2.1), (60, o.2.2.2.2.2.2.2.2.2.2.2.2.2.2.2.2.2.2.2.2.2.2.2.2.2.2.1), (81, o.2.2.2.2.2.2.2.2.2.2.2.2.2.2.2.2.2.2.2.2.2.2.2.2.2.2.2.1), (82, o.2.2.2.2.2.2.2.2.2.2.2.2.2.2.2.2.2.2.2.2.2.2.2.2.2.2.2.2)]) 63) 0 10) : (o.1 = o.2.1) ∧ SIM5 (zst σ [(4, o.2.2.1), (19, o.2.2.2.1), (20, o.2.2.2.2.1), (21, o.2.2.2.2.2.1), (22, o.2.2.2.2.2.2.1), (34, o.2.2.2.2.2.2.2.1), (35, o.2.2.2.2.2.2.2.2.1), (36, o.2.2.2.2.2.2.2.2.2.1), (40, o.2.2.2.2.2.2.2.2.2.2.1), (41, o.2.2.2.2.2.2.2.2.2.2.2.1), (42, o.2.2.2.2.2.2.2.2.2.2.2.2.1), (43, o.2.2.2.2.2.2.2.2.2.2.2.2.2.1), (60, o.2.2.2.2.2.2.2.2.2.2.2.2.2.2.1)]) (zta τ [(14, o.2.2.2.2.2.2.2.2.2.2.2.2.2.2.2.1), (15, o.2.2.2.2.2.2.2.2.2.2.2.2.2.2.2.2.1), (16, o.2.2.2.2.2.2.2.2.2.2.2.2.2.2.2.2.2.1), (17, o.2.2.2.2.2.2.2.2.2.2.2.2.2.2.2.2.2.2.1), (30, o.2.2.2.2.2.2.2.2.2.2.2.2.2.2.2.2.2.2.2.1), (31, o.2.2.2.2.2.2.2.2.2.2.2.2.2.2.2.2.2.2.2.2.1), (32, o.2.2.2.2.2.2.2.2.2.2.2.2.2.2.2.2.2.2.2.2.2.1), (46, o.2.2.2.2.2.2.2.2.2.2.2.2.2.2.2.2.2.2.2.2.2.2.1), (47, o.2.2.2.2.2.2.2.2.2.2.2.2.2.2.2.2.2.2.2.2.2.2.2.1), (48, o.2.2.2.2.2.2.2.2.2.2.2.2.2.2.2.2.2.2.2.2.2.2.2.2.1), (59, o.2.2.2.2.2.2.2.2.2.2.2.2.2.2.2.2.2.2.2.2.2.2.2.2.2.1), (60, o.2.2.2.2.2.2.2.2.2.2.2.2.2.2.2.2.2.2.2.2.2.2.2.2.2.2.1), (81, o.2.2.2.2.2.2.2.2.2.2.2.2.2.2.2.2.2.2.2.2.2.2.2.2.2.2.2.1), (82, o.2.2.2.2.2.2.2.2.2.2.2.2.2.2.2.2.2.2.2.2.2.2.2.2.2.2.2.2)]) := by
  obtain ⟨x_RI, x_h16, x_h17, x_b0, x_e0, x_t1, x_m, x_em, x_ch, x_ech, x_pa, x_epa, x_la, x_fo, x_h63, x_h64, x_st, x_ex, x_pl, x_te, x_Rst, x_Rex, x_Rtr, x_Rpl, x_Rte, x_Rgo, x_im, x_k6, x_k0, x_kp, x_m0, x_m1, x_h85, x_h87, x_m61, x_h83⟩ := hX
  obtain ⟨y_t40, y_t41, y_t48, y_t56, y_t57, y_t81, y_t82, y_s37⟩ := hY
  have S4 := hS.2.2.2.1
  have T1 := hT.1
  have hF := FOK_x (x3_J x_RI x_ch x_ech x_Rst x_Rex x_st x_ex x_Rte x_te x_la x_fo S4) x_RI y_t40 y_t41 x_te x_la.1
  have hP := (x3_P x_RI x_pa x_epa x_Rpl x_pl x_Rte)
  obtain ⟨V1, V2, V3, V4, V5⟩ := hV
  unfold f_OP_30 at h
  obtain ⟨x_ans, n_s34, n_s35, n_s36, n_s40, n_s41, n_s42, n_s43, n_t46, n_t47, n_t48, n_s60, n_t59, n_t60, n_t81, n_t82, e1, h⟩ := xz_d16 h
  obtain ⟨y_ans, n_s4, n_s19, n_s20, n_s21, n_s22, n_t14, n_t15, n_t16, n_t17, n_t30, n_t31, n_t32, e2, h⟩ := xz_d13 h
  have c := k_duel b_a1 b_a2 b_a3 hF hP x_em x_m hB x_h63 x_h64 y_t81 y_t82 V3 V1 V2 e1
  have r := r_duel (pa := σ 27) (pl := τ 37) b_a1 b_a2 b_a3 hF hP x_em x_m x_h16 x_h17 x_h63 T1 V3 e2
  have ea : x_ans = y_ans := c.1.trans r.symm
  cases h
  exact ⟨ea, c.2.1, c.2.2, V3, V4, V5⟩
set_option maxHeartbeats 8000000 in
set_option maxRecDepth 10000 in
theorem qk5_31 {N : Int} {σ : Nat → Int} {τ : Nat → Nat → Int} (hX : XX3 σ τ) (hY : XX5 σ τ) (hB : 0 ≤ σ 30 ∧ σ 30 ≤ 5000) (hS : SIM2 σ τ) (hT : SIM3 σ τ) (hV : SIM5 σ τ) (a1 : Int) (b_a1 : (-2147483648) ≤ a1 ∧ a1 ≤ 2147483647) {o : Int × Int × Int} (h : f_OP_31 N a1 (σ 4) (σ 49) (τ 4) (τ 63) (τ 64) = some o) (hI : zR (τ 63) 0 10) : (True) ∧ SIM5 (zst σ [(4, o.2.2)]) τ := by
  obtain ⟨x_RI, x_h16, x_h17, x_b0, x_e0, x_t1, x_m, x_em, x_ch, x_ech, x_pa, x_epa, x_la, x_fo, x_h63, x_h64, x_st, x_ex, x_pl, x_te, x_Rst, x_Rex, x_Rtr, x_Rpl, x_Rte, x_Rgo, x_im, x_k6, x_k0, x_kp, x_m0, x_m1, x_h85, x_h87, x_m61, x_h83⟩ := hX
  obtain ⟨y_t40, y_t41, y_t48, y_t56, y_t57, y_t81, y_t82, y_s37⟩ := hY
  have S4 := hS.2.2.2.1
  have T1 := hT.1
  have hF := FOK_x (x3_J x_RI x_ch x_ech x_Rst x_Rex x_st x_ex x_Rte x_te x_la x_fo S4) x_RI y_t40 y_t41 x_te x_la.1
  have hP := (x3_P x_RI x_pa x_epa x_Rpl x_pl x_Rte)
  obtain ⟨V1, V2, V3, V4, V5⟩ := hV
  unfold f_OP_31 at h
  obtain ⟨x_ans, e1, h⟩ := xz_d1 h
  obtain ⟨y_ans, n_s4, e2, h⟩ := xz_d2 h
  cases h
  exact ⟨trivial, V1, V2, V3, V4, V5⟩
set_option maxHeartbeats 8000000 in
set_option maxRecDepth 10000 in
theorem qk5_32 {N : Int} {σ : Nat → Int} {τ : Nat → Nat → Int} (hX : XX3 σ τ) (hY : XX5 σ τ) (hB : 0 ≤ σ 30 ∧ σ 30 ≤ 5000) (hS : SIM2 σ τ) (hT : SIM3 σ τ) (hV : SIM5 σ τ) (a1 : Int) (a2 : Int) (b_a1 : (-2147483648) ≤ a1 ∧ a1 ≤ 2147483647) (b_a2 : (-2147483648) ≤ a2 ∧ a2 ≤ 2147483647) {o : Int × Int × Int × Int × Int × Int × Int × Int × Int × (Nat → Int) × (Nat → Int) × (Nat → Int) × (Nat → Int) × (Nat → Int) × (Nat → Int) × (Nat → Int)} (h : f_OP_32 N a1 a2 (σ 3) (σ 4) (σ 5) (σ 24) (σ 25) (σ 30) (σ 49) (σ 61) (τ 2) (τ 3) (τ 4) (τ 16) (τ 17) (τ 33) (τ 38) (τ 63) (τ 64) (τ 83) (τ 84) = some o) (hI : zR ((zta τ [(2, o.2.2.2.2.2.2.2.2.2.1), (3, o.2.2.2.2.2.2.2.2.2.2.1), (16, o.2.2.2.2.2.2.2.2.2.2.2.1), (17, o.2.2.2.2.2.2.2.2.2.2.2.2.1), (33, o.2.2.2.2.2.2.2.2.2.2.2.2.2.1), (83, o.2.2.2.2.2.2.2.2.2.2.2.2.2.2.1), (84, o.2.2.2.2.2.2.2.2.2.2.2.2.2.2.2)]) 63) 0 10) : (True) ∧ SIM5 (zst σ [(3, o.2.2.1), (4, o.2.2.2.1), (5, o.2.2.2.2.1), (24, o.2.2.2.2.2.1), (25, o.2.2.2.2.2.2.1), (30, o.2.2.2.2.2.2.2.1), (61, o.2.2.2.2.2.2.2.2.1)]) (zta τ [(2, o.2.2.2.2.2.2.2.2.2.1), (3, o.2.2.2.2.2.2.2.2.2.2.1), (16, o.2.2.2.2.2.2.2.2.2.2.2.1), (17, o.2.2.2.2.2.2.2.2.2.2.2.2.1), (33, o.2.2.2.2.2.2.2.2.2.2.2.2.2.1), (83, o.2.2.2.2.2.2.2.2.2.2.2.2.2.2.1), (84, o.2.2.2.2.2.2.2.2.2.2.2.2.2.2.2)]) := by
  obtain ⟨x_RI, x_h16, x_h17, x_b0, x_e0, x_t1, x_m, x_em, x_ch, x_ech, x_pa, x_epa, x_la, x_fo, x_h63, x_h64, x_st, x_ex, x_pl, x_te, x_Rst, x_Rex, x_Rtr, x_Rpl, x_Rte, x_Rgo, x_im, x_k6, x_k0, x_kp, x_m0, x_m1, x_h85, x_h87, x_m61, x_h83⟩ := hX
  obtain ⟨y_t40, y_t41, y_t48, y_t56, y_t57, y_t81, y_t82, y_s37⟩ := hY
  have S4 := hS.2.2.2.1
  have T1 := hT.1
  have hF := FOK_x (x3_J x_RI x_ch x_ech x_Rst x_Rex x_st x_ex x_Rte x_te x_la x_fo S4) x_RI y_t40 y_t41 x_te x_la.1
  have hP := (x3_P x_RI x_pa x_epa x_Rpl x_pl x_Rte)
  obtain ⟨V1, V2, V3, V4, V5⟩ := hV
  unfold f_OP_32 at h
  obtain ⟨x_ans, n_s3, n_s30, n_t2, n_s61, n_t83, n_t84, e1, h⟩ := xz_d7 h
  obtain ⟨y_ans, n_s4, n_s5, n_s24, n_s25, n_t3, n_t16, n_t17, n_t33, e2, h⟩ := xz_d9 h
  have c : HCH (σ 30) (σ 49) (τ 63) (τ 64) n_s30 (σ 49) (τ 63) (τ 64) := ⟨mo_32 e1, fun _ => ⟨rfl, CREL_0⟩⟩
  have v1 : NOK n_s30 (σ 26) (σ 28) (σ 29) (τ 34) (τ 35) (τ 38) (τ 40) (τ 41) (τ 48) := NOK_st V1 c.1 (fun e => ⟨rfl, rfl, rfl, rfl, rfl, rfl, rfl, rfl⟩)
  have h63 : zR (τ 63) 0 10 := by cases h; exact hI
  have v2 : SOK (σ 27) (τ 37) (σ 49) (σ 26) (σ 28) (σ 29) (τ 34) (τ 35) (τ 38) (τ 40) (τ 41) n_s30 (τ 63) (τ 64) (σ 40) (σ 41) (σ 42) (σ 43) (τ 59) (τ 60) := SOK_st x_RI x_m x_em hP x_te x_h63 h63 V2 c.1 (fun e => ⟨⟨rfl, rfl, rfl, rfl, rfl, rfl, rfl, rfl, rfl, rfl, rfl⟩, (c.2 e).2⟩)
  cases h
  exact ⟨trivial, v1, v2, V3, V4, V5⟩
set_option maxHeartbeats 8000000 in
set_option maxRecDepth 10000 in
theorem qk5_33 {N : Int} {σ : Nat → Int} {τ : Nat → Nat → Int} (hX : XX3 σ τ) (hY : XX5 σ τ) (hB : 0 ≤ σ 30 ∧ σ 30 ≤ 5000) (hS : SIM2 σ τ) (hT : SIM3 σ τ) (hV : SIM5 σ τ) (a1 : Int) (a2 : Int) (b_a1 : (-2147483648) ≤ a1 ∧ a1 ≤ 2147483647) (b_a2 : (-2147483648) ≤ a2 ∧ a2 ≤ 2147483647) {o : Int × Int × Int} (h : f_OP_33 N a1 a2 (σ 4) (σ 25) (σ 61) (τ 33) (τ 83) (τ 84) = some o) (hI : zR (τ 63) 0 10) : (True) ∧ SIM5 (zst σ [(4, o.2.2)]) τ := by
  obtain ⟨x_RI, x_h16, x_h17, x_b0, x_e0, x_t1, x_m, x_em, x_ch, x_ech, x_pa, x_epa, x_la, x_fo, x_h63, x_h64, x_st, x_ex, x_pl, x_te, x_Rst, x_Rex, x_Rtr, x_Rpl, x_Rte, x_Rgo, x_im, x_k6, x_k0, x_kp, x_m0, x_m1, x_h85, x_h87, x_m61, x_h83⟩ := hX
  obtain ⟨y_t40, y_t41, y_t48, y_t56, y_t57, y_t81, y_t82, y_s37⟩ := hY
  have S4 := hS.2.2.2.1
  have T1 := hT.1
  have hF := FOK_x (x3_J x_RI x_ch x_ech x_Rst x_Rex x_st x_ex x_Rte x_te x_la x_fo S4) x_RI y_t40 y_t41 x_te x_la.1
  have hP := (x3_P x_RI x_pa x_epa x_Rpl x_pl x_Rte)
  obtain ⟨V1, V2, V3, V4, V5⟩ := hV
  unfold f_OP_33 at h
  obtain ⟨x_ans, e1, h⟩ := xz_d1 h
  obtain ⟨y_ans, n_s4, e2, h⟩ := xz_d2 h
  cases h
  exact ⟨trivial, V1, V2, V3, V4, V5⟩
set_option maxHeartbeats 8000000 in
set_option maxRecDepth 10000 in
theorem qk5_34 {N : Int} {σ : Nat → Int} {τ : Nat → Nat → Int} (hX : XX3 σ τ) (hY : XX5 σ τ) (hB : 0 ≤ σ 30 ∧ σ 30 ≤ 5000) (hS : SIM2 σ τ) (hT : SIM3 σ τ) (hV : SIM5 σ τ) (a1 : Int) (b_a1 : (-2147483648) ≤ a1 ∧ a1 ≤ 2147483647) {o : Int × Int × Int × Int × Int × Int × Int × Int × Int × Int × Int × Int × Int × Int × Int × Int × (Nat → Int) × (Nat → Int) × (Nat → Int) × (Nat → Int) × (Nat → Int) × (Nat → Int) × (Nat → Int) × (Nat → Int) × (Nat → Int) × (Nat → Int) × (Nat → Int) × (Nat → Int) × (Nat → Int) × (Nat → Int) × (Nat → Int) × (Nat → Int) × (Nat → Int) × (Nat → Int) × (Nat → Int) × (Nat → Int) × (Nat → Int) × (Nat → Int) × (Nat → Int) × (Nat → Int) × (Nat → Int)} (h : f_OP_34 N a1 (σ 3) (σ 4) (σ 5) (σ 26) (σ 27) (σ 28) (σ 29) (σ 30) (σ 49) (σ 50) (σ 51) (σ 52) (σ 53) (σ 55) (σ 56) (σ 57) (σ 58) (σ 62) (σ 63) (τ 0) (τ 2) (τ 3) (τ 4) (τ 5) (τ 6) (τ 34) (τ 35) (τ 36) (τ 37) (τ 38) (τ 39) (τ 40) (τ 41) (τ 63) (τ 64) (τ 65) (τ 66) (τ 67) (τ 68) (τ 69) (τ 70) (τ 71) (τ 72) (τ 73) (τ 74) (τ 75) (τ 76) (τ 77) (τ 78) (τ 79) (τ 80) (τ 85) (τ 86) (τ 87) (τ 88) = some o) (hI : zR ((zta τ [(0, o.2.2.2.2.2.2.2.2.2.2.2.2.2.2.2.2.1), (2, o.2.2.2.2.2.2.2.2.2.2.2.2.2.2.2.2.2.1), (3, o.2.2.2.2.2.2.2.2.2.2.2.2.2.2.2.2.2.2.1), (5, o.2.2.2.2.2.2.2.2.2.2.2.2.2.2.2.2.2.2.2.1), (6, o.2.2.2.2.2.2.2.2.2.2.2.2.2.2.2.2.2.2.2.2.1), (65, o.2.2.2.2.2.2.2.2.2.2.2.2.2.2.2.2.2.2.2.2.2.1), (66, o.2.2.2.2.2.2.2.2.2.2.2.2.2.2.2.2.2.2.2.2.2.2.1), (67, o.2.2.2.2.2.2.2.2.2.2.2.2.2.2.2.2.2.2.2.2.2.2.2.1), (68, o.2.2.2.2.2.2.2.2.2.2.2.2.2.2.2.2.2.2.2.2.2.2.2.2.1), (69, o.2.2.2.2.2.2.2.2.2.2.2.2.2.2.2.2.2.2.2.2.2.2.2.2.2.1), (70, o.2.2.2.2.2.2.2.2.2.2.2.2.2.2.2.2.2.2.2.2.2.2.2.2.2.2.1), (71, o.2.2.2.2.2.2.2.2.2.2.2.2.2.2.2.2.2.2.2.2.2.2.2.2.2.2.2.1), (72, o.2.2.2.2.2.2.2.2.2.2.2.2.2.2.2.2.2.2.2.2.2.2.2.2.2.2.2.2.1), (73, o.2.2.2.2.2.2.2.2.2.2.2.2.2.2.2.2.2.2.2.2.2.2.2.2.2.2.2.2.2.1), (74, o.2.2.2.2.2.2.2.2.2.2.2.2.2.2.2.2.2.2.2.2.2.2.2.2.2.2.2.2.2.2.1), (75, o.2.2.2.2.2.2.2.2.2.2.2.2.2.2.2.2.2.2.2.2.2.2.2.2.2.2.2.2.2.2.2.1), (76, o.2.2.2.2.2.2.2.2.2.2.2.2.2.2.2.2.2.2.2.2.2.2.2.2.2.2.2.2.2.2.2.2.1), (77, o.2.2.2.2.2.2.2.2.2.2.2.2.2.2.2.2.2.2.2.2.2.2.2.2.2.2.2.2.2.2.2.2.2.1), (78, o.2.2.2.2.2.2.2.2.2.2.2.2.2.2.2.2.2.2.2.2.2.2.2.2.2.2.2.2.2.2.2.2.2.2.1), (79, o.2.2.2.2.2.2.2.2.2.2.2.2.2.2.2.2.2.2.2.2.2.2.2.2.2.2.2.2.2.2.2.2.2.2.2.1), (80, o.2.2.2.2.2.2.2.2.2.2.2.2.2.2.2.2.2.2.2.2.2.2.2.2.2.2.2.2.2.2.2.2.2.2.2.2.1), (85, o.2.2.2.2.2.2.2.2.2.2.2.2.2.2.2.2.2.2.2.2.2.2.2.2.2.2.2.2.2.2.2.2.2.2.2.2.2.1), (86, o.2.2.2.2.2.2.2.2.2.2.2.2.2.2.2.2.2.2.2.2.2.2.2.2.2.2.2.2.2.2.2.2.2.2.2.2.2.2.1), (87, o.2.2.2.2.2.2.2.2.2.2.2.2.2.2.2.2.2.2.2.2.2.2.2.2.2.2.2.2.2.2.2.2.2.2.2.2.2.2.2.1), (88, o.2.2.2.2.2.2.2.2.2.2.2.2.2.2.2.2.2.2.2.2.2.2.2.2.2.2.2.2.2.2.2.2.2.2.2.2.2.2.2.2)]) 63) 0 10) : (True) ∧ SIM5 (zst σ [(3, o.2.2.1), (4, o.2.2.2.1), (5, o.2.2.2.2.1), (30, o.2.2.2.2.2.1), (50, o.2.2.2.2.2.2.1), (51, o.2.2.2.2.2.2.2.1), (52, o.2.2.2.2.2.2.2.2.1), (53, o.2.2.2.2.2.2.2.2.2.1), (55, o.2.2.2.2.2.2.2.2.2.2.1), (56, o.2.2.2.2.2.2.2.2.2.2.2.1), (57, o.2.2.2.2.2.2.2.2.2.2.2.2.1), (58, o.2.2.2.2.2.2.2.2.2.2.2.2.2.1), (62, o.2.2.2.2.2.2.2.2.2.2.2.2.2.2.1), (63, o.2.2.2.2.2.2.2.2.2.2.2.2.2.2.2.1)]) (zta τ [(0, o.2.2.2.2.2.2.2.2.2.2.2.2.2.2.2.2.1), (2, o.2.2.2.2.2.2.2.2.2.2.2.2.2.2.2.2.2.1), (3, o.2.2.2.2.2.2.2.2.2.2.2.2.2.2.2.2.2.2.1), (5, o.2.2.2.2.2.2.2.2.2.2.2.2.2.2.2.2.2.2.2.1), (6, o.2.2.2.2.2.2.2.2.2.2.2.2.2.2.2.2.2.2.2.2.1), (65, o.2.2.2.2.2.2.2.2.2.2.2.2.2.2.2.2.2.2.2.2.2.1), (66, o.2.2.2.2.2.2.2.2.2.2.2.2.2.2.2.2.2.2.2.2.2.2.1), (67, o.2.2.2.2.2.2.2.2.2.2.2.2.2.2.2.2.2.2.2.2.2.2.2.1), (68, o.2.2.2.2.2.2.2.2.2.2.2.2.2.2.2.2.2.2.2.2.2.2.2.2.1), (69, o.2.2.2.2.2.2.2.2.2.2.2.2.2.2.2.2.2.2.2.2.2.2.2.2.2.1), (70, o.2.2.2.2.2.2.2.2.2.2.2.2.2.2.2.2.2.2.2.2.2.2.2.2.2.2.1), (71, o.2.2.2.2.2.2.2.2.2.2.2.2.2.2.2.2.2.2.2.2.2.2.2.2.2.2.2.1), (72, o.2.2.2.2.2.2.2.2.2.2.2.2.2.2.2.2.2.2.2.2.2.2.2.2.2.2.2.2.1), (73, o.2.2.2.2.2.2.2.2.2.2.2.2.2.2.2.2.2.2.2.2.2.2.2.2.2.2.2.2.2.1), (74, o.2.2.2.2.2.2.2.2.2.2.2.2.2.2.2.2.2.2.2.2.2.2.2.2.2.2.2.2.2.2.1), (75, o.2.2.2.2.2.2.2.2.2.2.2.2.2.2.2.2.2.2.2.2.2.2.2.2.2.2.2.2.2.2.2.1), (76, o.2.2.2.2.2.2.2.2.2.2.2.2.2.2.2.2.2.2.2.2.2.2.2.2.2.2.2.2.2.2.2.2.1), (77, o.2.2.2.2.2.2.2.2.2.2.2.2.2.2.2.2.2.2.2.2.2.2.2.2.2.2.2.2.2.2.2.2.2.1), (78, o.2.2.2.2.2.2.2.2.2.2.2.2.2.2.2.2.2.2.2.2.2.2.2.2.2.2.2.2.2.2.2.2.2.2.1), (79, o.2.2.2.2.2.2.2.2.2.2.2.2.2.2.2.2.2.2.2.2.2.2.2.2.2.2.2.2.2.2.2.2.2.2.2.1), (80, o.2.2.2.2.2.2.2.2.2.2.2.2.2.2.2.2.2.2.2.2.2.2.2.2.2.2.2.2.2.2.2.2.2.2.2.2.1), (85, o.2.2.2.2.2.2.2.2.2.2.2.2.2.2.2.2.2.2.2.2.2.2.2.2.2.2.2.2.2.2.2.2.2.2.2.2.2.1), (86, o.2.2.2.2.2.2.2.2.2.2.2.2.2.2.2.2.2.2.2.2.2.2.2.2.2.2.2.2.2.2.2.2.2.2.2.2.2.2.1), (87, o.2.2.2.2.2.2.2.2.2.2.2.2.2.2.2.2.2.2.2.2.2.2.2.2.2.2.2.2.2.2.2.2.2.2.2.2.2.2.2.1), (88, o.2.2.2.2.2.2.2.2.2.2.2.2.2.2.2.2.2.2.2.2.2.2.2.2.2.2.2.2.2.2.2.2.2.2.2.2.2.2.2.2)]) := by
  obtain ⟨x_RI, x_h16, x_h17, x_b0, x_e0, x_t1, x_m, x_em, x_ch, x_ech, x_pa, x_epa, x_la, x_fo, x_h63, x_h64, x_st, x_ex, x_pl, x_te, x_Rst, x_Rex, x_Rtr, x_Rpl, x_Rte, x_Rgo, x_im, x_k6, x_k0, x_kp, x_m0, x_m1, x_h85, x_h87, x_m61, x_h83⟩ := hX
  obtain ⟨y_t40, y_t41, y_t48, y_t56, y_t57, y_t81, y_t82, y_s37⟩ := hY
  have S4 := hS.2.2.2.1
  have T1 := hT.1
  have hF := FOK_x (x3_J x_RI x_ch x_ech x_Rst x_Rex x_st x_ex x_Rte x_te x_la x_fo S4) x_RI y_t40 y_t41 x_te x_la.1
  have hP := (x3_P x_RI x_pa x_epa x_Rpl x_pl x_Rte)
  obtain ⟨V1, V2, V3, V4, V5⟩ := hV
  unfold f_OP_34 at h
  obtain ⟨x_ans, n_s3, n_s30, n_t0, n_t2, n_s50, n_s51, n_s52, n_s53, n_s55, n_s56, n_s57, n_s58, n_s62, n_t65, n_t66, n_t67, n_t68, n_t69, n_t70, n_t71, n_t72, n_s63, n_t73, n_t74, n_t75, n_t76, n_t77, n_t78, n_t79, n_t80, n_t85, n_t86, n_t87, n_t88, e1, h⟩ := xz_d35 h
  obtain ⟨y_ans, n_s4, n_s5, n_t3, n_t5, n_t6, e2, h⟩ := xz_d6 h
  have c : HCH (σ 30) (σ 49) (τ 63) (τ 64) n_s30 (σ 49) (τ 63) (τ 64) := ⟨mo_34 e1, fun _ => ⟨rfl, CREL_0⟩⟩
  have v1 : NOK n_s30 (σ 26) (σ 28) (σ 29) (τ 34) (τ 35) (τ 38) (τ 40) (τ 41) (τ 48) := NOK_st V1 c.1 (fun e => ⟨rfl, rfl, rfl, rfl, rfl, rfl, rfl, rfl⟩)
  have h63 : zR (τ 63) 0 10 := by cases h; exact hI
  have v2 : SOK (σ 27) (τ 37) (σ 49) (σ 26) (σ 28) (σ 29) (τ 34) (τ 35) (τ 38) (τ 40) (τ 41) n_s30 (τ 63) (τ 64) (σ 40) (σ 41) (σ 42) (σ 43) (τ 59) (τ 60) := SOK_st x_RI x_m x_em hP x_te x_h63 h63 V2 c.1 (fun e => ⟨⟨rfl, rfl, rfl, rfl, rfl, rfl, rfl, rfl, rfl, rfl, rfl⟩, (c.2 e).2⟩)
  have w := zok_x (ww_HM_image _ _ _ _ _ _ _ b_a1 x_RI x_k6 x_im) e2
  dsimp only at w
  obtain ⟨w1, w2, w3, w4, w5, w6⟩ := w
  have qq0 := k_image b_a1 e1
  cases h
  refine ⟨trivial, v1, v2, V3, ?_, ?_⟩
  · show n_t6 0 ≠ 0 → STW n_s62 n_t85 n_t86
    intro hk
    have k6 := w6 0 (by decide)
    rcases qq0 with ⟨q1, q2, q3⟩ | ⟨q1, q2, q3⟩ | ⟨q1, q2, q3⟩
    · have qq := q2
      rw [qq.2.2.1]
      exact STW_c V3 ⟨fun c hc => qq.2.2.2.2.2.1 c (by omega), fun c i hc hi => by
        have bc := x_h63 c
        exact qq.2.2.2.2.2.2 (10 * c + i) (by omega)⟩
    · have qq := q3
      rw [qq.2.2.1, qq.2.2.2.2.2.1, qq.2.2.2.2.2.2]
      rw [if_neg (by omega)] at k6
      exact V4 (by rw [← k6]; exact hk)
    · have qq := q2
      rw [qq.2.2.1, qq.2.2.2.2.2.1, qq.2.2.2.2.2.2]
      rw [if_neg (by omega)] at k6
      exact V4 (by rw [← k6]; exact hk)
  · show n_t6 1 ≠ 0 → STW n_s63 n_t87 n_t88
    intro hk
    have k6 := w6 1 (by decide)
    rcases qq0 with ⟨q1, q2, q3⟩ | ⟨q1, q2, q3⟩ | ⟨q1, q2, q3⟩
    · have qq := q3
      rw [qq.2.2.1, qq.2.2.2.2.2.1, qq.2.2.2.2.2.2]
      rw [if_neg (by omega)] at k6
      exact V5 (by rw [← k6]; exact hk)
    · have qq := q2
      rw [qq.2.2.1]
      exact STW_c V3 ⟨fun c hc => qq.2.2.2.2.2.1 c (by omega), fun c i hc hi => by
        have bc := x_h63 c
        exact qq.2.2.2.2.2.2 (10 * c + i) (by omega)⟩
    · have qq := q3
      rw [qq.2.2.1, qq.2.2.2.2.2.1, qq.2.2.2.2.2.2]
      rw [if_neg (by omega)] at k6
      exact V5 (by rw [← k6]; exact hk)
set_option maxHeartbeats 8000000 in
set_option maxRecDepth 10000 in
theorem qk5_35 {N : Int} {σ : Nat → Int} {τ : Nat → Nat → Int} (hX : XX3 σ τ) (hY : XX5 σ τ) (hB : 0 ≤ σ 30 ∧ σ 30 ≤ 5000) (hS : SIM2 σ τ) (hT : SIM3 σ τ) (hV : SIM5 σ τ) (a1 : Int) (b_a1 : (-2147483648) ≤ a1 ∧ a1 ≤ 2147483647) {o : Int × Int × Int × Int × Int × Int × Int × Int × Int × Int × Int × (Nat → Int) × (Nat → Int) × (Nat → Int) × (Nat → Int) × (Nat → Int) × (Nat → Int) × (Nat → Int) × (Nat → Int) × (Nat → Int) × (Nat → Int) × (Nat → Int) × (Nat → Int) × (Nat → Int)} (h : f_OP_35 N a1 (σ 3) (σ 4) (σ 5) (σ 26) (σ 27) (σ 28) (σ 29) (σ 30) (σ 49) (σ 50) (σ 51) (σ 52) (σ 53) (σ 55) (σ 56) (σ 57) (σ 58) (σ 62) (σ 63) (τ 0) (τ 2) (τ 3) (τ 4) (τ 5) (τ 6) (τ 34) (τ 35) (τ 36) (τ 37) (τ 38) (τ 39) (τ 40) (τ 41) (τ 63) (τ 64) (τ 65) (τ 66) (τ 67) (τ 68) (τ 69) (τ 70) (τ 71) (τ 72) (τ 73) (τ 74) (τ 75) (τ 76) (τ 77) (τ 78) (τ 79) (τ 80) (τ 85) (τ 86) (τ 87) (τ 88) = some o) (hI : zR ((zta τ [(2, o.2.2.2.2.2.2.2.2.2.2.2.1), (3, o.2.2.2.2.2.2.2.2.2.2.2.2.1), (4, o.2.2.2.2.2.2.2.2.2.2.2.2.2.1), (34, o.2.2.2.2.2.2.2.2.2.2.2.2.2.2.1), (35, o.2.2.2.2.2.2.2.2.2.2.2.2.2.2.2.1), (36, o.2.2.2.2.2.2.2.2.2.2.2.2.2.2.2.2.1), (37, o.2.2.2.2.2.2.2.2.2.2.2.2.2.2.2.2.2.1), (38, o.2.2.2.2.2.2.2.2.2.2.2.2.2.2.2.2.2.2.1), (39, o.2.2.2.2.2.2.2.2.2.2.2.2.2.2.2.2.2.2.2.1), (40, o.2.2.2.2.2.2.2.2.2.2.2.2.2.2.2.2.2.2.2.2.1), (41, o.2.2.2.2.2.2.2.2.2.2.2.2.2.2.2.2.2.2.2.2.2.1), (63, o.2.2.2.2.2.2.2.2.2.2.2.2.2.2.2.2.2.2.2.2.2.2.1), (64, o.2.2.2.2.2.2.2.2.2.2.2.2.2.2.2.2.2.2.2.2.2.2.2)]) 63) 0 10) : (True) ∧ SIM5 (zst σ [(3, o.2.2.1), (4, o.2.2.2.1), (5, o.2.2.2.2.1), (26, o.2.2.2.2.2.1), (27, o.2.2.2.2.2.2.1), (28, o.2.2.2.2.2.2.2.1), (29, o.2.2.2.2.2.2.2.2.1), (30, o.2.2.2.2.2.2.2.2.2.1), (49, o.2.2.2.2.2.2.2.2.2.2.1)]) (zta τ [(2, o.2.2.2.2.2.2.2.2.2.2.2.1), (3, o.2.2.2.2.2.2.2.2.2.2.2.2.1), (4, o.2.2.2.2.2.2.2.2.2.2.2.2.2.1), (34, o.2.2.2.2.2.2.2.2.2.2.2.2.2.2.1), (35, o.2.2.2.2.2.2.2.2.2.2.2.2.2.2.2.1), (36, o.2.2.2.2.2.2.2.2.2.2.2.2.2.2.2.2.1), (37, o.2.2.2.2.2.2.2.2.2.2.2.2.2.2.2.2.2.1), (38, o.2.2.2.2.2.2.2.2.2.2.2.2.2.2.2.2.2.2.1), (39, o.2.2.2.2.2.2.2.2.2.2.2.2.2.2.2.2.2.2.2.1), (40, o.2.2.2.2.2.2.2.2.2.2.2.2.2.2.2.2.2.2.2.2.1), (41, o.2.2.2.2.2.2.2.2.2.2.2.2.2.2.2.2.2.2.2.2.2.1), (63, o.2.2.2.2.2.2.2.2.2.2.2.2.2.2.2.2.2.2.2.2.2.2.1), (64, o.2.2.2.2.2.2.2.2.2.2.2.2.2.2.2.2.2.2.2.2.2.2.2)]) := by
  obtain ⟨x_RI, x_h16, x_h17, x_b0, x_e0, x_t1, x_m, x_em, x_ch, x_ech, x_pa, x_epa, x_la, x_fo, x_h63, x_h64, x_st, x_ex, x_pl, x_te, x_Rst, x_Rex, x_Rtr, x_Rpl, x_Rte, x_Rgo, x_im, x_k6, x_k0, x_kp, x_m0, x_m1, x_h85, x_h87, x_m61, x_h83⟩ := hX
  obtain ⟨y_t40, y_t41, y_t48, y_t56, y_t57, y_t81, y_t82, y_s37⟩ := hY
  have S4 := hS.2.2.2.1
  have T1 := hT.1
  have hF := FOK_x (x3_J x_RI x_ch x_ech x_Rst x_Rex x_st x_ex x_Rte x_te x_la x_fo S4) x_RI y_t40 y_t41 x_te x_la.1
  have hP := (x3_P x_RI x_pa x_epa x_Rpl x_pl x_Rte)
  obtain ⟨V1, V2, V3, V4, V5⟩ := hV
  unfold f_OP_35 at h
  obtain ⟨x_ans, n_s3, n_s26, n_s27, n_s28, n_s29, n_s30, n_t2, n_s49, n_t34, n_t35, n_t36, n_t37, n_t38, n_t39, n_t40, n_t41, n_t63, n_t64, e1, h⟩ := xz_d19 h
  obtain ⟨y_ans, n_s4, n_s5, n_t3, n_t4, e2, h⟩ := xz_d5 h
  have c : HCH (σ 30) (σ 49) (τ 63) (τ 64) n_s30 n_s49 n_t63 n_t64 := k_back4 e1
  have ot : n_s30 = σ 30 → n_s26 = (σ 26) ∧ n_s27 = (σ 27) ∧ n_s28 = (σ 28) ∧ n_s29 = (σ 29) ∧ n_t34 = (τ 34) ∧ n_t35 = (τ 35) ∧ n_t37 = (τ 37) ∧ n_t38 = (τ 38) ∧ n_t40 = (τ 40) ∧ n_t41 = (τ 41) := ot_35 e1
  have v1 : NOK n_s30 n_s26 n_s28 n_s29 n_t34 n_t35 n_t38 n_t40 n_t41 (τ 48) := NOK_st V1 c.1 (fun e => ⟨(ot e).1, (ot e).2.2.1, (ot e).2.2.2.1, (ot e).2.2.2.2.1, (ot e).2.2.2.2.2.1, (ot e).2.2.2.2.2.2.2.1, (ot e).2.2.2.2.2.2.2.2.1, (ot e).2.2.2.2.2.2.2.2.2⟩)
  have h63 : zR n_t63 0 10 := by cases h; exact hI
  have v2 : SOK n_s27 n_t37 n_s49 n_s26 n_s28 n_s29 n_t34 n_t35 n_t38 n_t40 n_t41 n_s30 n_t63 n_t64 (σ 40) (σ 41) (σ 42) (σ 43) (τ 59) (τ 60) := SOK_st x_RI x_m x_em hP x_te x_h63 h63 V2 c.1 (fun e => ⟨⟨(ot e).2.1, (ot e).2.2.2.2.2.2.1, (c.2 e).1, (ot e).1, (ot e).2.2.1, (ot e).2.2.2.1, (ot e).2.2.2.2.1, (ot e).2.2.2.2.2.1, (ot e).2.2.2.2.2.2.2.1, (ot e).2.2.2.2.2.2.2.2.1, (ot e).2.2.2.2.2.2.2.2.2⟩, (c.2 e).2⟩)
  have w := zok_x (ww_HM_back _ _ _ _ _ _ _ b_a1 x_k6 x_RI x_im) e2
  dsimp only at w
  obtain ⟨w1, w2, w3, w4, w5⟩ := w
  have qq0 := k_back b_a1 e1
  obtain ⟨x1, x2, x3, x4, r1, r2⟩ := r_back b_a1 x_k6 e2
  have ek : ∀ k, k < 2 → (τ 0) k = (τ 6) k := fun k hk => by
    rcases (show k = 0 ∨ k = 1 by omega) with e | e <;> subst e
    · exact x_kp.1
    · exact x_kp.2
  have ea : x_ans = y_ans := by
    cases r2
    unfold BKX at r1
    rcases k_back3 b_a1 x_k0 e1 with ⟨g1, g0, g2, g3, g4⟩ | ⟨g1, g0, g2, g3, g4⟩ | ⟨g1, g2, g3, g4⟩
    · rw [if_pos g1, if_pos (by rw [← ek _ (by omega)]; exact g0)] at r1
      rw [g2]
      exact (tell_a (by decide) r1).symm
    · rw [if_pos g1, if_neg (by rw [← ek _ (by omega)]; exact fun z => z g0)] at r1
      rw [g2]
      exact (tell_a (by decide) r1).symm
    · rw [if_neg g1] at r1
      rw [g2]
      exact (tell_a (by decide) r1).symm
  cases h
  refine ⟨trivial, v1, v2, ?_, V4, V5⟩
  show STW n_s49 n_t63 n_t64
  rcases qq0 with ⟨q1, q2, q3⟩ | ⟨q1, q2, q3⟩ | ⟨q1, q2⟩
  · have zk := w5 (by omega)
    rw [q1] at zk
    rw [q3.2.2.1]
    exact STW_c (V4 zk) ⟨fun c hc => q3.2.2.2.2.2.1 c (by omega), fun c i hc hi => by
      have bc := x_h85 c
      exact q3.2.2.2.2.2.2 (10 * c + i) (by omega)⟩
  · have zk := w5 (by omega)
    rw [q1] at zk
    rw [q3.2.2.1]
    exact STW_c (V5 zk) ⟨fun c hc => q3.2.2.2.2.2.1 c (by omega), fun c i hc hi => by
      have bc := x_h87 c
      exact q3.2.2.2.2.2.2 (10 * c + i) (by omega)⟩
  · rw [q2.2.2.1, q2.2.2.2.2.2.1, q2.2.2.2.2.2.2]
    exact V3
set_option maxHeartbeats 8000000 in
set_option maxRecDepth 10000 in
theorem qk5_36 {N : Int} {σ : Nat → Int} {τ : Nat → Nat → Int} (hX : XX3 σ τ) (hY : XX5 σ τ) (hB : 0 ≤ σ 30 ∧ σ 30 ≤ 5000) (hS : SIM2 σ τ) (hT : SIM3 σ τ) (hV : SIM5 σ τ) (a1 : Int) (b_a1 : (-2147483648) ≤ a1 ∧ a1 ≤ 2147483647) {o : Int × Int × Int} (h : f_OP_36 N a1 (σ 0) (σ 4) (σ 7) (σ 26) (σ 27) (σ 28) (σ 29) (σ 49) (τ 2) (τ 3) (τ 4) (τ 38) (τ 63) = some o) (hI : zR (τ 63) 0 10) : (True) ∧ SIM5 (zst σ [(4, o.2.2)]) τ := by
  obtain ⟨x_RI, x_h16, x_h17, x_b0, x_e0, x_t1, x_m, x_em, x_ch, x_ech, x_pa, x_epa, x_la, x_fo, x_h63, x_h64, x_st, x_ex, x_pl, x_te, x_Rst, x_Rex, x_Rtr, x_Rpl, x_Rte, x_Rgo, x_im, x_k6, x_k0, x_kp, x_m0, x_m1, x_h85, x_h87, x_m61, x_h83⟩ := hX
  obtain ⟨y_t40, y_t41, y_t48, y_t56, y_t57, y_t81, y_t82, y_s37⟩ := hY
  have S4 := hS.2.2.2.1
  have T1 := hT.1
  have hF := FOK_x (x3_J x_RI x_ch x_ech x_Rst x_Rex x_st x_ex x_Rte x_te x_la x_fo S4) x_RI y_t40 y_t41 x_te x_la.1
  have hP := (x3_P x_RI x_pa x_epa x_Rpl x_pl x_Rte)
  obtain ⟨V1, V2, V3, V4, V5⟩ := hV
  unfold f_OP_36 at h
  obtain ⟨x_ans, e1, h⟩ := xz_d1 h
  obtain ⟨y_ans, n_s4, e2, h⟩ := xz_d2 h
  cases h
  exact ⟨trivial, V1, V2, V3, V4, V5⟩
set_option maxHeartbeats 8000000 in
set_option maxRecDepth 10000 in
theorem qk5_37 {N : Int} {σ : Nat → Int} {τ : Nat → Nat → Int} (hX : XX3 σ τ) (hY : XX5 σ τ) (hB : 0 ≤ σ 30 ∧ σ 30 ≤ 5000) (hS : SIM2 σ τ) (hT : SIM3 σ τ) (hV : SIM5 σ τ)  {o : Int × Int × Int} (h : f_OP_37 N (σ 3) (σ 4) (σ 5) = some o) (hI : zR (τ 63) 0 10) : (True) ∧ SIM5 (zst σ [(4, o.2.2)]) τ := by
  obtain ⟨x_RI, x_h16, x_h17, x_b0, x_e0, x_t1, x_m, x_em, x_ch, x_ech, x_pa, x_epa, x_la, x_fo, x_h63, x_h64, x_st, x_ex, x_pl, x_te, x_Rst, x_Rex, x_Rtr, x_Rpl, x_Rte, x_Rgo, x_im, x_k6, x_k0, x_kp, x_m0, x_m1, x_h85, x_h87, x_m61, x_h83⟩ := hX
  obtain ⟨y_t40, y_t41, y_t48, y_t56, y_t57, y_t81, y_t82, y_s37⟩ := hY
  have S4 := hS.2.2.2.1
  have T1 := hT.1
  have hF := FOK_x (x3_J x_RI x_ch x_ech x_Rst x_Rex x_st x_ex x_Rte x_te x_la x_fo S4) x_RI y_t40 y_t41 x_te x_la.1
  have hP := (x3_P x_RI x_pa x_epa x_Rpl x_pl x_Rte)
  obtain ⟨V1, V2, V3, V4, V5⟩ := hV
  unfold f_OP_37 at h
  obtain ⟨x_ans, e1, h⟩ := xz_d1 h
  obtain ⟨y_ans, n_s4, e2, h⟩ := xz_d2 h
  cases h
  exact ⟨trivial, V1, V2, V3, V4, V5⟩
end
