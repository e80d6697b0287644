section
set_option maxHeartbeats 4000000 in
theorem mo_5 {x1 : Int} {i_latestStatus : Int} {i_hill_children : Int} {i_hill_changes : Int} {i_refusals : Nat → Int} {i_hill_strengths : Nat → Int} {i_hill_expelled : Nat → Int} {i_hill_trips : Nat → Int} {v : Int × Int × Int × Int × (Nat → Int) × (Nat → Int) × (Nat → Int) × (Nat → Int)} (h : f_HS_child x1 i_latestStatus i_hill_children i_hill_changes i_refusals i_hill_strengths i_hill_expelled i_hill_trips = some v) : i_hill_changes ≤ v.2.2.2.1 := by
  unfold f_HS_child at h
  rcases xp_if h with ⟨_, h⟩ | ⟨_, h⟩
  · unfold f_HS_child_11 at h
    obtain ⟨w0_0, w0_1, w0_2, e, h⟩ := xz_d3 h
    cases h
    first | exact Int.le_refl _ | exact Int.le_add_one (Int.le_refl _)
  · rcases xp_if h with ⟨_, h⟩ | ⟨_, h⟩
    · rcases xp_if h with ⟨_, h⟩ | ⟨_, h⟩
      · obtain ⟨w0_0, w0_1, w0_2, w0_3, w0_4, e, h⟩ := xz_d5 h
        obtain ⟨w1_0, w1_1, w1_2, e, h⟩ := xz_d3 h
        have k := k_accept e
        cases k
        cases h
        first | exact Int.le_refl _ | exact Int.le_add_one (Int.le_refl _)
      · obtain ⟨w0_0, w0_1, w0_2, e, h⟩ := xz_d3 h
        cases h
        first | exact Int.le_refl _ | exact Int.le_add_one (Int.le_refl _)
    · unfold f_HS_child_11 at h
      obtain ⟨w0_0, w0_1, w0_2, e, h⟩ := xz_d3 h
      cases h
      first | exact Int.le_refl _ | exact Int.le_add_one (Int.le_refl _)
set_option maxHeartbeats 4000000 in
theorem mo_6 {x1 : Int} {x2 : Int} {i_hill_children : Int} {i_latestStatus : Int} {i_hill_changes : Int} {i_refusals : Nat → Int} {i_hill_expelled : Nat → Int} {v : Int × Int × Int × (Nat → Int) × (Nat → Int)} (h : f_HS_expel x1 x2 i_hill_children i_latestStatus i_hill_changes i_refusals i_hill_expelled = some v) : i_hill_changes ≤ v.2.2.1 := by
  unfold f_HS_expel at h
  rcases xp_if h with ⟨_, h⟩ | ⟨_, h⟩
  · unfold f_HS_expel_9 at h
    obtain ⟨w0_0, w0_1, w0_2, e, h⟩ := xz_d3 h
    cases h
    first | exact Int.le_refl _ | exact Int.le_add_one (Int.le_refl _)
  · rcases xp_if h with ⟨_, h⟩ | ⟨_, h⟩
    · obtain ⟨w0_0, e, h⟩ := xz_d1 h
      rcases xp_if h with ⟨_, h⟩ | ⟨_, h⟩
      · replace h := (xp_g h).2
        replace h := (xp_s h).2
        obtain ⟨w1_0, w1_1, w1_2, e, h⟩ := xz_d3 h
        have k := k_accept e
        cases k
        cases h
        first | exact Int.le_refl _ | exact Int.le_add_one (Int.le_refl _)
      · obtain ⟨w1_0, w1_1, w1_2, e, h⟩ := xz_d3 h
        cases h
        first | exact Int.le_refl _ | exact Int.le_add_one (Int.le_refl _)
    · unfold f_HS_expel_9 at h
      obtain ⟨w0_0, w0_1, w0_2, e, h⟩ := xz_d3 h
      cases h
      first | exact Int.le_refl _ | exact Int.le_add_one (Int.le_refl _)
set_option maxHeartbeats 4000000 in
theorem mo_8 {x1 : Int} {i_hill_columns_many : Int} {i_latestStatus : Int} {i_hill_parishes : Int} {i_hill_changes : Int} {i_refusals : Nat → Int} {i_hill_places : Nat → Int} {v : Int × Int × Int × Int × (Nat → Int) × (Nat → Int)} (h : f_HS_parish x1 i_hill_columns_many i_latestStatus i_hill_parishes i_hill_changes i_refusals i_hill_places = some v) : i_hill_changes ≤ v.2.2.2.1 := by
  unfold f_HS_parish at h
  obtain ⟨w0_0, e, h⟩ := xz_d1 h
  rcases xp_if h with ⟨_, h⟩ | ⟨_, h⟩
  · rcases xp_if h with ⟨_, h⟩ | ⟨_, h⟩
    · replace h := (xp_s h).2
      replace h := xp_n h
      obtain ⟨w1_0, w1_1, w1_2, e, h⟩ := xz_d3 h
      have k := k_accept e
      cases k
      cases h
      first | exact Int.le_refl _ | exact Int.le_add_one (Int.le_refl _)
    · obtain ⟨w1_0, w1_1, w1_2, e, h⟩ := xz_d3 h
      cases h
      first | exact Int.le_refl _ | exact Int.le_add_one (Int.le_refl _)
  · obtain ⟨w1_0, w1_1, w1_2, e, h⟩ := xz_d3 h
    cases h
    first | exact Int.le_refl _ | exact Int.le_add_one (Int.le_refl _)
set_option maxHeartbeats 4000000 in
theorem mo_9 {x1 : Int} {x2 : Int} {i_latestStatus : Int} {i_hill_changes : Int} {i_refusals : Nat → Int} {i_hill_terms : Nat → Int} {v : Int × Int × Int × (Nat → Int) × (Nat → Int)} (h : f_HS_terms x1 x2 i_latestStatus i_hill_changes i_refusals i_hill_terms = some v) : i_hill_changes ≤ v.2.2.1 := by
  unfold f_HS_terms at h
  rcases xp_if h with ⟨_, h⟩ | ⟨_, h⟩
  · unfold f_HS_terms_30 at h
    obtain ⟨w0_0, w0_1, w0_2, e, h⟩ := xz_d3 h
    cases h
    first | exact Int.le_refl _ | exact Int.le_add_one (Int.le_refl _)
  · rcases xp_if h with ⟨_, h⟩ | ⟨_, h⟩
    · unfold f_HS_terms_30 at h
      obtain ⟨w0_0, w0_1, w0_2, e, h⟩ := xz_d3 h
      cases h
      first | exact Int.le_refl _ | exact Int.le_add_one (Int.le_refl _)
    · replace h := (xp_g h).2
      rcases xp_if h with ⟨_, h⟩ | ⟨_, h⟩
      · unfold f_HS_terms_30 at h
        obtain ⟨w0_0, w0_1, w0_2, e, h⟩ := xz_d3 h
        cases h
        first | exact Int.le_refl _ | exact Int.le_add_one (Int.le_refl _)
      · replace h := (xp_g h).2
        rcases xp_if h with ⟨_, h⟩ | ⟨_, h⟩
        · replace h := (xp_g h).2
          replace h := (xp_s h).2
          obtain ⟨w0_0, w0_1, w0_2, e, h⟩ := xz_d3 h
          have k := k_accept e
          cases k
          cases h
          first | exact Int.le_refl _ | exact Int.le_add_one (Int.le_refl _)
        · unfold f_HS_terms_30 at h
          obtain ⟨w0_0, w0_1, w0_2, e, h⟩ := xz_d3 h
          cases h
          first | exact Int.le_refl _ | exact Int.le_add_one (Int.le_refl _)
set_option maxHeartbeats 4000000 in
theorem mo_14 {i_tape : Nat → Int} {i_taped : Int} {i_latestFault : Int} {i_latestStatus : Int} {i_hill_laws : Int} {i_hill_changes : Int} {i_refusals : Nat → Int} {i_reader_ordered : Int} {i_reader_at : Int} {i_reader_parts : Int} {i_hill_orders : Nat → Int} {i_hill_ordered : Nat → Int} {i_reader_orders : Nat → Int} {i_reader_tokens : Nat → Int} {i_reader_places : Nat → Int} {i_reader_values : Nat → Int} {v : Int × Int × Int × Int × Int × Int × (Nat → Int) × Int × Int × Int × (Nat → Int) × (Nat → Int) × (Nat → Int) × (Nat → Int) × (Nat → Int) × (Nat → Int)} (h : f_HS_law i_tape i_taped i_latestFault i_latestStatus i_hill_laws i_hill_changes i_refusals i_reader_ordered i_reader_at i_reader_parts i_hill_orders i_hill_ordered i_reader_orders i_reader_tokens i_reader_places i_reader_values = some v) : i_hill_changes ≤ v.2.2.2.2.2.1 := by
  unfold f_HS_law at h
  rcases xp_if h with ⟨_, h⟩ | ⟨_, h⟩
  · obtain ⟨w0_0, w0_1, w0_2, w0_3, w0_4, w0_5, w0_6, w0_7, e, h⟩ := xz_d8 h
    rcases xp_if h with ⟨_, h⟩ | ⟨_, h⟩
    · obtain ⟨w1_0, w1_1, w1_2, w1_3, e, h⟩ := xz_d4 h
      obtain ⟨w2_0, w2_1, w2_2, e, h⟩ := xz_d3 h
      have k := k_accept e
      cases k
      cases h
      first | exact Int.le_refl _ | exact Int.le_add_one (Int.le_refl _)
    · obtain ⟨w1_0, w1_1, w1_2, e, h⟩ := xz_d3 h
      cases h
      first | exact Int.le_refl _ | exact Int.le_add_one (Int.le_refl _)
  · obtain ⟨w0_0, w0_1, w0_2, e, h⟩ := xz_d3 h
    cases h
    first | exact Int.le_refl _ | exact Int.le_add_one (Int.le_refl _)
set_option maxHeartbeats 4000000 in
theorem mo_16 {x1 : Int} {i_hill_laws : Int} {i_latestStatus : Int} {i_hill_inForce : Int} {i_hill_changes : Int} {i_refusals : Nat → Int} {v : Int × Int × Int × Int × (Nat → Int)} (h : f_HS_force x1 i_hill_laws i_latestStatus i_hill_inForce i_hill_changes i_refusals = some v) : i_hill_changes ≤ v.2.2.2.1 := by
  unfold f_HS_force at h
  rcases xp_if h with ⟨_, h⟩ | ⟨_, h⟩
  · unfold f_HS_force_27 at h
    obtain ⟨w0_0, w0_1, w0_2, e, h⟩ := xz_d3 h
    have k := k_accept e
    cases k
    cases h
    first | exact Int.le_refl _ | exact Int.le_add_one (Int.le_refl _)
  · rcases xp_if h with ⟨_, h⟩ | ⟨_, h⟩
    · unfold f_HS_force_20 at h
      obtain ⟨w0_0, w0_1, w0_2, e, h⟩ := xz_d3 h
      cases h
      first | exact Int.le_refl _ | exact Int.le_add_one (Int.le_refl _)
    · rcases xp_if h with ⟨_, h⟩ | ⟨_, h⟩
      · unfold f_HS_force_27 at h
        obtain ⟨w0_0, w0_1, w0_2, e, h⟩ := xz_d3 h
        have k := k_accept e
        cases k
        cases h
        first | exact Int.le_refl _ | exact Int.le_add_one (Int.le_refl _)
      · unfold f_HS_force_20 at h
        obtain ⟨w0_0, w0_1, w0_2, e, h⟩ := xz_d3 h
        cases h
        first | exact Int.le_refl _ | exact Int.le_add_one (Int.le_refl _)
set_option maxHeartbeats 4000000 in
theorem mo_25 {x1 : Int} {x2 : Int} {i_hill_columns_many : Int} {i_latestStatus : Int} {i_hill_changes : Int} {i_refusals : Nat → Int} {i_hill_goals : Nat → Int} {v : Int × Int × Int × (Nat → Int) × (Nat → Int)} (h : f_HS_goal x1 x2 i_hill_columns_many i_latestStatus i_hill_changes i_refusals i_hill_goals = some v) : i_hill_changes ≤ v.2.2.1 := by
  unfold f_HS_goal at h
  rcases xp_if h with ⟨_, h⟩ | ⟨_, h⟩
  · unfold f_HS_goal_11 at h
    obtain ⟨w0_0, w0_1, w0_2, e, h⟩ := xz_d3 h
    cases h
    first | exact Int.le_refl _ | exact Int.le_add_one (Int.le_refl _)
  · rcases xp_if h with ⟨_, h⟩ | ⟨_, h⟩
    · obtain ⟨w0_0, e, h⟩ := xz_d1 h
      rcases xp_if h with ⟨_, h⟩ | ⟨_, h⟩
      · replace h := (xp_g h).2
        replace h := (xp_s h).2
        obtain ⟨w1_0, w1_1, w1_2, e, h⟩ := xz_d3 h
        have k := k_accept e
        cases k
        cases h
        first | exact Int.le_refl _ | exact Int.le_add_one (Int.le_refl _)
      · obtain ⟨w1_0, w1_1, w1_2, e, h⟩ := xz_d3 h
        cases h
        first | exact Int.le_refl _ | exact Int.le_add_one (Int.le_refl _)
    · unfold f_HS_goal_11 at h
      obtain ⟨w0_0, w0_1, w0_2, e, h⟩ := xz_d3 h
      cases h
      first | exact Int.le_refl _ | exact Int.le_add_one (Int.le_refl _)
set_option maxHeartbeats 4000000 in
theorem mo_28 {x1 : Int} {x2 : Int} {i_hill_children : Int} {i_latestStatus : Int} {i_hill_changes : Int} {i_refusals : Nat → Int} {i_hill_trips : Nat → Int} {v : Int × Int × Int × (Nat → Int) × (Nat → Int)} (h : f_HS_trips x1 x2 i_hill_children i_latestStatus i_hill_changes i_refusals i_hill_trips = some v) : i_hill_changes ≤ v.2.2.1 := by
  unfold f_HS_trips at h
  rcases xp_if h with ⟨_, h⟩ | ⟨_, h⟩
  · unfold f_HS_trips_10 at h
    obtain ⟨w0_0, w0_1, w0_2, e, h⟩ := xz_d3 h
    cases h
    first | exact Int.le_refl _ | exact Int.le_add_one (Int.le_refl _)
  · rcases xp_if h with ⟨_, h⟩ | ⟨_, h⟩
    · obtain ⟨w0_0, e, h⟩ := xz_d1 h
      rcases xp_if h with ⟨_, h⟩ | ⟨_, h⟩
      · replace h := (xp_g h).2
        replace h := (xp_s h).2
        obtain ⟨w1_0, w1_1, w1_2, e, h⟩ := xz_d3 h
        have k := k_accept e
        cases k
        cases h
        first | exact Int.le_refl _ | exact Int.le_add_one (Int.le_refl _)
      · obtain ⟨w1_0, w1_1, w1_2, e, h⟩ := xz_d3 h
        cases h
        first | exact Int.le_refl _ | exact Int.le_add_one (Int.le_refl _)
    · unfold f_HS_trips_10 at h
      obtain ⟨w0_0, w0_1, w0_2, e, h⟩ := xz_d3 h
      cases h
      first | exact Int.le_refl _ | exact Int.le_add_one (Int.le_refl _)
set_option maxHeartbeats 4000000 in
theorem mo_32 {x1 : Int} {x2 : Int} {i_hill_columns_many : Int} {i_hill_terms : Nat → Int} {i_hill_columns_heights : Nat → Int} {i_hill_columns_weights : Nat → Int} {i_latestStatus : Int} {i_hill_changes : Int} {i_refusals : Nat → Int} {i_paper_columns_many : Int} {i_paper_columns_heights : Nat → Int} {i_paper_columns_weights : Nat → Int} {v : Int × Int × Int × (Nat → Int) × Int × (Nat → Int) × (Nat → Int)} (h : f_HS_rain x1 x2 i_hill_columns_many i_hill_terms i_hill_columns_heights i_hill_columns_weights i_latestStatus i_hill_changes i_refusals i_paper_columns_many i_paper_columns_heights i_paper_columns_weights = some v) : i_hill_changes ≤ v.2.2.1 := by
  unfold f_HS_rain at h
  rcases xp_if h with ⟨_, h⟩ | ⟨_, h⟩
  · unfold f_HS_rain_22 at h
    obtain ⟨w0_0, w0_1, w0_2, e, h⟩ := xz_d3 h
    cases h
    first | exact Int.le_refl _ | exact Int.le_add_one (Int.le_refl _)
  · rcases xp_if h with ⟨_, h⟩ | ⟨_, h⟩
    · unfold f_HS_rain_22 at h
      obtain ⟨w0_0, w0_1, w0_2, e, h⟩ := xz_d3 h
      cases h
      first | exact Int.le_refl _ | exact Int.le_add_one (Int.le_refl _)
    · rcases xp_if h with ⟨_, h⟩ | ⟨_, h⟩
      · unfold f_HS_rain_22 at h
        obtain ⟨w0_0, w0_1, w0_2, e, h⟩ := xz_d3 h
        cases h
        first | exact Int.le_refl _ | exact Int.le_add_one (Int.le_refl _)
      · rcases xp_if h with ⟨_, h⟩ | ⟨_, h⟩
        · replace h := (xp_g h).2
          obtain ⟨w0_0, w0_1, w0_2, w0_3, e, h⟩ := xz_d4 h
          obtain ⟨w1_0, w1_1, w1_2, e, h⟩ := xz_d3 h
          have k := k_accept e
          cases k
          cases h
          first | exact Int.le_refl _ | exact Int.le_add_one (Int.le_refl _)
        · unfold f_HS_rain_22 at h
          obtain ⟨w0_0, w0_1, w0_2, e, h⟩ := xz_d3 h
          cases h
          first | exact Int.le_refl _ | exact Int.le_add_one (Int.le_refl _)
set_option maxHeartbeats 4000000 in
theorem mo_34 {x1 : Int} {i_hill_children : Int} {i_hill_parishes : Int} {i_hill_laws : Int} {i_hill_inForce : Int} {i_hill_columns_many : Int} {i_hill_strengths : Nat → Int} {i_hill_expelled : Nat → Int} {i_hill_trips : Nat → Int} {i_hill_places : Nat → Int} {i_hill_terms : Nat → Int} {i_hill_goals : Nat → Int} {i_hill_orders : Nat → Int} {i_hill_ordered : Nat → Int} {i_hill_columns_heights : Nat → Int} {i_hill_columns_weights : Nat → Int} {i_latestStatus : Int} {i_hill_changes : Int} {i_kept : Nat → Int} {i_refusals : Nat → Int} {i_images_0_children : Int} {i_images_0_parishes : Int} {i_images_0_laws : Int} {i_images_0_inForce : Int} {i_images_1_children : Int} {i_images_1_parishes : Int} {i_images_1_laws : Int} {i_images_1_inForce : Int} {i_images_0_columns_many : Int} {i_images_0_strengths : Nat → Int} {i_images_0_expelled : Nat → Int} {i_images_0_trips : Nat → Int} {i_images_0_places : Nat → Int} {i_images_0_terms : Nat → Int} {i_images_0_goals : Nat → Int} {i_images_0_orders : Nat → Int} {i_images_0_ordered : Nat → Int} {i_images_1_columns_many : Int} {i_images_1_strengths : Nat → Int} {i_images_1_expelled : Nat → Int} {i_images_1_trips : Nat → Int} {i_images_1_places : Nat → Int} {i_images_1_terms : Nat → Int} {i_images_1_goals : Nat → Int} {i_images_1_orders : Nat → Int} {i_images_1_ordered : Nat → Int} {i_images_0_columns_heights : Nat → Int} {i_images_0_columns_weights : Nat → Int} {i_images_1_columns_heights : Nat → Int} {i_images_1_columns_weights : Nat → Int} {v : Int × Int × Int × (Nat → Int) × (Nat → Int) × Int × Int × Int × Int × Int × Int × Int × Int × Int × (Nat → Int) × (Nat → Int) × (Nat → Int) × (Nat → Int) × (Nat → Int) × (Nat → Int) × (Nat → Int) × (Nat → Int) × Int × (Nat → Int) × (Nat → Int) × (Nat → Int) × (Nat → Int) × (Nat → Int) × (Nat → Int) × (Nat → Int) × (Nat → Int) × (Nat → Int) × (Nat → Int) × (Nat → Int) × (Nat → Int)} (h : f_HS_image x1 i_hill_children i_hill_parishes i_hill_laws i_hill_inForce i_hill_columns_many i_hill_strengths i_hill_expelled i_hill_trips i_hill_places i_hill_terms i_hill_goals i_hill_orders i_hill_ordered i_hill_columns_heights i_hill_columns_weights i_latestStatus i_hill_changes i_kept i_refusals i_images_0_children i_images_0_parishes i_images_0_laws i_images_0_inForce i_images_1_children i_images_1_parishes i_images_1_laws i_images_1_inForce i_images_0_columns_many i_images_0_strengths i_images_0_expelled i_images_0_trips i_images_0_places i_images_0_terms i_images_0_goals i_images_0_orders i_images_0_ordered i_images_1_columns_many i_images_1_strengths i_images_1_expelled i_images_1_trips i_images_1_places i_images_1_terms i_images_1_goals i_images_1_orders i_images_1_ordered i_images_0_columns_heights i_images_0_columns_weights i_images_1_columns_heights i_images_1_columns_weights = some v) : i_hill_changes ≤ v.2.2.1 := by
  unfold f_HS_image at h
  rcases xp_if h with ⟨_, h⟩ | ⟨_, h⟩
  · unfold f_HS_image_9 at h
    obtain ⟨w0_0, w0_1, w0_2, e, h⟩ := xz_d3 h
    cases h
    first | exact Int.le_refl _ | exact Int.le_add_one (Int.le_refl _)
  · rcases xp_if h with ⟨_, h⟩ | ⟨_, h⟩
    · rcases xp_if h with ⟨_, h⟩ | ⟨_, h⟩
      · obtain ⟨w0_0, w0_1, w0_2, w0_3, w0_4, w0_5, w0_6, w0_7, w0_8, w0_9, w0_10, w0_11, w0_12, w0_13, w0_14, e, h⟩ := xz_d15 h
        unfold f_HS_image_28 at h
        rcases xp_if h with ⟨_, h⟩ | ⟨_, h⟩
        · exact nomatch h
        replace h := (xp_s h).2
        obtain ⟨w1_0, w1_1, w1_2, e, h⟩ := xz_d3 h
        have k := k_accept e
        cases k
        cases h
        first | exact Int.le_refl _ | exact Int.le_add_one (Int.le_refl _)
      · rcases xp_if h with ⟨_, h⟩ | ⟨_, h⟩
        · obtain ⟨w0_0, w0_1, w0_2, w0_3, w0_4, w0_5, w0_6, w0_7, w0_8, w0_9, w0_10, w0_11, w0_12, w0_13, w0_14, e, h⟩ := xz_d15 h
          unfold f_HS_image_28 at h
          rcases xp_if h with ⟨_, h⟩ | ⟨_, h⟩
          · exact nomatch h
          replace h := (xp_s h).2
          obtain ⟨w1_0, w1_1, w1_2, e, h⟩ := xz_d3 h
          have k := k_accept e
          cases k
          cases h
          first | exact Int.le_refl _ | exact Int.le_add_one (Int.le_refl _)
        · exact nomatch h
    · unfold f_HS_image_9 at h
      obtain ⟨w0_0, w0_1, w0_2, e, h⟩ := xz_d3 h
      cases h
      first | exact Int.le_refl _ | exact Int.le_add_one (Int.le_refl _)
set_option maxHeartbeats 4000000 in
theorem mo_35 {x1 : Int} {i_kept : Nat → Int} {i_images_0_children : Int} {i_images_0_parishes : Int} {i_images_0_laws : Int} {i_images_0_inForce : Int} {i_images_1_children : Int} {i_images_1_parishes : Int} {i_images_1_laws : Int} {i_images_1_inForce : Int} {i_images_0_columns_many : Int} {i_images_0_strengths : Nat → Int} {i_images_0_expelled : Nat → Int} {i_images_0_trips : Nat → Int} {i_images_0_places : Nat → Int} {i_images_0_terms : Nat → Int} {i_images_0_goals : Nat → Int} {i_images_0_orders : Nat → Int} {i_images_0_ordered : Nat → Int} {i_images_1_columns_many : Int} {i_images_1_strengths : Nat → Int} {i_images_1_expelled : Nat → Int} {i_images_1_trips : Nat → Int} {i_images_1_places : Nat → Int} {i_images_1_terms : Nat → Int} {i_images_1_goals : Nat → Int} {i_images_1_orders : Nat → Int} {i_images_1_ordered : Nat → Int} {i_images_0_columns_heights : Nat → Int} {i_images_0_columns_weights : Nat → Int} {i_images_1_columns_heights : Nat → Int} {i_images_1_columns_weights : Nat → Int} {i_latestStatus : Int} {i_hill_children : Int} {i_hill_parishes : Int} {i_hill_laws : Int} {i_hill_inForce : Int} {i_hill_changes : Int} {i_refusals : Nat → Int} {i_hill_columns_many : Int} {i_hill_strengths : Nat → Int} {i_hill_expelled : Nat → Int} {i_hill_trips : Nat → Int} {i_hill_places : Nat → Int} {i_hill_terms : Nat → Int} {i_hill_goals : Nat → Int} {i_hill_orders : Nat → Int} {i_hill_ordered : Nat → Int} {i_hill_columns_heights : Nat → Int} {i_hill_columns_weights : Nat → Int} {v : Int × Int × Int × Int × Int × Int × Int × (Nat → Int) × Int × (Nat → Int) × (Nat → Int) × (Nat → Int) × (Nat → Int) × (Nat → Int) × (Nat → Int) × (Nat → Int) × (Nat → Int) × (Nat → Int) × (Nat → Int)} (h : f_HS_back x1 i_kept i_images_0_children i_images_0_parishes i_images_0_laws i_images_0_inForce i_images_1_children i_images_1_parishes i_images_1_laws i_images_1_inForce i_images_0_columns_many i_images_0_strengths i_images_0_expelled i_images_0_trips i_images_0_places i_images_0_terms i_images_0_goals i_images_0_orders i_images_0_ordered i_images_1_columns_many i_images_1_strengths i_images_1_expelled i_images_1_trips i_images_1_places i_images_1_terms i_images_1_goals i_images_1_orders i_images_1_ordered i_images_0_columns_heights i_images_0_columns_weights i_images_1_columns_heights i_images_1_columns_weights i_latestStatus i_hill_children i_hill_parishes i_hill_laws i_hill_inForce i_hill_changes i_refusals i_hill_columns_many i_hill_strengths i_hill_expelled i_hill_trips i_hill_places i_hill_terms i_hill_goals i_hill_orders i_hill_ordered i_hill_columns_heights i_hill_columns_weights = some v) : i_hill_changes ≤ v.2.2.2.2.2.2.1 := by
  unfold f_HS_back at h
  rcases xp_if h with ⟨_, h⟩ | ⟨_, h⟩
  · unfold f_HS_back_9 at h
    obtain ⟨w0_0, w0_1, w0_2, e, h⟩ := xz_d3 h
    cases h
    first | exact Int.le_refl _ | exact Int.le_add_one (Int.le_refl _)
  · rcases xp_if h with ⟨_, h⟩ | ⟨_, h⟩
    · replace h := (xp_g h).2
      rcases xp_if h with ⟨_, h⟩ | ⟨_, h⟩
      · rcases xp_if h with ⟨_, h⟩ | ⟨_, h⟩
        · obtain ⟨w0_0, w0_1, w0_2, w0_3, w0_4, w0_5, w0_6, w0_7, w0_8, w0_9, w0_10, w0_11, w0_12, w0_13, w0_14, e, h⟩ := xz_d15 h
          unfold f_HS_back_44 at h
          obtain ⟨w1_0, w1_1, w1_2, e, h⟩ := xz_d3 h
          have k := k_accept e
          cases k
          cases h
          first | exact Int.le_refl _ | exact Int.le_add_one (Int.le_refl _)
        · rcases xp_if h with ⟨_, h⟩ | ⟨_, h⟩
          · obtain ⟨w0_0, w0_1, w0_2, w0_3, w0_4, w0_5, w0_6, w0_7, w0_8, w0_9, w0_10, w0_11, w0_12, w0_13, w0_14, e, h⟩ := xz_d15 h
            unfold f_HS_back_44 at h
            obtain ⟨w1_0, w1_1, w1_2, e, h⟩ := xz_d3 h
            have k := k_accept e
            cases k
            cases h
            first | exact Int.le_refl _ | exact Int.le_add_one (Int.le_refl _)
          · exact nomatch h
      · obtain ⟨w0_0, w0_1, w0_2, e, h⟩ := xz_d3 h
        cases h
        first | exact Int.le_refl _ | exact Int.le_add_one (Int.le_refl _)
    · unfold f_HS_back_9 at h
      obtain ⟨w0_0, w0_1, w0_2, e, h⟩ := xz_d3 h
      cases h
      first | exact Int.le_refl _ | exact Int.le_add_one (Int.le_refl _)
end
section
noncomputable def SIM4 (σ : Nat → Int) (τ : Nat → Nat → Int) : Prop := -1 ≤ σ 44 ∧ WOK (σ 44) (σ 30) (σ 49) (τ 63) (τ 64) (τ 61)
set_option maxHeartbeats 4000000 in
set_option maxRecDepth 10000 in
theorem INV_30 {N : Int} {σ : Nat → Int} {τ : Nat → Nat → Int} (h : INV N σ τ) : 0 ≤ σ 30 ∧ σ 30 ≤ N := by
  have zg1 := h.2
  have zg2 := zg1.2
  have zg3 := zg2.2
  have zg4 := zg3.2
  have zg5 := zg4.2
  have zg6 := zg5.2
  have zg7 := zg6.2
  have zg8 := zg7.2
  have zg9 := zg8.2
  have zg10 := zg9.2
  have zg11 := zg10.2
  have zg12 := zg11.2
  have zg13 := zg12.2
  have zg14 := zg13.2
  have zg15 := zg14.2
  have zg16 := zg15.2
  have zg17 := zg16.2
  have zg18 := zg17.2
  have zg19 := zg18.2
  have zg20 := zg19.2
  have zg21 := zg20.2
  have zg22 := zg21.2
  have zg23 := zg22.2
  have zg24 := zg23.2
  have zg25 := zg24.2
  have zg26 := zg25.2
  have zg27 := zg26.2
  have zg28 := zg27.2
  have zg29 := zg28.2
  have zg30 := zg29.2
  have zg31 := zg30.2
  have zg32 := zg31.2
  have zg33 := zg32.2
  have zg34 := zg33.2
  have zg35 := zg34.2
  have zg36 := zg35.2
  have zg37 := zg36.2
  have zg38 := zg37.2
  have zg39 := zg38.2
  have zg40 := zg39.2
  have zg41 := zg40.2
  have zg42 := zg41.2
  have zg43 := zg42.2
  have zg44 := zg43.2
  have zg45 := zg44.2
  have zg46 := zg45.2
  have zg47 := zg46.2
  have zg48 := zg47.2
  have zg49 := zg48.2
  have zg50 := zg49.2
  have zg51 := zg50.2
  have zg52 := zg51.2
  have zg53 := zg52.2
  have zg54 := zg53.2
  have zg55 := zg54.2
  have zg56 := zg55.2
  have zg57 := zg56.2
  have zg58 := zg57.2
  have zg59 := zg58.2
  have zg60 := zg59.2
  have zg61 := zg60.2
  have zg62 := zg61.2
  have zg63 := zg62.2
  have zg64 := zg63.2
  have zg65 := zg64.2
  have zg66 := zg65.2
  have zg67 := zg66.2
  have zg68 := zg67.2
  have zg69 := zg68.2
  have zg70 := zg69.2
  have zg71 := zg70.2
  have zg72 := zg71.2
  have zg73 := zg72.2
  have zg74 := zg73.2
  have zg75 := zg74.2
  have zg76 := zg75.2
  have zg77 := zg76.2
  have zg78 := zg77.2
  have zg79 := zg78.2
  have zg80 := zg79.2
  have zg81 := zg80.2
  have zg82 := zg81.2
  have zg83 := zg82.2
  have zg84 := zg83.2
  have zg85 := zg84.2
  have zg86 := zg85.2
  have zg87 := zg86.2
  have zg88 := zg87.2
  have zg89 := zg88.2
  have zg90 := zg89.2
  have zg91 := zg90.2
  have zg92 := zg91.2
  have zg93 := zg92.2
  have zg94 := zg93.2
  have zg95 := zg94.2
  have zg96 := zg95.2
  have zg97 := zg96.2
  have zg98 := zg97.2
  have zg99 := zg98.2
  have zg100 := zg99.2
  have zg101 := zg100.2
  have zg102 := zg101.2
  have zg103 := zg102.2
  have zg104 := zg103.2
  have zg105 := zg104.2
  have zg106 := zg105.2
  have zg107 := zg106.2
  have zg108 := zg107.2
  have zg109 := zg108.2
  have zg110 := zg109.2
  have zg111 := zg110.2
  have zg112 := zg111.2
  have zg113 := zg112.2
  have zg114 := zg113.2
  have zg115 := zg114.2
  have zg116 := zg115.2
  have zg117 := zg116.2
  have zg118 := zg117.2
  have zg119 := zg118.2
  have zg120 := zg119.2
  have zg121 := zg120.2
  have zg122 := zg121.2
  have zg123 := zg122.2
  have zg124 := zg123.2
  have zg125 := zg124.2
  have I_s30 := zg42.1
  exact I_s30
theorem k_ver {a ch many ver : Int} {hts wts sets : Nat → Int} {v : Int × Int × (Nat → Int)} (h : f_HS_weighs a ch many hts wts ver sets = some v) : v.2.1 = ver ∨ v.2.1 = ch := by
  unfold f_HS_weighs at h
  obtain ⟨u1, u2, u3, e1, h⟩ := xz_d3 h
  cases h
  unfold f_Scales_sets at e1
  rcases xp_if e1 with ⟨_, e1⟩ | ⟨_, e1⟩
  · cases e1; exact Or.inl rfl
  rcases xp_if e1 with ⟨_, e1⟩ | ⟨_, e1⟩
  · rcases xp_if e1 with ⟨_, e1⟩ | ⟨_, e1⟩
    · replace e1 := (xp_g e1).2
      cases e1; exact Or.inl rfl
    · obtain ⟨a2, e2, e1⟩ := xz_d1 e1
      replace e1 := (xp_g e1).2
      cases e1; exact Or.inr rfl
  · cases e1; exact Or.inl rfl
set_option maxHeartbeats 4000000 in
theorem k_back4 {a1 : Int} {t0 : Nat → Int} {s50 : Int} {s51 : Int} {s52 : Int} {s53 : Int} {s55 : Int} {s56 : Int} {s57 : Int} {s58 : Int} {s62 : Int} {t65 : Nat → Int} {t66 : Nat → Int} {t67 : Nat → Int} {t68 : Nat → Int} {t69 : Nat → Int} {t70 : Nat → Int} {t71 : Nat → Int} {t72 : Nat → Int} {s63 : Int} {t73 : Nat → Int} {t74 : Nat → Int} {t75 : Nat → Int} {t76 : Nat → Int} {t77 : Nat → Int} {t78 : Nat → Int} {t79 : Nat → Int} {t80 : Nat → Int} {t85 : Nat → Int} {t86 : Nat → Int} {t87 : Nat → Int} {t88 : Nat → Int} {s3 : Int} {s26 : Int} {s27 : Int} {s28 : Int} {s29 : Int} {s30 : Int} {t2 : Nat → Int} {s49 : Int} {t34 : Nat → Int} {t35 : Nat → Int} {t36 : Nat → Int} {t37 : Nat → Int} {t38 : Nat → Int} {t39 : Nat → Int} {t40 : Nat → Int} {t41 : Nat → Int} {t63 : Nat → Int} {t64 : Nat → Int} {x_ans : Int} {n_s3 : Int} {n_s26 : Int} {n_s27 : Int} {n_s28 : Int} {n_s29 : Int} {n_s30 : Int} {n_t2 : Nat → Int} {n_s49 : Int} {n_t34 : Nat → Int} {n_t35 : Nat → Int} {n_t36 : Nat → Int} {n_t37 : Nat → Int} {n_t38 : Nat → Int} {n_t39 : Nat → Int} {n_t40 : Nat → Int} {n_t41 : Nat → Int} {n_t63 : Nat → Int} {n_t64 : Nat → Int} (h : f_HS_back a1 t0 s50 s51 s52 s53 s55 s56 s57 s58 s62 t65 t66 t67 t68 t69 t70 t71 t72 s63 t73 t74 t75 t76 t77 t78 t79 t80 t85 t86 t87 t88 s3 s26 s27 s28 s29 s30 t2 s49 t34 t35 t36 t37 t38 t39 t40 t41 t63 t64 = some (x_ans, n_s3, n_s26, n_s27, n_s28, n_s29, n_s30, n_t2, n_s49, n_t34, n_t35, n_t36, n_t37, n_t38, n_t39, n_t40, n_t41, n_t63, n_t64)) : HCH s30 s49 t63 t64 n_s30 n_s49 n_t63 n_t64 := by
  have no : f_HS_back_9 t0 s50 s51 s52 s53 s55 s56 s57 s58 s62 t65 t66 t67 t68 t69 t70 t71 t72 s63 t73 t74 t75 t76 t77 t78 t79 t80 t85 t86 t87 t88 s3 s26 s27 s28 s29 s30 t2 s49 t34 t35 t36 t37 t38 t39 t40 t41 t63 t64 = some (x_ans, n_s3, n_s26, n_s27, n_s28, n_s29, n_s30, n_t2, n_s49, n_t34, n_t35, n_t36, n_t37, n_t38, n_t39, n_t40, n_t41, n_t63, n_t64) → HCH s30 s49 t63 t64 n_s30 n_s49 n_t63 n_t64 := fun h => by
    unfold f_HS_back_9 at h
    obtain ⟨u1, u2, u3, e, h⟩ := xz_d3 h
    cases h
    exact HCH_0
  unfold f_HS_back at h
  rcases xp_if h with ⟨_, h⟩ | ⟨_, h⟩
  · exact no h
  rcases xp_if h with ⟨_, h⟩ | ⟨_, h⟩
  · replace h := (xp_g h).2
    rcases xp_if h with ⟨_, h⟩ | ⟨_, h⟩
    · rcases xp_if h with ⟨_, h⟩ | ⟨_, h⟩
      · obtain ⟨v1, v2, v3, v4, v5, d1, d2, d3, d4, d5, d6, d7, d8, d9, d10, e, h⟩ := xz_d15 h
        unfold f_HS_back_44 at h
        obtain ⟨u1, u2, u3, e2, h⟩ := xz_d3 h
        have ka := k_accept e2
        cases ka
        cases h
        exact HCH_1 rfl
      · rcases xp_if h with ⟨_, h⟩ | ⟨_, h⟩
        · obtain ⟨v1, v2, v3, v4, v5, d1, d2, d3, d4, d5, d6, d7, d8, d9, d10, e, h⟩ := xz_d15 h
          unfold f_HS_back_44 at h
          obtain ⟨u1, u2, u3, e2, h⟩ := xz_d3 h
          have ka := k_accept e2
          cases ka
          cases h
          exact HCH_1 rfl
        · exact nomatch h
    · obtain ⟨u1, u2, u3, e, h⟩ := xz_d3 h
      cases h
      exact HCH_0
  · exact no h
end
section
/-! NUMBERS OF A NOTE -/
theorem nt_shl3 {v : Int} (hv : 0 ≤ v ∧ v ≤ 200000) : zi_shl v 3 = 8 * v := by
  have e : zi_shl v 3 = ((Int32.ofInt v).toBitVec <<< ((Int32.ofInt 3 &&& 31).toBitVec.smod 32)).toInt := rfl
  have k1 : ((Int32.ofInt 3 &&& 31).toBitVec.smod 32).toNat = 3 := by decide +kernel
  have n1 := zi_nat (x := v) (by omega)
  have n2 : ((Int32.ofInt v).toBitVec <<< ((Int32.ofInt 3 &&& 31).toBitVec.smod 32)).toNat = 8 * v.toNat := by
    rw [BitVec.shiftLeft_eq', BitVec.toNat_shiftLeft, k1, n1, Nat.shiftLeft_eq]
    omega
  rw [e, BitVec.toInt_eq_toNat_cond, n2]
  split <;> omega
theorem nt_or3 {v k : Int} (hv : 0 ≤ v ∧ v ≤ 200000) (hk : 0 ≤ k ∧ k < 8) : zi_or (8 * v) k = 8 * v + k := by
  have e : zi_or (8 * v) k = ((Int32.ofInt (8 * v)).toBitVec ||| (Int32.ofInt k).toBitVec).toInt := rfl
  have n2 : ((Int32.ofInt (8 * v)).toBitVec ||| (Int32.ofInt k).toBitVec).toNat = 8 * v.toNat + k.toNat := by
    rw [BitVec.toNat_or, zi_nat (x := 8 * v) (by omega), zi_nat (x := k) (by omega)]
    have h := Nat.shiftLeft_add_eq_or_of_lt (b := k.toNat) (i := 3) (by omega) v.toNat
    rw [Nat.shiftLeft_eq] at h
    rw [show (8 * v).toNat = v.toNat * 2 ^ 3 from by omega, ← h]
    omega
  rw [e, BitVec.toInt_eq_toNat_cond, n2]
  split <;> omega
theorem nt_and3 {x : Int} (h : 0 ≤ x ∧ x ≤ 2147483647) : zi_and x 7 = x % 8 := by
  have e : zi_and x 7 = ((Int32.ofInt x).toBitVec &&& (Int32.ofInt 7).toBitVec).toInt := rfl
  have n2 : ((Int32.ofInt x).toBitVec &&& (Int32.ofInt 7).toBitVec).toNat = x.toNat % 8 := by
    rw [BitVec.toNat_and, zi_nat h]
    have e15 : (Int32.ofInt 7).toBitVec.toNat = 2 ^ 3 - 1 := by decide
    rw [e15, Nat.and_two_pow_sub_one_eq_mod]
  rw [e, BitVec.toInt_eq_toNat_cond, n2]
  split <;> omega
theorem nt_shl13 {v : Int} (hv : 0 ≤ v ∧ v ≤ 200000) : zi_shl v 13 = 8192 * v := by
  have e : zi_shl v 13 = ((Int32.ofInt v).toBitVec <<< ((Int32.ofInt 13 &&& 31).toBitVec.smod 32)).toInt := rfl
  have k1 : ((Int32.ofInt 13 &&& 31).toBitVec.smod 32).toNat = 13 := by decide +kernel
  have n1 := zi_nat (x := v) (by omega)
  have n2 : ((Int32.ofInt v).toBitVec <<< ((Int32.ofInt 13 &&& 31).toBitVec.smod 32)).toNat = 8192 * v.toNat := by
    rw [BitVec.shiftLeft_eq', BitVec.toNat_shiftLeft, k1, n1, Nat.shiftLeft_eq]
    omega
  rw [e, BitVec.toInt_eq_toNat_cond, n2]
  split <;> omega
theorem nt_or13 {v k : Int} (hv : 0 ≤ v ∧ v ≤ 200000) (hk : 0 ≤ k ∧ k < 8192) : zi_or (8192 * v) k = 8192 * v + k := by
  have e : zi_or (8192 * v) k = ((Int32.ofInt (8192 * v)).toBitVec ||| (Int32.ofInt k).toBitVec).toInt := rfl
  have n2 : ((Int32.ofInt (8192 * v)).toBitVec ||| (Int32.ofInt k).toBitVec).toNat = 8192 * v.toNat + k.toNat := by
    rw [BitVec.toNat_or, zi_nat (x := 8192 * v) (by omega), zi_nat (x := k) (by omega)]
    have h := Nat.shiftLeft_add_eq_or_of_lt (b := k.toNat) (i := 13) (by omega) v.toNat
    rw [Nat.shiftLeft_eq] at h
    rw [show (8192 * v).toNat = v.toNat * 2 ^ 13 from by omega, ← h]
    omega
  rw [e, BitVec.toInt_eq_toNat_cond, n2]
  split <;> omega
theorem nt_and13 {x : Int} (h : 0 ≤ x ∧ x ≤ 2147483647) : zi_and x 8191 = x % 8192 := by
  have e : zi_and x 8191 = ((Int32.ofInt x).toBitVec &&& (Int32.ofInt 8191).toBitVec).toInt := rfl
  have n2 : ((Int32.ofInt x).toBitVec &&& (Int32.ofInt 8191).toBitVec).toNat = x.toNat % 8192 := by
    rw [BitVec.toNat_and, zi_nat h]
    have e15 : (Int32.ofInt 8191).toBitVec.toNat = 2 ^ 13 - 1 := by decide
    rw [e15, Nat.and_two_pow_sub_one_eq_mod]
  rw [e, BitVec.toInt_eq_toNat_cond, n2]
  split <;> omega
theorem nt_ushr {x : Int} (h : 0 ≤ x ∧ x ≤ 2147483647) : zi_ushr x 13 = x / 8192 := by
  have e : zi_ushr x 13 = ((Int32.ofInt x).toUInt32 >>> ((Int32.ofInt 13).toUInt32 &&& Int32.toUInt32 31)).toBitVec.toInt := rfl
  have e2 : ((Int32.ofInt 13).toUInt32 &&& Int32.toUInt32 31) = 13 := by decide +kernel
  have n0 : (Int32.ofInt x).toUInt32.toNat = x.toNat := zi_nat h
  have n1 : ((Int32.ofInt x).toUInt32 >>> (13 : UInt32)).toBitVec.toNat = x.toNat / 8192 := by
    show ((Int32.ofInt x).toUInt32 >>> (13 : UInt32)).toNat = x.toNat / 8192
    rw [UInt32.toNat_shiftRight, n0, show (13 : UInt32).toNat % 32 = 13 from by decide, Nat.shiftRight_eq_div_pow]
  rw [e, e2, BitVec.toInt_eq_toNat_cond, n1]
  split <;> omega
/-! WHAT A CARRYING COSTS, whatever lies about -/
noncomputable def zz0 : Nat → Int := fun _ => 0
theorem zz0_R {lo hi : Int} (h : lo ≤ 0 ∧ 0 ≤ hi) : zR zz0 lo hi := fun _ => h
noncomputable def EFV (ch la fo : Int) (st ex te ord od : Nat → Int) (k a b w h l : Int) : Int := match f_Judge_effort k a b w h l ch la fo st ex te ord od 0 0 0 zz0 zz0 with | some u => u.1 | none => -1
noncomputable def FOK (ch la fo : Int) (st ex te ord od row : Nat → Int) : Prop := JREL ch la fo st ex te ord od row ∧ RI row ∧ zR ord (-2147483648) 2147483647 ∧ zR od 0 424 ∧ zR te 0 99 ∧ 0 ≤ la
theorem EFV_both {ch la fo : Int} {st ex te ord od : Nat → Int} {row : Nat → Int} {k a b w h l : Int} (hF : FOK ch la fo st ex te ord od row) (hx : (0 ≤ k ∧ k < ch) ∧ (0 ≤ a ∧ a ≤ 11) ∧ (0 ≤ b ∧ b ≤ 11) ∧ (0 ≤ w ∧ w ≤ 30) ∧ (0 ≤ h ∧ h ≤ 10) ∧ (0 ≤ l ∧ l ≤ 10)) : (∀ (pi ti ba : Int) (wo pl : Nat → Int) (u : Int × Int × Int × Int × (Nat → Int) × (Nat → Int)), f_Judge_effort k a b w h l ch la fo st ex te ord od pi ti ba wo pl = some u → u.1 = EFV ch la fo st ex te ord od k a b w h l) ∧ (∀ (lw br va su : Int) (set rest : Nat → Int) (y : Int × Int × Int × Int × Int × (Nat → Int) × (Nat → Int)), f_HM_tiring k w a b h l row lw br va su set rest = some y → y.1 = EFV ch la fo st ex te ord od k a b w h l) ∧ (-1 ≤ EFV ch la fo st ex te ord od k a b w h l ∧ EFV ch la fo st ex te ord od k a b w h l ≤ 99) ∧ (EFV ch la fo st ex te ord od k a b w h l ≠ -1 → h ≠ 0 ∧ l ≤ 9 ∧ a ≠ b) := by
  obtain ⟨⟨j1, j2, j3, j4, j5, j6, j7⟩, hR, h1, h2, h3, h4⟩ := hF
  have ja := j2 k.toNat (by omega)
  have key : ∀ (pi ti ba lw br va su : Int) (wo pl set rest : Nat → Int) (u : Int × Int × Int × Int × (Nat → Int) × (Nat → Int)) (y : Int × Int × Int × Int × Int × (Nat → Int) × (Nat → Int)), f_Judge_effort k a b w h l ch la fo st ex te ord od pi ti ba wo pl = some u → f_HM_tiring k w a b h l row lw br va su set rest = some y → u.1 = y.1 := fun pi ti ba lw br va su wo pl set rest u y e d => eff_tir (ch := ch) (la := la) (fo := fo) (by omega) ⟨ja.1, (j3 _).1, (j3 _).2⟩ ⟨ja.2, (j4 _).1, (j4 _).2⟩ j5 j6 (fun hf => j7 fo.toNat (by omega)) e d
  obtain ⟨u0, e0, _⟩ := s_Judge_effort k a b w h l ch la fo st ex te ord od 0 0 0 zz0 zz0 (by omega) (by omega) (by omega) (by omega) (by omega) (by omega) (by omega) (by omega) (by omega) j3 j4 h3 h1 h2 (by decide) (by decide) (by decide) (zz0_R (by decide))
  obtain ⟨y0, d0, p0⟩ := s_HM_tiring k w a b h l row 0 0 0 0 zz0 zz0 (by omega) (by omega) (by omega) (by omega) (by omega) (by omega) hR
  have q0 := key _ _ _ _ _ _ _ _ _ _ _ _ _ e0 d0
  have ee : EFV ch la fo st ex te ord od k a b w h l = u0.1 := by
    unfold EFV
    rw [e0]
  rw [ee]
  refine ⟨fun pi ti ba wo pl u e => (key _ _ _ _ _ _ _ _ _ _ _ _ _ e d0).trans q0.symm, fun lw br va su set rest y d => (key _ _ _ _ _ _ _ _ _ _ _ _ _ e0 d).symm, ?_⟩
  rw [q0]
  exact ⟨by omega, fun n => by omega⟩
noncomputable def CNQ (ch la fo : Int) (st ex te ord od : Nat → Int) (a b w h l : Int) : Prop := ∃ k : Nat, (k : Int) < ch ∧ EFV ch la fo st ex te ord od (k : Int) a b w h l ≠ -1
noncomputable def CNp (ch la fo : Int) (st ex te ord od : Nat → Int) (p : Nat) : Prop := CNQ ch la fo st ex te ord od ((p / 12000 : Nat) : Int) ((p / 3000 % 4 : Nat) : Int) ((p / 100 % 30 + 1 : Nat) : Int) ((p / 10 % 10 + 1 : Nat) : Int) ((p % 10 : Nat) : Int)
/-- the notes: none is of a later hill; what one of this hill says is so -/
noncomputable def NOK (cg ch la fo : Int) (st ex te ord od nt : Nat → Int) : Prop := ∀ p : Nat, p < 48000 → zi_ushr (nt p) 13 ≤ cg + 1 ∧ (zi_ushr (nt p) 13 = cg + 1 → (zi_and (zi_and (nt p) 8191) 7 = 7 ↔ ¬ CNp ch la fo st ex te ord od p))
theorem NOK_up {cg cg' ch la fo ch' la' fo' : Int} {st ex te ord od st' ex' te' ord' od' nt : Nat → Int} (h : NOK cg ch la fo st ex te ord od nt) (hc : cg < cg') : NOK cg' ch' la' fo' st' ex' te' ord' od' nt := fun p hp => by
  have q := (h p hp).1
  exact ⟨by omega, fun e => by omega⟩
theorem nt_166 {ch la fo : Int} {st ex te ord od : Nat → Int} {row nt : Nat → Int} {cg a b w h l s : Int} {p : Nat} {u : Int × Int × Int × Int × (Nat → Int) × (Nat → Int) × (Nat → Int)} (hF : FOK ch la fo st ex te ord od row) (hx : (0 ≤ a ∧ a ≤ 11) ∧ (0 ≤ b ∧ b ≤ 11) ∧ (0 ≤ w ∧ w ≤ 30) ∧ (0 ≤ h ∧ h ≤ 10) ∧ (0 ≤ l ∧ l ≤ 10)) (hp : p < 48000) (hs : 0 ≤ s ∧ s ≤ 6000) : ∀ (N k : Nat) (fi be le pi ti ba : Int) (wo pl : Nat → Int), (k : Int) ≤ ch → ((fi = 7 ∧ ∀ j : Nat, j < k → EFV ch la fo st ex te ord od (j : Int) a b w h l = -1) ∨ ((0 ≤ fi ∧ fi ≤ 5) ∧ CNQ ch la fo st ex te ord od a b w h l)) → (0 ≤ be ∧ be ≤ 7) → (0 ≤ le ∧ le ≤ 99) → f_Carriers_note_166 ch la fo cg st ex te ord od N a b w h l (p : Int) s fi be le (k : Int) pi ti ba nt wo pl = some u → ∃ x : Int, u.2.2.2.2.1 = zu nt p x ∧ zi_ushr x 13 = s ∧ (zi_and (zi_and x 8191) 7 = 7 ↔ ¬ CNQ ch la fo st ex te ord od a b w h l) ∧ (u.1 = -1 ↔ ¬ CNQ ch la fo st ex te ord od a b w h l) ∧ (-1 ≤ u.1 ∧ u.1 ≤ 8191) := by
  have hc : 0 ≤ ch ∧ ch ≤ 6 := ⟨hF.1.1.1, hF.1.1.2.1⟩
  intro N
  induction N with
  | zero => intro k fi be le pi ti ba wo pl _ _ _ _ g; exact nomatch g
  | succ N ih =>
    intro k fi be le pi ti ba wo pl hk hq hb hl g
    replace g : f_Carriers_note_166_b ch la fo cg st ex te ord od (f_Carriers_note_166 ch la fo cg st ex te ord od N) a b w h l (p : Int) s fi be le (k : Int) pi ti ba nt wo pl = some u := g
    unfold f_Carriers_note_166_b at g
    have bf : 0 ≤ fi ∧ fi ≤ 7 := by rcases hq with q | q <;> omega
    rw [zwi (x := ch) (by omega), zwi (x := (k : Int)) (by omega)] at g
    by_cases c : ch ≤ (k : Int)
    · rw [if_pos c] at g
      replace g := (xp_s (xp_n (xp_n (xp_n (xp_n (xp_n (xp_n g))))))).2
      have z : (zi_w (p : Int)).toNat = p := by rw [zwi (by omega)]; omega
      rw [z, nt_shl3 (v := le) (by omega), nt_or3 (v := le) (by omega) (by omega), nt_shl3 (v := 8 * le + be) (by omega), nt_or3 (v := 8 * le + be) (by omega) (by omega), nt_shl13 (v := s) (by omega), nt_or13 (v := s) (by omega) (by omega), zwi (x := fi) (by omega), show zi_w 7 = 7 from by decide +kernel] at g
      have w1 : zi_ushr (8192 * s + (8 * (8 * le + be) + fi)) 13 = s := by rw [nt_ushr (by omega)]; omega
      have w2 : zi_and (zi_and (8192 * s + (8 * (8 * le + be) + fi)) 8191) 7 = fi := by rw [nt_and13 (by omega), nt_and3 (by omega)]; omega
      rcases hq with ⟨q1, q2⟩ | ⟨q1, q2⟩
      · rw [if_neg (fun z => z q1)] at g
        cases g
        have no : ¬ CNQ ch la fo st ex te ord od a b w h l := fun ⟨j, j1, j2⟩ => j2 (q2 j (by omega))
        exact ⟨_, rfl, w1, by rw [w2]; exact ⟨fun _ => no, fun _ => q1⟩, ⟨fun _ => no, fun _ => rfl⟩, by dsimp only; omega⟩
      · rw [if_pos (by omega)] at g
        cases g
        refine ⟨_, rfl, w1, ?_, ?_, by dsimp only; omega⟩
        · rw [w2]
          exact ⟨fun e => by omega, fun e => absurd q2 e⟩
        · show 8 * (8 * le + be) + fi = -1 ↔ _
          exact ⟨fun e => by omega, fun e => absurd q2 e⟩
    · rw [if_neg c] at g
      obtain ⟨v8, v9, v10, v11, a12, a13, e1, g⟩ := xz_d6 g
      have ev := EFV_both (k := (k : Int)) hF ⟨⟨by omega, by omega⟩, hx⟩
      have q8 := ev.1 _ _ _ _ _ _ e1
      have q8 : v8 = EFV ch la fo st ex te ord od (k : Int) a b w h l := q8
      rw [zwi (x := v8) (by omega), show zi_w (-1) = -1 from by decide +kernel] at g
      by_cases c8 : v8 = -1
      · rw [if_neg (fun z => z c8)] at g
        unfold f_Carriers_note_238 at g
        refine ih (k + 1) fi be le _ _ _ _ _ (by omega) ?_ hb hl (xp_n g)
        rcases hq with ⟨q1, q2⟩ | q
        · refine Or.inl ⟨q1, fun j hj => ?_⟩
          by_cases e : j = k
          · subst e; omega
          · exact q2 j (by omega)
        · exact Or.inr q
      · rw [if_pos c8] at g
        have cn : CNQ ch la fo st ex te ord od a b w h l := ⟨k, by omega, by omega⟩
        have go : ∀ fi' : Int, (0 ≤ fi' ∧ fi' ≤ 5) → f_Carriers_note_216 ch la fo cg st ex te ord od (f_Carriers_note_166 ch la fo cg st ex te ord od N) a b w h l (p : Int) s fi' be le (k : Int) v8 v9 v10 v11 nt a12 a13 = some u → ∃ x : Int, u.2.2.2.2.1 = zu nt p x ∧ zi_ushr x 13 = s ∧ (zi_and (zi_and x 8191) 7 = 7 ↔ ¬ CNQ ch la fo st ex te ord od a b w h l) ∧ (u.1 = -1 ↔ ¬ CNQ ch la fo st ex te ord od a b w h l) ∧ (-1 ≤ u.1 ∧ u.1 ≤ 8191) := fun fi' hf g => by
          unfold f_Carriers_note_216 at g
          rcases xp_if g with ⟨_, g⟩ | ⟨_, g⟩
          · unfold f_Carriers_note_230 f_Carriers_note_238 at g
            exact ih (k + 1) fi' _ _ _ _ _ _ _ (by omega) (Or.inr ⟨hf, cn⟩) (by omega) (by omega) (xp_n g)
          · rcases xp_if g with ⟨_, g⟩ | ⟨_, g⟩
            · unfold f_Carriers_note_238 at g
              exact ih (k + 1) fi' _ _ _ _ _ _ _ (by omega) (Or.inr ⟨hf, cn⟩) hb hl (xp_n g)
            · unfold f_Carriers_note_230 f_Carriers_note_238 at g
              exact ih (k + 1) fi' _ _ _ _ _ _ _ (by omega) (Or.inr ⟨hf, cn⟩) (by omega) (by omega) (xp_n g)
        rw [zwi (x := fi) (by omega), show zi_w 7 = 7 from by decide +kernel] at g
        by_cases c9 : fi = 7
        · rw [if_neg (fun z => z c9)] at g
          exact go _ (by omega) g
        · rw [if_pos c9] at g
          exact go _ (by omega) g
theorem nt_place {a b w h l : Nat} (hx : a ≤ 3 ∧ b ≤ 3 ∧ w ≤ 29 ∧ h ≤ 9 ∧ l ≤ 9) {p : Nat} (hp : p = (((a * 4 + b) * 30 + w) * 10 + h) * 10 + l) : p < 48000 ∧ p / 12000 = a ∧ p / 3000 % 4 = b ∧ p / 100 % 30 = w ∧ p / 10 % 10 = h ∧ p % 10 = l := by
  have h1 : p / 10 = ((a * 4 + b) * 30 + w) * 10 + h := by omega
  have h2 : p / 100 = (a * 4 + b) * 30 + w := by omega
  have h3 : p / 3000 = a * 4 + b := by omega
  have h4 : p / 12000 = a := by omega
  have h5 : p % 10 = l := by omega
  refine ⟨by omega, h4, ?_, ?_, ?_, h5⟩
  · rw [h3]; omega
  · rw [h2]; omega
  · rw [h1]; omega
theorem CNp_at {ch la fo : Int} {st ex te ord od : Nat → Int} {a b w h l : Nat} (hx : a ≤ 3 ∧ b ≤ 3 ∧ w ≤ 29 ∧ h ≤ 9 ∧ l ≤ 9) {p : Nat} (hp : p = (((a * 4 + b) * 30 + w) * 10 + h) * 10 + l) : CNp ch la fo st ex te ord od p = CNQ ch la fo st ex te ord od (a : Int) (b : Int) ((w + 1 : Nat) : Int) ((h + 1 : Nat) : Int) (l : Int) := by
  obtain ⟨_, h1, h2, h3, h4, h5⟩ := nt_place hx hp
  unfold CNp
  rw [h1, h2, h3, h4, h5]
set_option maxHeartbeats 4000000 in
theorem k_note {ch la fo : Int} {st ex te ord od : Nat → Int} {row nt wo pl : Nat → Int} {cg pi ti ba a b w h l : Int} {u : Int × Int × Int × Int × (Nat → Int) × (Nat → Int) × (Nat → Int)} (hF : FOK ch la fo st ex te ord od row) (hx : (0 ≤ a ∧ a ≤ 3) ∧ (0 ≤ b ∧ b ≤ 3) ∧ (0 ≤ w ∧ w ≤ 30) ∧ (0 ≤ h ∧ h ≤ 10) ∧ (0 ≤ l ∧ l ≤ 10)) (hcg : 0 ≤ cg ∧ cg ≤ 5000) (hN : NOK cg ch la fo st ex te ord od nt) (g : f_Carriers_note a b w h l ch la fo cg st ex te ord od pi ti ba nt wo pl = some u) : NOK cg ch la fo st ex te ord od u.2.2.2.2.1 ∧ (u.1 = -1 ↔ ¬ (a ≠ b ∧ 1 ≤ w ∧ 1 ≤ h ∧ l ≤ 9 ∧ CNQ ch la fo st ex te ord od a b w h l)) ∧ (-1 ≤ u.1 ∧ u.1 ≤ 8191) := by
  unfold f_Carriers_note at g
  rw [zwi (x := a) (by omega), zwi (x := b) (by omega), zwi (x := w) (by omega), zwi (x := h) (by omega), zwi (x := l) (by omega), show zi_w 4 = 4 from by decide +kernel, show zi_w 1 = 1 from by decide +kernel, show zi_w 30 = 30 from by decide +kernel, show zi_w 10 = 10 from by decide +kernel] at g
  rw [if_neg (by omega), if_neg (by omega), if_neg (by omega), if_neg (by omega)] at g
  by_cases c1 : a = b
  · rw [if_pos c1] at g
    cases g
    exact ⟨hN, ⟨fun _ z => z.1 c1, fun _ => rfl⟩, by dsimp only; omega⟩
  rw [if_neg c1] at g
  by_cases c2 : w < 1
  · rw [if_pos c2] at g
    cases g
    exact ⟨hN, ⟨fun _ z => by omega, fun _ => rfl⟩, by dsimp only; omega⟩
  rw [if_neg c2, if_neg (by omega)] at g
  by_cases c3 : h < 1
  · rw [if_pos c3] at g
    cases g
    exact ⟨hN, ⟨fun _ z => by omega, fun _ => rfl⟩, by dsimp only; omega⟩
  rw [if_neg c3, if_neg (by omega), if_neg (by omega)] at g
  by_cases c4 : l < 10
  rotate_left
  · rw [if_neg c4] at g
    cases g
    exact ⟨hN, ⟨fun _ z => by omega, fun _ => rfl⟩, by dsimp only; omega⟩
  rw [if_pos c4] at g
  obtain ⟨A, eA⟩ : ∃ A : Nat, a = (A : Int) := ⟨a.toNat, by omega⟩
  obtain ⟨B, eB⟩ : ∃ B : Nat, b = (B : Int) := ⟨b.toNat, by omega⟩
  obtain ⟨W, eW⟩ : ∃ W : Nat, w = ((W + 1 : Nat) : Int) := ⟨w.toNat - 1, by omega⟩
  obtain ⟨H, eH⟩ : ∃ H : Nat, h = ((H + 1 : Nat) : Int) := ⟨h.toNat - 1, by omega⟩
  obtain ⟨L, eL⟩ : ∃ L : Nat, l = (L : Int) := ⟨l.toNat, by omega⟩
  obtain ⟨p, ep⟩ : ∃ p : Nat, p = (((A * 4 + B) * 30 + W) * 10 + H) * 10 + L := ⟨_, rfl⟩
  have rg : A ≤ 3 ∧ B ≤ 3 ∧ W ≤ 29 ∧ H ≤ 9 ∧ L ≤ 9 := by omega
  have pl48 := (nt_place rg ep).1
  have cp := CNp_at (ch := ch) (la := la) (fo := fo) (st := st) (ex := ex) (te := te) (ord := ord) (od := od) rg ep
  rw [← eA, ← eB, ← eW, ← eH, ← eL] at cp
  replace g := xp_n (xp_n (xp_n (xp_n (xp_n (xp_n (xp_n (xp_n (xp_n (xp_n g)))))))))
  replace g := (xp_gd g).2
  replace g := (xp_g (xp_n (xp_n g))).2
  replace g := xp_n g
  have zp : ((((a * 4 + b) * 30 + w - 1) * 10 + h - 1) * 10 + l) = (p : Int) := by omega
  have z : (zi_w (p : Int)).toNat = p := by rw [zwi (by omega)]; omega
  have zs : zi_rem cg 524287 + 1 = cg + 1 := by rw [zi_rem_n (by omega) (by decide)]; omega
  rw [zp, z, zs] at g
  have us := zi_ushr_f (nt p) 13
  rw [zwi us, zwi (x := cg + 1) (by omega)] at g
  have hNp := hN p pl48
  by_cases c5 : zi_ushr (nt p) 13 = cg + 1
  rotate_left
  · rw [if_pos c5] at g
    obtain ⟨x, x1, x2, x3, x4, x5⟩ := nt_166 hF (a := a) (b := b) (w := w) (h := h) (l := l) (by omega) pl48 (by omega) zfu 0 7 7 0 _ _ _ _ _ hF.1.1.1 (Or.inl ⟨rfl, fun j hj => absurd hj (by omega)⟩) (by decide) (by decide) g
    refine ⟨fun q hq => ?_, ?_, x5⟩
    · rw [x1]
      by_cases e : q = p
      · subst e
        rw [zu_eq, cp]
        exact ⟨by omega, fun _ => x3⟩
      · rw [zu_ne _ _ e]
        exact hN q hq
    · rw [x4]
      exact ⟨fun n m => n m.2.2.2.2, fun n m => n ⟨c1, by omega, by omega, by omega, m⟩⟩
  · rw [if_neg (fun n => n c5)] at g
    replace g := (xp_g g).2
    replace g := xp_n g
    rw [z] at g
    obtain ⟨v17, e17, g⟩ := xz_d1 g
    have q17 : v17 = zi_and (zi_and (nt p) 8191) 7 := by
      unfold f_Carriers_lowest at e17
      replace e17 := xp_n e17
      cases e17
      rfl
    have b16 := zi_and_m (nt p) (m := 8191) (by decide)
    have b17 := zi_and_m (zi_and (nt p) 8191) (m := 7) (by decide)
    have iff := hNp.2 c5
    rw [cp] at iff
    rw [zwi (x := v17) (by omega), show zi_w 7 = 7 from by decide +kernel] at g
    by_cases c6 : v17 = 7
    · rw [if_neg (fun n => n c6)] at g
      cases g
      refine ⟨hN, ⟨fun _ m => ?_, fun _ => rfl⟩, by dsimp only; omega⟩
      exact (iff.mp (by omega)) m.2.2.2.2
    · rw [if_pos c6] at g
      cases g
      refine ⟨hN, ⟨fun e => ?_, fun n => ?_⟩, by dsimp only; omega⟩
      · have e : zi_and (nt p) 8191 = -1 := e
        omega
      · have yes : CNQ ch la fo st ex te ord od a b w h l := Classical.byContradiction (fun m => by have := iff.mpr m; omega)
        exact absurd ⟨c1, by omega, by omega, by omega, yes⟩ n
end
section
/-! THE DUEL: moves, shades, what it is worth -/
noncomputable def MVH (H : Nat → Int) (a b : Nat) : Nat → Int := zu (zu H b (H b + 1)) a (H a - 1)
noncomputable def MVW (H W : Nat → Int) (a b : Nat) : Nat → Int := zu W (10 * b + (H b).toNat) (TOPV H W a)
noncomputable def CANX (many ch la fo : Int) (st ex te ord od H W : Nat → Int) (a b : Nat) : Prop := (a : Int) < many ∧ (b : Int) < many ∧ a ≠ b ∧ 1 ≤ H a ∧ H b ≤ 9 ∧ CNQ ch la fo st ex te ord od (a : Int) (b : Int) (TOPV H W a) (H a) (H b)
noncomputable def SHV (pa : Int) (pl : Nat → Int) (many : Int) (te H : Nat → Int) : Int := match f_Hill_shades pa many pl te H with | some v => v | none => 0
noncomputable def UPD (s : Int) (r : Int × Int) (p v : Int) : Int × Int := if r.1 = -1 ∨ (if s = 0 then r.1 < v else v < r.1) then (v, p) else r
noncomputable def ACQ (C : Nat → Nat → Prop) (F : Nat → Nat → Int) (s : Int) : Nat → Int × Int
  | 0 => (-1, -1)
  | p + 1 => @ite (Int × Int) (C (p / 4) (p % 4)) (Classical.propDecidable _) (UPD s (ACQ C F s p) (p : Int) (F (p / 4) (p % 4))) (ACQ C F s p)
noncomputable def VAL (pa : Int) (pl : Nat → Int) (many ch la fo : Int) (st ex te ord od : Nat → Int) : Nat → Int → (Nat → Int) → (Nat → Int) → Int
  | 0 => fun _ H _ => SHV pa pl many te H
  | t + 1 => fun s H W => if (ACQ (CANX many ch la fo st ex te ord od H W) (fun a b => VAL pa pl many ch la fo st ex te ord od t (1 - s) (MVH H a b) (MVW H W a b)) s 16).1 = -1 then SHV pa pl many te H else (ACQ (CANX many ch la fo st ex te ord od H W) (fun a b => VAL pa pl many ch la fo st ex te ord od t (1 - s) (MVH H a b) (MVW H W a b)) s 16).1
/-- the moves looked at so far, at t + 1 turns -/
noncomputable def AT (pa : Int) (pl : Nat → Int) (many ch la fo : Int) (st ex te ord od : Nat → Int) (t : Nat) (s : Int) (H W : Nat → Int) (p : Nat) : Int × Int := ACQ (CANX many ch la fo st ex te ord od H W) (fun a b => VAL pa pl many ch la fo st ex te ord od t (1 - s) (MVH H a b) (MVW H W a b)) s p
theorem VAL_s {pa many ch la fo : Int} {st ex te ord od pl : Nat → Int} {t : Nat} {s : Int} {H W : Nat → Int} : VAL pa pl many ch la fo st ex te ord od (t + 1) s H W = if (AT pa pl many ch la fo st ex te ord od t s H W 16).1 = -1 then SHV pa pl many te H else (AT pa pl many ch la fo st ex te ord od t s H W 16).1 := rfl
theorem ACQ_y {C : Nat → Nat → Prop} {F : Nat → Nat → Int} {s : Int} {p : Nat} (h : C (p / 4) (p % 4)) : ACQ C F s (p + 1) = UPD s (ACQ C F s p) (p : Int) (F (p / 4) (p % 4)) := by
  show @ite (Int × Int) (C (p / 4) (p % 4)) (Classical.propDecidable _) _ _ = _
  rw [if_pos h]
theorem ACQ_n {C : Nat → Nat → Prop} {F : Nat → Nat → Int} {s : Int} {p : Nat} (h : ¬ C (p / 4) (p % 4)) : ACQ C F s (p + 1) = ACQ C F s p := by
  show @ite (Int × Int) (C (p / 4) (p % 4)) (Classical.propDecidable _) _ _ = _
  rw [if_neg h]
theorem ACQ_gap {C : Nat → Nat → Prop} {F : Nat → Nat → Int} {s : Int} {p : Nat} : ∀ n : Nat, (∀ q : Nat, p ≤ q → q < p + n → ¬ C (q / 4) (q % 4)) → ACQ C F s (p + n) = ACQ C F s p := by
  intro n
  induction n with
  | zero => intro _; rfl
  | succ n ih =>
    intro h
    rw [show p + (n + 1) = (p + n) + 1 from by omega, ACQ_n (h (p + n) (by omega) (by omega))]
    exact ih (fun q q1 q2 => h q q1 (by omega))
theorem ACQ_c {C C' : Nat → Nat → Prop} {F F' : Nat → Nat → Int} {s : Int} (hC : ∀ a b, C a b ↔ C' a b) (hF : ∀ a b, C a b → F a b = F' a b) : ∀ p, ACQ C F s p = ACQ C' F' s p := by
  intro p
  induction p with
  | zero => rfl
  | succ p ih =>
    by_cases c : C (p / 4) (p % 4)
    · rw [ACQ_y c, ACQ_y ((hC _ _).mp c), ih, hF _ _ c]
    · rw [ACQ_n c, ACQ_n (fun z => c ((hC _ _).mpr z)), ih]
theorem UPD_y {s p v : Int} {r : Int × Int} (c : r.1 = -1 ∨ (if s = 0 then r.1 < v else v < r.1)) : UPD s r p v = (v, p) := if_pos c
theorem UPD_n {s p v : Int} {r : Int × Int} (c : ¬ (r.1 = -1 ∨ (if s = 0 then r.1 < v else v < r.1))) : UPD s r p v = r := if_neg c
theorem UPD_r {s p v : Int} {r : Int × Int} (hv : 0 ≤ v ∧ v ≤ 60) (hr : (r.1 = -1 ∧ r.2 = -1) ∨ (0 ≤ r.1 ∧ r.1 ≤ 60)) : 0 ≤ (UPD s r p v).1 ∧ (UPD s r p v).1 ≤ 60 := by
  by_cases c : r.1 = -1 ∨ (if s = 0 then r.1 < v else v < r.1)
  · rw [UPD_y c]; exact hv
  · rw [UPD_n c]
    rcases hr with h | h
    · exact absurd (Or.inl h.1) c
    · exact h
theorem ACQ_r {C : Nat → Nat → Prop} {F : Nat → Nat → Int} {s : Int} (hF : ∀ a b, C a b → 0 ≤ F a b ∧ F a b ≤ 60) : ∀ p : Nat, ((ACQ C F s p).1 = -1 ∧ (ACQ C F s p).2 = -1 ∧ ∀ q : Nat, q < p → ¬ C (q / 4) (q % 4)) ∨ ((0 ≤ (ACQ C F s p).1 ∧ (ACQ C F s p).1 ≤ 60) ∧ (0 ≤ (ACQ C F s p).2 ∧ (ACQ C F s p).2 < (p : Int))) := by
  intro p
  induction p with
  | zero => exact Or.inl ⟨rfl, rfl, fun q h => absurd h (by omega)⟩
  | succ p ih =>
    by_cases c : C (p / 4) (p % 4)
    · have b := hF _ _ c
      rw [ACQ_y c]
      refine Or.inr ⟨UPD_r b (by rcases ih with h | h; exact Or.inl ⟨h.1, h.2.1⟩; exact Or.inr h.1), ?_⟩
      by_cases d : (ACQ C F s p).1 = -1 ∨ (if s = 0 then (ACQ C F s p).1 < F (p / 4) (p % 4) else F (p / 4) (p % 4) < (ACQ C F s p).1)
      · rw [UPD_y d]; dsimp only; omega
      · rw [UPD_n d]
        rcases ih with h | h
        · exact absurd (Or.inl h.1) d
        · omega
    · rw [ACQ_n c]
      rcases ih with ⟨h1, h2, h3⟩ | h
      · refine Or.inl ⟨h1, h2, fun q hq => ?_⟩
        by_cases e : q = p
        · subst e; exact c
        · exact h3 q (by omega)
      · exact Or.inr ⟨h.1, by omega⟩
theorem SHV_both {pa many : Int} {te pl : Nat → Int} {row H hi : Nat → Int} (hR : RI row) (hm : 0 ≤ many ∧ many ≤ 12) (em : many = row 0) (hh : zR H 0 10) (hh' : zR hi 0 10) (hP : PREL pa pl te row) (ht : zR te 0 99) (hC : ∀ c : Nat, (c : Int) < many → hi c = H c) : (∀ w, f_HM_allShades row hi = some w → w = SHV pa pl many te H) ∧ (0 ≤ SHV pa pl many te H ∧ SHV pa pl many te H ≤ 60) := by
  obtain ⟨u, e, _⟩ := s_Hill_shades pa many pl te H ⟨hP.1.1, hP.1.2.1⟩ hm hP.2.2.1 ht hh
  obtain ⟨w, d, _⟩ := s_HM_allShades row hi hR hh'
  have es : SHV pa pl many te H = u := by
    unfold SHV
    rw [e]
  have e' := e
  unfold f_Hill_shades at e'
  have key : ∀ w, f_HM_allShades row hi = some w → u = w ∧ 0 ≤ u ∧ u ≤ 60 := fun w d => by
    unfold f_HM_allShades at d
    exact shades_eq hm em hh hP hC zfu zfu 0 0 u w (by decide) (by decide) e' d
  rw [es]
  exact ⟨fun w d => (key w d).1.symm, (key w d).2⟩
theorem SHV_c {pa many : Int} {te pl : Nat → Int} {row H hi : Nat → Int} (hR : RI row) (hm : 0 ≤ many ∧ many ≤ 12) (em : many = row 0) (hh : zR H 0 10) (hh' : zR hi 0 10) (hP : PREL pa pl te row) (ht : zR te 0 99) (hC : ∀ c : Nat, (c : Int) < many → hi c = H c) : SHV pa pl many te hi = SHV pa pl many te H := by
  obtain ⟨w, d, _⟩ := s_HM_allShades row hi hR hh'
  rw [← (SHV_both hR hm em hh hh' hP ht hC).1 w d, ← (SHV_both hR hm em hh' hh' hP ht (fun _ _ => rfl)).1 w d]
theorem MVH_R {H : Nat → Int} {a b : Nat} (hh : zR H 0 10) (h1 : 1 ≤ H a) (h2 : H b ≤ 9) : zR (MVH H a b) 0 10 := fun c => by
  have q := hh c
  have qa := hh a
  have qb := hh b
  unfold MVH
  by_cases e : c = a
  · subst e; rw [zu_eq]; omega
  · rw [zu_ne _ _ e]
    by_cases d : c = b
    · subst d; rw [zu_eq]; omega
    · rw [zu_ne _ _ d]; exact q
theorem MVW_R {H W : Nat → Int} {a b : Nat} (hw : zR W 0 30) : zR (MVW H W a b) 0 30 := fun c => by
  unfold MVW
  by_cases e : c = 10 * b + (H b).toNat
  · rw [e, zu_eq]; exact TOPV_r hw a
  · rw [zu_ne _ _ e]; exact hw c
theorem MVH_alt {H : Nat → Int} {a b : Nat} (hab : a ≠ b) : zu (zu H a (H a - 1)) b (H b + 1) = MVH H a b := by
  funext c
  unfold MVH
  by_cases e : c = a
  · subst e; rw [zu_eq, zu_ne _ _ hab, zu_eq]
  · rw [zu_ne (zu H b (H b + 1)) _ e]
    by_cases d : c = b
    · subst d; rw [zu_eq, zu_eq]
    · rw [zu_ne _ _ d, zu_ne _ _ e, zu_ne _ _ d]
theorem CREL_mv {many : Int} {H W H' W' : Nat → Int} (h : CREL many H W H' W') (hh : zR H 0 10) {a b : Nat} (ha : (a : Int) < many) (hb : (b : Int) < many) (hab : a ≠ b) (h1 : 1 ≤ H a) (h2 : H b ≤ 9) : CREL many (MVH H a b) (MVW H W a b) (MVH H' a b) (MVW H' W' a b) := by
  have q := CREL_move h hh ha hb hab (by omega) (by omega)
  rw [MVH_alt hab] at q
  exact q
/-- every stone weighs something -/
noncomputable def STW (many : Int) (H W : Nat → Int) : Prop := ∀ c i : Nat, (c : Int) < many → (i : Int) < H c → 1 ≤ W (10 * c + i)
theorem STW_top {many : Int} {H W : Nat → Int} (h : STW many H W) {a : Nat} (ha : (a : Int) < many) (h1 : 1 ≤ H a) : 1 ≤ TOPV H W a := by
  unfold TOPV
  rw [if_neg (by omega)]
  exact h a _ ha (by omega)
theorem STW_mv {many : Int} {H W : Nat → Int} (h : STW many H W) (hh : zR H 0 10) {a b : Nat} (ha : (a : Int) < many) (hb : (b : Int) < many) (h1 : 1 ≤ H a) (h2 : H b ≤ 9) (hab : a ≠ b) : STW many (MVH H a b) (MVW H W a b) := fun c i hc hi => by
  have tp := STW_top h ha h1
  have qa := hh a
  have qb := hh b
  have qc := hh c
  unfold MVW
  by_cases e : 10 * c + i = 10 * b + (H b).toNat
  · rw [e, zu_eq]; exact tp
  · rw [zu_ne _ _ e]
    refine h c i hc ?_
    unfold MVH at hi
    by_cases d : c = a
    · subst d; rw [zu_eq] at hi; omega
    · rw [zu_ne _ _ d] at hi
      by_cases f : c = b
      · subst f; rw [zu_eq] at hi; omega
      · rw [zu_ne _ _ f] at hi; exact hi
theorem STW_c {many : Int} {H W H' W' : Nat → Int} (h : STW many H W) (hC : CREL many H W H' W') : STW many H' W' := fun c i hc hi => by
  rw [hC.1 c hc] at hi
  rw [hC.2 c i hc hi]
  exact h c i hc hi
theorem CREL_sym {many : Int} {H W H' W' : Nat → Int} (h : CREL many H W H' W') : CREL many H' W' H W := ⟨fun c hc => (h.1 c hc).symm, fun c i hc hi => (h.2 c i hc (by rw [← h.1 c hc]; exact hi)).symm⟩
theorem CREL_tr {many : Int} {H W H' W' H2 W2 : Nat → Int} (h : CREL many H W H' W') (g : CREL many H' W' H2 W2) : CREL many H W H2 W2 := ⟨fun c hc => (g.1 c hc).trans (h.1 c hc), fun c i hc hi => (g.2 c i hc (by rw [h.1 c hc]; exact hi)).trans (h.2 c i hc hi)⟩
theorem CANX_c {pa many ch la fo : Int} {st ex te ord od pl : Nat → Int} {H W H' W' : Nat → Int} (hC : CREL many H W H' W') (hh : zR H 0 10) (a b : Nat) : CANX many ch la fo st ex te ord od H W a b ↔ CANX many ch la fo st ex te ord od H' W' a b := by
  have key : (a : Int) < many → (b : Int) < many → H' a = H a ∧ H' b = H b ∧ TOPV H' W' a = TOPV H W a := fun ha hb => ⟨hC.1 a ha, hC.1 b hb, CREL_top hC ha (hh a).1⟩
  unfold CANX
  constructor
  · intro ⟨h1, h2, h3, h4, h5, h6⟩
    obtain ⟨k1, k2, k3⟩ := key h1 h2
    rw [k1, k2, k3]
    exact ⟨h1, h2, h3, h4, h5, h6⟩
  · intro ⟨h1, h2, h3, h4, h5, h6⟩
    obtain ⟨k1, k2, k3⟩ := key h1 h2
    rw [← k1, ← k2, ← k3]
    exact ⟨h1, h2, h3, h4, h5, h6⟩
theorem VAL_c {pa many ch la fo : Int} {st ex te ord od pl : Nat → Int} {row : Nat → Int} (hR : RI row) (hm : 0 ≤ many ∧ many ≤ 12) (em : many = row 0) (hP : PREL pa pl te row) (ht : zR te 0 99) : ∀ (t : Nat) (s : Int) (H W H' W' : Nat → Int), zR H 0 10 → zR H' 0 10 → CREL many H W H' W' → VAL pa pl many ch la fo st ex te ord od t s H W = VAL pa pl many ch la fo st ex te ord od t s H' W' ∧ (0 ≤ VAL pa pl many ch la fo st ex te ord od t s H W ∧ VAL pa pl many ch la fo st ex te ord od t s H W ≤ 60) := by
  intro t
  induction t with
  | zero =>
    intro s H W H' W' hh hh' hC
    exact ⟨(SHV_c hR hm em hh hh' hP ht hC.1).symm, (SHV_both hR hm em hh hh' hP ht hC.1).2⟩
  | succ t ih =>
    intro s H W H' W' hh hh' hC
    have bF : ∀ a b, CANX many ch la fo st ex te ord od H W a b → (VAL pa pl many ch la fo st ex te ord od t (1 - s) (MVH H a b) (MVW H W a b) = VAL pa pl many ch la fo st ex te ord od t (1 - s) (MVH H' a b) (MVW H' W' a b) ∧ (0 ≤ VAL pa pl many ch la fo st ex te ord od t (1 - s) (MVH H a b) (MVW H W a b) ∧ VAL pa pl many ch la fo st ex te ord od t (1 - s) (MVH H a b) (MVW H W a b) ≤ 60)) := fun a b hx => by
      obtain ⟨x1, x2, x3, x4, x5, _⟩ := hx
      exact ih (1 - s) _ _ _ _ (MVH_R hh x4 x5) (MVH_R hh' (by rw [hC.1 a x1]; exact x4) (by rw [hC.1 b x2]; exact x5)) (CREL_mv hC hh x1 x2 x3 x4 x5)
    have ea : AT pa pl many ch la fo st ex te ord od t s H W 16 = AT pa pl many ch la fo st ex te ord od t s H' W' 16 := ACQ_c (fun a b => CANX_c (pa := pa) (pl := pl) hC hh a b) (fun a b hx => (bF a b hx).1) 16
    have ra := ACQ_r (s := s) (fun a b hx => (bF a b hx).2) 16
    have sh := SHV_both hR hm em hh hh' hP ht hC.1
    rw [VAL_s, VAL_s, ← ea, SHV_c hR hm em hh hh' hP ht hC.1]
    refine ⟨rfl, ?_⟩
    by_cases c : (AT pa pl many ch la fo st ex te ord od t s H W 16).1 = -1
    · rw [if_pos c]; exact sh.2
    · rw [if_neg c]
      rcases ra with r | r
      · exact absurd r.1 c
      · exact r.1
theorem VAL_F {pa many ch la fo : Int} {st ex te ord od pl : Nat → Int} {row : Nat → Int} (hR : RI row) (hm : 0 ≤ many ∧ many ≤ 12) (em : many = row 0) (hP : PREL pa pl te row) (ht : zR te 0 99) {H W : Nat → Int} (hh : zR H 0 10) (t : Nat) (s : Int) : ∀ a b, CANX many ch la fo st ex te ord od H W a b → 0 ≤ VAL pa pl many ch la fo st ex te ord od t (1 - s) (MVH H a b) (MVW H W a b) ∧ VAL pa pl many ch la fo st ex te ord od t (1 - s) (MVH H a b) (MVW H W a b) ≤ 60 := fun a b hx =>
  (VAL_c hR hm em hP ht t (1 - s) _ _ _ _ (MVH_R hh hx.2.2.2.1 hx.2.2.2.2.1) (MVH_R hh hx.2.2.2.1 hx.2.2.2.2.1) ⟨fun _ _ => rfl, fun _ _ _ _ => rfl⟩).2
theorem VAL_none {pa many ch la fo : Int} {st ex te ord od pl : Nat → Int} {H W : Nat → Int} (hn : ∀ p : Nat, p < 16 → ¬ CANX many ch la fo st ex te ord od H W (p / 4) (p % 4)) : ∀ (t : Nat) (s : Int), VAL pa pl many ch la fo st ex te ord od t s H W = SHV pa pl many te H := by
  intro t s
  cases t with
  | zero => rfl
  | succ t =>
    have e : AT pa pl many ch la fo st ex te ord od t s H W 16 = (-1, -1) := ACQ_gap (p := 0) 16 (fun q _ q2 => hn q (by omega))
    rw [VAL_s, e, if_pos rfl]
theorem mv_back {many : Int} {H W W2 : Nat → Int} (hh : zR H 0 10) {a b : Nat} (ha : (a : Int) < many) (hb : (b : Int) < many) (hab : a ≠ b) (h1 : 1 ≤ H a) (h2 : H b ≤ 9) (hC : CREL many (MVH H a b) (MVW H W a b) (MVH H a b) W2) : MVH (MVH H a b) b a = H ∧ CREL many H W H (MVW (MVH H a b) W2 b a) := by
  have qa := hh a
  have qb := hh b
  have va : MVH H a b a = H a - 1 := by unfold MVH; rw [zu_eq]
  have vb : MVH H a b b = H b + 1 := by unfold MVH; rw [zu_ne _ _ (Ne.symm hab), zu_eq]
  have vc : ∀ c, c ≠ a → c ≠ b → MVH H a b c = H c := fun c c1 c2 => by unfold MVH; rw [zu_ne _ _ c1, zu_ne _ _ c2]
  refine ⟨?_, fun _ _ => rfl, fun c i hc hi => ?_⟩
  · funext c
    show zu (zu (MVH H a b) a (MVH H a b a + 1)) b (MVH H a b b - 1) c = H c
    by_cases d : c = b
    · subst d; rw [zu_eq, vb]; omega
    · rw [zu_ne _ _ d]
      by_cases e : c = a
      · subst e; rw [zu_eq, va]; omega
      · rw [zu_ne _ _ e, vc c e d]
  · have qc := hh c
    have tb : TOPV (MVH H a b) W2 b = TOPV H W a := by
      unfold TOPV
      rw [vb, if_neg (by omega), hC.2 b _ hb (by rw [vb]; omega)]
      unfold MVW
      rw [show 10 * b + (H b + 1 - 1).toNat = 10 * b + (H b).toNat from by omega, zu_eq]
      rfl
    unfold MVW at hC ⊢
    rw [tb, va]
    by_cases e : 10 * c + i = 10 * a + (H a - 1).toNat
    · rw [e, zu_eq]
      unfold TOPV
      rw [if_neg (by omega)]
    · rw [zu_ne _ _ e]
      have lv : (i : Int) < MVH H a b c := by
        by_cases ea : c = a
        · subst ea; rw [va]; omega
        · by_cases eb : c = b
          · subst eb; rw [vb]; omega
          · rw [vc c ea eb]; exact hi
      rw [hC.2 c i hc lv, zu_ne _ _ (by
        by_cases eb : c = b
        · subst eb; omega
        · omega)]
end
section
/-! THE CLASS'S SEARCH -/
noncomputable def KREL (r : Int × Int) (best f t : Int) : Prop := best = r.1 ∧ ((r.1 = -1 ∧ f = -1 ∧ t = -1) ∨ ((0 ≤ r.1 ∧ r.1 ≤ 60) ∧ (0 ≤ f ∧ f ≤ 3) ∧ (0 ≤ t ∧ t ≤ 3) ∧ r.2 = 4 * f + t))
noncomputable def SBR (pa : Int) (pl : Nat → Int) (many ch la fo : Int) (st ex te ord od : Nat → Int) (cg : Int) (t : Nat) (s : Int) (H W fr tt : Nat → Int) (o : Int × (Nat → Int) × (Nat → Int) × Int × Int × Int × (Nat → Int) × (Nat → Int) × (Nat → Int) × (Nat → Int) × (Nat → Int)) : Prop := o.1 = VAL pa pl many ch la fo st ex te ord od t s H W ∧ (1 ≤ t → KREL (AT pa pl many ch la fo st ex te ord od (t - 1) s H W 16) (AT pa pl many ch la fo st ex te ord od (t - 1) s H W 16).1 (o.2.1 t) (o.2.2.1 t)) ∧ (∀ j : Nat, t < j → o.2.1 j = fr j ∧ o.2.2.1 j = tt j) ∧ NOK cg ch la fo st ex te ord od o.2.2.2.2.2.2.1 ∧ o.2.2.2.2.2.2.2.1 = H ∧ CREL many H W H o.2.2.2.2.2.2.2.2.1 ∧ zR o.2.2.2.2.2.2.2.2.1 0 30
noncomputable def SPB (pa : Int) (pl : Nat → Int) (many ch la fo : Int) (st ex te ord od : Nat → Int) (cg : Int) (t : Nat) : Prop := ∀ (n : Nat) (s pi ti ba : Int) (H W fr tt nt wo pz : Nat → Int) (o : Int × (Nat → Int) × (Nat → Int) × Int × Int × Int × (Nat → Int) × (Nat → Int) × (Nat → Int) × (Nat → Int) × (Nat → Int)), (s = 0 ∨ s = 1) → zR H 0 10 → zR W 0 30 → STW many H W → NOK cg ch la fo st ex te ord od nt → (g_Schools_shadesBehind n).1 (t : Int) s ch pa la fo cg many st ex pl te ord od fr tt pi ti ba nt H W wo pz = some o → SBR pa pl many ch la fo st ex te ord od cg t s H W fr tt o
/-- what is kept within a turn's search -/
noncomputable def CSI (pa : Int) (pl : Nat → Int) (many ch la fo : Int) (st ex te ord od : Nat → Int) (cg : Int) (t : Nat) (s : Int) (H W fr0 tt0 : Nat → Int) (p : Nat) (best : Int) (fr tt nt W' : Nat → Int) : Prop := KREL (AT pa pl many ch la fo st ex te ord od (t - 1) s H W p) best (fr t) (tt t) ∧ (∀ j : Nat, t < j → fr j = fr0 j ∧ tt j = tt0 j) ∧ NOK cg ch la fo st ex te ord od nt ∧ CREL many H W H W' ∧ zR W' 0 30
theorem CREL_0' {many : Int} {H W : Nat → Int} : CREL many H W H W := ⟨fun _ _ => rfl, fun _ _ _ _ => rfl⟩
set_option maxHeartbeats 4000000 in
theorem cs_55 {pa many ch la fo : Int} {st ex te ord od pl : Nat → Int} {row : Nat → Int} {cg s : Int} {T n M a : Nat} {H W fr0 tt0 : Nat → Int} {o : Int × (Nat → Int) × (Nat → Int) × Int × Int × Int × (Nat → Int) × (Nat → Int) × (Nat → Int) × (Nat → Int) × (Nat → Int)} {k40 : Int → Int → Int → Int → (Nat → Int) → (Nat → Int) → Int → Int → Int → (Nat → Int) → (Nat → Int) → (Nat → Int) → (Nat → Int) → (Nat → Int) → Option (Int × (Nat → Int) × (Nat → Int) × Int × Int × Int × (Nat → Int) × (Nat → Int) × (Nat → Int) × (Nat → Int) × (Nat → Int))} (hF : FOK ch la fo st ex te ord od row) (hP : PREL pa pl te row) (em : many = row 0) (eM : many = (M : Int)) (hM : M ≤ 4) (hcg : 0 ≤ cg ∧ cg ≤ 5000) (hB : SPB pa pl many ch la fo st ex te ord od cg T) (hT : T ≤ 3) (hs : s = 0 ∨ s = 1) (hh : zR H 0 10) (hS : STW many H W) (ha : a < M) :
    ∀ (N b : Nat) (best pi ti ba : Int) (fr tt nt W' wo pz : Nat → Int), b ≤ M → CSI pa pl many ch la fo st ex te ord od cg (T + 1) s H W fr0 tt0 (4 * a + b) best fr tt nt W' → f_Schools_shadesBehind_55 (g_Schools_shadesBehind n).1 (g_Schools_shadesBehind n).2 ch pa la fo cg many st ex pl te ord od k40 N ((T + 1 : Nat) : Int) s best (a : Int) (b : Int) fr tt pi ti ba nt H W' wo pz = some o →
    ∃ (best' pi' ti' ba' : Int) (fr' tt' nt' W2 wo' pz' : Nat → Int), CSI pa pl many ch la fo st ex te ord od cg (T + 1) s H W fr0 tt0 (4 * a + M) best' fr' tt' nt' W2 ∧ k40 ((T + 1 : Nat) : Int) s best' ((a : Int) + 1) fr' tt' pi' ti' ba' nt' H W2 wo' pz' = some o := by
  have hm : 0 ≤ many ∧ many ≤ 12 := by omega
  have hR := hF.2.1
  have hte := hF.2.2.2.2.1
  intro N
  induction N with
  | zero => intro b best pi ti ba fr tt nt W' wo pz _ _ h; exact nomatch h
  | succ N ih =>
    intro b best pi ti ba fr tt nt W' wo pz hb hI h
    replace h : f_Schools_shadesBehind_55_b (g_Schools_shadesBehind n).1 (g_Schools_shadesBehind n).2 ch pa la fo cg many st ex pl te ord od k40 (f_Schools_shadesBehind_55 (g_Schools_shadesBehind n).1 (g_Schools_shadesBehind n).2 ch pa la fo cg many st ex pl te ord od k40 N) ((T + 1 : Nat) : Int) s best (a : Int) (b : Int) fr tt pi ti ba nt H W' wo pz = some o := h
    unfold f_Schools_shadesBehind_55_b at h
    rw [zwi (x := many) (by omega), zwi (x := (b : Int)) (by omega)] at h
    by_cases c : many ≤ (b : Int)
    · rw [if_pos c] at h
      have eb : b = M := by omega
      subst eb
      exact ⟨best, pi, ti, ba, fr, tt, nt, W', wo, pz, hI, xp_n h⟩
    · rw [if_neg c] at h
      obtain ⟨i1, i2, i3, i4, i5⟩ := hI
      have ha' : (a : Int) < many := by omega
      have hb' : (b : Int) < many := by omega
      have qa := hh a
      have qb := hh b
      obtain ⟨v2, e2, h⟩ := xz_d1 h
      have q2 := k_top hm hh ha' e2
      subst q2
      obtain ⟨v3, e3, h⟩ := xz_d1 h
      have q3 := k_high hm ha' e3
      subst q3
      obtain ⟨v4, e4, h⟩ := xz_d1 h
      have q4 := k_high hm hb' e4
      subst q4
      obtain ⟨v5, v6, v7, v8, a9, a10, a11, e5, h⟩ := xz_d7 h
      have tr := TOPV_r (h := H) i5 a
      have q5 := k_note hF ⟨by omega, by omega, tr, by omega, by omega⟩ hcg i3 e5
      dsimp only at q5
      obtain ⟨n1, n2, n3⟩ := q5
      have tW : TOPV H W' a = TOPV H W a := CREL_top i4 ha' qa.1
      have can : (((a : Int) ≠ (b : Int) ∧ 1 ≤ TOPV H W' a ∧ 1 ≤ H a ∧ H b ≤ 9 ∧ CNQ ch la fo st ex te ord od (a : Int) (b : Int) (TOPV H W' a) (H a) (H b)) ↔ CANX many ch la fo st ex te ord od H W a b) := by
        unfold CANX
        rw [tW]
        constructor
        · intro ⟨m1, m2, m3, m4, m5⟩
          exact ⟨ha', hb', by omega, m3, m4, m5⟩
        · intro ⟨_, _, m1, m3, m4, m5⟩
          exact ⟨by omega, STW_top hS ha' m3, m3, m4, m5⟩
      have d4 : (4 * a + b) / 4 = a := by omega
      have r4 : (4 * a + b) % 4 = b := by omega
      have t5 : (zi_w ((T + 1 : Nat) : Int)).toNat = T + 1 := by rw [zwi (by omega)]; omega
      have go : ∀ (best' pi' ti' ba' : Int) (fr' tt' nt' W2 wo' pz' : Nat → Int), CSI pa pl many ch la fo st ex te ord od cg (T + 1) s H W fr0 tt0 (4 * a + (b + 1)) best' fr' tt' nt' W2 → f_Schools_shadesBehind_167 (g_Schools_shadesBehind n).1 (g_Schools_shadesBehind n).2 ch pa la fo cg many st ex pl te ord od k40 (f_Schools_shadesBehind_55 (g_Schools_shadesBehind n).1 (g_Schools_shadesBehind n).2 ch pa la fo cg many st ex pl te ord od k40 N) ((T + 1 : Nat) : Int) s best' (a : Int) (b : Int) fr' tt' pi' ti' ba' nt' H W2 wo' pz' = some o → ∃ (best' pi' ti' ba' : Int) (fr' tt' nt' W2 wo' pz' : Nat → Int), CSI pa pl many ch la fo st ex te ord od cg (T + 1) s H W fr0 tt0 (4 * a + M) best' fr' tt' nt' W2 ∧ k40 ((T + 1 : Nat) : Int) s best' ((a : Int) + 1) fr' tt' pi' ti' ba' nt' H W2 wo' pz' = some o := fun best' pi' ti' ba' fr' tt' nt' W2 wo' pz' hI' h' => by
        unfold f_Schools_shadesBehind_167 at h'
        exact ih (b + 1) best' pi' ti' ba' fr' tt' nt' W2 wo' pz' (by omega) hI' (xp_n h')
      rw [zwi (x := v5) (by omega), show zi_w (-1) = -1 from by decide +kernel] at h
      rcases xp_if h with ⟨c5, h⟩ | ⟨c5, h⟩
      · -- carried
        have cx : CANX many ch la fo st ex te ord od H W a b := can.mp (Classical.byContradiction (fun m => by
          exact c5 (n2.mpr m)))
        obtain ⟨v12, a13, a14, v15, v16, v17, a18, a19, a20, a21, a22, e6, h⟩ := xz_d11 h
        cases n with
        | zero => exact nomatch e6
        | succ n =>
          have e6 : fb_Schools_shadesCarried (g_Schools_shadesBehind n).1 (g_Schools_shadesBehind n).2 ((T + 1 : Nat) : Int) s (a : Int) (b : Int) ch pa la fo cg many st ex pl te ord od fr tt v6 v7 v8 a9 H W' a10 a11 = some (v12, a13, a14, v15, v16, v17, a18, a19, a20, a21, a22) := e6
          unfold fb_Schools_shadesCarried at e6
          obtain ⟨p1, p2, f1, e6⟩ := xz_d2 e6
          have cx' := cx
          obtain ⟨_, _, x3, x4, x5, _⟩ := cx'
          have g1 := k_move hm hh ha' hb' x3 (by omega) (by omega) f1
          cases g1
          replace e6 := xp_n (xp_n e6)
          obtain ⟨w5, w6, w7, w8, w9, w10, w11, w12, w13, w14, w15, f2, e6⟩ := xz_d11 e6
          rw [show ((T + 1 : Nat) : Int) - 1 = (T : Int) from by omega] at f2
          have hS' : STW many H W' := STW_c hS i4
          have q6 := hB n (1 - s) _ _ _ (MVH H a b) (MVW H W' a b) _ _ _ _ _ _ (by omega) (MVH_R hh x4 x5) (MVW_R i5) (STW_mv hS' hh ha' hb' x4 x5 x3) n1 f2
          unfold SBR at q6
          dsimp only at q6
          obtain ⟨s1, _, s3, s4, s5, s6, s7⟩ := q6
          obtain ⟨p3, p4, f3, e6⟩ := xz_d2 e6
          cases e6
          rw [s5] at f3
          have va : MVH H a b a = H a - 1 := by unfold MVH; rw [zu_eq]
          have vb : MVH H a b b = H b + 1 := by unfold MVH; rw [zu_ne _ _ (Ne.symm x3), zu_eq]
          have g3 := k_move hm (MVH_R hh x4 x5) hb' ha' (Ne.symm x3) (by rw [vb]; omega) (by rw [va]; omega) f3
          have back := mv_back (W := W') (W2 := w13) hh ha' hb' x3 x4 x5 s6
          have g3' : a19 = H ∧ a20 = MVW (MVH H a b) w13 b a := by
            have z1 : a19 = MVH (MVH H a b) b a := congrArg Prod.fst g3
            have z2 : a20 = MVW (MVH H a b) w13 b a := congrArg Prod.snd g3
            exact ⟨z1.trans back.1, z2⟩
          obtain ⟨y1, y2⟩ := g3'
          have vv := VAL_c (ch := ch) (la := la) (fo := fo) (st := st) (ex := ex) (ord := ord) (od := od) hR hm em hP hte T (1 - s) _ _ _ _ (MVH_R hh x4 x5) (MVH_R hh x4 x5) (CREL_mv i4 hh ha' hb' x3 x4 x5)
          have ev : v12 = VAL pa pl many ch la fo st ex te ord od T (1 - s) (MVH H a b) (MVW H W a b) := s1.trans vv.1.symm
          have bv := vv.2
          rw [← ev] at bv
          have stq := ACQ_y (C := CANX many ch la fo st ex te ord od H W) (F := fun a b => VAL pa pl many ch la fo st ex te ord od T (1 - s) (MVH H a b) (MVW H W a b)) (s := s) (p := 4 * a + b) (by rw [d4, r4]; exact cx)
          rw [d4, r4] at stq
          try dsimp only at stq
          rw [← ev] at stq
          have at1 : AT pa pl many ch la fo st ex te ord od (T + 1 - 1) s H W (4 * a + (b + 1)) = UPD s (AT pa pl many ch la fo st ex te ord od (T + 1 - 1) s H W (4 * a + b)) ((4 * a + b : Nat) : Int) v12 := stq
          have fr1 := s3 (T + 1) (by omega)
          have C2 : CREL many H W H a20 := by rw [y2]; exact CREL_tr i4 back.2
          have R2 : zR a20 0 30 := by rw [y2]; exact MVW_R s7
          have fj : ∀ j : Nat, T + 1 < j → a13 j = fr0 j ∧ a14 j = tt0 j := fun j hj => by
            have z := s3 j (by omega)
            have z2 := i2 j hj
            exact ⟨z.1.trans z2.1, z.2.trans z2.2⟩
          rw [y1] at h
          obtain ⟨k1, k2⟩ := i1
          have k1' : best = (AT pa pl many ch la fo st ex te ord od (T + 1 - 1) s H W (4 * a + b)).1 := k1
          have bb : -1 ≤ best ∧ best ≤ 60 := by rcases k2 with z | z <;> omega
          have keep : ¬ (best = -1 ∨ (if s = 0 then best < v12 else v12 < best)) → CSI pa pl many ch la fo st ex te ord od cg (T + 1) s H W fr0 tt0 (4 * a + (b + 1)) best a13 a14 a18 a20 := fun no => by
            refine ⟨?_, fj, s4, C2, R2⟩
            rw [at1]
            unfold UPD
            rw [← k1', if_neg no]
            rw [fr1.1, fr1.2]
            exact ⟨k1, k2⟩
          have take : (best = -1 ∨ (if s = 0 then best < v12 else v12 < best)) → f_Schools_shadesBehind_148 (g_Schools_shadesBehind (n + 1)).1 (g_Schools_shadesBehind (n + 1)).2 ch pa la fo cg many st ex pl te ord od k40 (f_Schools_shadesBehind_55 (g_Schools_shadesBehind (n + 1)).1 (g_Schools_shadesBehind (n + 1)).2 ch pa la fo cg many st ex pl te ord od k40 N) ((T + 1 : Nat) : Int) s (a : Int) (b : Int) v12 a13 a14 v15 v16 v17 a18 H a20 a21 a22 = some o → ∃ (best' pi' ti' ba' : Int) (fr' tt' nt' W2 wo' pz' : Nat → Int), CSI pa pl many ch la fo st ex te ord od cg (T + 1) s H W fr0 tt0 (4 * a + M) best' fr' tt' nt' W2 ∧ k40 ((T + 1 : Nat) : Int) s best' ((a : Int) + 1) fr' tt' pi' ti' ba' nt' H W2 wo' pz' = some o := fun yes h => by
            unfold f_Schools_shadesBehind_148 at h
            replace h := (xp_s (xp_s h).2).2
            rw [t5] at h
            refine go _ _ _ _ _ _ _ _ _ _ ⟨?_, fun j hj => ?_, s4, C2, R2⟩ h
            · rw [at1]
              unfold UPD
              rw [← k1', if_pos yes, zu_eq, zu_eq]
              exact ⟨rfl, Or.inr ⟨bv, by omega, by omega, by dsimp only; omega⟩⟩
            · rw [zu_ne _ _ (by omega), zu_ne _ _ (by omega)]
              exact fj j hj
          rw [zwi (x := best) (by omega)] at h
          by_cases c6 : best = -1
          · rw [if_pos c6] at h
            exact take (Or.inl c6) h
          rw [if_neg c6, zwi (x := s) (by omega), zwi (x := v12) (by omega)] at h
          rcases hs with hs0 | hs1
          · rw [if_neg (fun z => z hs0)] at h
            by_cases c7 : v12 ≤ best
            · rw [if_pos c7] at h
              exact go _ _ _ _ _ _ _ _ _ _ (keep (fun z => by rw [if_pos hs0] at z; omega)) h
            · rw [if_neg c7] at h
              exact take (Or.inr (by rw [if_pos hs0]; omega)) h
          · rw [if_pos (by omega)] at h
            by_cases c7 : best ≤ v12
            · rw [if_pos c7] at h
              exact go _ _ _ _ _ _ _ _ _ _ (keep (fun z => by rw [if_neg (by omega)] at z; omega)) h
            · rw [if_neg c7] at h
              exact take (Or.inr (by rw [if_neg (by omega)]; omega)) h
      · have cx : ¬ CANX many ch la fo st ex te ord od H W a b := fun z => (n2.mp (Classical.not_not.mp c5)) (can.mpr z)
        have stq := ACQ_n (C := CANX many ch la fo st ex te ord od H W) (F := fun a b => VAL pa pl many ch la fo st ex te ord od T (1 - s) (MVH H a b) (MVW H W a b)) (s := s) (p := 4 * a + b) (by rw [d4, r4]; exact cx)
        have at1 : AT pa pl many ch la fo st ex te ord od (T + 1 - 1) s H W (4 * a + (b + 1)) = AT pa pl many ch la fo st ex te ord od (T + 1 - 1) s H W (4 * a + b) := stq
        exact go _ _ _ _ _ _ _ _ _ _ ⟨by rw [at1]; exact i1, i2, n1, i4, i5⟩ h
theorem cs_40 {pa many ch la fo : Int} {st ex te ord od pl : Nat → Int} {row : Nat → Int} {cg s : Int} {T n M : Nat} {H W fr0 tt0 : Nat → Int} {o : Int × (Nat → Int) × (Nat → Int) × Int × Int × Int × (Nat → Int) × (Nat → Int) × (Nat → Int) × (Nat → Int) × (Nat → Int)} (hF : FOK ch la fo st ex te ord od row) (hP : PREL pa pl te row) (em : many = row 0) (eM : many = (M : Int)) (hM : M ≤ 4) (hcg : 0 ≤ cg ∧ cg ≤ 5000) (hB : SPB pa pl many ch la fo st ex te ord od cg T) (hT : T ≤ 3) (hs : s = 0 ∨ s = 1) (hh : zR H 0 10) (hS : STW many H W) :
    ∀ (N a : Nat) (best pi ti ba : Int) (fr tt nt W' wo pz : Nat → Int), a ≤ M → CSI pa pl many ch la fo st ex te ord od cg (T + 1) s H W fr0 tt0 (4 * a) best fr tt nt W' → f_Schools_shadesBehind_40 (g_Schools_shadesBehind n).1 (g_Schools_shadesBehind n).2 ch pa la fo cg many st ex pl te ord od N ((T + 1 : Nat) : Int) s best (a : Int) fr tt pi ti ba nt H W' wo pz = some o → SBR pa pl many ch la fo st ex te ord od cg (T + 1) s H W fr0 tt0 o := by
  have hm : 0 ≤ many ∧ many ≤ 12 := by omega
  have gap : ∀ p n : Nat, (∀ q : Nat, p ≤ q → q < p + n → ¬ (((q / 4 : Nat) : Int) < many ∧ ((q % 4 : Nat) : Int) < many)) → AT pa pl many ch la fo st ex te ord od (T + 1 - 1) s H W (p + n) = AT pa pl many ch la fo st ex te ord od (T + 1 - 1) s H W p := fun p n hq => ACQ_gap n (fun q q1 q2 z => hq q q1 q2 ⟨z.1, z.2.1⟩)
  intro N
  induction N with
  | zero => intro a best pi ti ba fr tt nt W' wo pz _ _ h; exact nomatch h
  | succ N ih =>
    intro a best pi ti ba fr tt nt W' wo pz ha hI h
    replace h : f_Schools_shadesBehind_40_b (g_Schools_shadesBehind n).1 (g_Schools_shadesBehind n).2 ch pa la fo cg many st ex pl te ord od (f_Schools_shadesBehind_40 (g_Schools_shadesBehind n).1 (g_Schools_shadesBehind n).2 ch pa la fo cg many st ex pl te ord od N) ((T + 1 : Nat) : Int) s best (a : Int) fr tt pi ti ba nt H W' wo pz = some o := h
    unfold f_Schools_shadesBehind_40_b at h
    rw [zwi (x := many) (by omega), zwi (x := (a : Int)) (by omega)] at h
    by_cases c : many ≤ (a : Int)
    · rw [if_pos c] at h
      obtain ⟨i1, i2, i3, i4, i5⟩ := hI
      have ea : a = M := by omega
      have g := gap (4 * a) (16 - 4 * a) (fun q q1 q2 z => by omega)
      rw [show 4 * a + (16 - 4 * a) = 16 from by omega] at g
      rw [← g] at i1
      obtain ⟨k1, k2⟩ := i1
      have k1' : best = (AT pa pl many ch la fo st ex te ord od (T + 1 - 1) s H W 16).1 := k1
      have kk : KREL (AT pa pl many ch la fo st ex te ord od (T + 1 - 1) s H W 16) (AT pa pl many ch la fo st ex te ord od (T + 1 - 1) s H W 16).1 (fr (T + 1)) (tt (T + 1)) := ⟨rfl, k2⟩
      have bb : -1 ≤ best ∧ best ≤ 60 := by rcases k2 with z | z <;> omega
      rw [zwi (x := best) (by omega), show zi_w (-1) = -1 from by decide +kernel] at h
      have vs : VAL pa pl many ch la fo st ex te ord od (T + 1) s H W = if best = -1 then SHV pa pl many te H else best := by
        have e : (AT pa pl many ch la fo st ex te ord od T s H W 16).1 = best := k1'.symm
        rw [VAL_s, e]
      by_cases c6 : best = -1
      · rw [if_neg (fun z => z c6)] at h
        obtain ⟨v1, e1, h⟩ := xz_d1 h
        cases h
        refine ⟨?_, fun _ => kk, i2, i3, rfl, i4, i5⟩
        show v1 = _
        rw [vs, if_pos c6]
        unfold SHV
        rw [e1]
      · rw [if_pos c6] at h
        cases h
        refine ⟨?_, fun _ => kk, i2, i3, rfl, i4, i5⟩
        show best = _
        rw [vs, if_neg c6]
    · rw [if_neg c] at h
      obtain ⟨best', pi', ti', ba', fr', tt', nt', W2, wo', pz', j1, j2⟩ := cs_55 hF hP em eM hM hcg hB hT hs hh hS (by omega) zfu 0 _ _ _ _ _ _ _ _ _ _ (by omega) hI h
      refine ih (a + 1) _ _ _ _ _ _ _ _ _ _ (by omega) ?_ j2
      obtain ⟨i1, i2⟩ := j1
      refine ⟨?_, i2⟩
      have g := gap (4 * a + M) (4 - M) (fun q q1 q2 z => by omega)
      rw [show 4 * a + M + (4 - M) = 4 * (a + 1) from by omega] at g
      rw [g]
      exact i1
theorem cs_all {pa many ch la fo : Int} {st ex te ord od pl : Nat → Int} {row : Nat → Int} {cg : Int} {M : Nat} (hF : FOK ch la fo st ex te ord od row) (hP : PREL pa pl te row) (em : many = row 0) (eM : many = (M : Int)) (hM : M ≤ 4) (hcg : 0 ≤ cg ∧ cg ≤ 5000) : ∀ t : Nat, t ≤ 4 → SPB pa pl many ch la fo st ex te ord od cg t := by
  intro t
  induction t with
  | zero =>
    intro _ n s pi ti ba H W fr tt nt wo pz o hs hh hw hS hN h
    cases n with
    | zero => exact nomatch h
    | succ n =>
      replace h : fb_Schools_shadesBehind (g_Schools_shadesBehind n).1 (g_Schools_shadesBehind n).2 ((0 : Nat) : Int) s ch pa la fo cg many st ex pl te ord od fr tt pi ti ba nt H W wo pz = some o := h
      unfold fb_Schools_shadesBehind at h
      replace h := xp_t (by decide +kernel) h
      unfold f_Schools_shadesBehind_9 at h
      obtain ⟨v1, e1, h⟩ := xz_d1 h
      cases h
      refine ⟨?_, fun z => absurd z (by omega), fun j _ => ⟨rfl, rfl⟩, hN, rfl, CREL_0', hw⟩
      show v1 = SHV pa pl many te H
      unfold SHV
      rw [e1]
  | succ T ih =>
    intro hT n s pi ti ba H W fr tt nt wo pz o hs hh hw hS hN h
    cases n with
    | zero => exact nomatch h
    | succ n =>
      replace h : fb_Schools_shadesBehind (g_Schools_shadesBehind n).1 (g_Schools_shadesBehind n).2 ((T + 1 : Nat) : Int) s ch pa la fo cg many st ex pl te ord od fr tt pi ti ba nt H W wo pz = some o := h
      unfold fb_Schools_shadesBehind at h
      rw [zwi (x := ((T + 1 : Nat) : Int)) (by omega), show zi_w 4 = 4 from by decide +kernel, if_neg (by omega), if_pos (by omega)] at h
      replace h := (xp_s (xp_s h).2).2
      have t5 : (zi_w ((T + 1 : Nat) : Int)).toNat = T + 1 := by rw [zwi (by omega)]; omega
      rw [t5] at h
      refine cs_40 hF hP em eM hM hcg (ih (by omega)) (by omega) hs hh hS zfu 0 (-1) _ _ _ _ _ _ _ _ _ (by omega) ⟨?_, fun j hj => ?_, hN, CREL_0', hw⟩ h
      · rw [zu_eq, zu_eq]
        exact ⟨rfl, Or.inl ⟨rfl, rfl, rfl⟩⟩
      · rw [zu_ne _ _ (by omega), zu_ne _ _ (by omega)]
        exact ⟨rfl, rfl⟩
end
section
/-! THE REFERENCE'S SEARCH -/
theorem CNQ_no {ch la fo : Int} {st ex te ord od : Nat → Int} {row : Nat → Int} {a b w h l : Int} (hF : FOK ch la fo st ex te ord od row) (hx : (0 ≤ a ∧ a ≤ 11) ∧ (0 ≤ b ∧ b ≤ 11) ∧ (0 ≤ w ∧ w ≤ 30) ∧ (0 ≤ h ∧ h ≤ 10) ∧ (0 ≤ l ∧ l ≤ 10)) (hc : CNQ ch la fo st ex te ord od a b w h l) : h ≠ 0 ∧ l ≤ 9 ∧ a ≠ b := by
  obtain ⟨k, k1, k2⟩ := hc
  exact (EFV_both (k := (k : Int)) hF ⟨⟨by omega, k1⟩, hx⟩).2.2.2 k2
theorem r_car14 {pa many ch la fo : Int} {st ex te ord od pl : Nat → Int} {row hi he : Nat → Int} {a b : Nat} {w : Int × Int × Int × Int × Int × (Nat → Int) × (Nat → Int)} (hF : FOK ch la fo st ex te ord od row) (em : many = row 0) (hm : 0 ≤ many ∧ many ≤ 12) (ha : a < 4) (hb : b < 4) (hh : zR hi 0 10) (hw : zR he 0 30) : ∀ (N k : Nat) (can : Int) (lw br va su : Int) (set rest : Nat → Int), (k : Int) ≤ ch → ((can = 0 ∧ ∀ j : Nat, j < k → EFV ch la fo st ex te ord od (j : Int) (a : Int) (b : Int) (TOPV hi he a) (hi a) (hi b) = -1) ∨ (can = 1 ∧ CANX many ch la fo st ex te ord od hi he a b)) → f_HM_isCarried_14 row hi he N (a : Int) (b : Int) can (k : Int) lw br va su set rest = some w → (w.1 = 1 ∧ CANX many ch la fo st ex te ord od hi he a b) ∨ (w.1 = 0 ∧ ¬ CANX many ch la fo st ex te ord od hi he a b) := by
  have hc : 0 ≤ ch ∧ ch ≤ 6 := ⟨hF.1.1.1, hF.1.1.2.1⟩
  have ec : row (zi_w 1).toNat = ch := hF.1.1.2.2.symm
  have qa := hh a
  have qb := hh b
  have tr := TOPV_r (h := hi) hw a
  have fin : ∀ {can : Int} {o : Int × Int × Int × Int × Int × (Nat → Int) × (Nat → Int)} (lw br va su : Int) (set rest : Nat → Int), (can = 0 ∨ can = 1) → (if ¬ (zi_w can = 0 ∨ zi_w can = 1) then none else some (can, lw, br, va, su, set, rest)) = some o → o.1 = can := fun lw br va su set rest h e => by
    rcases h with h | h <;> subst h
    · replace e := xp_f (by decide +kernel) e; cases e; rfl
    · replace e := xp_f (by decide +kernel) e; cases e; rfl
  intro N
  induction N with
  | zero => intro k can lw br va su set rest _ _ h; exact nomatch h
  | succ N ih =>
    intro k can lw br va su set rest hk hI h
    replace h : f_HM_isCarried_14_b row hi he (f_HM_isCarried_14 row hi he N) (a : Int) (b : Int) can (k : Int) lw br va su set rest = some w := h
    unfold f_HM_isCarried_14_b at h
    have c01 : can = 0 ∨ can = 1 := by rcases hI with q | q; exact Or.inl q.1; exact Or.inr q.1
    replace h := (xp_g h).2
    rw [ec, zwi (x := ch) (by omega), zwi (x := (k : Int)) (by omega)] at h
    by_cases c : ch ≤ (k : Int)
    · rw [if_pos c] at h
      have e := fin _ _ _ _ _ _ c01 h
      rcases hI with ⟨q1, q2⟩ | ⟨q1, q2⟩
      · exact Or.inr ⟨e.trans q1, fun ⟨_, _, _, _, _, j, j1, j2⟩ => j2 (q2 j (by omega))⟩
      · exact Or.inl ⟨e.trans q1, q2⟩
    rw [if_neg c] at h
    obtain ⟨v2, d2, h⟩ := xz_d1 h
    have g2 := r_columns d2
    rw [← em] at g2
    subst g2
    rw [zwi (x := v2) (by omega), zwi (x := (a : Int)) (by omega)] at h
    by_cases c2 : v2 ≤ (a : Int)
    · rw [if_pos c2] at h
      have e := fin _ _ _ _ _ _ c01 h
      rcases hI with ⟨q1, q2⟩ | ⟨q1, q2⟩
      · exact Or.inr ⟨e.trans q1, fun z => by have := z.1; omega⟩
      · exact Or.inl ⟨e.trans q1, q2⟩
    rw [if_neg c2] at h
    obtain ⟨v3, d3, h⟩ := xz_d1 h
    have g3 := r_columns d3
    rw [← em] at g3
    subst g3
    rw [zwi (x := v3) (by omega), zwi (x := (b : Int)) (by omega)] at h
    by_cases c3 : v3 ≤ (b : Int)
    · rw [if_pos c3] at h
      have e := fin _ _ _ _ _ _ c01 h
      rcases hI with ⟨q1, q2⟩ | ⟨q1, q2⟩
      · exact Or.inr ⟨e.trans q1, fun z => by have := z.2.1; omega⟩
      · exact Or.inl ⟨e.trans q1, q2⟩
    rw [if_neg c3] at h
    rcases hI with ⟨q1, q2⟩ | ⟨q1, q2⟩
    · subst q1
      replace h := xp_f (by decide +kernel) h
      obtain ⟨v4, v5, v6, v7, v8, a9, a10, d4, h⟩ := xz_d7 h
      unfold f_HM_carrying at d4
      obtain ⟨w1, e1, d4⟩ := xz_d1 d4
      have p1 := r_top (by omega) qa e1
      subst p1
      replace d4 := (xp_g (xp_g d4).2).2
      rw [zwi (x := (a : Int)) (by omega), zwi (x := (b : Int)) (by omega), Int.toNat_natCast, Int.toNat_natCast] at d4
      obtain ⟨w4, w5, w6, w7, w8, b9, b10, e4, d4⟩ := xz_d7 d4
      cases d4
      have ev := EFV_both (k := (k : Int)) (a := (a : Int)) (b := (b : Int)) hF ⟨⟨by omega, by omega⟩, ⟨by omega, by omega⟩, ⟨by omega, by omega⟩, tr, qa, qb⟩
      have q4 : v4 = _ := ev.2.1 _ _ _ _ _ _ _ e4
      rw [zwi (x := v4) (by omega), show zi_w (-1) = -1 from by decide +kernel] at h
      by_cases c4 : v4 = -1
      · rw [if_pos c4] at h
        unfold f_HM_isCarried_63 at h
        refine ih (k + 1) _ _ _ _ _ _ _ (by omega) (Or.inl ⟨rfl, fun j hj => ?_⟩) (xp_n h)
        by_cases e : j = k
        · subst e; omega
        · exact q2 j (by omega)
      · rw [if_neg c4] at h
        unfold f_HM_isCarried_58 f_HM_isCarried_63 at h
        have n4 := ev.2.2.2 (by omega)
        exact ih (k + 1) _ _ _ _ _ _ _ (by omega) (Or.inr ⟨rfl, by omega, by omega, by omega, by omega, n4.2.1, k, by omega, by omega⟩) (xp_n h)
    · subst q1
      replace h := xp_t (by decide +kernel) h
      unfold f_HM_isCarried_58 f_HM_isCarried_63 at h
      exact ih (k + 1) _ _ _ _ _ _ _ (by omega) (Or.inr ⟨rfl, q2⟩) (xp_n h)
theorem r_carried {pa many ch la fo : Int} {st ex te ord od pl : Nat → Int} {row hi he : Nat → Int} {m : Nat} {w : Int × Int × Int × Int × Int × (Nat → Int) × (Nat → Int)} {lw br va su : Int} {set rest : Nat → Int} (hF : FOK ch la fo st ex te ord od row) (em : many = row 0) (hm : 0 ≤ many ∧ many ≤ 12) (h16 : m < 16) (hh : zR hi 0 10) (hw : zR he 0 30) (h : f_HM_isCarried (m : Int) row hi he lw br va su set rest = some w) : (w.1 = 1 ∧ CANX many ch la fo st ex te ord od hi he (m / 4) (m % 4)) ∨ (w.1 = 0 ∧ ¬ CANX many ch la fo st ex te ord od hi he (m / 4) (m % 4)) := by
  unfold f_HM_isCarried at h
  replace h := xp_n (xp_gd h).2
  replace h := xp_n (xp_gd h).2
  rw [zi_div_n (by omega) (by decide), zi_rem_n (by omega) (by decide), show (m : Int) / 4 = ((m / 4 : Nat) : Int) from by omega, show (m : Int) % 4 = ((m % 4 : Nat) : Int) from by omega] at h
  exact r_car14 (pa := pa) (pl := pl) hF em hm (by omega) (by omega) hh hw zfu 0 0 _ _ _ _ _ _ hF.1.1.1 (Or.inl ⟨rfl, fun j hj => absurd hj (by omega)⟩) h
/-- what the next move is, from the m-th on -/
noncomputable def NMR (many ch la fo : Int) (st ex te ord od hi he : Nat → Int) (m : Nat) (bd td : Int) (x : Int) : Prop := (∃ y : Nat, y < 16 ∧ x = (y : Int) ∧ m ≤ y ∧ CANX many ch la fo st ex te ord od hi he (y / 4) (y % 4) ∧ ∀ j : Nat, m ≤ j → j < y → ¬ CANX many ch la fo st ex te ord od hi he (j / 4) (j % 4)) ∨ ((∀ j : Nat, m ≤ j → j < 16 → ¬ CANX many ch la fo st ex te ord od hi he (j / 4) (j % 4)) ∧ x = if bd = -1000 ∧ td < 16 then 17 else if m < 16 then 16 else (m : Int))
theorem r_next9 {pa many ch la fo : Int} {st ex te ord od pl : Nat → Int} {row hi he tried bests : Nat → Int} {d : Nat} {w : Int × Int × Int × Int × Int × (Nat → Int) × (Nat → Int)} (hF : FOK ch la fo st ex te ord od row) (em : many = row 0) (hm : 0 ≤ many ∧ many ≤ 12) (hh : zR hi 0 10) (hw : zR he 0 30) (hd : d < 5) (hbd : -1000 ≤ bests d ∧ bests d ≤ 60) (htd : -1 ≤ tried d ∧ tried d ≤ 17) : ∀ (N m : Nat) (lw br va su : Int) (set rest : Nat → Int), m ≤ 18 → f_HM_nextMove_9 row hi he tried bests N (d : Int) (m : Int) lw br va su set rest = some w → NMR many ch la fo st ex te ord od hi he m (bests d) (tried d) w.1 := by
  have zd : (zi_w (d : Int)).toNat = d := by rw [zwi (by omega)]; omega
  intro N
  induction N with
  | zero => intro m lw br va su set rest _ h; exact nomatch h
  | succ N ih =>
    intro m lw br va su set rest hm18 h
    replace h : f_HM_nextMove_9_b row hi he tried bests (f_HM_nextMove_9 row hi he tried bests N) (d : Int) (m : Int) lw br va su set rest = some w := h
    unfold f_HM_nextMove_9_b at h
    rw [show zi_w 16 = 16 from by decide +kernel, zwi (x := (m : Int)) (by omega)] at h
    by_cases c : (16 : Int) ≤ (m : Int)
    · rw [if_pos c] at h
      unfold f_HM_nextMove_29 at h
      rw [show zi_w 16 = 16 from by decide +kernel, zwi (x := (m : Int)) (by omega), if_neg (by omega)] at h
      replace h := (xp_g h).2
      rw [zd, zwi (x := bests d) (by omega), show zi_w (-1000) = -1000 from by decide +kernel] at h
      refine Or.inr ⟨fun j j1 j2 => by omega, ?_⟩
      by_cases c1 : bests d = -1000
      · rw [if_neg (fun z => z c1)] at h
        replace h := (xp_g h).2
        rw [zd, zwi (x := tried d) (by omega)] at h
        by_cases c2 : (16 : Int) ≤ tried d
        · rw [if_pos c2] at h
          cases h
          rw [if_neg (by omega), if_neg (by omega)]
        · rw [if_neg c2] at h
          cases h
          rw [if_pos (by omega)]
      · rw [if_pos c1] at h
        cases h
        rw [if_neg (fun z => c1 z.1), if_neg (by omega)]
    · rw [if_neg c] at h
      obtain ⟨v1, v2, v3, v4, v5, a6, a7, e1, h⟩ := xz_d7 h
      rcases r_carried (pa := pa) (pl := pl) hF em hm (by omega) hh hw e1 with ⟨q1, q2⟩ | ⟨q1, q2⟩
      · have q1 : v1 = 1 := q1
        subst q1
        replace h := xp_t (by decide +kernel) h
        unfold f_HM_nextMove_29 at h
        rw [show zi_w 16 = 16 from by decide +kernel, zwi (x := (m : Int)) (by omega), if_pos (by omega)] at h
        cases h
        exact Or.inl ⟨m, by omega, rfl, Nat.le_refl _, q2, fun j j1 j2 => by omega⟩
      · have q1 : v1 = 0 := q1
        subst q1
        replace h := xp_f (by decide +kernel) h
        have r := ih (m + 1) _ _ _ _ _ _ (by omega) (xp_n h)
        have no : ∀ j : Nat, m ≤ j → (m + 1 ≤ j → ¬ CANX many ch la fo st ex te ord od hi he (j / 4) (j % 4)) → ¬ CANX many ch la fo st ex te ord od hi he (j / 4) (j % 4) := fun j j1 j2 => by
          by_cases e : j = m
          · subst e; exact q2
          · exact j2 (by omega)
        rcases r with ⟨y, y1, y2, y3, y4, y5⟩ | ⟨y1, y2⟩
        · exact Or.inl ⟨y, y1, y2, by omega, y4, fun j j1 j2 => no j j1 (fun z => y5 j z j2)⟩
        · refine Or.inr ⟨fun j j1 j2 => no j j1 (fun z => y1 j z j2), ?_⟩
          rw [y2]
          split
          · rfl
          · rw [if_pos (show m < 16 by omega)]
            split
            · rfl
            · omega
theorem r_settle {first v : Int} {d : Nat} {tried bests firsts : Nat → Int} {u : (Nat → Int) × (Nat → Int)} (hf : 0 ≤ first ∧ first ≤ 1) (hd : d < 5) (hv : 0 ≤ v ∧ v ≤ 60) (hb : -1000 ≤ bests d ∧ bests d ≤ 60) (h : f_HM_settlex (d : Int) first v tried bests firsts = some u) : u = if bests d = -1000 ∨ (if (first + (d : Int)) % 2 = 0 then bests d < v else v < bests d) then (zu bests d v, zu firsts d (tried d)) else (bests, firsts) := by
  have zd : (zi_w (d : Int)).toNat = d := by rw [zwi (by omega)]; omega
  have f55 : f_HM_settlex_55 tried (d : Int) v bests firsts = some u → u = (zu bests d v, zu firsts d (tried d)) := fun h => by
    unfold f_HM_settlex_55 at h
    replace h := (xp_s (xp_g (xp_s h).2).2).2
    rw [zd] at h
    cases h
    rfl
  unfold f_HM_settlex at h
  replace h := xp_n (xp_gd (xp_n h)).2
  rw [zi_rem_n (by omega) (by decide)] at h
  have r2 : zi_w (((d : Int) + first) % 2) = ((d : Int) + first) % 2 := zwi (by omega)
  rw [r2] at h
  by_cases c : (first + (d : Int)) % 2 = 0
  · rw [if_neg (by omega)] at h
    unfold f_HM_settlex_13 at h
    replace h := (xp_g h).2
    rw [zd, zwi (x := bests d) (by omega), show zi_w (-1000) = -1000 from by decide +kernel] at h
    have key : (bests d = -1000 ∨ (if (first + (d : Int)) % 2 = 0 then bests d < v else v < bests d)) ↔ (bests d = -1000 ∨ bests d < v) := by rw [if_pos c]
    by_cases c1 : bests d = -1000
    · rw [if_pos c1] at h
      rw [if_pos (key.mpr (Or.inl c1))]
      exact f55 h
    · rw [if_neg c1] at h
      replace h := (xp_g (xp_f (by decide +kernel) h)).2
      rw [zd, zwi (x := bests d) (by omega), zwi (x := v) (by omega)] at h
      by_cases c2 : v ≤ bests d
      · rw [if_pos c2] at h
        rw [if_neg (fun z => by have := key.mp z; omega)]
        cases h
        rfl
      · rw [if_neg c2] at h
        rw [if_pos (key.mpr (Or.inr (by omega)))]
        exact f55 h
  · rw [if_pos (by omega)] at h
    unfold f_HM_settlex_13 at h
    replace h := (xp_g h).2
    rw [zd, zwi (x := bests d) (by omega), show zi_w (-1000) = -1000 from by decide +kernel] at h
    have key : (bests d = -1000 ∨ (if (first + (d : Int)) % 2 = 0 then bests d < v else v < bests d)) ↔ (bests d = -1000 ∨ v < bests d) := by rw [if_neg c]
    by_cases c1 : bests d = -1000
    · rw [if_pos c1] at h
      rw [if_pos (key.mpr (Or.inl c1))]
      exact f55 h
    · rw [if_neg c1] at h
      replace h := (xp_g (xp_t (by decide +kernel) h)).2
      rw [zd, zwi (x := bests d) (by omega), zwi (x := v) (by omega)] at h
      by_cases c2 : bests d ≤ v
      · rw [if_pos c2] at h
        rw [if_neg (fun z => by have := key.mp z; omega)]
        cases h
        rfl
      · rw [if_neg c2] at h
        rw [if_pos (key.mpr (Or.inr (by omega)))]
        exact f55 h
end
section
/-! THE REFERENCE'S TURNS -/
noncomputable def SDF (first : Int) (d : Nat) : Int := (first + (d : Int)) % 2
noncomputable def FREL (r : Int × Int) (f : Int) : Prop := (r.1 = -1 ∧ f = 17) ∨ ((0 ≤ r.1 ∧ r.1 ≤ 60) ∧ (0 ≤ f ∧ f ≤ 15) ∧ f = r.2)
/-- a turn comes back with its worth -/
noncomputable def RET (pa : Int) (pl : Nat → Int) (many ch la fo : Int) (st ex te ord od row : Nat → Int) (turns first what thr : Int) (d t : Nat) (hi he tried bests firsts : Nat → Int) (o : Int × Int × Int × Int × Int × Int × (Nat → Int) × (Nat → Int) × (Nat → Int) × (Nat → Int) × (Nat → Int) × (Nat → Int) × (Nat → Int)) : Prop := ∃ (N' : Nat) (lw br va su : Int) (set rest he' tried' bests' firsts' : Nat → Int), f_HM_duel_136 row (f_HM_duel_72 row N') turns first what (d : Int) (VAL pa pl many ch la fo st ex te ord od t (SDF first d) hi he) thr lw br va su set rest hi he' tried' bests' firsts' = some o ∧ CREL many hi he hi he' ∧ zR he' 0 30 ∧ (∀ j : Nat, j < d → tried' j = tried j ∧ bests' j = bests j ∧ firsts' j = firsts j) ∧ (1 ≤ t → bests' d = VAL pa pl many ch la fo st ex te ord od t (SDF first d) hi he ∧ FREL (AT pa pl many ch la fo st ex te ord od (t - 1) (SDF first d) hi he 16) (firsts' d))
noncomputable def SPR (pa : Int) (pl : Nat → Int) (many ch la fo : Int) (st ex te ord od row : Nat → Int) (turns first what thr : Int) (t : Nat) : Prop := ∀ (N d : Nat) (lw br va su : Int) (set rest hi he tried bests firsts : Nat → Int) (o : Int × Int × Int × Int × Int × Int × (Nat → Int) × (Nat → Int) × (Nat → Int) × (Nat → Int) × (Nat → Int) × (Nat → Int) × (Nat → Int)), (d : Int) + (t : Int) = turns → (1 ≤ t → tried d = -1 ∧ bests d = -1000) → zR hi 0 10 → zR he 0 30 → STW many hi he → f_HM_duel_72 row N turns first what (d : Int) thr lw br va su set rest hi he tried bests firsts = some o → RET pa pl many ch la fo st ex te ord od row turns first what thr d t hi he tried bests firsts o
theorem sp_0 {pa many ch la fo : Int} {st ex te ord od pl : Nat → Int} {row : Nat → Int} {turns first what thr : Int} (hF : FOK ch la fo st ex te ord od row) (hP : PREL pa pl te row) (em : many = row 0) (hm : 0 ≤ many ∧ many ≤ 12) (ht : 1 ≤ turns ∧ turns ≤ 4) : SPR pa pl many ch la fo st ex te ord od row turns first what thr 0 := by
  intro N d lw br va su set rest hi he tried bests firsts o hd _ hh hw _ h
  cases N with
  | zero => exact nomatch h
  | succ N =>
    replace h : f_HM_duel_72_b row (f_HM_duel_72 row N) turns first what (d : Int) thr lw br va su set rest hi he tried bests firsts = some o := h
    unfold f_HM_duel_72_b at h
    rw [zwi (x := (d : Int)) (by omega), zwi (x := turns) (by omega), if_neg (by omega), if_pos (by omega)] at h
    unfold f_HM_duel_94 at h
    rw [zwi (x := (d : Int)) (by omega), zwi (x := turns) (by omega), if_pos (by omega)] at h
    unfold f_HM_duel_116 at h
    rw [zwi (x := (d : Int)) (by omega), zwi (x := turns) (by omega), if_neg (by omega)] at h
    obtain ⟨v2, e2, h⟩ := xz_d1 h
    have q := (SHV_both hF.2.1 hm em hh hh hP hF.2.2.2.2.1 (fun _ _ => rfl)).1 v2 e2
    rw [q] at h
    exact ⟨N, lw, br, va, su, set, rest, he, tried, bests, firsts, h, ⟨fun _ _ => rfl, fun _ _ _ _ => rfl⟩, hw, fun j _ => ⟨rfl, rfl, rfl⟩, fun z => absurd z (by omega)⟩
theorem r_197 {row : Nat → Int} {turns first what thr lw br va su : Int} {d : Nat} {set rest hi he tried bests firsts : Nat → Int} {o : Int × Int × Int × Int × Int × Int × (Nat → Int) × (Nat → Int) × (Nat → Int) × (Nat → Int) × (Nat → Int) × (Nat → Int) × (Nat → Int)} {K : Int → Int → Int → Int → Int → Int → Int → Int → Int → (Nat → Int) → (Nat → Int) → (Nat → Int) → (Nat → Int) → (Nat → Int) → (Nat → Int) → (Nat → Int) → Option (Int × Int × Int × Int × Int × Int × (Nat → Int) × (Nat → Int) × (Nat → Int) × (Nat → Int) × (Nat → Int) × (Nat → Int) × (Nat → Int))} (hd : (d : Int) < turns ∧ turns ≤ 4) (h : f_HM_duel_197 row K turns first what (d : Int) thr lw br va su set rest hi he tried bests firsts = some o) : ∃ (tried1 bests1 : Nat → Int), (∀ j : Nat, j < d + 1 → tried1 j = tried j ∧ bests1 j = bests j) ∧ ((d : Int) + 1 < turns → tried1 (d + 1) = -1 ∧ bests1 (d + 1) = -1000) ∧ K turns first what ((d + 1 : Nat) : Int) thr lw br va su set rest hi he tried1 bests1 firsts = some o := by
  unfold f_HM_duel_197 at h
  replace h := xp_n h
  rw [show (d : Int) + 1 = ((d + 1 : Nat) : Int) from by omega, zwi (x := turns) (by omega), zwi (x := ((d + 1 : Nat) : Int)) (by omega)] at h
  have zd : (zi_w ((d + 1 : Nat) : Int)).toNat = d + 1 := by rw [zwi (by omega)]; omega
  by_cases c : turns ≤ ((d + 1 : Nat) : Int)
  · rw [if_pos c] at h
    unfold f_HM_duel_224 at h
    exact ⟨tried, bests, fun j _ => ⟨rfl, rfl⟩, fun m => by omega, h⟩
  · rw [if_neg c] at h
    replace h := (xp_s (xp_s h).2).2
    unfold f_HM_duel_224 at h
    rw [zd] at h
    exact ⟨_, _, fun j hj => ⟨zu_ne _ _ (by omega), zu_ne _ _ (by omega)⟩, fun _ => ⟨zu_eq _ _ _, zu_eq _ _ _⟩, h⟩
/-- how a turn stands: the moves below p are looked at -/
noncomputable def RLI (pa : Int) (pl : Nat → Int) (many ch la fo : Int) (st ex te ord od : Nat → Int) (T : Nat) (s : Int) (hi he : Nat → Int) (p : Nat) (bd fd : Int) : Prop := ((AT pa pl many ch la fo st ex te ord od T s hi he p).1 = -1 ∧ bd = -1000) ∨ ((0 ≤ (AT pa pl many ch la fo st ex te ord od T s hi he p).1 ∧ (AT pa pl many ch la fo st ex te ord od T s hi he p).1 ≤ 60) ∧ bd = (AT pa pl many ch la fo st ex te ord od T s hi he p).1 ∧ (0 ≤ fd ∧ fd ≤ 15) ∧ fd = (AT pa pl many ch la fo st ex te ord od T s hi he p).2)
set_option maxHeartbeats 8000000 in
theorem sp_lv {pa many ch la fo : Int} {st ex te ord od pl : Nat → Int} {row : Nat → Int} {turns first what thr : Int} {T d : Nat} {hi he0 tried0 bests0 firsts0 : Nat → Int} {o : Int × Int × Int × Int × Int × Int × (Nat → Int) × (Nat → Int) × (Nat → Int) × (Nat → Int) × (Nat → Int) × (Nat → Int) × (Nat → Int)} (hF : FOK ch la fo st ex te ord od row) (hP : PREL pa pl te row) (em : many = row 0) (hm : 0 ≤ many ∧ many ≤ 12) (ht : 1 ≤ turns ∧ turns ≤ 4) (hf : 0 ≤ first ∧ first ≤ 1) (hB : SPR pa pl many ch la fo st ex te ord od row turns first what thr T) (hd : (d : Int) + ((T + 1 : Nat) : Int) = turns) (hh : zR hi 0 10) (hS : STW many hi he0) :
    ∀ (g N p : Nat) (lw br va su : Int) (set rest he tried bests firsts : Nat → Int), 16 - p < g → p ≤ 16 → tried d = (p : Int) - 1 → RLI pa pl many ch la fo st ex te ord od T (SDF first d) hi he0 p (bests d) (firsts d) → CREL many hi he0 hi he → zR he 0 30 → (∀ j : Nat, j < d → tried j = tried0 j ∧ bests j = bests0 j ∧ firsts j = firsts0 j) → f_HM_duel_72 row N turns first what (d : Int) thr lw br va su set rest hi he tried bests firsts = some o → RET pa pl many ch la fo st ex te ord od row turns first what thr d (T + 1) hi he0 tried0 bests0 firsts0 o := by
  have hR := hF.2.1
  have hte := hF.2.2.2.2.1
  have zd : (zi_w (d : Int)).toNat = d := by rw [zwi (by omega)]; omega
  have zd1 : (zi_w ((d : Int) + 1)).toNat = d + 1 := by rw [zwi (by omega)]; omega
  have rs : SDF first (d + 1) = 1 - SDF first d := by unfold SDF; omega
  have bs : SDF first d = 0 ∨ SDF first d = 1 := by unfold SDF; omega
  have arr : AT pa pl many ch la fo st ex te ord od T (SDF first d) hi he0 = ACQ (CANX many ch la fo st ex te ord od hi he0) (fun a b => VAL pa pl many ch la fo st ex te ord od T (1 - SDF first d) (MVH hi a b) (MVW hi he0 a b)) (SDF first d) := rfl
  have rng := ACQ_r (s := SDF first d) (VAL_F (ch := ch) (la := la) (fo := fo) (st := st) (ex := ex) (ord := ord) (od := od) hR hm em hP hte (W := he0) hh T (SDF first d))
  rw [← arr] at rng
  have vs := VAL_s (pa := pa) (pl := pl) (many := many) (ch := ch) (la := la) (fo := fo) (st := st) (ex := ex) (te := te) (ord := ord) (od := od) (t := T) (s := SDF first d) (H := hi) (W := he0)
  -- nothing is left to look at: back with the best
  have leave : ∀ (N : Nat) (lw br va su : Int) (set rest he tried bests firsts : Nat → Int), bests d = VAL pa pl many ch la fo st ex te ord od (T + 1) (SDF first d) hi he0 → FREL (AT pa pl many ch la fo st ex te ord od T (SDF first d) hi he0 16) (firsts d) → CREL many hi he0 hi he → zR he 0 30 → (∀ j : Nat, j < d → tried j = tried0 j ∧ bests j = bests0 j ∧ firsts j = firsts0 j) → f_HM_duel_116 row (f_HM_duel_72 row N) turns first what (d : Int) thr lw br va su set rest hi he tried bests firsts = some o → RET pa pl many ch la fo st ex te ord od row turns first what thr d (T + 1) hi he0 tried0 bests0 firsts0 o := fun N lw br va su set rest he tried bests firsts q1 q2 q3 q4 q5 h => by
    unfold f_HM_duel_116 at h
    rw [zwi (x := (d : Int)) (by omega), zwi (x := turns) (by omega), if_pos (by omega)] at h
    replace h := (xp_g h).2
    rw [zd, q1] at h
    exact ⟨N, lw, br, va, su, set, rest, he, tried, bests, firsts, h, q3, q4, q5, fun _ => ⟨q1, q2⟩⟩
  intro g
  induction g with
  | zero => intro N p lw br va su set rest he tried bests firsts hg; omega
  | succ g ih =>
    intro N p lw br va su set rest he tried bests firsts hg hp htd hI hC hw hk h
    cases N with
    | zero => exact nomatch h
    | succ N =>
      replace h : f_HM_duel_72_b row (f_HM_duel_72 row N) turns first what (d : Int) thr lw br va su set rest hi he tried bests firsts = some o := h
      unfold f_HM_duel_72_b at h
      rw [zwi (x := (d : Int)) (by omega), zwi (x := turns) (by omega), if_neg (by omega), if_neg (by omega)] at h
      obtain ⟨v7, v8, v9, v10, v11, a12, a13, e1, h⟩ := xz_d7 h
      have bb : -1000 ≤ bests d ∧ bests d ≤ 60 := by rcases hI with q | q <;> omega
      have cc := fun a b => CANX_c (pa := pa) (pl := pl) (ch := ch) (la := la) (fo := fo) (st := st) (ex := ex) (te := te) (ord := ord) (od := od) hC hh a b
      unfold f_HM_nextMove at e1
      replace e1 := xp_n (xp_g e1).2
      rw [zd, htd, show (p : Int) - 1 + 1 = (p : Int) from by omega] at e1
      have rn := r_next9 (pa := pa) (pl := pl) hF em hm hh hw (by omega) bb (by omega) zfu p _ _ _ _ _ _ (by omega) e1
      have gap : ∀ y : Nat, p ≤ y → (∀ j : Nat, p ≤ j → j < y → ¬ CANX many ch la fo st ex te ord od hi he (j / 4) (j % 4)) → AT pa pl many ch la fo st ex te ord od T (SDF first d) hi he0 y = AT pa pl many ch la fo st ex te ord od T (SDF first d) hi he0 p := fun y y1 y2 => by
        have z := ACQ_gap (C := CANX many ch la fo st ex te ord od hi he0) (F := fun a b => VAL pa pl many ch la fo st ex te ord od T (1 - SDF first d) (MVH hi a b) (MVW hi he0 a b)) (s := SDF first d) (p := p) (y - p) (fun q q1 q2 m => y2 q q1 (by omega) ((cc _ _).mp m))
        rw [show p + (y - p) = y from by omega] at z
        exact z
      have hS' : STW many hi he := STW_c hS hC
      rcases rn with ⟨y, y1, y2, y3, y4, y5⟩ | ⟨z1, z2⟩
      · -- a move
        have y2 : v7 = (y : Int) := y2
        subst y2
        have w16 : zi_w 16 = 16 := by decide +kernel
        have w18 : zi_w 18 = 18 := by decide +kernel
        unfold f_HM_duel_94 at h
        rw [zwi (x := (d : Int)) (by omega), zwi (x := turns) (by omega), if_neg (by omega), w16, w18, zwi (x := (y : Int)) (by omega), if_neg (by omega), if_pos (by omega)] at h
        replace h := (xp_s h).2
        rw [if_neg (by omega)] at h
        replace h := xp_n (xp_gd h).2
        replace h := xp_n (xp_gd h).2
        obtain ⟨a4, a5, e2, h⟩ := xz_d2 h
        generalize eA : y / 4 = A at y4
        generalize eB : y % 4 = B at y4
        rw [zi_div_n (by omega) (by decide), zi_rem_n (by omega) (by decide), show (y : Int) / 4 = (A : Int) from by omega, show (y : Int) % 4 = (B : Int) from by omega] at e2
        rw [zd] at h
        have y4' := y4
        obtain ⟨x1, x2, x3, x4, x5, _⟩ := y4'
        have qA := hh A
        have qB := hh B
        have g2 := r_shift (by omega) (by omega) x3 qA qB e2
        have g2a : a4 = MVH hi A B := (congrArg Prod.fst g2).trans (MVH_alt x3)
        have g2b : a5 = MVW hi he A B := congrArg Prod.snd g2
        subst g2a g2b
        obtain ⟨tried1, bests1, k1, k2, h⟩ := r_197 (by omega) h
        have RT := hB N (d + 1) _ _ _ _ _ _ (MVH hi A B) (MVW hi he A B) tried1 bests1 firsts o (by omega) (fun z => k2 (by omega)) (MVH_R hh x4 x5) (MVW_R hw) (STW_mv hS' hh x1 x2 x4 x5 x3) h
        obtain ⟨N', lw', br', va', su', set', rest', he', tried', bests', firsts', h, C', R', kp, _⟩ := RT
        have vv := VAL_c (ch := ch) (la := la) (fo := fo) (st := st) (ex := ex) (ord := ord) (od := od) hR hm em hP hte T (SDF first (d + 1)) _ _ _ _ (MVH_R hh x4 x5) (MVH_R hh x4 x5) (CREL_mv hC hh x1 x2 x3 x4 x5)
        rw [← vv.1] at h
        have bv := vv.2
        generalize ev : VAL pa pl many ch la fo st ex te ord od T (SDF first (d + 1)) (MVH hi A B) (MVW hi he0 A B) = v at h bv
        have td : tried' d = (y : Int) := by rw [(kp d (by omega)).1, (k1 d (by omega)).1, zu_eq]
        have bd : bests' d = bests d := by rw [(kp d (by omega)).2.1, (k1 d (by omega)).2]
        have fd : firsts' d = firsts d := (kp d (by omega)).2.2
        unfold f_HM_duel_136 at h
        replace h := xp_n h
        rw [show ((d + 1 : Nat) : Int) + (-1) = (d : Int) from by omega, zwi (x := (d : Int)) (by omega), if_neg (by omega)] at h
        replace h := (xp_g h).2
        rw [zd, td] at h
        obtain ⟨a3, a4, e3, h⟩ := xz_d2 h
        unfold f_HM_unmove at e3
        rw [w16, zwi (x := (y : Int)) (by omega), if_neg (by omega)] at e3
        replace e3 := xp_n (xp_gd e3).2
        replace e3 := xp_n (xp_gd e3).2
        rw [zi_div_n (by omega) (by decide), zi_rem_n (by omega) (by decide), show (y : Int) / 4 = (A : Int) from by omega, show (y : Int) % 4 = (B : Int) from by omega] at e3
        obtain ⟨b3, b4, e4, e3⟩ := xz_d2 e3
        cases e3
        have rA := MVH_R hh x4 x5 (a := A) (b := B) A
        have rB := MVH_R hh x4 x5 (a := A) (b := B) B
        have g3 := r_shift (by omega) (by omega) (Ne.symm x3) rB rA e4
        have back := mv_back (W := he) (W2 := he') hh x1 x2 x3 x4 x5 C'
        have g3a : a3 = hi := (congrArg Prod.fst g3).trans ((MVH_alt (Ne.symm x3)).trans back.1)
        have g3b : a4 = MVW (MVH hi A B) he' B A := congrArg Prod.snd g3
        rw [g3a] at h
        obtain ⟨a5, a6, e5, h⟩ := xz_d2 h
        have st1 := r_settle hf (by omega) bv (by rw [bd]; exact bb) e5
        unfold f_HM_duel_166 f_HM_duel_224 at h
        have stq := ACQ_y (C := CANX many ch la fo st ex te ord od hi he0) (F := fun a b => VAL pa pl many ch la fo st ex te ord od T (1 - SDF first d) (MVH hi a b) (MVW hi he0 a b)) (s := SDF first d) (p := y) (by rw [eA, eB]; exact (cc A B).mpr y4)
        rw [eA, eB] at stq
        try dsimp only at stq
        rw [rs] at ev
        rw [ev] at stq
        have stq : AT pa pl many ch la fo st ex te ord od T (SDF first d) hi he0 (y + 1) = UPD (SDF first d) (AT pa pl many ch la fo st ex te ord od T (SDF first d) hi he0 y) (y : Int) v := stq
        rw [gap y y3 y5] at stq
        have cond : (bests' d = -1000 ∨ (if (first + (d : Int)) % 2 = 0 then bests' d < v else v < bests' d)) ↔ ((AT pa pl many ch la fo st ex te ord od T (SDF first d) hi he0 p).1 = -1 ∨ (if SDF first d = 0 then (AT pa pl many ch la fo st ex te ord od T (SDF first d) hi he0 p).1 < v else v < (AT pa pl many ch la fo st ex te ord od T (SDF first d) hi he0 p).1)) := by
          rw [bd]
          show (bests d = -1000 ∨ (if SDF first d = 0 then bests d < v else v < bests d)) ↔ _
          rcases hI with ⟨q1, q2⟩ | ⟨q1, q2, _⟩
          · rw [q1, q2]
            exact ⟨fun _ => Or.inl rfl, fun _ => Or.inl rfl⟩
          · rw [← q2]
            constructor
            · intro m
              rcases m with m | m
              · omega
              · exact Or.inr m
            · intro m
              rcases m with m | m
              · omega
              · exact Or.inr m
        have kj : ∀ j : Nat, j < d → tried' j = tried0 j ∧ bests' j = bests0 j ∧ firsts' j = firsts0 j := fun j hj => by
          have m1 := kp j (by omega)
          have m2 := k1 j (by omega)
          have m3 := hk j hj
          refine ⟨?_, ?_, ?_⟩
          · rw [m1.1, m2.1, zu_ne _ _ (by omega)]; exact m3.1
          · rw [m1.2.1, m2.2]; exact m3.2.1
          · rw [m1.2.2]; exact m3.2.2
        have R2 : zR a4 0 30 := by rw [g3b]; exact MVW_R R'
        have C2 : CREL many hi he0 hi a4 := by rw [g3b]; exact CREL_tr hC back.2
        by_cases cd : bests' d = -1000 ∨ (if (first + (d : Int)) % 2 = 0 then bests' d < v else v < bests' d)
        · rw [if_pos cd] at st1
          cases st1
          refine ih N' (y + 1) _ _ _ _ _ _ _ _ _ _ (by omega) (by omega) (by rw [td]; omega) (Or.inr ?_) C2 R2 (fun j hj => ?_) h
          · rw [stq]
            unfold UPD
            rw [if_pos (cond.mp cd), zu_eq, zu_eq, td]
            exact ⟨bv, rfl, by omega, rfl⟩
          · rw [zu_ne _ _ (by omega), zu_ne _ _ (by omega)]
            exact kj j hj
        · rw [if_neg cd] at st1
          cases st1
          refine ih N' (y + 1) _ _ _ _ _ _ _ _ _ _ (by omega) (by omega) (by rw [td]; omega) ?_ C2 R2 kj h
          unfold RLI
          rw [stq]
          unfold UPD
          rw [if_neg (fun m => cd (cond.mpr m)), bd, fd]
          exact hI
      · -- none is left
        have z2 : v7 = if bests d = -1000 ∧ tried d < 16 then 17 else if p < 16 then 16 else (p : Int) := z2
        have g16 := gap 16 hp z1
        have w16 : zi_w 16 = 16 := by decide +kernel
        have w18 : zi_w 18 = 18 := by decide +kernel
        have w17 : zi_w 17 = 17 := by decide +kernel
        rcases hI with ⟨q1, q2⟩ | ⟨q1, q2, q3, q4⟩
        · -- he passes
          rw [if_pos ⟨q2, by omega⟩] at z2
          subst z2
          have none16 : ∀ q : Nat, q < 16 → ¬ CANX many ch la fo st ex te ord od hi he0 (q / 4) (q % 4) := by
            rcases rng 16 with r | r
            · exact r.2.2
            · rw [g16] at r; omega
          have noneh : ∀ q : Nat, q < 16 → ¬ CANX many ch la fo st ex te ord od hi he (q / 4) (q % 4) := fun q hq m => none16 q hq ((cc _ _).mpr m)
          unfold f_HM_duel_94 at h
          rw [zwi (x := (d : Int)) (by omega), zwi (x := turns) (by omega), if_neg (by omega), w16, w18, w17, if_neg (by decide), if_pos (by decide)] at h
          replace h := (xp_s h).2
          rw [if_pos (by decide), zd] at h
          obtain ⟨tried1, bests1, k1, k2, h⟩ := r_197 (by omega) h
          have RT := hB N (d + 1) _ _ _ _ _ _ hi he tried1 bests1 firsts o (by omega) (fun z => k2 (by omega)) hh hw hS' h
          obtain ⟨N', lw', br', va', su', set', rest', he', tried', bests', firsts', h, C', R', kp, _⟩ := RT
          have bv := (SHV_both hR hm em hh hh hP hte (fun _ _ => rfl)).2
          rw [VAL_none noneh] at h
          have td : tried' d = 17 := by rw [(kp d (by omega)).1, (k1 d (by omega)).1, zu_eq]
          have bd : bests' d = bests d := by rw [(kp d (by omega)).2.1, (k1 d (by omega)).2]
          unfold f_HM_duel_136 at h
          replace h := xp_n h
          rw [show ((d + 1 : Nat) : Int) + (-1) = (d : Int) from by omega, zwi (x := (d : Int)) (by omega), if_neg (by omega)] at h
          replace h := (xp_g h).2
          rw [zd, td] at h
          obtain ⟨a3, a4, e3, h⟩ := xz_d2 h
          unfold f_HM_unmove at e3
          rw [w16, w17, if_pos (by decide)] at e3
          cases e3
          obtain ⟨a5, a6, e5, h⟩ := xz_d2 h
          have st1 := r_settle hf (by omega) bv (by rw [bd]; exact bb) e5
          rw [if_pos (Or.inl (by rw [bd]; exact q2))] at st1
          cases st1
          unfold f_HM_duel_166 f_HM_duel_224 at h
          cases N' with
          | zero => exact nomatch h
          | succ N' =>
            replace h : f_HM_duel_72_b row (f_HM_duel_72 row N') turns first what (d : Int) thr lw' br' va' su' set' rest' hi he' tried' (zu bests' d (SHV pa pl many te hi)) (zu firsts' d (tried' d)) = some o := h
            unfold f_HM_duel_72_b at h
            rw [zwi (x := (d : Int)) (by omega), zwi (x := turns) (by omega), if_neg (by omega), if_neg (by omega)] at h
            obtain ⟨u7, u8, u9, u10, u11, c12, c13, e6, h⟩ := xz_d7 h
            unfold f_HM_nextMove at e6
            replace e6 := xp_n (xp_g e6).2
            rw [zd, td, show (17 : Int) + 1 = ((18 : Nat) : Int) from rfl] at e6
            have rn2 := r_next9 (pa := pa) (pl := pl) hF em hm hh R' (by omega) (by rw [zu_eq]; omega) (by rw [td]; decide) zfu 18 _ _ _ _ _ _ (by decide) e6
            rw [zu_eq] at rn2
            rcases rn2 with ⟨y, y1, _, y3, _⟩ | ⟨_, z4⟩
            · omega
            · have z4 : u7 = if SHV pa pl many te hi = -1000 ∧ tried' d < 16 then 17 else if 18 < 16 then 16 else ((18 : Nat) : Int) := z4
              rw [if_neg (by omega), if_neg (by decide)] at z4
              have z4 : u7 = 18 := z4
              subst z4
              unfold f_HM_duel_94 at h
              rw [zwi (x := (d : Int)) (by omega), zwi (x := turns) (by omega), if_neg (by omega), w16, w18, if_neg (by decide), if_neg (by decide)] at h
              have e16 : (AT pa pl many ch la fo st ex te ord od T (SDF first d) hi he0 16).1 = -1 := by rw [g16]; exact q1
              refine leave N' _ _ _ _ _ _ he' _ _ _ ?_ (Or.inl ⟨e16, ?_⟩) (CREL_tr hC C') R' (fun j hj => ?_) h
              · rw [zu_eq, vs, if_pos e16]
              · rw [zu_eq]; exact td
              · have m1 := kp j (by omega)
                have m2 := k1 j (by omega)
                have m3 := hk j hj
                rw [zu_ne _ _ (by omega), zu_ne _ _ (by omega)]
                refine ⟨?_, ?_, ?_⟩
                · rw [m1.1, m2.1, zu_ne _ _ (by omega)]; exact m3.1
                · rw [m1.2.1, m2.2]; exact m3.2.1
                · rw [m1.2.2]; exact m3.2.2
        · -- back with the best
          have z2 : v7 = 16 := by
            rw [z2, if_neg (by omega)]
            split <;> omega
          subst z2
          unfold f_HM_duel_94 at h
          rw [zwi (x := (d : Int)) (by omega), zwi (x := turns) (by omega), if_neg (by omega), w16, if_pos rfl] at h
          have n16 : (AT pa pl many ch la fo st ex te ord od T (SDF first d) hi he0 16).1 ≠ -1 := by rw [g16]; omega
          refine leave N _ _ _ _ _ _ he _ _ _ ?_ (Or.inr ?_) hC hw hk h
          · rw [vs, if_neg n16, g16]; exact q2
          · rw [g16]; exact ⟨q1, q3, q4⟩
theorem sp_all {pa many ch la fo : Int} {st ex te ord od pl : Nat → Int} {row : Nat → Int} {turns first what thr : Int} (hF : FOK ch la fo st ex te ord od row) (hP : PREL pa pl te row) (em : many = row 0) (hm : 0 ≤ many ∧ many ≤ 12) (ht : 1 ≤ turns ∧ turns ≤ 4) (hf : 0 ≤ first ∧ first ≤ 1) : ∀ t : Nat, SPR pa pl many ch la fo st ex te ord od row turns first what thr t := by
  intro t
  induction t with
  | zero => exact sp_0 hF hP em hm ht
  | succ T ih =>
    intro N d lw br va su set rest hi he tried bests firsts o hd hs hh hw hS h
    obtain ⟨s1, s2⟩ := hs (by omega)
    exact sp_lv hF hP em hm ht hf ih hd hh hS 17 N 0 lw br va su set rest he tried bests firsts (by omega) (by omega) (by rw [s1]; rfl) (Or.inl ⟨rfl, s2⟩) ⟨fun _ _ => rfl, fun _ _ _ _ => rfl⟩ hw (fun j _ => ⟨rfl, rfl, rfl⟩) h
end
section
/-! PLAN AND THE NOTES -/
theorem pn_look37 {x1 x3 : Int} {o : (Nat → Int) × (Nat → Int)} {k2 : Int → Int → (Nat → Int) → (Nat → Int) → Option ((Nat → Int) × (Nat → Int))} : ∀ (N : Nat) (x4 x5 : Int) (h t : Nat → Int), zR h 0 5 → (0 ≤ x5 ∧ x5 ≤ 5) → h (zi_w x3).toNat = x5 → f_Planner_look_37 k2 N x1 x3 x4 x5 h t = some o → ∃ h' t' : Nat → Int, zR h' 0 5 ∧ k2 x1 (x3 + 1) h' t' = some o := by
  intro N
  induction N with
  | zero => intro x4 x5 h t _ _ _ e; exact nomatch e
  | succ N ih =>
    intro x4 x5 h t hh b5 h5 e
    replace e : f_Planner_look_37_b k2 (f_Planner_look_37 k2 N) x1 x3 x4 x5 h t = some o := e
    unfold f_Planner_look_37_b at e
    rw [show zi_w 5 = 5 from by decide +kernel, zwi (x := x5) (by omega)] at e
    by_cases c : 5 ≤ x5
    · rw [if_pos c] at e
      unfold f_Planner_look_81 at e
      exact ⟨h, t, hh, xp_n e⟩
    rw [if_neg c] at e
    rcases xp_if e with ⟨_, e⟩ | ⟨_, e⟩
    · unfold f_Planner_look_81 at e
      exact ⟨h, t, hh, xp_n e⟩
    · replace e := (xp_s (xp_n (xp_g e).2)).2
      replace e := xp_n (xp_n (xp_s (xp_n e)).2)
      rw [h5] at e
      refine ih _ _ _ _ (fun j => ?_) (by omega) ?_ e
      · by_cases d : j = (zi_w x3).toNat
        · subst d; rw [zu_eq]; omega
        · rw [zu_ne _ _ d]; exact hh j
      · rw [zu_eq]
theorem pn_look2 {x1 : Int} {o : (Nat → Int) × (Nat → Int)} : ∀ (N : Nat) (x3 : Int) (h t : Nat → Int), zR h 0 5 → f_Planner_look_2 N x1 x3 h t = some o → zR o.1 0 5 := by
  intro N
  induction N with
  | zero => intro x3 h t _ e; exact nomatch e
  | succ N ih =>
    intro x3 h t hh e
    replace e : f_Planner_look_2_b (f_Planner_look_2 N) x1 x3 h t = some o := e
    unfold f_Planner_look_2_b at e
    rcases xp_if e with ⟨_, e⟩ | ⟨_, e⟩
    · cases e; exact hh
    · replace e := (xp_s (xp_s (xp_n (xp_n (xp_n e)))).2).2
      obtain ⟨h', t', q1, q2⟩ := pn_look37 zfu _ 0 _ _ (fun j => by
        by_cases d : j = (zi_w x3).toNat
        · subst d; rw [zu_eq]; decide
        · rw [zu_ne _ _ d]; exact hh j) (by decide) (zu_eq _ _ _) e
      exact ih _ _ _ q1 q2
theorem pn_224 {ch la fo : Int} {st ex te ord od : Nat → Int} {G : Prop} {cg hmany x1 x2 x3 x4 x6 x7 : Int} {wg tops : Nat → Int} {o : Int × Int × (Nat → Int) × (Nat → Int) × (Nat → Int) × (Nat → Int) × (Nat → Int) × (Nat → Int) × (Nat → Int) × (Nat → Int) × Int × Int × Int × (Nat → Int) × (Nat → Int) × (Nat → Int)} {k18 k55X : Int → Int → Int → Int → Int → Int → (Nat → Int) → (Nat → Int) → (Nat → Int) → (Nat → Int) → (Nat → Int) → (Nat → Int) → (Nat → Int) → (Nat → Int) → Int → Int → Int → (Nat → Int) → (Nat → Int) → (Nat → Int) → Option (Int × Int × (Nat → Int) × (Nat → Int) × (Nat → Int) × (Nat → Int) × (Nat → Int) × (Nat → Int) × (Nat → Int) × (Nat → Int) × Int × Int × Int × (Nat → Int) × (Nat → Int) × (Nat → Int))} {k55 : Int → Int → Int → Int → Int → Int → Int → Int → (Nat → Int) → (Nat → Int) → (Nat → Int) → (Nat → Int) → (Nat → Int) → (Nat → Int) → (Nat → Int) → (Nat → Int) → Int → Int → Int → (Nat → Int) → (Nat → Int) → (Nat → Int) → Option (Int × Int × (Nat → Int) × (Nat → Int) × (Nat → Int) × (Nat → Int) × (Nat → Int) × (Nat → Int) × (Nat → Int) × (Nat → Int) × Int × Int × Int × (Nat → Int) × (Nat → Int) × (Nat → Int))} (hk : ∀ (found queued : Int) (slots states costs before byy queue queuedAt heights : Nat → Int) (pi ti ba : Int) (nt wo pz : Nat → Int), zR heights 0 5 → NOK cg ch la fo st ex te ord od nt → k55 x1 x2 x3 x4 x6 (x7 + 1) found queued slots states costs before byy queue queuedAt heights pi ti ba nt wo pz = some o → G) (found queued : Int) (slots states costs before byy queue queuedAt heights : Nat → Int) (pi ti ba : Int) (nt wo pz : Nat → Int) (h1 : zR heights 0 5) (h2 : NOK cg ch la fo st ex te ord od nt) (e : f_Planner_goOn_224 ch la fo cg wg tops hmany st ex te ord od k18 k55 x1 x2 x3 x4 x6 x7 found queued slots states costs before byy queue queuedAt heights pi ti ba nt wo pz = some o) : G := by
  unfold f_Planner_goOn_224 at e
  exact hk _ _ _ _ _ _ _ _ _ _ _ _ _ _ _ _ h1 h2 (xp_n e)
theorem pn_123 {ch la fo : Int} {st ex te ord od : Nat → Int} {G : Prop} {cg hmany x1 x2 x3 x4 x6 x7 x8 : Int} {wg tops : Nat → Int} {o : Int × Int × (Nat → Int) × (Nat → Int) × (Nat → Int) × (Nat → Int) × (Nat → Int) × (Nat → Int) × (Nat → Int) × (Nat → Int) × Int × Int × Int × (Nat → Int) × (Nat → Int) × (Nat → Int)} {k18 : Int → Int → Int → Int → Int → Int → (Nat → Int) → (Nat → Int) → (Nat → Int) → (Nat → Int) → (Nat → Int) → (Nat → Int) → (Nat → Int) → (Nat → Int) → Int → Int → Int → (Nat → Int) → (Nat → Int) → (Nat → Int) → Option (Int × Int × (Nat → Int) × (Nat → Int) × (Nat → Int) × (Nat → Int) × (Nat → Int) × (Nat → Int) × (Nat → Int) × (Nat → Int) × Int × Int × Int × (Nat → Int) × (Nat → Int) × (Nat → Int))} {k55 : Int → Int → Int → Int → Int → Int → Int → Int → (Nat → Int) → (Nat → Int) → (Nat → Int) → (Nat → Int) → (Nat → Int) → (Nat → Int) → (Nat → Int) → (Nat → Int) → Int → Int → Int → (Nat → Int) → (Nat → Int) → (Nat → Int) → Option (Int × Int × (Nat → Int) × (Nat → Int) × (Nat → Int) × (Nat → Int) × (Nat → Int) × (Nat → Int) × (Nat → Int) × (Nat → Int) × Int × Int × Int × (Nat → Int) × (Nat → Int) × (Nat → Int))} (hk : ∀ (found queued : Int) (slots states costs before byy queue queuedAt heights : Nat → Int) (pi ti ba : Int) (nt wo pz : Nat → Int), zR heights 0 5 → NOK cg ch la fo st ex te ord od nt → k55 x1 x2 x3 x4 x6 (x7 + 1) found queued slots states costs before byy queue queuedAt heights pi ti ba nt wo pz = some o → G) (found queued : Int) (slots states costs before byy queue queuedAt heights : Nat → Int) (pi ti ba : Int) (nt wo pz : Nat → Int) (h1 : zR heights 0 5) (h2 : NOK cg ch la fo st ex te ord od nt) (e : f_Planner_goOn_123 ch la fo cg wg tops hmany st ex te ord od k18 k55 x1 x2 x3 x4 x6 x7 x8 found queued slots states costs before byy queue queuedAt heights pi ti ba nt wo pz = some o) : G := by
  have a176 : ∀ (x10 s0 : Int), f_Planner_goOn_176 ch la fo cg wg tops hmany st ex te ord od k18 k55 x1 x2 x3 x4 x6 x7 x10 s0 found queued slots states costs before byy queue queuedAt heights pi ti ba nt wo pz = some o → G := fun x10 s0 e => by
    unfold f_Planner_goOn_176 at e
    replace e := (xp_g (xp_n (xp_n (xp_n (xp_n e))))).2
    obtain ⟨v6, _, e⟩ := xz_d1 e
    replace e := xp_n (xp_g e).2
    obtain ⟨v9, v10, a11, a12, a13, a14, a15, a16, a17, _, e⟩ := xz_d9 e
    exact pn_224 (k55X := k18) hk _ _ _ _ _ _ _ _ _ _ _ _ _ _ _ _ h1 h2 e
  have a153 : ∀ (x9 s0 : Int), f_Planner_goOn_153 ch la fo cg wg tops hmany st ex te ord od k18 k55 x1 x2 x3 x4 x6 x7 x8 x9 s0 found queued slots states costs before byy queue queuedAt heights pi ti ba nt wo pz = some o → G := fun x9 s0 e => by
    unfold f_Planner_goOn_153 at e
    rcases xp_if e with ⟨_, e⟩ | ⟨_, e⟩
    · exact a176 _ _ e
    · obtain ⟨v1, _, e⟩ := xz_d1 e
      exact a176 _ _ (xp_n (xp_n (xp_n e)))
  have a133 : ∀ (s0 : Int), f_Planner_goOn_133 ch la fo cg wg tops hmany st ex te ord od k18 k55 x1 x2 x3 x4 x6 x7 x8 s0 found queued slots states costs before byy queue queuedAt heights pi ti ba nt wo pz = some o → G := fun s0 e => by
    unfold f_Planner_goOn_133 at e
    rcases xp_if e with ⟨_, e⟩ | ⟨_, e⟩
    · obtain ⟨v1, _, e⟩ := xz_d1 e
      exact a153 _ _ e
    · obtain ⟨v1, _, e⟩ := xz_d1 e
      exact a153 _ _ e
  unfold f_Planner_goOn_123 at e
  rcases xp_if e with ⟨_, e⟩ | ⟨_, e⟩
  · exact a133 _ e
  · exact a133 _ e
theorem pn_55 {ch la fo : Int} {st ex te ord od : Nat → Int} {G : Prop} {row : Nat → Int} {cg hmany x1 x2 x3 x4 x6 : Int} {wg tops : Nat → Int} {o : Int × Int × (Nat → Int) × (Nat → Int) × (Nat → Int) × (Nat → Int) × (Nat → Int) × (Nat → Int) × (Nat → Int) × (Nat → Int) × Int × Int × Int × (Nat → Int) × (Nat → Int) × (Nat → Int)} {k18 : Int → Int → Int → Int → Int → Int → (Nat → Int) → (Nat → Int) → (Nat → Int) → (Nat → Int) → (Nat → Int) → (Nat → Int) → (Nat → Int) → (Nat → Int) → Int → Int → Int → (Nat → Int) → (Nat → Int) → (Nat → Int) → Option (Int × Int × (Nat → Int) × (Nat → Int) × (Nat → Int) × (Nat → Int) × (Nat → Int) × (Nat → Int) × (Nat → Int) × (Nat → Int) × Int × Int × Int × (Nat → Int) × (Nat → Int) × (Nat → Int))} (hF : FOK ch la fo st ex te ord od row) (hcg : 0 ≤ cg ∧ cg ≤ 5000) (b3 : 0 ≤ x3 ∧ x3 ≤ 4) (b4 : 0 ≤ x4 ∧ x4 < x3) (b6 : 0 ≤ x6 ∧ x6 ≤ 30) (hk : (∀ (found queued : Int) (slots states costs before byy queue queuedAt heights : Nat → Int) (pi ti ba : Int) (nt wo pz : Nat → Int), zR heights 0 5 → NOK cg ch la fo st ex te ord od nt → k18 x1 x2 x3 (x4 + 1) found queued slots states costs before byy queue queuedAt heights pi ti ba nt wo pz = some o → G)) : ∀ (N : Nat) (x7 : Int) (found queued : Int) (slots states costs before byy queue queuedAt heights : Nat → Int) (pi ti ba : Int) (nt wo pz : Nat → Int), 0 ≤ x7 ∧ x7 ≤ x3 → zR heights 0 5 → NOK cg ch la fo st ex te ord od nt → f_Planner_goOn_55 ch la fo cg wg tops hmany st ex te ord od k18 N x1 x2 x3 x4 x6 x7 found queued slots states costs before byy queue queuedAt heights pi ti ba nt wo pz = some o → G := by
  intro N
  induction N with
  | zero => intro x7 found queued slots states costs before byy queue queuedAt heights pi ti ba nt wo pz _ _ _ e; exact nomatch e
  | succ N ih =>
    intro x7 found queued slots states costs before byy queue queuedAt heights pi ti ba nt wo pz b7 hh hN e
    replace e : f_Planner_goOn_55_b ch la fo cg wg tops hmany st ex te ord od k18 (f_Planner_goOn_55 ch la fo cg wg tops hmany st ex te ord od k18 N) x1 x2 x3 x4 x6 x7 found queued slots states costs before byy queue queuedAt heights pi ti ba nt wo pz = some o := e
    unfold f_Planner_goOn_55_b at e
    have a230 : f_Planner_goOn_230 ch la fo cg wg tops hmany st ex te ord od k18 x1 x2 x3 x4 found queued slots states costs before byy queue queuedAt heights pi ti ba nt wo pz = some o → G := fun e => by
      unfold f_Planner_goOn_230 at e
      exact hk _ _ _ _ _ _ _ _ _ _ _ _ _ _ _ _ hh hN (xp_n e)
    rw [zwi (x := x3) (by omega), zwi (x := x7) (by omega)] at e
    by_cases c : x3 ≤ x7
    · rw [if_pos c] at e
      exact a230 e
    rw [if_neg c] at e
    replace e := (xp_g e).2
    rcases xp_if e with ⟨_, e⟩ | ⟨_, e⟩
    · exact a230 e
    replace e := (xp_g (xp_g e).2).2
    have z4 := hh (zi_w x4).toNat
    have z7 := hh (zi_w x7).toNat
    obtain ⟨v4, v5, v6, v7, a8, a9, a10, e5, e⟩ := xz_d7 e
    have q := (k_note hF ⟨by omega, by omega, b6, by omega, by omega⟩ hcg hN e5).1
    have q : NOK cg ch la fo st ex te ord od a8 := q
    have kk : ∀ (found queued : Int) (slots states costs before byy queue queuedAt heights : Nat → Int) (pi ti ba : Int) (nt wo pz : Nat → Int), zR heights 0 5 → NOK cg ch la fo st ex te ord od nt → f_Planner_goOn_55 ch la fo cg wg tops hmany st ex te ord od k18 N x1 x2 x3 x4 x6 (x7 + 1) found queued slots states costs before byy queue queuedAt heights pi ti ba nt wo pz = some o → G := fun _ _ _ _ _ _ _ _ _ _ _ _ _ _ _ _ h1 h2 e => ih _ _ _ _ _ _ _ _ _ _ _ _ _ _ _ _ _ (by omega) h1 h2 e
    rcases xp_if e with ⟨_, e⟩ | ⟨_, e⟩
    · exact pn_224 (k55X := k18) kk _ _ _ _ _ _ _ _ _ _ _ _ _ _ _ _ hh q e
    rcases xp_if e with ⟨_, e⟩ | ⟨_, e⟩
    · exact pn_123 kk _ _ _ _ _ _ _ _ _ _ _ _ _ _ _ _ hh q e
    · obtain ⟨v11, a12, e6, e⟩ := xz_d2 e
      have sf := zok_x (s_Planner_isSafe x4 x7 x3 te heights (by omega) (by omega) (by omega) hF.2.2.2.2.1 hh) e6
      have h12 : zR a12 0 5 := sf.2
      rcases xp_if e with ⟨_, e⟩ | ⟨_, e⟩
      · exact pn_224 (k55X := k18) kk _ _ _ _ _ _ _ _ _ _ _ _ _ _ _ _ h12 q e
      · exact pn_123 kk _ _ _ _ _ _ _ _ _ _ _ _ _ _ _ _ h12 q e
theorem pn_18 {ch la fo : Int} {st ex te ord od : Nat → Int} {row : Nat → Int} {cg hmany x1 x2 x3 : Int} {wg tops : Nat → Int} {o : Int × Int × (Nat → Int) × (Nat → Int) × (Nat → Int) × (Nat → Int) × (Nat → Int) × (Nat → Int) × (Nat → Int) × (Nat → Int) × Int × Int × Int × (Nat → Int) × (Nat → Int) × (Nat → Int)} (hF : FOK ch la fo st ex te ord od row) (hcg : 0 ≤ cg ∧ cg ≤ 5000) (b3 : 0 ≤ x3 ∧ x3 ≤ 4) (hwg : zR wg 0 30) : ∀ (N : Nat) (x4 : Int) (found queued : Int) (slots states costs before byy queue queuedAt heights : Nat → Int) (pi ti ba : Int) (nt wo pz : Nat → Int), 0 ≤ x4 → x4 ≤ x3 → zR heights 0 5 → NOK cg ch la fo st ex te ord od nt → f_Planner_goOn_18 ch la fo cg wg tops hmany st ex te ord od N x1 x2 x3 x4 found queued slots states costs before byy queue queuedAt heights pi ti ba nt wo pz = some o → zR o.2.2.2.2.2.2.2.2.2.1 0 5 ∧ NOK cg ch la fo st ex te ord od o.2.2.2.2.2.2.2.2.2.2.2.2.2.1 := by
  intro N
  induction N with
  | zero => intro x4 found queued slots states costs before byy queue queuedAt heights pi ti ba nt wo pz _ _ _ _ e; exact nomatch e
  | succ N ih =>
    intro x4 found queued slots states costs before byy queue queuedAt heights pi ti ba nt wo pz b4 b5 hh hN e
    replace e : f_Planner_goOn_18_b ch la fo cg wg tops hmany st ex te ord od (f_Planner_goOn_18 ch la fo cg wg tops hmany st ex te ord od N) x1 x2 x3 x4 found queued slots states costs before byy queue queuedAt heights pi ti ba nt wo pz = some o := e
    unfold f_Planner_goOn_18_b at e
    by_cases c4 : x3 ≤ x4
    · rw [zwi (x := x3) (by omega), zwi (x := x4) (by omega), if_pos c4] at e
      cases e
      exact ⟨hh, hN⟩
    rw [zwi (x := x3) (by omega), zwi (x := x4) (by omega), if_neg c4] at e
    replace e := (xp_g e).2
    have kk : ∀ (found queued : Int) (slots states costs before byy queue queuedAt heights : Nat → Int) (pi ti ba : Int) (nt wo pz : Nat → Int), zR heights 0 5 → NOK cg ch la fo st ex te ord od nt → f_Planner_goOn_18 ch la fo cg wg tops hmany st ex te ord od N x1 x2 x3 (x4 + 1) found queued slots states costs before byy queue queuedAt heights pi ti ba nt wo pz = some o → zR o.2.2.2.2.2.2.2.2.2.1 0 5 ∧ NOK cg ch la fo st ex te ord od o.2.2.2.2.2.2.2.2.2.2.2.2.2.1 := fun _ _ _ _ _ _ _ _ _ _ _ _ _ _ _ _ h1 h2 e => ih _ _ _ _ _ _ _ _ _ _ _ _ _ _ _ _ _ (by omega) (by omega) h1 h2 e
    rcases xp_if e with ⟨_, e⟩ | ⟨_, e⟩
    · unfold f_Planner_goOn_50 at e
      exact pn_55 hF hcg b3 ⟨b4, by omega⟩ (by decide) kk zfu 0 _ _ _ _ _ _ _ _ _ _ _ _ _ _ _ _ (by omega) hh hN e
    · replace e := (xp_g e).2
      unfold f_Planner_goOn_50 at e
      exact pn_55 hF hcg b3 ⟨b4, by omega⟩ (hwg _) kk zfu 0 _ _ _ _ _ _ _ _ _ _ _ _ _ _ _ _ (by omega) hh hN e
theorem pn_goOn {ch la fo : Int} {st ex te ord od : Nat → Int} {row : Nat → Int} {cg hmany x1 x2 : Int} {wg tops : Nat → Int} {o : Int × Int × (Nat → Int) × (Nat → Int) × (Nat → Int) × (Nat → Int) × (Nat → Int) × (Nat → Int) × (Nat → Int) × (Nat → Int) × Int × Int × Int × (Nat → Int) × (Nat → Int) × (Nat → Int)} (hF : FOK ch la fo st ex te ord od row) (hcg : 0 ≤ cg ∧ cg ≤ 5000) (hm : 0 ≤ hmany ∧ hmany ≤ 12) (hwg : zR wg 0 30) (found queued : Int) (slots states costs before byy queue queuedAt heights : Nat → Int) (pi ti ba : Int) (nt wo pz : Nat → Int) (hh : zR heights 0 5) (hN : NOK cg ch la fo st ex te ord od nt) (e : f_Planner_goOn x1 x2 ch la fo cg wg tops hmany st ex te ord od found queued slots states costs before byy queue queuedAt heights pi ti ba nt wo pz = some o) : zR o.2.2.2.2.2.2.2.2.2.1 0 5 ∧ NOK cg ch la fo st ex te ord od o.2.2.2.2.2.2.2.2.2.2.2.2.2.1 := by
  unfold f_Planner_goOn at e
  have m := zi_min_f 4 (by decide) hmany (by omega)
  exact pn_18 hF hcg (by omega) hwg zfu 0 _ _ _ _ _ _ _ _ _ _ _ _ _ _ _ _ (by decide) (by omega) hh hN (xp_n e)
theorem pn_33 {ch la fo : Int} {st ex te ord od : Nat → Int} {row : Nat → Int} {cg hmany x1 : Int} {go HH HW : Nat → Int} {o : Int × Int × Int × Int × (Nat → Int) × (Nat → Int) × (Nat → Int) × (Nat → Int) × (Nat → Int) × (Nat → Int) × (Nat → Int) × (Nat → Int) × (Nat → Int) × (Nat → Int) × Int × Int × Int × (Nat → Int) × (Nat → Int) × (Nat → Int)} (hF : FOK ch la fo st ex te ord od row) (hcg : 0 ≤ cg ∧ cg ≤ 5000) (hm : 0 ≤ hmany ∧ hmany ≤ 12) : ∀ (N : Nat) (x2 x3 : Int) (kinds found queued : Int) (slots states costs before byy queue queuedAt wg heights tops : Nat → Int) (pi ti ba : Int) (nt wo pz : Nat → Int), zR wg 0 30 → zR heights 0 5 → NOK cg ch la fo st ex te ord od nt → f_Planner_search_33 ch la fo cg hmany st ex te go ord od HH HW N x1 x2 x3 kinds found queued slots states costs before byy queue queuedAt wg heights tops pi ti ba nt wo pz = some o → NOK cg ch la fo st ex te ord od o.2.2.2.2.2.2.2.2.2.2.2.2.2.2.2.2.2.1 ∧ True := by
  intro N
  induction N with
  | zero => intro x2 x3 kinds found queued slots states costs before byy queue queuedAt wg heights tops pi ti ba nt wo pz _ _ _ e; exact nomatch e
  | succ N ih =>
    intro x2 x3 kinds found queued slots states costs before byy queue queuedAt wg heights tops pi ti ba nt wo pz hwg hh hN e
    replace e : f_Planner_search_33_b ch la fo cg hmany st ex te go ord od HH HW (f_Planner_search_33 ch la fo cg hmany st ex te go ord od HH HW N) x1 x2 x3 kinds found queued slots states costs before byy queue queuedAt wg heights tops pi ti ba nt wo pz = some o := e
    unfold f_Planner_search_33_b at e
    have a140 : ∀ (x2' x3' : Int) (kinds found queued : Int) (slots states costs before byy queue queuedAt wg heights tops : Nat → Int) (pi ti ba : Int) (nt wo pz : Nat → Int), zR wg 0 30 → zR heights 0 5 → NOK cg ch la fo st ex te ord od nt → f_Planner_search_140 ch la fo cg hmany st ex te go ord od HH HW (f_Planner_search_33 ch la fo cg hmany st ex te go ord od HH HW N) x1 x2' x3' kinds found queued slots states costs before byy queue queuedAt wg heights tops pi ti ba nt wo pz = some o → NOK cg ch la fo st ex te ord od o.2.2.2.2.2.2.2.2.2.2.2.2.2.2.2.2.2.1 ∧ True := fun x2' x3' kinds found queued slots states costs before byy queue queuedAt wg heights tops pi ti ba nt wo pz h1 h2 h3 e => by
      unfold f_Planner_search_140 at e
      exact ih _ _ _ _ _ _ _ _ _ _ _ _ _ _ _ _ _ _ _ _ _ h1 h2 h3 (xp_n e)
    have a122 : ∀ (x3' x4' : Int) (kinds found queued : Int) (slots states costs before byy queue queuedAt wg heights tops : Nat → Int) (pi ti ba : Int) (nt wo pz : Nat → Int), zR wg 0 30 → zR heights 0 5 → NOK cg ch la fo st ex te ord od nt → f_Planner_search_122 ch la fo cg hmany st ex te go ord od HH HW (f_Planner_search_33 ch la fo cg hmany st ex te go ord od HH HW N) x1 x3' x4' kinds found queued slots states costs before byy queue queuedAt wg heights tops pi ti ba nt wo pz = some o → NOK cg ch la fo st ex te ord od o.2.2.2.2.2.2.2.2.2.2.2.2.2.2.2.2.2.1 ∧ True := fun x3' x4' kinds found queued slots states costs before byy queue queuedAt wg heights tops pi ti ba nt wo pz h1 h2 h3 e => by
      unfold f_Planner_search_122 at e
      exact a140 _ _ _ _ _ _ _ _ _ _ _ _ _ _ _ _ _ _ _ _ _ h1 h2 h3 e
    have a77 : ∀ (x4' queued' : Int) (queue' queuedAt' : Nat → Int), f_Planner_search_77 ch la fo cg hmany st ex te go ord od HH HW (f_Planner_search_33 ch la fo cg hmany st ex te go ord od HH HW N) x1 x2 x3 x4' kinds found queued' slots states costs before byy queue' queuedAt' wg heights tops pi ti ba nt wo pz = some o → NOK cg ch la fo st ex te ord od o.2.2.2.2.2.2.2.2.2.2.2.2.2.2.2.2.2.1 ∧ True := fun x4' queued' queue' queuedAt' e => by
      unfold f_Planner_search_77 at e
      replace e := (xp_g e).2
      obtain ⟨a2, a3, e2, e⟩ := xz_d2 e
      unfold f_Planner_look at e2
      have h2 : zR a2 0 5 := pn_look2 zfu _ _ _ hh e2
      obtain ⟨v4, _, e⟩ := xz_d1 e
      rcases xp_if e with ⟨_, e⟩ | ⟨_, e⟩
      · rcases xp_if e with ⟨_, e⟩ | ⟨_, e⟩
        · exact a140 _ _ _ _ _ _ _ _ _ _ _ _ _ _ _ _ _ _ _ _ _ hwg h2 hN e
        · obtain ⟨v5, v6, a7, a8, a9, a10, a11, a12, a13, a14, v15, v16, v17, a18, a19, a20, e3, e⟩ := xz_d16 e
          have q := pn_goOn hF hcg hm hwg _ _ _ _ _ _ _ _ _ _ _ _ _ _ _ _ h2 hN e3
          exact a140 _ _ _ _ _ _ _ _ _ _ _ _ _ _ _ _ _ _ _ _ _ hwg q.1 q.2 e
      · rcases xp_if e with ⟨_, e⟩ | ⟨_, e⟩
        · exact a122 _ _ _ _ _ _ _ _ _ _ _ _ _ _ _ _ _ _ _ _ _ hwg h2 hN e
        · replace e := (xp_g (xp_g e).2).2
          obtain ⟨v23, _, e⟩ := xz_d1 e
          rcases xp_if e with ⟨_, e⟩ | ⟨_, e⟩
          · exact a140 _ _ _ _ _ _ _ _ _ _ _ _ _ _ _ _ _ _ _ _ _ hwg h2 hN e
          · exact a122 _ _ _ _ _ _ _ _ _ _ _ _ _ _ _ _ _ _ _ _ _ hwg h2 hN e
    rcases xp_if e with ⟨_, e⟩ | ⟨_, e⟩
    · cases e
      exact ⟨hN, trivial⟩
    rcases xp_if e with ⟨_, e⟩ | ⟨_, e⟩
    · cases e
      exact ⟨hN, trivial⟩
    obtain ⟨v1, v2, a3, a4, _, e⟩ := xz_d4 e
    rcases xp_if e with ⟨_, e⟩ | ⟨_, e⟩
    · exact a77 _ _ _ _ e
    replace e := (xp_g (xp_g e).2).2
    rcases xp_if e with ⟨_, e⟩ | ⟨_, e⟩
    · exact a77 _ _ _ _ e
    · cases e
      exact ⟨hN, trivial⟩
theorem pn_search {ch la fo : Int} {st ex te ord od : Nat → Int} {row : Nat → Int} {cg hmany x1 : Int} {go HH HW : Nat → Int} {o : Int × Int × Int × Int × (Nat → Int) × (Nat → Int) × (Nat → Int) × (Nat → Int) × (Nat → Int) × (Nat → Int) × (Nat → Int) × (Nat → Int) × (Nat → Int) × (Nat → Int) × Int × Int × Int × (Nat → Int) × (Nat → Int) × (Nat → Int)} (hF : FOK ch la fo st ex te ord od row) (hcg : 0 ≤ cg ∧ cg ≤ 5000) (hm : 0 ≤ hmany ∧ hmany ≤ 12) (hH : zR HH 0 10) (hW : zR HW 0 30) (kinds found queued : Int) (slots states costs before byy queue queuedAt wg heights tops : Nat → Int) (pi ti ba : Int) (nt wo pz : Nat → Int) (bk : 0 ≤ kinds ∧ kinds ≤ 5) (hwg : zR wg 0 30) (hh : zR heights 0 5) (hN : NOK cg ch la fo st ex te ord od nt) (e : f_Planner_search x1 ch la fo cg hmany st ex te go ord od HH HW kinds found queued slots states costs before byy queue queuedAt wg heights tops pi ti ba nt wo pz = some o) : NOK cg ch la fo st ex te ord od o.2.2.2.2.2.2.2.2.2.2.2.2.2.2.2.2.2.1 := by
  unfold f_Planner_search at e
  obtain ⟨a1, _, e⟩ := xz_d1 e
  obtain ⟨v2, v3, a4, e2, e⟩ := xz_d3 e
  have q := zok_x (s_Planner_firstState hmany HH HW kinds wg hm hH hW bk hwg) e2
  have q4 : zR a4 0 30 := q.2.2
  obtain ⟨v5, v6, a7, a8, a9, a10, a11, a12, a13, _, e⟩ := xz_d9 e
  exact (pn_33 hF hcg hm zfu _ _ _ _ _ _ _ _ _ _ _ _ _ _ _ _ _ _ _ _ _ q4 hh hN e).1
end
section
set_option maxHeartbeats 4000000 in
set_option maxRecDepth 10000 in
theorem pn_planned {row : Nat → Int} {x1 : Int} {i_hill_children : Int} {i_hill_laws : Int} {i_hill_inForce : Int} {i_hill_changes : Int} {i_hill_columns_many : Int} {i_hill_strengths : Nat → Int} {i_hill_expelled : Nat → Int} {i_hill_terms : Nat → Int} {i_hill_goals : Nat → Int} {i_hill_orders : Nat → Int} {i_hill_ordered : Nat → Int} {i_hill_columns_heights : Nat → Int} {i_hill_columns_weights : Nat → Int} {i_kinds : Int} {i_found : Int} {i_queued : Int} {i_slots : Nat → Int} {i_states : Nat → Int} {i_costs : Nat → Int} {i_before : Nat → Int} {i_by : Nat → Int} {i_queue : Nat → Int} {i_queuedAt : Nat → Int} {i_weights : Nat → Int} {i_heights : Nat → Int} {i_tops : Nat → Int} {i_carriers_judge_piled : Int} {i_carriers_judge_tiring : Int} {i_carriers_judge_barred : Int} {i_carriers_notes : Nat → Int} {i_plans_0_version : Int} {i_plans_0_length : Int} {i_plans_0_tiring : Int} {i_plans_1_version : Int} {i_plans_1_length : Int} {i_plans_1_tiring : Int} {i_plans_2_version : Int} {i_plans_2_length : Int} {i_plans_2_tiring : Int} {i_carriers_judge_words : Nat → Int} {i_carriers_judge_pile : Nat → Int} {i_plans_0_row : Nat → Int} {i_plans_1_row : Nat → Int} {i_plans_2_row : Nat → Int} {v : Int × Int × Int × Int × (Nat → Int) × (Nat → Int) × (Nat → Int) × (Nat → Int) × (Nat → Int) × (Nat → Int) × (Nat → Int) × (Nat → Int) × (Nat → Int) × (Nat → Int) × Int × Int × Int × (Nat → Int) × Int × Int × Int × Int × Int × Int × Int × Int × Int × (Nat → Int) × (Nat → Int) × (Nat → Int) × (Nat → Int) × (Nat → Int)} (hF : FOK i_hill_children i_hill_laws i_hill_inForce i_hill_strengths i_hill_expelled i_hill_terms i_hill_orders i_hill_ordered row) (hcg : 0 ≤ i_hill_changes ∧ i_hill_changes ≤ 5000) (hm : 0 ≤ i_hill_columns_many ∧ i_hill_columns_many ≤ 12) (hH : zR i_hill_columns_heights 0 10) (hW : zR i_hill_columns_weights 0 30) (hk : 0 ≤ i_kinds ∧ i_kinds ≤ 5) (hwg : zR i_weights 0 30) (hh : zR i_heights 0 5) (hN : NOK i_hill_changes i_hill_children i_hill_laws i_hill_inForce i_hill_strengths i_hill_expelled i_hill_terms i_hill_orders i_hill_ordered i_carriers_notes) (h : f_Planner_planned x1 i_hill_children i_hill_laws i_hill_inForce i_hill_changes i_hill_columns_many i_hill_strengths i_hill_expelled i_hill_terms i_hill_goals i_hill_orders i_hill_ordered i_hill_columns_heights i_hill_columns_weights i_kinds i_found i_queued i_slots i_states i_costs i_before i_by i_queue i_queuedAt i_weights i_heights i_tops i_carriers_judge_piled i_carriers_judge_tiring i_carriers_judge_barred i_carriers_notes i_plans_0_version i_plans_0_length i_plans_0_tiring i_plans_1_version i_plans_1_length i_plans_1_tiring i_plans_2_version i_plans_2_length i_plans_2_tiring i_carriers_judge_words i_carriers_judge_pile i_plans_0_row i_plans_1_row i_plans_2_row = some v) : NOK i_hill_changes i_hill_children i_hill_laws i_hill_inForce i_hill_strengths i_hill_expelled i_hill_terms i_hill_orders i_hill_ordered v.2.2.2.2.2.2.2.2.2.2.2.2.2.2.2.2.2.1 := by
  unfold f_Planner_planned at h
  rcases xp_if h with ⟨_, h⟩ | ⟨_, h⟩
  · unfold f_Planner_planned_21 at h
    unfold f_Planner_planned_22 at h
    rcases xp_if h with ⟨_, h⟩ | ⟨_, h⟩
    · rcases xp_if h with ⟨_, h⟩ | ⟨_, h⟩
      · cases h
        first | exact hN | exact q
      · obtain ⟨w0_0, e, h⟩ := xz_d1 h
        rcases xp_if h with ⟨_, h⟩ | ⟨_, h⟩
        · unfold f_Planner_planned_73c at h
          unfold f_Planner_planned_74c at h
          obtain ⟨w1_0, w1_1, w1_2, e, h⟩ := xz_d3 h
          cases h
          first | exact hN | exact q
        · obtain ⟨w1_0, e, h⟩ := xz_d1 h
          rcases xp_if h with ⟨_, h⟩ | ⟨_, h⟩
          · unfold f_Planner_planned_73c at h
            unfold f_Planner_planned_74c at h
            obtain ⟨w2_0, w2_1, w2_2, e, h⟩ := xz_d3 h
            cases h
            first | exact hN | exact q
          · obtain ⟨w2_0, w2_1, w2_2, w2_3, w2_4, w2_5, w2_6, w2_7, w2_8, w2_9, w2_10, w2_11, w2_12, w2_13, w2_14, w2_15, w2_16, w2_17, w2_18, w2_19, e, h⟩ := xz_d20 h
            have q := pn_search hF hcg hm hH hW _ _ _ _ _ _ _ _ _ _ _ _ _ _ _ _ _ _ _ hk hwg hh hN e
            have q : NOK i_hill_changes i_hill_children i_hill_laws i_hill_inForce i_hill_strengths i_hill_expelled i_hill_terms i_hill_orders i_hill_ordered w2_17 := q
            unfold f_Planner_planned_74c at h
            obtain ⟨w3_0, w3_1, w3_2, e, h⟩ := xz_d3 h
            cases h
            first | exact hN | exact q
    · rcases xp_if h with ⟨_, h⟩ | ⟨_, h⟩
      · rcases xp_if h with ⟨_, h⟩ | ⟨_, h⟩
        · cases h
          first | exact hN | exact q
        · obtain ⟨w0_0, e, h⟩ := xz_d1 h
          rcases xp_if h with ⟨_, h⟩ | ⟨_, h⟩
          · unfold f_Planner_planned_73b at h
            unfold f_Planner_planned_74b at h
            obtain ⟨w1_0, w1_1, w1_2, e, h⟩ := xz_d3 h
            cases h
            first | exact hN | exact q
          · obtain ⟨w1_0, e, h⟩ := xz_d1 h
            rcases xp_if h with ⟨_, h⟩ | ⟨_, h⟩
            · unfold f_Planner_planned_73b at h
              unfold f_Planner_planned_74b at h
              obtain ⟨w2_0, w2_1, w2_2, e, h⟩ := xz_d3 h
              cases h
              first | exact hN | exact q
            · obtain ⟨w2_0, w2_1, w2_2, w2_3, w2_4, w2_5, w2_6, w2_7, w2_8, w2_9, w2_10, w2_11, w2_12, w2_13, w2_14, w2_15, w2_16, w2_17, w2_18, w2_19, e, h⟩ := xz_d20 h
              have q := pn_search hF hcg hm hH hW _ _ _ _ _ _ _ _ _ _ _ _ _ _ _ _ _ _ _ hk hwg hh hN e
              have q : NOK i_hill_changes i_hill_children i_hill_laws i_hill_inForce i_hill_strengths i_hill_expelled i_hill_terms i_hill_orders i_hill_ordered w2_17 := q
              unfold f_Planner_planned_74b at h
              obtain ⟨w3_0, w3_1, w3_2, e, h⟩ := xz_d3 h
              cases h
              first | exact hN | exact q
      · rcases xp_if h with ⟨_, h⟩ | ⟨_, h⟩
        · rcases xp_if h with ⟨_, h⟩ | ⟨_, h⟩
          · cases h
            first | exact hN | exact q
          · obtain ⟨w0_0, e, h⟩ := xz_d1 h
            rcases xp_if h with ⟨_, h⟩ | ⟨_, h⟩
            · unfold f_Planner_planned_73a at h
              unfold f_Planner_planned_74a at h
              obtain ⟨w1_0, w1_1, w1_2, e, h⟩ := xz_d3 h
              cases h
              first | exact hN | exact q
            · obtain ⟨w1_0, e, h⟩ := xz_d1 h
              rcases xp_if h with ⟨_, h⟩ | ⟨_, h⟩
              · unfold f_Planner_planned_73a at h
                unfold f_Planner_planned_74a at h
                obtain ⟨w2_0, w2_1, w2_2, e, h⟩ := xz_d3 h
                cases h
                first | exact hN | exact q
              · obtain ⟨w2_0, w2_1, w2_2, w2_3, w2_4, w2_5, w2_6, w2_7, w2_8, w2_9, w2_10, w2_11, w2_12, w2_13, w2_14, w2_15, w2_16, w2_17, w2_18, w2_19, e, h⟩ := xz_d20 h
                have q := pn_search hF hcg hm hH hW _ _ _ _ _ _ _ _ _ _ _ _ _ _ _ _ _ _ _ hk hwg hh hN e
                have q : NOK i_hill_changes i_hill_children i_hill_laws i_hill_inForce i_hill_strengths i_hill_expelled i_hill_terms i_hill_orders i_hill_ordered w2_17 := q
                unfold f_Planner_planned_74a at h
                obtain ⟨w3_0, w3_1, w3_2, e, h⟩ := xz_d3 h
                cases h
                first | exact hN | exact q
        · exact nomatch h
  · rcases xp_if h with ⟨_, h⟩ | ⟨_, h⟩
    · unfold f_Planner_planned_21 at h
      unfold f_Planner_planned_22 at h
      rcases xp_if h with ⟨_, h⟩ | ⟨_, h⟩
      · rcases xp_if h with ⟨_, h⟩ | ⟨_, h⟩
        · cases h
          first | exact hN | exact q
        · obtain ⟨w0_0, e, h⟩ := xz_d1 h
          rcases xp_if h with ⟨_, h⟩ | ⟨_, h⟩
          · unfold f_Planner_planned_73c at h
            unfold f_Planner_planned_74c at h
            obtain ⟨w1_0, w1_1, w1_2, e, h⟩ := xz_d3 h
            cases h
            first | exact hN | exact q
          · obtain ⟨w1_0, e, h⟩ := xz_d1 h
            rcases xp_if h with ⟨_, h⟩ | ⟨_, h⟩
            · unfold f_Planner_planned_73c at h
              unfold f_Planner_planned_74c at h
              obtain ⟨w2_0, w2_1, w2_2, e, h⟩ := xz_d3 h
              cases h
              first | exact hN | exact q
            · obtain ⟨w2_0, w2_1, w2_2, w2_3, w2_4, w2_5, w2_6, w2_7, w2_8, w2_9, w2_10, w2_11, w2_12, w2_13, w2_14, w2_15, w2_16, w2_17, w2_18, w2_19, e, h⟩ := xz_d20 h
              have q := pn_search hF hcg hm hH hW _ _ _ _ _ _ _ _ _ _ _ _ _ _ _ _ _ _ _ hk hwg hh hN e
              have q : NOK i_hill_changes i_hill_children i_hill_laws i_hill_inForce i_hill_strengths i_hill_expelled i_hill_terms i_hill_orders i_hill_ordered w2_17 := q
              unfold f_Planner_planned_74c at h
              obtain ⟨w3_0, w3_1, w3_2, e, h⟩ := xz_d3 h
              cases h
              first | exact hN | exact q
      · rcases xp_if h with ⟨_, h⟩ | ⟨_, h⟩
        · rcases xp_if h with ⟨_, h⟩ | ⟨_, h⟩
          · cases h
            first | exact hN | exact q
          · obtain ⟨w0_0, e, h⟩ := xz_d1 h
            rcases xp_if h with ⟨_, h⟩ | ⟨_, h⟩
            · unfold f_Planner_planned_73b at h
              unfold f_Planner_planned_74b at h
              obtain ⟨w1_0, w1_1, w1_2, e, h⟩ := xz_d3 h
              cases h
              first | exact hN | exact q
            · obtain ⟨w1_0, e, h⟩ := xz_d1 h
              rcases xp_if h with ⟨_, h⟩ | ⟨_, h⟩
              · unfold f_Planner_planned_73b at h
                unfold f_Planner_planned_74b at h
                obtain ⟨w2_0, w2_1, w2_2, e, h⟩ := xz_d3 h
                cases h
                first | exact hN | exact q
              · obtain ⟨w2_0, w2_1, w2_2, w2_3, w2_4, w2_5, w2_6, w2_7, w2_8, w2_9, w2_10, w2_11, w2_12, w2_13, w2_14, w2_15, w2_16, w2_17, w2_18, w2_19, e, h⟩ := xz_d20 h
                have q := pn_search hF hcg hm hH hW _ _ _ _ _ _ _ _ _ _ _ _ _ _ _ _ _ _ _ hk hwg hh hN e
                have q : NOK i_hill_changes i_hill_children i_hill_laws i_hill_inForce i_hill_strengths i_hill_expelled i_hill_terms i_hill_orders i_hill_ordered w2_17 := q
                unfold f_Planner_planned_74b at h
                obtain ⟨w3_0, w3_1, w3_2, e, h⟩ := xz_d3 h
                cases h
                first | exact hN | exact q
        · rcases xp_if h with ⟨_, h⟩ | ⟨_, h⟩
          · rcases xp_if h with ⟨_, h⟩ | ⟨_, h⟩
            · cases h
              first | exact hN | exact q
            · obtain ⟨w0_0, e, h⟩ := xz_d1 h
              rcases xp_if h with ⟨_, h⟩ | ⟨_, h⟩
              · unfold f_Planner_planned_73a at h
                unfold f_Planner_planned_74a at h
                obtain ⟨w1_0, w1_1, w1_2, e, h⟩ := xz_d3 h
                cases h
                first | exact hN | exact q
              · obtain ⟨w1_0, e, h⟩ := xz_d1 h
                rcases xp_if h with ⟨_, h⟩ | ⟨_, h⟩
                · unfold f_Planner_planned_73a at h
                  unfold f_Planner_planned_74a at h
                  obtain ⟨w2_0, w2_1, w2_2, e, h⟩ := xz_d3 h
                  cases h
                  first | exact hN | exact q
                · obtain ⟨w2_0, w2_1, w2_2, w2_3, w2_4, w2_5, w2_6, w2_7, w2_8, w2_9, w2_10, w2_11, w2_12, w2_13, w2_14, w2_15, w2_16, w2_17, w2_18, w2_19, e, h⟩ := xz_d20 h
                  have q := pn_search hF hcg hm hH hW _ _ _ _ _ _ _ _ _ _ _ _ _ _ _ _ _ _ _ hk hwg hh hN e
                  have q : NOK i_hill_changes i_hill_children i_hill_laws i_hill_inForce i_hill_strengths i_hill_expelled i_hill_terms i_hill_orders i_hill_ordered w2_17 := q
                  unfold f_Planner_planned_74a at h
                  obtain ⟨w3_0, w3_1, w3_2, e, h⟩ := xz_d3 h
                  cases h
                  first | exact hN | exact q
          · exact nomatch h
    · unfold f_Planner_planned_22 at h
      rcases xp_if h with ⟨_, h⟩ | ⟨_, h⟩
      · rcases xp_if h with ⟨_, h⟩ | ⟨_, h⟩
        · cases h
          first | exact hN | exact q
        · obtain ⟨w0_0, e, h⟩ := xz_d1 h
          rcases xp_if h with ⟨_, h⟩ | ⟨_, h⟩
          · unfold f_Planner_planned_73c at h
            unfold f_Planner_planned_74c at h
            obtain ⟨w1_0, w1_1, w1_2, e, h⟩ := xz_d3 h
            cases h
            first | exact hN | exact q
          · obtain ⟨w1_0, e, h⟩ := xz_d1 h
            rcases xp_if h with ⟨_, h⟩ | ⟨_, h⟩
            · unfold f_Planner_planned_73c at h
              unfold f_Planner_planned_74c at h
              obtain ⟨w2_0, w2_1, w2_2, e, h⟩ := xz_d3 h
              cases h
              first | exact hN | exact q
            · obtain ⟨w2_0, w2_1, w2_2, w2_3, w2_4, w2_5, w2_6, w2_7, w2_8, w2_9, w2_10, w2_11, w2_12, w2_13, w2_14, w2_15, w2_16, w2_17, w2_18, w2_19, e, h⟩ := xz_d20 h
              have q := pn_search hF hcg hm hH hW _ _ _ _ _ _ _ _ _ _ _ _ _ _ _ _ _ _ _ hk hwg hh hN e
              have q : NOK i_hill_changes i_hill_children i_hill_laws i_hill_inForce i_hill_strengths i_hill_expelled i_hill_terms i_hill_orders i_hill_ordered w2_17 := q
              unfold f_Planner_planned_74c at h
              obtain ⟨w3_0, w3_1, w3_2, e, h⟩ := xz_d3 h
              cases h
              first | exact hN | exact q
      · rcases xp_if h with ⟨_, h⟩ | ⟨_, h⟩
        · rcases xp_if h with ⟨_, h⟩ | ⟨_, h⟩
          · cases h
            first | exact hN | exact q
          · obtain ⟨w0_0, e, h⟩ := xz_d1 h
            rcases xp_if h with ⟨_, h⟩ | ⟨_, h⟩
            · unfold f_Planner_planned_73b at h
              unfold f_Planner_planned_74b at h
              obtain ⟨w1_0, w1_1, w1_2, e, h⟩ := xz_d3 h
              cases h
              first | exact hN | exact q
            · obtain ⟨w1_0, e, h⟩ := xz_d1 h
              rcases xp_if h with ⟨_, h⟩ | ⟨_, h⟩
              · unfold f_Planner_planned_73b at h
                unfold f_Planner_planned_74b at h
                obtain ⟨w2_0, w2_1, w2_2, e, h⟩ := xz_d3 h
                cases h
                first | exact hN | exact q
              · obtain ⟨w2_0, w2_1, w2_2, w2_3, w2_4, w2_5, w2_6, w2_7, w2_8, w2_9, w2_10, w2_11, w2_12, w2_13, w2_14, w2_15, w2_16, w2_17, w2_18, w2_19, e, h⟩ := xz_d20 h
                have q := pn_search hF hcg hm hH hW _ _ _ _ _ _ _ _ _ _ _ _ _ _ _ _ _ _ _ hk hwg hh hN e
                have q : NOK i_hill_changes i_hill_children i_hill_laws i_hill_inForce i_hill_strengths i_hill_expelled i_hill_terms i_hill_orders i_hill_ordered w2_17 := q
                unfold f_Planner_planned_74b at h
                obtain ⟨w3_0, w3_1, w3_2, e, h⟩ := xz_d3 h
                cases h
                first | exact hN | exact q
        · rcases xp_if h with ⟨_, h⟩ | ⟨_, h⟩
          · rcases xp_if h with ⟨_, h⟩ | ⟨_, h⟩
            · cases h
              first | exact hN | exact q
            · obtain ⟨w0_0, e, h⟩ := xz_d1 h
              rcases xp_if h with ⟨_, h⟩ | ⟨_, h⟩
              · unfold f_Planner_planned_73a at h
                unfold f_Planner_planned_74a at h
                obtain ⟨w1_0, w1_1, w1_2, e, h⟩ := xz_d3 h
                cases h
                first | exact hN | exact q
              · obtain ⟨w1_0, e, h⟩ := xz_d1 h
                rcases xp_if h with ⟨_, h⟩ | ⟨_, h⟩
                · unfold f_Planner_planned_73a at h
                  unfold f_Planner_planned_74a at h
                  obtain ⟨w2_0, w2_1, w2_2, e, h⟩ := xz_d3 h
                  cases h
                  first | exact hN | exact q
                · obtain ⟨w2_0, w2_1, w2_2, w2_3, w2_4, w2_5, w2_6, w2_7, w2_8, w2_9, w2_10, w2_11, w2_12, w2_13, w2_14, w2_15, w2_16, w2_17, w2_18, w2_19, e, h⟩ := xz_d20 h
                  have q := pn_search hF hcg hm hH hW _ _ _ _ _ _ _ _ _ _ _ _ _ _ _ _ _ _ _ hk hwg hh hN e
                  have q : NOK i_hill_changes i_hill_children i_hill_laws i_hill_inForce i_hill_strengths i_hill_expelled i_hill_terms i_hill_orders i_hill_ordered w2_17 := q
                  unfold f_Planner_planned_74a at h
                  obtain ⟨w3_0, w3_1, w3_2, e, h⟩ := xz_d3 h
                  cases h
                  first | exact hN | exact q
          · exact nomatch h
set_option maxHeartbeats 4000000 in
set_option maxRecDepth 10000 in
theorem pn_plan {row : Nat → Int} {x1 : Int} {x2 : Int} {x3 : Int} {i_hill_children : Int} {i_hill_laws : Int} {i_hill_inForce : Int} {i_hill_changes : Int} {i_hill_columns_many : Int} {i_hill_strengths : Nat → Int} {i_hill_expelled : Nat → Int} {i_hill_terms : Nat → Int} {i_hill_goals : Nat → Int} {i_hill_orders : Nat → Int} {i_hill_ordered : Nat → Int} {i_hill_columns_heights : Nat → Int} {i_hill_columns_weights : Nat → Int} {i_judge_piled : Int} {i_judge_tiring : Int} {i_judge_barred : Int} {i_planner_kinds : Int} {i_planner_found : Int} {i_planner_queued : Int} {i_judge_words : Nat → Int} {i_judge_pile : Nat → Int} {i_carriers_notes : Nat → Int} {i_planner_slots : Nat → Int} {i_planner_states : Nat → Int} {i_planner_costs : Nat → Int} {i_planner_before : Nat → Int} {i_planner_by : Nat → Int} {i_planner_queue : Nat → Int} {i_planner_queuedAt : Nat → Int} {i_planner_weights : Nat → Int} {i_planner_heights : Nat → Int} {i_planner_tops : Nat → Int} {i_planner_plans_0_version : Int} {i_planner_plans_0_length : Int} {i_planner_plans_0_tiring : Int} {i_planner_plans_1_version : Int} {i_planner_plans_1_length : Int} {i_planner_plans_1_tiring : Int} {i_planner_plans_2_version : Int} {i_planner_plans_2_length : Int} {i_planner_plans_2_tiring : Int} {i_planner_plans_0_row : Nat → Int} {i_planner_plans_1_row : Nat → Int} {i_planner_plans_2_row : Nat → Int} {v : Int × Int × Int × Int × Int × Int × Int × (Nat → Int) × (Nat → Int) × (Nat → Int) × (Nat → Int) × (Nat → Int) × (Nat → Int) × (Nat → Int) × (Nat → Int) × (Nat → Int) × (Nat → Int) × (Nat → Int) × (Nat → Int) × (Nat → Int) × Int × Int × Int × Int × Int × Int × Int × Int × Int × (Nat → Int) × (Nat → Int) × (Nat → Int)} (hF : FOK i_hill_children i_hill_laws i_hill_inForce i_hill_strengths i_hill_expelled i_hill_terms i_hill_orders i_hill_ordered row) (hcg : 0 ≤ i_hill_changes ∧ i_hill_changes ≤ 5000) (hm : 0 ≤ i_hill_columns_many ∧ i_hill_columns_many ≤ 12) (hH : zR i_hill_columns_heights 0 10) (hW : zR i_hill_columns_weights 0 30) (hk : 0 ≤ i_planner_kinds ∧ i_planner_kinds ≤ 5) (hwg : zR i_planner_weights 0 30) (hh : zR i_planner_heights 0 5) (hN : NOK i_hill_changes i_hill_children i_hill_laws i_hill_inForce i_hill_strengths i_hill_expelled i_hill_terms i_hill_orders i_hill_ordered i_carriers_notes) (h : f_HS_plan x1 x2 x3 i_hill_children i_hill_laws i_hill_inForce i_hill_changes i_hill_columns_many i_hill_strengths i_hill_expelled i_hill_terms i_hill_goals i_hill_orders i_hill_ordered i_hill_columns_heights i_hill_columns_weights i_judge_piled i_judge_tiring i_judge_barred i_planner_kinds i_planner_found i_planner_queued i_judge_words i_judge_pile i_carriers_notes i_planner_slots i_planner_states i_planner_costs i_planner_before i_planner_by i_planner_queue i_planner_queuedAt i_planner_weights i_planner_heights i_planner_tops i_planner_plans_0_version i_planner_plans_0_length i_planner_plans_0_tiring i_planner_plans_1_version i_planner_plans_1_length i_planner_plans_1_tiring i_planner_plans_2_version i_planner_plans_2_length i_planner_plans_2_tiring i_planner_plans_0_row i_planner_plans_1_row i_planner_plans_2_row = some v) : NOK i_hill_changes i_hill_children i_hill_laws i_hill_inForce i_hill_strengths i_hill_expelled i_hill_terms i_hill_orders i_hill_ordered v.2.2.2.2.2.2.2.2.2.1 := by
  unfold f_HS_plan at h
  rcases xp_if h with ⟨_, h⟩ | ⟨_, h⟩
  · cases h
    first | exact hN | exact q
  · rcases xp_if h with ⟨_, h⟩ | ⟨_, h⟩
    · cases h
      first | exact hN | exact q
    · obtain ⟨w0_0, e, h⟩ := xz_d1 h
      rcases xp_if h with ⟨_, h⟩ | ⟨_, h⟩
      · obtain ⟨w1_0, w1_1, w1_2, w1_3, w1_4, w1_5, w1_6, w1_7, w1_8, w1_9, w1_10, w1_11, w1_12, w1_13, w1_14, w1_15, w1_16, w1_17, w1_18, w1_19, w1_20, w1_21, w1_22, w1_23, w1_24, w1_25, w1_26, w1_27, w1_28, w1_29, w1_30, w1_31, e, h⟩ := xz_d32 h
        have q := pn_planned hF hcg hm hH hW hk hwg hh hN e
        have q : NOK i_hill_changes i_hill_children i_hill_laws i_hill_inForce i_hill_strengths i_hill_expelled i_hill_terms i_hill_orders i_hill_ordered w1_17 := q
        rcases xp_if h with ⟨_, h⟩ | ⟨_, h⟩
        · rcases xp_if h with ⟨_, h⟩ | ⟨_, h⟩
          · unfold f_HS_plan_45c at h
            rcases xp_if h with ⟨_, h⟩ | ⟨_, h⟩
            · cases h
              first | exact hN | exact q
            · cases h
              first | exact hN | exact q
          · rcases xp_if h with ⟨_, h⟩ | ⟨_, h⟩
            · obtain ⟨w2_0, e, h⟩ := xz_d1 h
              cases h
              first | exact hN | exact q
            · unfold f_HS_plan_45c at h
              rcases xp_if h with ⟨_, h⟩ | ⟨_, h⟩
              · cases h
                first | exact hN | exact q
              · cases h
                first | exact hN | exact q
        · rcases xp_if h with ⟨_, h⟩ | ⟨_, h⟩
          · rcases xp_if h with ⟨_, h⟩ | ⟨_, h⟩
            · unfold f_HS_plan_45b at h
              rcases xp_if h with ⟨_, h⟩ | ⟨_, h⟩
              · cases h
                first | exact hN | exact q
              · cases h
                first | exact hN | exact q
            · rcases xp_if h with ⟨_, h⟩ | ⟨_, h⟩
              · obtain ⟨w2_0, e, h⟩ := xz_d1 h
                cases h
                first | exact hN | exact q
              · unfold f_HS_plan_45b at h
                rcases xp_if h with ⟨_, h⟩ | ⟨_, h⟩
                · cases h
                  first | exact hN | exact q
                · cases h
                  first | exact hN | exact q
          · rcases xp_if h with ⟨_, h⟩ | ⟨_, h⟩
            · rcases xp_if h with ⟨_, h⟩ | ⟨_, h⟩
              · unfold f_HS_plan_45a at h
                rcases xp_if h with ⟨_, h⟩ | ⟨_, h⟩
                · cases h
                  first | exact hN | exact q
                · cases h
                  first | exact hN | exact q
              · rcases xp_if h with ⟨_, h⟩ | ⟨_, h⟩
                · obtain ⟨w2_0, e, h⟩ := xz_d1 h
                  cases h
                  first | exact hN | exact q
                · unfold f_HS_plan_45a at h
                  rcases xp_if h with ⟨_, h⟩ | ⟨_, h⟩
                  · cases h
                    first | exact hN | exact q
                  · cases h
                    first | exact hN | exact q
            · exact nomatch h
      · cases h
        first | exact hN | exact q
theorem AT_c {pa many ch la fo : Int} {st ex te ord od pl : Nat → Int} {row : Nat → Int} (hR : RI row) (hm : 0 ≤ many ∧ many ≤ 12) (em : many = row 0) (hP : PREL pa pl te row) (ht : zR te 0 99) (t : Nat) (s : Int) {H W H' W' : Nat → Int} (hh : zR H 0 10) (hh' : zR H' 0 10) (hC : CREL many H W H' W') : AT pa pl many ch la fo st ex te ord od t s H W 16 = AT pa pl many ch la fo st ex te ord od t s H' W' 16 := 
  ACQ_c (fun a b => CANX_c (pa := pa) (pl := pl) hC hh a b) (fun a b hx => (VAL_c hR hm em hP ht t (1 - s) _ _ _ _ (MVH_R hh hx.2.2.2.1 hx.2.2.2.2.1) (MVH_R hh' (by rw [hC.1 a hx.1]; exact hx.2.2.2.1) (by rw [hC.1 b hx.2.1]; exact hx.2.2.2.2.1)) (CREL_mv hC hh hx.1 hx.2.1 hx.2.2.1 hx.2.2.2.1 hx.2.2.2.2.1)).1) 16
/-- what a duel answers -/
noncomputable def DAN (what v : Int) (r : Int × Int) : Int := if what = 0 then v else if r.1 = -1 then -1 else if what = 1 then r.2 / 4 else r.2 % 4
/-- what the class has found out about its latest duel -/
noncomputable def SOK (pa : Int) (pl : Nat → Int) (many ch la fo : Int) (st ex te ord od : Nat → Int) (cg : Int) (H W : Nat → Int) (ver lt lf sh : Int) (fr tt : Nat → Int) : Prop := (-1 ≤ ver ∧ ver ≤ cg) ∧ (0 ≤ lt ∧ lt ≤ 4) ∧ (0 ≤ lf ∧ lf ≤ 1) ∧ (ver = cg → 1 ≤ lt → sh = VAL pa pl many ch la fo st ex te ord od lt.toNat lf H W ∧ KREL (AT pa pl many ch la fo st ex te ord od (lt.toNat - 1) lf H W 16) (AT pa pl many ch la fo st ex te ord od (lt.toNat - 1) lf H W 16).1 (fr lt.toNat) (tt lt.toNat))
theorem SOK_up {pa many ch la fo : Int} {st ex te ord od pl : Nat → Int} {cg cg' ver lt lf sh pa' many' ch' la' fo' : Int} {H W fr tt pl' st' ex' te' ord' od' H' W' : Nat → Int} (h : SOK pa pl many ch la fo st ex te ord od cg H W ver lt lf sh fr tt) (hc : cg < cg') : SOK pa' pl' many' ch' la' fo' st' ex' te' ord' od' cg' H' W' ver lt lf sh fr tt := ⟨⟨h.1.1, by have := h.1.2; omega⟩, h.2.1, h.2.2.1, fun e => by have := h.1.2; omega⟩
theorem SOK_same {pa many ch la fo : Int} {st ex te ord od pl : Nat → Int} {row : Nat → Int} (hR : RI row) (hm : 0 ≤ many ∧ many ≤ 12) (em : many = row 0) (hP : PREL pa pl te row) (ht : zR te 0 99) {cg ver lt lf sh : Int} {H W H' W' fr tt : Nat → Int} (hh : zR H 0 10) (hh' : zR H' 0 10) (hC : CREL many H W H' W') (h : SOK pa pl many ch la fo st ex te ord od cg H W ver lt lf sh fr tt) : SOK pa pl many ch la fo st ex te ord od cg H' W' ver lt lf sh fr tt := ⟨h.1, h.2.1, h.2.2.1, fun e l => by
  have q := h.2.2.2 e l
  rw [← AT_c hR hm em hP ht (lt.toNat - 1) lf hh hh' hC, ← (VAL_c hR hm em hP ht lt.toNat lf _ _ _ _ hh hh' hC).1]
  exact q⟩
set_option maxHeartbeats 8000000 in
theorem r_duel {pa many ch la fo : Int} {st ex te ord od pl : Nat → Int} {row : Nat → Int} {a1 a2 a3 thr lw br va su : Int} {H W set rest hi he tried bests firsts : Nat → Int} {w : Int × Int × Int × Int × Int × Int × (Nat → Int) × (Nat → Int) × (Nat → Int) × (Nat → Int) × (Nat → Int) × (Nat → Int) × (Nat → Int)} (b1 : -2147483648 ≤ a1 ∧ a1 ≤ 2147483647) (b2 : -2147483648 ≤ a2 ∧ a2 ≤ 2147483647) (b3 : -2147483648 ≤ a3 ∧ a3 ≤ 2147483647) (hF : FOK ch la fo st ex te ord od row) (hP : PREL pa pl te row) (em : many = row 0) (hm : 0 ≤ many ∧ many ≤ 12) (h16 : zR hi 0 10) (h17 : zR he 0 30) (hh : zR H 0 10) (hC : CREL many H W (fun c => row (9 + c)) (fun j => row (21 + j))) (hS : STW many H W) (h : f_HM_duel a1 a2 a3 row thr lw br va su set rest hi he tried bests firsts = some w) : w.1 = if (1 ≤ a1 ∧ a1 ≤ 4) ∧ (0 ≤ a2 ∧ a2 ≤ 1) ∧ (0 ≤ a3 ∧ a3 ≤ 2) ∧ many ≤ 4 then DAN a3 (VAL pa pl many ch la fo st ex te ord od a1.toNat a2 H W) (AT pa pl many ch la fo st ex te ord od (a1.toNat - 1) a2 H W 16) else -1 := by
  have hR := hF.2.1
  have hte := hF.2.2.2.2.1
  have w4 : zi_w 4 = 4 := by decide +kernel
  have w1 : zi_w 1 = 1 := by decide +kernel
  have w15 : zi_w 15 = 15 := by decide +kernel
  have no : ∀ {o : Int × Int × Int × Int × Int × Int × (Nat → Int) × (Nat → Int) × (Nat → Int) × (Nat → Int) × (Nat → Int) × (Nat → Int) × (Nat → Int)}, w.1 = -1 → ¬ ((1 ≤ a1 ∧ a1 ≤ 4) ∧ (0 ≤ a2 ∧ a2 ≤ 1) ∧ (0 ≤ a3 ∧ a3 ≤ 2) ∧ many ≤ 4) → w.1 = if (1 ≤ a1 ∧ a1 ≤ 4) ∧ (0 ≤ a2 ∧ a2 ≤ 1) ∧ (0 ≤ a3 ∧ a3 ≤ 2) ∧ many ≤ 4 then DAN a3 (VAL pa pl many ch la fo st ex te ord od a1.toNat a2 H W) (AT pa pl many ch la fo st ex te ord od (a1.toNat - 1) a2 H W 16) else -1 := fun e n => by rw [if_neg n]; exact e
  unfold f_HM_duel at h
  rw [zwi b1, zwi b2, zwi b3] at h
  replace h := xp_n h
  obtain ⟨u2, d2, h⟩ := xz_d1 h
  have g2 := x_in (by omega) (by decide) (by decide) d2
  by_cases c1 : 1 ≤ a1 ∧ a1 ≤ 4
  rotate_left
  · rw [if_neg c1] at g2
    subst g2
    rw [if_pos (by decide +kernel)] at h
    cases h
    exact no (o := (0, 0, 0, 0, 0, 0, hi, hi, hi, hi, hi, hi, hi)) rfl (fun z => c1 z.1)
  rw [if_pos c1] at g2
  subst g2
  rw [if_neg (by decide +kernel)] at h
  replace h := xp_n h
  obtain ⟨u4, d4, h⟩ := xz_d1 h
  have g4 := x_in (by omega) (by decide) (by decide) d4
  by_cases c2 : 0 ≤ a2 ∧ a2 ≤ 1
  rotate_left
  · rw [if_neg c2] at g4
    subst g4
    rw [if_pos (by decide +kernel)] at h
    cases h
    exact no (o := (0, 0, 0, 0, 0, 0, hi, hi, hi, hi, hi, hi, hi)) rfl (fun z => c2 z.2.1)
  rw [if_pos c2] at g4
  subst g4
  rw [if_neg (by decide +kernel)] at h
  replace h := xp_n h
  obtain ⟨u6, d6, h⟩ := xz_d1 h
  have g6 := x_in (by omega) (by decide) (by decide) d6
  by_cases c3 : 0 ≤ a3 ∧ a3 ≤ 2
  rotate_left
  · rw [if_neg c3] at g6
    subst g6
    rw [if_pos (by decide +kernel)] at h
    cases h
    exact no (o := (0, 0, 0, 0, 0, 0, hi, hi, hi, hi, hi, hi, hi)) rfl (fun z => c3 z.2.2.1)
  rw [if_pos c3] at g6
  subst g6
  rw [if_neg (by decide +kernel)] at h
  obtain ⟨v7, d7, h⟩ := xz_d1 h
  have g7 := r_columns d7
  rw [← em] at g7
  subst g7
  rw [zwi (x := v7) (by omega), w4] at h
  by_cases c4 : v7 ≤ 4
  rotate_left
  · rw [if_neg c4] at h
    cases h
    exact no (o := (0, 0, 0, 0, 0, 0, hi, hi, hi, hi, hi, hi, hi)) rfl (fun z => c4 z.2.2.2)
  rw [if_pos c4] at h
  rw [if_pos ⟨c1, c2, c3, c4⟩]
  obtain ⟨a8, a9, d8, h⟩ := xz_d2 h
  have ld := r_load d8
  have lz := zok_x (s_HM_load row hi he hR h16 h17) d8
  have lz1 : zR a8 0 10 := lz.1
  have lz2 : zR a9 0 30 := lz.2
  have C2 : CREL v7 H W a8 a9 := CREL_load hm.2 hh hC ld.1 ld.2
  replace h := (xp_s (xp_s h).2).2
  have RT := sp_all (pa := pa) (pl := pl) (what := a3) (thr := 0) hF hP em hm c1 c2 a1.toNat zfu 0 _ _ _ _ _ _ a8 a9 _ _ _ w (by omega) (fun _ => ⟨zu_eq _ _ _, zu_eq _ _ _⟩) lz1 lz2 (STW_c hS C2) h
  have s0 : SDF a2 0 = a2 := by unfold SDF; omega
  unfold RET at RT
  rw [s0] at RT
  obtain ⟨N', lw', br', va', su', set', rest', he', tried', bests', firsts', h, C', R', kp, fin⟩ := RT
  obtain ⟨f1, f2⟩ := fin (by omega)
  have vv := VAL_c (ch := ch) (la := la) (fo := fo) (st := st) (ex := ex) (ord := ord) (od := od) hR hm em hP hte a1.toNat a2 _ _ _ _ hh lz1 C2
  have aa := AT_c (ch := ch) (la := la) (fo := fo) (st := st) (ex := ex) (ord := ord) (od := od) hR hm em hP hte (a1.toNat - 1) a2 hh lz1 C2
  rw [← vv.1] at f1
  rw [← aa] at f2
  have bv := vv.2
  unfold f_HM_duel_136 at h
  replace h := xp_n h
  rw [show zi_w (((0 : Nat) : Int) + (-1)) = -1 from by decide +kernel, if_pos (by decide)] at h
  unfold f_HM_duel_166 f_HM_duel_224 at h
  cases N' with
  | zero => exact nomatch h
  | succ N' =>
    replace h : f_HM_duel_72_b row (f_HM_duel_72 row N') a1 a2 a3 (((0 : Nat) : Int) + (-1)) 0 lw' br' va' su' set' rest' a8 he' tried' bests' firsts' = some w := h
    unfold f_HM_duel_72_b at h
    rw [show zi_w (((0 : Nat) : Int) + (-1)) = -1 from by decide +kernel, if_pos (by decide), zwi b3, w1, w15, w4] at h
    have z0 : (zi_w 0).toNat = 0 := by decide +kernel
    unfold DAN
    by_cases c5 : a3 = 0
    · rw [if_neg (fun z => z c5)] at h
      replace h := (xp_g h).2
      rw [z0] at h
      cases h
      rw [if_pos c5]
      exact f1
    rw [if_pos c5] at h
    rw [if_neg c5]
    replace h := (xp_g h).2
    rw [z0] at h
    rcases f2 with ⟨k1, k2⟩ | ⟨k1, k2, k3⟩
    · rw [k2, show zi_w 17 = 17 from by decide +kernel, if_neg (by decide)] at h
      cases h
      rw [if_pos k1]
    · rw [zwi (x := firsts' 0) (by omega), if_pos (by omega)] at h
      rw [if_neg (by omega), ← k3]
      by_cases c6 : a3 = 1
      · rw [if_neg (fun z => z c6)] at h
        replace h := xp_n (xp_gd (xp_g h).2).2
        rw [z0, zi_div_n (by omega) (by decide)] at h
        cases h
        rw [if_pos c6]
      · rw [if_pos c6] at h
        replace h := xp_n (xp_gd (xp_g h).2).2
        rw [z0, zi_rem_n (by omega) (by decide)] at h
        cases h
        rw [if_neg c6]
theorem k_87 {what v : Int} {r : Int × Int} {f t : Int} (hk : KREL r r.1 f t) (h3 : 0 ≤ what ∧ what ≤ 2) : (what = 0 → DAN what v r = v) ∧ (what = 1 → DAN what v r = f) ∧ (what = 2 → DAN what v r = t) := by
  unfold DAN
  obtain ⟨_, k⟩ := hk
  refine ⟨fun e => by rw [if_pos e], fun e => ?_, fun e => ?_⟩
  · rw [if_neg (by omega)]
    rcases k with ⟨k1, k2, k3⟩ | ⟨k1, k2, k3, k4⟩
    · rw [if_pos k1]; exact k2.symm
    · rw [if_neg (by omega), if_pos e]; omega
  · rw [if_neg (by omega)]
    rcases k with ⟨k1, k2, k3⟩ | ⟨k1, k2, k3, k4⟩
    · rw [if_pos k1]; exact k3.symm
    · rw [if_neg (by omega), if_neg (by omega)]; omega
set_option maxHeartbeats 8000000 in
theorem k_duel {pa many ch la fo : Int} {st ex te ord od pl : Nat → Int} {row : Nat → Int} {a1 a2 a3 cg pi ti ba ver lt lf sh m0 : Int} {H W wo pz nt fr tt H0 W0 : Nat → Int} {v : Int × Int × Int × Int × Int × Int × Int × Int × (Nat → Int) × (Nat → Int) × (Nat → Int) × Int × (Nat → Int) × (Nat → Int) × (Nat → Int) × (Nat → Int)} (b1 : -2147483648 ≤ a1 ∧ a1 ≤ 2147483647) (b2 : -2147483648 ≤ a2 ∧ a2 ≤ 2147483647) (b3 : -2147483648 ≤ a3 ∧ a3 ≤ 2147483647) (hF : FOK ch la fo st ex te ord od row) (hP : PREL pa pl te row) (em : many = row 0) (hm : 0 ≤ many ∧ many ≤ 12) (hcg : 0 ≤ cg ∧ cg ≤ 5000) (hh : zR H 0 10) (hw : zR W 0 30) (h81 : zR H0 0 10) (h82 : zR W0 0 30) (hS : STW many H W) (hN : NOK cg ch la fo st ex te ord od nt) (hK : SOK pa pl many ch la fo st ex te ord od cg H W ver lt lf sh fr tt) (h : f_HS_duel a1 a2 a3 ch pa la fo cg many st ex pl te ord od H W pi ti ba ver lt lf sh wo pz nt m0 fr tt H0 W0 = some v) : v.1 = (if (1 ≤ a1 ∧ a1 ≤ 4) ∧ (0 ≤ a2 ∧ a2 ≤ 1) ∧ (0 ≤ a3 ∧ a3 ≤ 2) ∧ many ≤ 4 then DAN a3 (VAL pa pl many ch la fo st ex te ord od a1.toNat a2 H W) (AT pa pl many ch la fo st ex te ord od (a1.toNat - 1) a2 H W 16) else -1) ∧ NOK cg ch la fo st ex te ord od v.2.2.2.2.2.2.2.2.2.2.1 ∧ SOK pa pl many ch la fo st ex te ord od cg H W v.2.2.2.2.1 v.2.2.2.2.2.1 v.2.2.2.2.2.2.1 v.2.2.2.2.2.2.2.1 v.2.2.2.2.2.2.2.2.2.2.2.2.1 v.2.2.2.2.2.2.2.2.2.2.2.2.2.1 := by
  have hR := hF.2.1
  have hte := hF.2.2.2.2.1
  have w4 : zi_w 4 = 4 := by decide +kernel
  have w1 : zi_w 1 = 1 := by decide +kernel
  have w2 : zi_w 2 = 2 := by decide +kernel
  unfold f_HS_duel at h
  rw [zwi b1, zwi b2, w4, w1, zwi (x := many) (by omega)] at h
  by_cases c1 : a1 < 1
  · rw [if_pos c1] at h
    cases h
    rw [if_neg (by omega)]
    exact ⟨rfl, hN, hK⟩
  rw [if_neg c1] at h
  by_cases c2 : 4 < a1
  · rw [if_pos c2] at h
    cases h
    rw [if_neg (by omega)]
    exact ⟨rfl, hN, hK⟩
  rw [if_neg c2] at h
  by_cases c3 : a2 < 0
  · rw [if_pos c3] at h
    cases h
    rw [if_neg (by omega)]
    exact ⟨rfl, hN, hK⟩
  rw [if_neg c3] at h
  by_cases c4 : 1 < a2
  · rw [if_pos c4] at h
    cases h
    rw [if_neg (by omega)]
    exact ⟨rfl, hN, hK⟩
  rw [if_neg c4] at h
  by_cases c5 : many ≤ 4
  rotate_left
  · rw [if_neg c5] at h
    cases h
    rw [if_neg (by omega)]
    exact ⟨rfl, hN, hK⟩
  rw [if_pos c5] at h
  obtain ⟨u1, u2, u3, u4, u5, u6, a7, a8, u9, u10, u11, a12, a13, a14, a15, a16, e1, h⟩ := xz_d16 h
  cases h
  show u1 = _ ∧ NOK cg ch la fo st ex te ord od a12 ∧ SOK pa pl many ch la fo st ex te ord od cg H W u2 u3 u4 u5 a7 a8
  -- the answer out of what is known
  have ans : ∀ {vr sh' m1 p1 t1 b1' : Int} {f' t' n' H1 W1 o1 z1 : Nat → Int}, NOK cg ch la fo st ex te ord od n' → SOK pa pl many ch la fo st ex te ord od cg H W vr a1 a2 sh' f' t' → vr = cg → f_Schools_outcome_87 ch pa la fo cg many st ex pl te ord od H W a1 a3 vr a1 a2 sh' m1 f' t' p1 t1 b1' n' H1 W1 o1 z1 = some (u1, u2, u3, u4, u5, u6, a7, a8, u9, u10, u11, a12, a13, a14, a15, a16) → u1 = (if (1 ≤ a1 ∧ a1 ≤ 4) ∧ (0 ≤ a2 ∧ a2 ≤ 1) ∧ (0 ≤ a3 ∧ a3 ≤ 2) ∧ many ≤ 4 then DAN a3 (VAL pa pl many ch la fo st ex te ord od a1.toNat a2 H W) (AT pa pl many ch la fo st ex te ord od (a1.toNat - 1) a2 H W 16) else -1) ∧ NOK cg ch la fo st ex te ord od a12 ∧ SOK pa pl many ch la fo st ex te ord od cg H W u2 u3 u4 u5 a7 a8 := fun {vr sh' m1 p1 t1 b1' f' t' n' H1 W1 o1 z1} q1 q2 q3 e => by
    have q4 := q2.2.2.2 q3 (by omega)
    unfold f_Schools_outcome_87 at e
    rw [zwi b3] at e
    have za : (zi_w a1).toNat = a1.toNat := by rw [zwi b1]
    by_cases d0 : a3 = 0
    · rw [if_pos d0] at e
      cases e
      rw [if_pos ⟨by omega, by omega, by omega, c5⟩]
      exact ⟨q4.1.trans ((k_87 q4.2 (by omega)).1 d0).symm, q1, q2⟩
    rw [if_neg d0] at e
    by_cases d1 : a3 = 1
    · rw [if_pos d1] at e
      replace e := (xp_g e).2
      rw [za] at e
      cases e
      rw [if_pos ⟨by omega, by omega, by omega, c5⟩]
      exact ⟨((k_87 q4.2 (by omega)).2.1 d1).symm, q1, q2⟩
    rw [if_neg d1] at e
    by_cases d2 : a3 = 2
    · rw [if_pos d2] at e
      replace e := (xp_g e).2
      rw [za] at e
      cases e
      rw [if_pos ⟨by omega, by omega, by omega, c5⟩]
      exact ⟨((k_87 q4.2 (by omega)).2.2 d2).symm, q1, q2⟩
    rw [if_neg d2] at e
    cases e
    rw [if_neg (by omega)]
    exact ⟨rfl, q1, q2⟩
  have anew : f_Schools_outcome_42 ch pa la fo cg many st ex pl te ord od H W a1 a2 a3 ver lt lf sh m0 fr tt pi ti ba nt H0 W0 wo pz = some (u1, u2, u3, u4, u5, u6, a7, a8, u9, u10, u11, a12, a13, a14, a15, a16) → u1 = (if (1 ≤ a1 ∧ a1 ≤ 4) ∧ (0 ≤ a2 ∧ a2 ≤ 1) ∧ (0 ≤ a3 ∧ a3 ≤ 2) ∧ many ≤ 4 then DAN a3 (VAL pa pl many ch la fo st ex te ord od a1.toNat a2 H W) (AT pa pl many ch la fo st ex te ord od (a1.toNat - 1) a2 H W 16) else -1) ∧ NOK cg ch la fo st ex te ord od a12 ∧ SOK pa pl many ch la fo st ex te ord od cg H W u2 u3 u4 u5 a7 a8 := fun e => by
    unfold f_Schools_outcome_42 at e
    obtain ⟨y1, y2, y3, d1, e⟩ := xz_d3 e
    unfold f_Columns_become at d1
    replace d1 := xp_cp (xp_cp d1)
    have y1e : y1 = many := (congrArg Prod.fst (Option.some.inj d1)).symm
    have y2e : y2 = va_cpy H H0 0 0 12 := (congrArg (fun t => t.2.1) (Option.some.inj d1)).symm
    have y3e : y3 = va_cpy W W0 0 0 120 := (congrArg (fun t => t.2.2) (Option.some.inj d1)).symm
    have C2 : CREL many H W y2 y3 := ⟨fun c hc => by rw [y2e]; exact cpy_lt (by omega), fun c i hc hi => by
      have bc := hh c
      rw [y3e]
      exact cpy_lt (by omega)⟩
    have r2 : zR y2 0 10 := by rw [y2e]; exact zR_cp hh h81
    have r3 : zR y3 0 30 := by rw [y3e]; exact zR_cp hw h82
    rw [y1e] at e
    obtain ⟨v4, a5, a6, v7, v8, v9, a10, a11, a12', a13', a14', d2, e⟩ := xz_d11 e
    have d2 : (g_Schools_shadesBehind zdp).1 a1 a2 ch pa la fo cg many st ex pl te ord od fr tt pi ti ba nt y2 y3 wo pz = some (v4, a5, a6, v7, v8, v9, a10, a11, a12', a13', a14') := d2
    rw [show a1 = ((a1.toNat : Nat) : Int) from by omega] at d2
    have sb := cs_all (pa := pa) (pl := pl) (cg := cg) (M := many.toNat) hF hP em (by omega) (by omega) hcg a1.toNat (by omega) zdp a2 _ _ _ _ _ _ _ _ _ _ _ (by omega) r2 r3 (STW_c hS C2) hN d2
    obtain ⟨t1, t2, t3, t4, _, _, _⟩ := sb
    have t1 : v4 = _ := t1
    have vv := (VAL_c (ch := ch) (la := la) (fo := fo) (st := st) (ex := ex) (ord := ord) (od := od) hR hm em hP hte a1.toNat a2 _ _ _ _ hh r2 C2).1
    have aa := AT_c (ch := ch) (la := la) (fo := fo) (st := st) (ex := ex) (ord := ord) (od := od) hR hm em hP hte (a1.toNat - 1) a2 hh r2 C2
    have t2 := t2 (by omega)
    rw [← aa] at t2
    exact ans (vr := cg) t4 ⟨⟨by omega, Int.le_refl _⟩, by omega, by omega, fun _ _ => ⟨t1.trans vv.symm, t2⟩⟩ rfl e
  unfold f_Schools_outcome at e1
  rw [zwi b1, w1, w4, zwi b2, if_neg c1, if_pos (by omega), zwi (x := ver) (by have := hK.1; omega), zwi (x := cg) (by omega), zwi (x := lt) (by have := hK.2.1; omega), zwi (x := lf) (by have := hK.2.2.1; omega)] at e1
  by_cases f1 : ver = cg
  rotate_left
  · rw [if_pos f1] at e1
    exact anew e1
  rw [if_neg (fun z => z f1)] at e1
  by_cases f2 : lt = a1
  rotate_left
  · rw [if_pos f2] at e1
    exact anew e1
  rw [if_neg (fun z => z f2)] at e1
  by_cases f3 : lf = a2
  rotate_left
  · rw [if_neg f3] at e1
    exact anew e1
  rw [if_pos f3] at e1
  subst f2
  subst f3
  exact ans hN hK f1 e1
end
section
/-! EVERY STONE WEIGHS SOMETHING, whatever is done -/
theorem sw_put {many x : Int} {H W : Nat → Int} (hh : zR H 0 10) (hS : STW many H W) (hx : 1 ≤ x) (c : Nat) (h10 : H c < 10) : STW many (zu H c (H c + 1)) (zu W (10 * c + (H c).toNat) x) := fun d i hd hi => by
  have bd := hh d
  have bc := hh c
  by_cases e : 10 * d + i = 10 * c + (H c).toNat
  · rw [e, zu_eq]; exact hx
  · rw [zu_ne _ _ e]
    refine hS d i hd ?_
    by_cases f : d = c
    · subst f; rw [zu_eq] at hi; omega
    · rw [zu_ne _ _ f] at hi; exact hi
theorem sw_less {many : Int} {H W : Nat → Int} (hS : STW many H W) (c : Nat) (x : Int) (hx : x ≤ H c) : STW many (zu H c x) W := fun d i hd hi => by
  refine hS d i hd ?_
  by_cases f : d = c
  · subst f; rw [zu_eq] at hi; omega
  · rw [zu_ne _ _ f] at hi; exact hi
theorem sw_column {many s3 s30 : Int} {t2 go hts wts : Nat → Int} {v : Int × Int × Int × (Nat → Int) × Int × (Nat → Int) × (Nat → Int)} (hm : 0 ≤ many ∧ many ≤ 12) (hS : STW many hts wts) (h : f_HS_column s3 s30 t2 many go hts = some v) : STW v.2.2.2.2.1 v.2.2.2.2.2.2 wts := by
  unfold f_HS_column at h
  obtain ⟨v1, v2, a3, e1, h⟩ := xz_d3 h
  unfold f_Columns_grow at e1
  rcases xp_if e1 with ⟨_, e1⟩ | ⟨_, e1⟩
  · replace e1 := xp_n (xp_s e1).2
    cases e1
    replace h := (xp_s (xp_n (xp_t (by decide +kernel) h))).2
    obtain ⟨u1, u2, u3, e3, h⟩ := xz_d3 h
    cases h
    have z : (zi_w many).toNat = many.toNat := by rw [zwi (by omega)]
    intro d i hd hi
    have hd : (d : Int) < many + 1 := hd
    have hi : (i : Int) < zu hts (zi_w many).toNat 0 d := hi
    rw [z] at hi
    by_cases f : d = many.toNat
    · subst f; rw [zu_eq] at hi; omega
    · rw [zu_ne _ _ f] at hi; exact hS d i (by omega) hi
  · cases e1
    replace h := xp_f (by decide +kernel) h
    obtain ⟨u1, u2, u3, e3, h⟩ := xz_d3 h
    cases h
    exact hS
theorem sw_stone {a1 a2 many s3 s30 : Int} {t2 hts wts : Nat → Int} {v : Int × Int × Int × (Nat → Int) × (Nat → Int) × (Nat → Int)} (b1 : -2147483648 ≤ a1 ∧ a1 ≤ 2147483647) (b2 : -2147483648 ≤ a2 ∧ a2 ≤ 2147483647) (hm : 0 ≤ many ∧ many ≤ 12) (hh : zR hts 0 10) (hS : STW many hts wts) (h : f_HS_stone a1 a2 many s3 s30 t2 hts wts = some v) : STW many v.2.2.2.2.1 v.2.2.2.2.2 := by
  have no : f_HS_stone_11 many s3 s30 t2 hts wts = some v → STW many v.2.2.2.2.1 v.2.2.2.2.2 := fun h => by
    unfold f_HS_stone_11 at h
    obtain ⟨u1, u2, u3, e3, h⟩ := xz_d3 h
    cases h
    exact hS
  unfold f_HS_stone at h
  rw [zwi b2, show zi_w 1 = 1 from by decide +kernel] at h
  by_cases c1 : a2 < 1
  · rw [if_pos c1] at h
    exact no h
  rw [if_neg c1] at h
  rcases xp_if h with ⟨_, h⟩ | ⟨_, h⟩
  · obtain ⟨u1, e3, h⟩ := xz_d1 h
    rcases k_has b1 hm e3 with ⟨q5, q6⟩ | ⟨q5, q6⟩ <;> subst q6
    · replace h := xp_t (by decide +kernel) h
      obtain ⟨C, eC⟩ : ∃ C : Nat, a1 = (C : Int) := ⟨a1.toNat, by omega⟩
      subst eC
      obtain ⟨u2, u3, u4, e4, h⟩ := xz_d3 h
      rcases k_put hm hh (by omega) e4 with ⟨q7, q8⟩ | ⟨q7, q8⟩ <;> cases q8
      · replace h := xp_t (by decide +kernel) h
        obtain ⟨u5, e5, h⟩ := xz_d1 h
        obtain ⟨u6, u7, u8, e6, h⟩ := xz_d3 h
        cases h
        exact sw_put hh hS (by omega) C q7
      · replace h := xp_f (by decide +kernel) h
        obtain ⟨u6, u7, u8, e6, h⟩ := xz_d3 h
        cases h
        exact hS
    · replace h := xp_f (by decide +kernel) h
      obtain ⟨u6, u7, u8, e6, h⟩ := xz_d3 h
      cases h
      exact hS
  · exact no h
theorem sw_lift {a1 many s3 s30 : Int} {t2 hts wts : Nat → Int} {v : Int × Int × Int × (Nat → Int) × (Nat → Int)} (hS : STW many hts wts) (h : f_HS_lift a1 many wts s3 s30 t2 hts = some v) : STW many v.2.2.2.2 wts := by
  unfold f_HS_lift at h
  obtain ⟨u1, e3, h⟩ := xz_d1 h
  rcases xp_if h with ⟨_, h⟩ | ⟨_, h⟩
  · obtain ⟨u2, e4, h⟩ := xz_d1 h
    rcases xp_if h with ⟨_, h⟩ | ⟨_, h⟩
    · obtain ⟨u3, u4, e5, h⟩ := xz_d2 h
      obtain ⟨u6, u7, u8, e6, h⟩ := xz_d3 h
      cases h
      show STW many u4 wts
      unfold f_Columns_take at e5
      obtain ⟨w1, _, e5⟩ := xz_d1 e5
      obtain ⟨w2, _, e5⟩ := xz_d1 e5
      rcases xp_if e5 with ⟨_, e5⟩ | ⟨_, e5⟩
      · cases e5; exact hS
      · replace e5 := xp_n (xp_g e5).2
        replace e5 := (xp_s e5).2
        cases e5
        exact sw_less hS _ _ (by omega)
    · obtain ⟨u6, u7, u8, e6, h⟩ := xz_d3 h
      cases h
      exact hS
  · obtain ⟨u6, u7, u8, e6, h⟩ := xz_d3 h
    cases h
    exact hS
theorem sw_row_44 {many T s3 s30 : Int} {tape t2 : Nat → Int} {V : Int × Int × Int × Int × Int × (Nat → Int) × (Nat → Int) × (Nat → Int)} (hm : 0 ≤ many ∧ many ≤ 12) (ht : zR tape 0 255) (h0 : 0 ≤ tape 0 ∧ tape 0 < many) : ∀ (N : Nat) (p k tp s2 : Int) (hts wts : Nat → Int), zR hts 0 10 → STW many hts wts → f_HS_row_44 tape many N T p k tp s2 s3 s30 t2 hts wts = some V → STW many V.2.2.2.2.2.2.1 V.2.2.2.2.2.2.2 := by
  intro N
  induction N with
  | zero => intro p k tp s2 hts wts _ _ h; exact nomatch h
  | succ N ih =>
    intro p k tp s2 hts wts hh hS h
    replace h : f_HS_row_44_b tape many (f_HS_row_44 tape many N) T p k tp s2 s3 s30 t2 hts wts = some V := h
    unfold f_HS_row_44_b at h
    have go : ∀ (p' : Int) (hts' wts' : Nat → Int), zR hts' 0 10 → STW many hts' wts' → f_HS_row_94 tape many (f_HS_row_44 tape many N) T p' k tp s2 s3 s30 t2 hts' wts' = some V → STW many V.2.2.2.2.2.2.1 V.2.2.2.2.2.2.2 := fun p' hts' wts' h1 h2 h => by
      unfold f_HS_row_94 at h
      exact ih _ _ _ _ _ _ h1 h2 (xp_n h)
    rcases xp_if h with ⟨_, h⟩ | ⟨_, h⟩
    · obtain ⟨u1, u2, u3, e3, h⟩ := xz_d3 (xp_n (xp_n h))
      cases h
      exact hS
    · replace h := (xp_g h).2
      have bt := ht (zi_w k).toNat
      rw [zwi (x := tape (zi_w k).toNat) (by omega), show zi_w 1 = 1 from by decide +kernel] at h
      by_cases c1 : tape (zi_w k).toNat < 1
      · rw [if_pos c1] at h
        exact go _ _ _ hh hS h
      rw [if_neg c1] at h
      rcases xp_if h with ⟨_, h⟩ | ⟨_, h⟩
      · exact go _ _ _ hh hS h
      replace h := (xp_g h).2
      obtain ⟨v1, a2, a3, e2, h⟩ := xz_d3 h
      have z0 : (zi_w 0).toNat = 0 := by decide +kernel
      rw [z0] at e2
      obtain ⟨C, eC⟩ : ∃ C : Nat, tape 0 = (C : Int) := ⟨(tape 0).toNat, by omega⟩
      rw [eC] at e2
      have q := k_put hm hh (by omega) e2
      rcases q with ⟨q7, q8⟩ | ⟨q7, q8⟩ <;> cases q8
      · replace h := xp_n (xp_f (by decide +kernel) h)
        refine go _ _ _ (fun j => ?_) (sw_put hh hS (by omega) C q7) h
        have bj := hh j
        have bC := hh C
        by_cases f : j = C
        · subst f; rw [zu_eq]; omega
        · rw [zu_ne _ _ f]; exact bj
      · replace h := xp_t (by decide +kernel) h
        exact go _ _ _ hh hS h
theorem sw_row {many s0 s2 s3 s30 : Int} {tape t2 hts wts : Nat → Int} {v : Int × Int × Int × Int × Int × (Nat → Int) × (Nat → Int) × (Nat → Int)} (hm : 0 ≤ many ∧ many ≤ 12) (ht : zR tape 0 255) (hh : zR hts 0 10) (hS : STW many hts wts) (h : f_HS_row tape many s0 s2 s3 s30 t2 hts wts = some v) : STW many v.2.2.2.2.2.2.1 v.2.2.2.2.2.2.2 := by
  have no : f_HS_row_33 tape many 0 s2 s3 s30 t2 hts wts = some v → STW many v.2.2.2.2.2.2.1 v.2.2.2.2.2.2.2 := fun h => by
    unfold f_HS_row_33 at h
    obtain ⟨u1, u2, u3, e3, h⟩ := xz_d3 h
    cases h
    exact hS
  unfold f_HS_row at h
  rcases xp_if h with ⟨_, h⟩ | ⟨_, h⟩
  · exact no h
  · replace h := (xp_g h).2
    obtain ⟨u1, e3, h⟩ := xz_d1 h
    have z0 : (zi_w 0).toNat = 0 := by decide +kernel
    have bt := ht 0
    rw [z0] at e3
    rcases k_has (by omega) hm e3 with ⟨q5, q6⟩ | ⟨q5, q6⟩ <;> subst q6
    · replace h := xp_t (by decide +kernel) h
      exact sw_row_44 hm ht q5 zfu _ _ _ _ _ _ hh hS h
    · replace h := xp_f (by decide +kernel) h
      exact no h
theorem sw_settle {many st : Int} (hm : 0 ≤ many ∧ many ≤ 12) (hs : 0 ≤ st ∧ st ≤ 100) {V : Int × (Nat → Int) × (Nat → Int)} : ∀ (N : Nat) (n : Int) (hts wts : Nat → Int), zR hts 0 10 → STW many hts wts → f_Columns_settle_2 many N st n hts wts = some V → STW many V.2.1 V.2.2 := by
  intro N
  induction N with
  | zero => intro n hts wts _ _ h; exact nomatch h
  | succ N ih =>
    intro n hts wts hh hS h
    replace h : f_Columns_settle_2_b many (f_Columns_settle_2 many N) st n hts wts = some V := h
    unfold f_Columns_settle_2_b at h
    rcases xp_if h with ⟨_, h⟩ | ⟨_, h⟩
    · cases h; exact hS
    obtain ⟨v1, e1, h⟩ := xz_d1 h
    rcases k_lowest hm hs hh e1 with ⟨a1, _⟩ | ⟨c, a1, a2, a3, a4, a5⟩
    · subst a1
      replace h := xp_f (by decide +kernel) h
      cases h; exact hS
    · subst a1
      rw [zwi (x := (c : Int)) (by omega), show zi_w (-1) = -1 from by decide +kernel, if_pos (by omega)] at h
      obtain ⟨v3, e3, h⟩ := xz_d1 (xp_n h)
      have k3 := k_isSteep (by omega) (by omega) hm hs hh e3
      have go : ∀ d : Nat, (d : Int) < many → STP many hts st c d → f_Columns_settle_45 many (f_Columns_settle_2 many N) st n (c : Int) (d : Int) hts wts = some V → STW many V.2.1 V.2.2 := fun d hd hst h => by
        obtain ⟨_, _, y3⟩ := hst
        rw [Int.toNat_natCast, Int.toNat_natCast] at y3
        have bc := hh c
        have bd := hh d
        have hcd : c ≠ d := fun e => by subst e; omega
        unfold f_Columns_settle_45 at h
        obtain ⟨m1, m2, e5, h⟩ := xz_d2 h
        have g5 := k_move hm hh a3 hd hcd (by omega) (by omega) e5
        cases g5
        exact ih _ _ _ (MVH_R hh (by omega) (by omega)) (STW_mv hS hh a3 hd (by omega) (by omega) hcd) (xp_n h)
      rcases k3 with ⟨q1, q2⟩ | ⟨q1, q2⟩ <;> subst q1
      · replace h := xp_n (xp_f (by decide +kernel) h)
        have ed : (c : Int) - 1 = (((c - 1 : Nat)) : Int) := by have := q2.2.1; omega
        rw [ed] at h q2
        exact go (c - 1) (by have := q2.2.1; omega) q2 h
      · replace h := xp_n (xp_t (by decide +kernel) h)
        have q3 : STP many hts st c (c + 1) := by
          rcases a4 with z | z
          · exact absurd z q2
          · exact z
        have ed : (c : Int) + 1 = (((c + 1 : Nat)) : Int) := by omega
        rw [ed] at h q3
        exact go (c + 1) (by have := q3.2.1; omega) q3 h
theorem sw_slide {many s30 : Int} {te hts wts : Nat → Int} {v : Int × Int × (Nat → Int) × (Nat → Int)} (hm : 0 ≤ many ∧ many ≤ 12) (ht : zR te 0 99) (hh : zR hts 0 10) (hS : STW many hts wts) (h : f_HS_slide many te s30 hts wts = some v) : STW many v.2.2.1 v.2.2.2 := by
  unfold f_HS_slide at h
  replace h := (xp_g (xp_n h)).2
  obtain ⟨u1, u2, u3, e1, h⟩ := xz_d3 h
  cases h
  unfold f_Columns_settle at e1
  have b := ht (zi_w 2).toNat
  have q := sw_settle (st := te (zi_w 2).toNat) hm (by omega) zfu _ _ _ hh hS e1
  exact q
theorem sw_carry {a b c ch la fo many s3 s30 pi ti ba : Int} {st ex te ord od t2 wo pl hts wts : Nat → Int} {v : Int × Int × Int × (Nat → Int) × Int × Int × Int × (Nat → Int) × (Nat → Int) × (Nat → Int) × (Nat → Int)} (b1 : -2147483648 ≤ a ∧ a ≤ 2147483647) (b2 : -2147483648 ≤ b ∧ b ≤ 2147483647) (b3 : -2147483648 ≤ c ∧ c ≤ 2147483647) (hc6 : 0 ≤ ch ∧ ch ≤ 6) (hm : 0 ≤ many ∧ many ≤ 12) (hh : zR hts 0 10) (hS : STW many hts wts) (h : f_HS_carry a b c ch la fo many st ex te ord od s3 s30 t2 pi ti ba wo pl hts wts = some v) : STW many v.2.2.2.2.2.2.2.2.2.1 v.2.2.2.2.2.2.2.2.2.2 := by
  unfold f_HS_carry at h
  obtain ⟨v1, e1, h⟩ := xz_d1 h
  rcases k_knows b1 b2 b3 hc6 hm e1 with ⟨q1, q2⟩ | ⟨q1, q2⟩ <;> subst q2
  · replace h := xp_t (by decide +kernel) h
    obtain ⟨v2, v3, v4, v5, a6, a7, e2, h⟩ := xz_d6 h
    by_cases cz : zi_w v2 = zi_w (-1)
    · rw [if_neg (fun z => z cz)] at h
      obtain ⟨u6, u7, u8, e6, h⟩ := xz_d3 h
      cases h
      exact hS
    · rw [if_pos cz] at h
      have ef := eff_can hm hh q1.2.1 q1.2.2 e2 (fun z => cz (by show zi_w v2 = zi_w (-1); rw [show v2 = -1 from z]))
      obtain ⟨B, eB⟩ : ∃ B : Nat, b = (B : Int) := ⟨b.toNat, by have := q1.2.1; omega⟩
      subst eB
      obtain ⟨C, eC⟩ : ∃ C : Nat, c = (C : Int) := ⟨c.toNat, by have := q1.2.2; omega⟩
      subst eC
      rw [Int.toNat_natCast, Int.toNat_natCast] at ef
      have hbm := q1.2.1.2
      have hcm := q1.2.2.2
      have hne : B ≠ C := fun z => ef.2.2 (by rw [z])
      have bB := hh B
      have bC := hh C
      obtain ⟨u1, x1, h⟩ := xz_d1 h
      obtain ⟨u2, u3, x2, h⟩ := xz_d2 h
      obtain ⟨u6, u7, u8, e6, h⟩ := xz_d3 h
      have y2 := k_move hm hh hbm hcm hne ef.1 ef.2.1 x2
      cases y2
      cases h
      exact STW_mv hS hh hbm hcm (by omega) (by omega) hne
  · replace h := xp_f (by decide +kernel) h
    obtain ⟨u6, u7, u8, e6, h⟩ := xz_d3 h
    cases h
    exact hS
theorem sw_exchange {a b c d ch la fo many s3 s30 pi ti ba : Int} {st ex te ord od t2 wo pl hts wts : Nat → Int} {v : Int × Int × Int × (Nat → Int) × Int × Int × Int × (Nat → Int) × (Nat → Int) × (Nat → Int) × (Nat → Int)} (b1 : -2147483648 ≤ a ∧ a ≤ 2147483647) (b2 : -2147483648 ≤ b ∧ b ≤ 2147483647) (b3 : -2147483648 ≤ c ∧ c ≤ 2147483647) (b4 : -2147483648 ≤ d ∧ d ≤ 2147483647) (hc6 : 0 ≤ ch ∧ ch ≤ 6) (hm : 0 ≤ many ∧ many ≤ 12) (hh : zR hts 0 10) (hS : STW many hts wts) (h : f_HS_exchange a b c d ch la fo many st ex te ord od s3 s30 t2 pi ti ba wo pl hts wts = some v) : STW many v.2.2.2.2.2.2.2.2.2.1 v.2.2.2.2.2.2.2.2.2.2 := by
  have no2 : f_HS_exchange_25 ch la fo many st ex te ord od s3 s30 t2 pi ti ba wo pl hts wts = some v → STW many v.2.2.2.2.2.2.2.2.2.1 v.2.2.2.2.2.2.2.2.2.2 := fun h => by
    unfold f_HS_exchange_25 at h
    obtain ⟨u6, u7, u8, e6, h⟩ := xz_d3 h
    cases h
    exact hS
  unfold f_HS_exchange at h
  obtain ⟨v1, e1, h⟩ := xz_d1 h
  rcases k_knows b1 b2 b3 hc6 hm e1 with ⟨q1, q2⟩ | ⟨q1, q2⟩ <;> subst q2
  · replace h := xp_f (by decide +kernel) h
    obtain ⟨v0, e0, h⟩ := xz_d1 h
    rcases k_has b4 hm e0 with ⟨qd, q6⟩ | ⟨qd, q6⟩ <;> subst q6
    rotate_left
    · replace h := xp_f (by decide +kernel) h
      exact no2 h
    replace h := xp_t (by decide +kernel) h
    obtain ⟨v2, v3, v4, v5, a6, a7, e2, h⟩ := xz_d6 h
    by_cases cz : zi_w v2 = zi_w (-1)
    · rw [if_neg (fun z => z cz)] at h
      obtain ⟨u6, u7, u8, e6, h⟩ := xz_d3 h
      cases h
      exact hS
    rw [if_pos cz] at h
    have ef := eff_can hm hh q1.2.1 q1.2.2 e2 (fun z => cz (by show zi_w v2 = zi_w (-1); rw [show v2 = -1 from z]))
    obtain ⟨B, eB⟩ : ∃ B : Nat, b = (B : Int) := ⟨b.toNat, by have := q1.2.1; omega⟩
    subst eB
    obtain ⟨C, eC⟩ : ∃ C : Nat, c = (C : Int) := ⟨c.toNat, by have := q1.2.2; omega⟩
    subst eC
    rw [Int.toNat_natCast, Int.toNat_natCast] at ef
    have hbm := q1.2.1.2
    have hcm := q1.2.2.2
    have hne : B ≠ C := fun z => ef.2.2 (by rw [z])
    have bB := hh B
    have bC := hh C
    obtain ⟨u1, x1, h⟩ := xz_d1 h
    obtain ⟨h1, n1, x2, h⟩ := xz_d2 h
    have no3 : ∀ {p' t' q' : Int} {wo' pl' : Nat → Int}, f_HS_exchange_141 ch la fo many st ex te ord od (B : Int) (C : Int) s3 s30 t2 p' t' q' wo' pl' h1 n1 = some v → STW many v.2.2.2.2.2.2.2.2.2.1 v.2.2.2.2.2.2.2.2.2.2 := fun h => by
      unfold f_HS_exchange_141 at h
      obtain ⟨u5, u6, x6, h⟩ := xz_d2 h
      obtain ⟨u7, u8, u9, e6, h⟩ := xz_d3 h
      cases h
      exact STW_c hS (hc_back hm hh hbm hcm hne ⟨ef.1, ef.2.1⟩ x2 x6)
    have y2 := k_move hm hh hbm hcm hne ef.1 ef.2.1 x2
    have y2a : h1 = MVH hts B C := congrArg Prod.fst y2
    have y2b : n1 = MVW hts wts B C := congrArg Prod.snd y2
    have R1 : zR h1 0 10 := by rw [y2a]; exact MVH_R hh (by omega) (by omega)
    have S1 : STW many h1 n1 := by rw [y2a, y2b]; exact STW_mv hS hh hbm hcm (by omega) (by omega) hne
    obtain ⟨u2, x5, h⟩ := xz_d1 h
    obtain ⟨k2, k3, k4, k5, k6, k7, e8, h⟩ := xz_d6 (xp_n (xp_n h))
    by_cases cy : zi_w k2 = zi_w (-1)
    · rw [if_pos cy] at h
      exact no3 h
    rw [if_neg cy] at h
    replace h := (xp_g h).2
    rcases xp_if h with ⟨_, h⟩ | ⟨_, h⟩
    · obtain ⟨u5, u6, x8, h⟩ := xz_d2 h
      obtain ⟨u7, u8, u9, e6, h⟩ := xz_d3 h
      cases h
      have eg := eff_can hm R1 qd q1.2.1 e8 (fun z => cy (by show zi_w k2 = zi_w (-1); rw [show k2 = -1 from z]))
      obtain ⟨D, eD⟩ : ∃ D : Nat, d = (D : Int) := ⟨d.toNat, by omega⟩
      subst eD
      rw [Int.toNat_natCast, Int.toNat_natCast] at eg
      have hDB : D ≠ B := fun z => eg.2.2 (by rw [z])
      have y8 := k_move hm R1 qd.2 hbm hDB eg.1 eg.2.1 x8
      cases y8
      exact STW_mv S1 R1 qd.2 hbm (by have := R1 D; omega) (by omega) hDB
    · exact no3 h
  · replace h := xp_t (by decide +kernel) h
    exact no2 h
end
