set_option maxHeartbeats 8000000 in
theorem ot_5 {x1 : Int} {i_latestStatus : Int} {i_hill_children : Int} {i_hill_changes : Int} {i_refusals : Nat → Int} {i_hill_strengths : Nat → Int} {i_hill_expelled : Nat → Int} {i_hill_trips : Nat → Int} {v : Int × Int × Int × Int × (Nat → Int) × (Nat → Int) × (Nat → Int) × (Nat → Int)} (h : f_HS_child x1 i_latestStatus i_hill_children i_hill_changes i_refusals i_hill_strengths i_hill_expelled i_hill_trips = some v) : v.2.2.2.1 = i_hill_changes → v.2.2.1 = i_hill_children ∧ v.2.2.2.2.2.1 = i_hill_strengths ∧ v.2.2.2.2.2.2.1 = i_hill_expelled := by
  unfold f_HS_child at h
  rcases xp_if h with ⟨_, h⟩ | ⟨_, h⟩
  · unfold f_HS_child_11 at h
    obtain ⟨w0_0, w0_1, w0_2, e, h⟩ := xz_d3 h
    cases h
    first | exact fun e => absurd e (by dsimp only; omega) | exact fun _ => ⟨rfl, rfl, rfl⟩
  · rcases xp_if h with ⟨_, h⟩ | ⟨_, h⟩
    · rcases xp_if h with ⟨_, h⟩ | ⟨_, h⟩
      · obtain ⟨w0_0, w0_1, w0_2, w0_3, w0_4, e, h⟩ := xz_d5 h
        obtain ⟨w1_0, w1_1, w1_2, e, h⟩ := xz_d3 h
        have k := k_accept e
        cases k
        cases h
        first | exact fun e => absurd e (by dsimp only; omega) | exact fun _ => ⟨rfl, rfl, rfl⟩
      · obtain ⟨w0_0, w0_1, w0_2, e, h⟩ := xz_d3 h
        cases h
        first | exact fun e => absurd e (by dsimp only; omega) | exact fun _ => ⟨rfl, rfl, rfl⟩
    · unfold f_HS_child_11 at h
      obtain ⟨w0_0, w0_1, w0_2, e, h⟩ := xz_d3 h
      cases h
      first | exact fun e => absurd e (by dsimp only; omega) | exact fun _ => ⟨rfl, rfl, rfl⟩
set_option maxHeartbeats 8000000 in
theorem ot_6 {x1 : Int} {x2 : Int} {i_hill_children : Int} {i_latestStatus : Int} {i_hill_changes : Int} {i_refusals : Nat → Int} {i_hill_expelled : Nat → Int} {v : Int × Int × Int × (Nat → Int) × (Nat → Int)} (h : f_HS_expel x1 x2 i_hill_children i_latestStatus i_hill_changes i_refusals i_hill_expelled = some v) : v.2.2.1 = i_hill_changes → v.2.2.2.2 = i_hill_expelled := by
  unfold f_HS_expel at h
  rcases xp_if h with ⟨_, h⟩ | ⟨_, h⟩
  · unfold f_HS_expel_9 at h
    obtain ⟨w0_0, w0_1, w0_2, e, h⟩ := xz_d3 h
    cases h
    first | exact fun e => absurd e (by dsimp only; omega) | exact fun _ => rfl
  · rcases xp_if h with ⟨_, h⟩ | ⟨_, h⟩
    · obtain ⟨w0_0, e, h⟩ := xz_d1 h
      rcases xp_if h with ⟨_, h⟩ | ⟨_, h⟩
      · replace h := (xp_g h).2
        replace h := (xp_s h).2
        obtain ⟨w1_0, w1_1, w1_2, e, h⟩ := xz_d3 h
        have k := k_accept e
        cases k
        cases h
        first | exact fun e => absurd e (by dsimp only; omega) | exact fun _ => rfl
      · obtain ⟨w1_0, w1_1, w1_2, e, h⟩ := xz_d3 h
        cases h
        first | exact fun e => absurd e (by dsimp only; omega) | exact fun _ => rfl
    · unfold f_HS_expel_9 at h
      obtain ⟨w0_0, w0_1, w0_2, e, h⟩ := xz_d3 h
      cases h
      first | exact fun e => absurd e (by dsimp only; omega) | exact fun _ => rfl
set_option maxHeartbeats 8000000 in
theorem ot_8 {x1 : Int} {i_hill_columns_many : Int} {i_latestStatus : Int} {i_hill_parishes : Int} {i_hill_changes : Int} {i_refusals : Nat → Int} {i_hill_places : Nat → Int} {v : Int × Int × Int × Int × (Nat → Int) × (Nat → Int)} (h : f_HS_parish x1 i_hill_columns_many i_latestStatus i_hill_parishes i_hill_changes i_refusals i_hill_places = some v) : v.2.2.2.1 = i_hill_changes → v.2.2.1 = i_hill_parishes ∧ v.2.2.2.2.2 = i_hill_places := by
  unfold f_HS_parish at h
  obtain ⟨w0_0, e, h⟩ := xz_d1 h
  rcases xp_if h with ⟨_, h⟩ | ⟨_, h⟩
  · rcases xp_if h with ⟨_, h⟩ | ⟨_, h⟩
    · replace h := (xp_s h).2
      replace h := xp_n h
      obtain ⟨w1_0, w1_1, w1_2, e, h⟩ := xz_d3 h
      have k := k_accept e
      cases k
      cases h
      first | exact fun e => absurd e (by dsimp only; omega) | exact fun _ => ⟨rfl, rfl⟩
    · obtain ⟨w1_0, w1_1, w1_2, e, h⟩ := xz_d3 h
      cases h
      first | exact fun e => absurd e (by dsimp only; omega) | exact fun _ => ⟨rfl, rfl⟩
  · obtain ⟨w1_0, w1_1, w1_2, e, h⟩ := xz_d3 h
    cases h
    first | exact fun e => absurd e (by dsimp only; omega) | exact fun _ => ⟨rfl, rfl⟩
set_option maxHeartbeats 8000000 in
theorem ot_9 {x1 : Int} {x2 : Int} {i_latestStatus : Int} {i_hill_changes : Int} {i_refusals : Nat → Int} {i_hill_terms : Nat → Int} {v : Int × Int × Int × (Nat → Int) × (Nat → Int)} (h : f_HS_terms x1 x2 i_latestStatus i_hill_changes i_refusals i_hill_terms = some v) : v.2.2.1 = i_hill_changes → v.2.2.2.2 = i_hill_terms := by
  unfold f_HS_terms at h
  rcases xp_if h with ⟨_, h⟩ | ⟨_, h⟩
  · unfold f_HS_terms_30 at h
    obtain ⟨w0_0, w0_1, w0_2, e, h⟩ := xz_d3 h
    cases h
    first | exact fun e => absurd e (by dsimp only; omega) | exact fun _ => rfl
  · rcases xp_if h with ⟨_, h⟩ | ⟨_, h⟩
    · unfold f_HS_terms_30 at h
      obtain ⟨w0_0, w0_1, w0_2, e, h⟩ := xz_d3 h
      cases h
      first | exact fun e => absurd e (by dsimp only; omega) | exact fun _ => rfl
    · replace h := (xp_g h).2
      rcases xp_if h with ⟨_, h⟩ | ⟨_, h⟩
      · unfold f_HS_terms_30 at h
        obtain ⟨w0_0, w0_1, w0_2, e, h⟩ := xz_d3 h
        cases h
        first | exact fun e => absurd e (by dsimp only; omega) | exact fun _ => rfl
      · replace h := (xp_g h).2
        rcases xp_if h with ⟨_, h⟩ | ⟨_, h⟩
        · replace h := (xp_g h).2
          replace h := (xp_s h).2
          obtain ⟨w0_0, w0_1, w0_2, e, h⟩ := xz_d3 h
          have k := k_accept e
          cases k
          cases h
          first | exact fun e => absurd e (by dsimp only; omega) | exact fun _ => rfl
        · unfold f_HS_terms_30 at h
          obtain ⟨w0_0, w0_1, w0_2, e, h⟩ := xz_d3 h
          cases h
          first | exact fun e => absurd e (by dsimp only; omega) | exact fun _ => rfl
set_option maxHeartbeats 8000000 in
theorem ot_14 {i_tape : Nat → Int} {i_taped : Int} {i_latestFault : Int} {i_latestStatus : Int} {i_hill_laws : Int} {i_hill_changes : Int} {i_refusals : Nat → Int} {i_reader_ordered : Int} {i_reader_at : Int} {i_reader_parts : Int} {i_hill_orders : Nat → Int} {i_hill_ordered : Nat → Int} {i_reader_orders : Nat → Int} {i_reader_tokens : Nat → Int} {i_reader_places : Nat → Int} {i_reader_values : Nat → Int} {v : Int × Int × Int × Int × Int × Int × (Nat → Int) × Int × Int × Int × (Nat → Int) × (Nat → Int) × (Nat → Int) × (Nat → Int) × (Nat → Int) × (Nat → Int)} (h : f_HS_law i_tape i_taped i_latestFault i_latestStatus i_hill_laws i_hill_changes i_refusals i_reader_ordered i_reader_at i_reader_parts i_hill_orders i_hill_ordered i_reader_orders i_reader_tokens i_reader_places i_reader_values = some v) : v.2.2.2.2.2.1 = i_hill_changes → v.2.2.2.2.1 = i_hill_laws ∧ v.2.2.2.2.2.2.2.2.2.2.1 = i_hill_orders ∧ v.2.2.2.2.2.2.2.2.2.2.2.1 = i_hill_ordered := by
  unfold f_HS_law at h
  rcases xp_if h with ⟨_, h⟩ | ⟨_, h⟩
  · obtain ⟨w0_0, w0_1, w0_2, w0_3, w0_4, w0_5, w0_6, w0_7, e, h⟩ := xz_d8 h
    rcases xp_if h with ⟨_, h⟩ | ⟨_, h⟩
    · obtain ⟨w1_0, w1_1, w1_2, w1_3, e, h⟩ := xz_d4 h
      obtain ⟨w2_0, w2_1, w2_2, e, h⟩ := xz_d3 h
      have k := k_accept e
      cases k
      cases h
      first | exact fun e => absurd e (by dsimp only; omega) | exact fun _ => ⟨rfl, rfl, rfl⟩
    · obtain ⟨w1_0, w1_1, w1_2, e, h⟩ := xz_d3 h
      cases h
      first | exact fun e => absurd e (by dsimp only; omega) | exact fun _ => ⟨rfl, rfl, rfl⟩
  · obtain ⟨w0_0, w0_1, w0_2, e, h⟩ := xz_d3 h
    cases h
    first | exact fun e => absurd e (by dsimp only; omega) | exact fun _ => ⟨rfl, rfl, rfl⟩
set_option maxHeartbeats 8000000 in
theorem ot_16 {x1 : Int} {i_hill_laws : Int} {i_latestStatus : Int} {i_hill_inForce : Int} {i_hill_changes : Int} {i_refusals : Nat → Int} {v : Int × Int × Int × Int × (Nat → Int)} (h : f_HS_force x1 i_hill_laws i_latestStatus i_hill_inForce i_hill_changes i_refusals = some v) : v.2.2.2.1 = i_hill_changes → v.2.2.1 = i_hill_inForce := by
  unfold f_HS_force at h
  rcases xp_if h with ⟨_, h⟩ | ⟨_, h⟩
  · unfold f_HS_force_27 at h
    obtain ⟨w0_0, w0_1, w0_2, e, h⟩ := xz_d3 h
    have k := k_accept e
    cases k
    cases h
    first | exact fun e => absurd e (by dsimp only; omega) | exact fun _ => rfl
  · rcases xp_if h with ⟨_, h⟩ | ⟨_, h⟩
    · unfold f_HS_force_20 at h
      obtain ⟨w0_0, w0_1, w0_2, e, h⟩ := xz_d3 h
      cases h
      first | exact fun e => absurd e (by dsimp only; omega) | exact fun _ => rfl
    · rcases xp_if h with ⟨_, h⟩ | ⟨_, h⟩
      · unfold f_HS_force_27 at h
        obtain ⟨w0_0, w0_1, w0_2, e, h⟩ := xz_d3 h
        have k := k_accept e
        cases k
        cases h
        first | exact fun e => absurd e (by dsimp only; omega) | exact fun _ => rfl
      · unfold f_HS_force_20 at h
        obtain ⟨w0_0, w0_1, w0_2, e, h⟩ := xz_d3 h
        cases h
        first | exact fun e => absurd e (by dsimp only; omega) | exact fun _ => rfl
set_option maxHeartbeats 8000000 in
theorem ot_35 {x1 : Int} {i_kept : Nat → Int} {i_images_0_children : Int} {i_images_0_parishes : Int} {i_images_0_laws : Int} {i_images_0_inForce : Int} {i_images_1_children : Int} {i_images_1_parishes : Int} {i_images_1_laws : Int} {i_images_1_inForce : Int} {i_images_0_columns_many : Int} {i_images_0_strengths : Nat → Int} {i_images_0_expelled : Nat → Int} {i_images_0_trips : Nat → Int} {i_images_0_places : Nat → Int} {i_images_0_terms : Nat → Int} {i_images_0_goals : Nat → Int} {i_images_0_orders : Nat → Int} {i_images_0_ordered : Nat → Int} {i_images_1_columns_many : Int} {i_images_1_strengths : Nat → Int} {i_images_1_expelled : Nat → Int} {i_images_1_trips : Nat → Int} {i_images_1_places : Nat → Int} {i_images_1_terms : Nat → Int} {i_images_1_goals : Nat → Int} {i_images_1_orders : Nat → Int} {i_images_1_ordered : Nat → Int} {i_images_0_columns_heights : Nat → Int} {i_images_0_columns_weights : Nat → Int} {i_images_1_columns_heights : Nat → Int} {i_images_1_columns_weights : Nat → Int} {i_latestStatus : Int} {i_hill_children : Int} {i_hill_parishes : Int} {i_hill_laws : Int} {i_hill_inForce : Int} {i_hill_changes : Int} {i_refusals : Nat → Int} {i_hill_columns_many : Int} {i_hill_strengths : Nat → Int} {i_hill_expelled : Nat → Int} {i_hill_trips : Nat → Int} {i_hill_places : Nat → Int} {i_hill_terms : Nat → Int} {i_hill_goals : Nat → Int} {i_hill_orders : Nat → Int} {i_hill_ordered : Nat → Int} {i_hill_columns_heights : Nat → Int} {i_hill_columns_weights : Nat → Int} {v : Int × Int × Int × Int × Int × Int × Int × (Nat → Int) × Int × (Nat → Int) × (Nat → Int) × (Nat → Int) × (Nat → Int) × (Nat → Int) × (Nat → Int) × (Nat → Int) × (Nat → Int) × (Nat → Int) × (Nat → Int)} (h : f_HS_back x1 i_kept i_images_0_children i_images_0_parishes i_images_0_laws i_images_0_inForce i_images_1_children i_images_1_parishes i_images_1_laws i_images_1_inForce i_images_0_columns_many i_images_0_strengths i_images_0_expelled i_images_0_trips i_images_0_places i_images_0_terms i_images_0_goals i_images_0_orders i_images_0_ordered i_images_1_columns_many i_images_1_strengths i_images_1_expelled i_images_1_trips i_images_1_places i_images_1_terms i_images_1_goals i_images_1_orders i_images_1_ordered i_images_0_columns_heights i_images_0_columns_weights i_images_1_columns_heights i_images_1_columns_weights i_latestStatus i_hill_children i_hill_parishes i_hill_laws i_hill_inForce i_hill_changes i_refusals i_hill_columns_many i_hill_strengths i_hill_expelled i_hill_trips i_hill_places i_hill_terms i_hill_goals i_hill_orders i_hill_ordered i_hill_columns_heights i_hill_columns_weights = some v) : v.2.2.2.2.2.2.1 = i_hill_changes → v.2.2.1 = i_hill_children ∧ v.2.2.2.1 = i_hill_parishes ∧ v.2.2.2.2.1 = i_hill_laws ∧ v.2.2.2.2.2.1 = i_hill_inForce ∧ v.2.2.2.2.2.2.2.2.2.1 = i_hill_strengths ∧ v.2.2.2.2.2.2.2.2.2.2.1 = i_hill_expelled ∧ v.2.2.2.2.2.2.2.2.2.2.2.2.1 = i_hill_places ∧ v.2.2.2.2.2.2.2.2.2.2.2.2.2.1 = i_hill_terms ∧ v.2.2.2.2.2.2.2.2.2.2.2.2.2.2.2.1 = i_hill_orders ∧ v.2.2.2.2.2.2.2.2.2.2.2.2.2.2.2.2.1 = i_hill_ordered := by
  unfold f_HS_back at h
  rcases xp_if h with ⟨_, h⟩ | ⟨_, h⟩
  · unfold f_HS_back_9 at h
    obtain ⟨w0_0, w0_1, w0_2, e, h⟩ := xz_d3 h
    cases h
    first | exact fun e => absurd e (by dsimp only; omega) | exact fun _ => ⟨rfl, rfl, rfl, rfl, rfl, rfl, rfl, rfl, rfl, rfl⟩
  · rcases xp_if h with ⟨_, h⟩ | ⟨_, h⟩
    · replace h := (xp_g h).2
      rcases xp_if h with ⟨_, h⟩ | ⟨_, h⟩
      · rcases xp_if h with ⟨_, h⟩ | ⟨_, h⟩
        · obtain ⟨w0_0, w0_1, w0_2, w0_3, w0_4, w0_5, w0_6, w0_7, w0_8, w0_9, w0_10, w0_11, w0_12, w0_13, w0_14, e, h⟩ := xz_d15 h
          unfold f_HS_back_44 at h
          obtain ⟨w1_0, w1_1, w1_2, e, h⟩ := xz_d3 h
          have k := k_accept e
          cases k
          cases h
          first | exact fun e => absurd e (by dsimp only; omega) | exact fun _ => ⟨rfl, rfl, rfl, rfl, rfl, rfl, rfl, rfl, rfl, rfl⟩
        · rcases xp_if h with ⟨_, h⟩ | ⟨_, h⟩
          · obtain ⟨w0_0, w0_1, w0_2, w0_3, w0_4, w0_5, w0_6, w0_7, w0_8, w0_9, w0_10, w0_11, w0_12, w0_13, w0_14, e, h⟩ := xz_d15 h
            unfold f_HS_back_44 at h
            obtain ⟨w1_0, w1_1, w1_2, e, h⟩ := xz_d3 h
            have k := k_accept e
            cases k
            cases h
            first | exact fun e => absurd e (by dsimp only; omega) | exact fun _ => ⟨rfl, rfl, rfl, rfl, rfl, rfl, rfl, rfl, rfl, rfl⟩
          · exact nomatch h
      · obtain ⟨w0_0, w0_1, w0_2, e, h⟩ := xz_d3 h
        cases h
        first | exact fun e => absurd e (by dsimp only; omega) | exact fun _ => ⟨rfl, rfl, rfl, rfl, rfl, rfl, rfl, rfl, rfl, rfl⟩
    · unfold f_HS_back_9 at h
      obtain ⟨w0_0, w0_1, w0_2, e, h⟩ := xz_d3 h
      cases h
      first | exact fun e => absurd e (by dsimp only; omega) | exact fun _ => ⟨rfl, rfl, rfl, rfl, rfl, rfl, rfl, rfl, rfl, rfl⟩
