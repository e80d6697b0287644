set_option maxHeartbeats 4000000 in
set_option maxRecDepth 10000 in
theorem pn_planned {row : Nat → Int} {x1 : Int} {i_hill_children : Int} {i_hill_laws : Int} {i_hill_inForce : Int} {i_hill_changes : Int} {i_hill_columns_many : Int} {i_hill_strengths : Nat → Int} {i_hill_expelled : Nat → Int} {i_hill_terms : Nat → Int} {i_hill_goals : Nat → Int} {i_hill_orders : Nat → Int} {i_hill_ordered : Nat → Int} {i_hill_columns_heights : Nat → Int} {i_hill_columns_weights : Nat → Int} {i_kinds : Int} {i_found : Int} {i_queued : Int} {i_slots : Nat → Int} {i_states : Nat → Int} {i_costs : Nat → Int} {i_before : Nat → Int} {i_by : Nat → Int} {i_queue : Nat → Int} {i_queuedAt : Nat → Int} {i_weights : Nat → Int} {i_heights : Nat → Int} {i_tops : Nat → Int} {i_carriers_judge_piled : Int} {i_carriers_judge_tiring : Int} {i_carriers_judge_barred : Int} {i_carriers_notes : Nat → Int} {i_plans_0_version : Int} {i_plans_0_length : Int} {i_plans_0_tiring : Int} {i_plans_1_version : Int} {i_plans_1_length : Int} {i_plans_1_tiring : Int} {i_plans_2_version : Int} {i_plans_2_length : Int} {i_plans_2_tiring : Int} {i_carriers_judge_words : Nat → Int} {i_carriers_judge_pile : Nat → Int} {i_plans_0_row : Nat → Int} {i_plans_1_row : Nat → Int} {i_plans_2_row : Nat → Int} {v : Int × Int × Int × Int × (Nat → Int) × (Nat → Int) × (Nat → Int) × (Nat → Int) × (Nat → Int) × (Nat → Int) × (Nat → Int) × (Nat → Int) × (Nat → Int) × (Nat → Int) × Int × Int × Int × (Nat → Int) × Int × Int × Int × Int × Int × Int × Int × Int × Int × (Nat → Int) × (Nat → Int) × (Nat → Int) × (Nat → Int) × (Nat → Int)} (hF : FOK i_hill_children i_hill_laws i_hill_inForce i_hill_strengths i_hill_expelled i_hill_terms i_hill_orders i_hill_ordered row) (hcg : 0 ≤ i_hill_changes ∧ i_hill_changes ≤ 5000) (hm : 0 ≤ i_hill_columns_many ∧ i_hill_columns_many ≤ 12) (hH : zR i_hill_columns_heights 0 10) (hW : zR i_hill_columns_weights 0 30) (hk : 0 ≤ i_kinds ∧ i_kinds ≤ 5) (hwg : zR i_weights 0 30) (hh : zR i_heights 0 5) (hN : NOK i_hill_changes i_hill_children i_hill_laws i_hill_inForce i_hill_strengths i_hill_expelled i_hill_terms i_hill_orders i_hill_ordered i_carriers_notes) (h : f_Planner_planned x1 i_hill_children i_hill_laws i_hill_inForce i_hill_changes i_hill_columns_many i_hill_strengths i_hill_expelled i_hill_terms i_hill_goals i_hill_orders i_hill_ordered i_hill_columns_heights i_hill_columns_weights i_kinds i_found i_queued i_slots i_states i_costs i_before i_by i_queue i_queuedAt i_weights i_heights i_tops i_carriers_judge_piled i_carriers_judge_tiring i_carriers_judge_barred i_carriers_notes i_plans_0_version i_plans_0_length i_plans_0_tiring i_plans_1_version i_plans_1_length i_plans_1_tiring i_plans_2_version i_plans_2_length i_plans_2_tiring i_carriers_judge_words i_carriers_judge_pile i_plans_0_row i_plans_1_row i_plans_2_row = some v) : NOK i_hill_changes i_hill_children i_hill_laws i_hill_inForce i_hill_strengths i_hill_expelled i_hill_terms i_hill_orders i_hill_ordered v.2.2.2.2.2.2.2.2.2.2.2.2.2.2.2.2.2.1 := by
  unfold f_Planner_planned at h
  rcases xp_if h with ⟨_, h⟩ | ⟨_, h⟩
  · unfold f_Planner_planned_21 at h
    unfold f_Planner_planned_22 at h
    rcases xp_if h with ⟨_, h⟩ | ⟨_, h⟩
    · rcases xp_if h with ⟨_, h⟩ | ⟨_, h⟩
      · cases h
        first | exact hN | exact q
      · obtain ⟨w0_0, e, h⟩ := xz_d1 h
        rcases xp_if h with ⟨_, h⟩ | ⟨_, h⟩
        · unfold f_Planner_planned_73c at h
          unfold f_Planner_planned_74c at h
          obtain ⟨w1_0, w1_1, w1_2, e, h⟩ := xz_d3 h
          cases h
          first | exact hN | exact q
        · obtain ⟨w1_0, e, h⟩ := xz_d1 h
          rcases xp_if h with ⟨_, h⟩ | ⟨_, h⟩
          · unfold f_Planner_planned_73c at h
            unfold f_Planner_planned_74c at h
            obtain ⟨w2_0, w2_1, w2_2, e, h⟩ := xz_d3 h
            cases h
            first | exact hN | exact q
          · obtain ⟨w2_0, w2_1, w2_2, w2_3, w2_4, w2_5, w2_6, w2_7, w2_8, w2_9, w2_10, w2_11, w2_12, w2_13, w2_14, w2_15, w2_16, w2_17, w2_18, w2_19, e, h⟩ := xz_d20 h
            have q := pn_search hF hcg hm hH hW _ _ _ _ _ _ _ _ _ _ _ _ _ _ _ _ _ _ _ hk hwg hh hN e
            have q : NOK i_hill_changes i_hill_children i_hill_laws i_hill_inForce i_hill_strengths i_hill_expelled i_hill_terms i_hill_orders i_hill_ordered w2_17 := q
            unfold f_Planner_planned_74c at h
            obtain ⟨w3_0, w3_1, w3_2, e, h⟩ := xz_d3 h
            cases h
            first | exact hN | exact q
    · rcases xp_if h with ⟨_, h⟩ | ⟨_, h⟩
      · rcases xp_if h with ⟨_, h⟩ | ⟨_, h⟩
        · cases h
          first | exact hN | exact q
        · obtain ⟨w0_0, e, h⟩ := xz_d1 h
          rcases xp_if h with ⟨_, h⟩ | ⟨_, h⟩
          · unfold f_Planner_planned_73b at h
            unfold f_Planner_planned_74b at h
            obtain ⟨w1_0, w1_1, w1_2, e, h⟩ := xz_d3 h
            cases h
            first | exact hN | exact q
          · obtain ⟨w1_0, e, h⟩ := xz_d1 h
            rcases xp_if h with ⟨_, h⟩ | ⟨_, h⟩
            · unfold f_Planner_planned_73b at h
              unfold f_Planner_planned_74b at h
              obtain ⟨w2_0, w2_1, w2_2, e, h⟩ := xz_d3 h
              cases h
              first | exact hN | exact q
            · obtain ⟨w2_0, w2_1, w2_2, w2_3, w2_4, w2_5, w2_6, w2_7, w2_8, w2_9, w2_10, w2_11, w2_12, w2_13, w2_14, w2_15, w2_16, w2_17, w2_18, w2_19, e, h⟩ := xz_d20 h
              have q := pn_search hF hcg hm hH hW _ _ _ _ _ _ _ _ _ _ _ _ _ _ _ _ _ _ _ hk hwg hh hN e
              have q : NOK i_hill_changes i_hill_children i_hill_laws i_hill_inForce i_hill_strengths i_hill_expelled i_hill_terms i_hill_orders i_hill_ordered w2_17 := q
              unfold f_Planner_planned_74b at h
              obtain ⟨w3_0, w3_1, w3_2, e, h⟩ := xz_d3 h
              cases h
              first | exact hN | exact q
      · rcases xp_if h with ⟨_, h⟩ | ⟨_, h⟩
        · rcases xp_if h with ⟨_, h⟩ | ⟨_, h⟩
          · cases h
            first | exact hN | exact q
          · obtain ⟨w0_0, e, h⟩ := xz_d1 h
            rcases xp_if h with ⟨_, h⟩ | ⟨_, h⟩
            · unfold f_Planner_planned_73a at h
              unfold f_Planner_planned_74a at h
              obtain ⟨w1_0, w1_1, w1_2, e, h⟩ := xz_d3 h
              cases h
              first | exact hN | exact q
            · obtain ⟨w1_0, e, h⟩ := xz_d1 h
              rcases xp_if h with ⟨_, h⟩ | ⟨_, h⟩
              · unfold f_Planner_planned_73a at h
                unfold f_Planner_planned_74a at h
                obtain ⟨w2_0, w2_1, w2_2, e, h⟩ := xz_d3 h
                cases h
                first | exact hN | exact q
              · obtain ⟨w2_0, w2_1, w2_2, w2_3, w2_4, w2_5, w2_6, w2_7, w2_8, w2_9, w2_10, w2_11, w2_12, w2_13, w2_14, w2_15, w2_16, w2_17, w2_18, w2_19, e, h⟩ := xz_d20 h
                have q := pn_search hF hcg hm hH hW _ _ _ _ _ _ _ _ _ _ _ _ _ _ _ _ _ _ _ hk hwg hh hN e
                have q : NOK i_hill_changes i_hill_children i_hill_laws i_hill_inForce i_hill_strengths i_hill_expelled i_hill_terms i_hill_orders i_hill_ordered w2_17 := q
                unfold f_Planner_planned_74a at h
                obtain ⟨w3_0, w3_1, w3_2, e, h⟩ := xz_d3 h
                cases h
                first | exact hN | exact q
        · exact nomatch h
  · rcases xp_if h with ⟨_, h⟩ | ⟨_, h⟩
    · unfold f_Planner_planned_21 at h
      unfold f_Planner_planned_22 at h
      rcases xp_if h with ⟨_, h⟩ | ⟨_, h⟩
      · rcases xp_if h with ⟨_, h⟩ | ⟨_, h⟩
        · cases h
          first | exact hN | exact q
        · obtain ⟨w0_0, e, h⟩ := xz_d1 h
          rcases xp_if h with ⟨_, h⟩ | ⟨_, h⟩
          · unfold f_Planner_planned_73c at h
            unfold f_Planner_planned_74c at h
            obtain ⟨w1_0, w1_1, w1_2, e, h⟩ := xz_d3 h
            cases h
            first | exact hN | exact q
          · obtain ⟨w1_0, e, h⟩ := xz_d1 h
            rcases xp_if h with ⟨_, h⟩ | ⟨_, h⟩
            · unfold f_Planner_planned_73c at h
              unfold f_Planner_planned_74c at h
              obtain ⟨w2_0, w2_1, w2_2, e, h⟩ := xz_d3 h
              cases h
              first | exact hN | exact q
            · obtain ⟨w2_0, w2_1, w2_2, w2_3, w2_4, w2_5, w2_6, w2_7, w2_8, w2_9, w2_10, w2_11, w2_12, w2_13, w2_14, w2_15, w2_16, w2_17, w2_18, w2_19, e, h⟩ := xz_d20 h
              have q := pn_search hF hcg hm hH hW _ _ _ _ _ _ _ _ _ _ _ _ _ _ _ _ _ _ _ hk hwg hh hN e
              have q : NOK i_hill_changes i_hill_children i_hill_laws i_hill_inForce i_hill_strengths i_hill_expelled i_hill_terms i_hill_orders i_hill_ordered w2_17 := q
              unfold f_Planner_planned_74c at h
              obtain ⟨w3_0, w3_1, w3_2, e, h⟩ := xz_d3 h
              cases h
              first | exact hN | exact q
      · rcases xp_if h with ⟨_, h⟩ | ⟨_, h⟩
        · rcases xp_if h with ⟨_, h⟩ | ⟨_, h⟩
          · cases h
            first | exact hN | exact q
          · obtain ⟨w0_0, e, h⟩ := xz_d1 h
            rcases xp_if h with ⟨_, h⟩ | ⟨_, h⟩
            · unfold f_Planner_planned_73b at h
              unfold f_Planner_planned_74b at h
              obtain ⟨w1_0, w1_1, w1_2, e, h⟩ := xz_d3 h
              cases h
              first | exact hN | exact q
            · obtain ⟨w1_0, e, h⟩ := xz_d1 h
              rcases xp_if h with ⟨_, h⟩ | ⟨_, h⟩
              · unfold f_Planner_planned_73b at h
                unfold f_Planner_planned_74b at h
                obtain ⟨w2_0, w2_1, w2_2, e, h⟩ := xz_d3 h
                cases h
                first | exact hN | exact q
              · obtain ⟨w2_0, w2_1, w2_2, w2_3, w2_4, w2_5, w2_6, w2_7, w2_8, w2_9, w2_10, w2_11, w2_12, w2_13, w2_14, w2_15, w2_16, w2_17, w2_18, w2_19, e, h⟩ := xz_d20 h
                have q := pn_search hF hcg hm hH hW _ _ _ _ _ _ _ _ _ _ _ _ _ _ _ _ _ _ _ hk hwg hh hN e
                have q : NOK i_hill_changes i_hill_children i_hill_laws i_hill_inForce i_hill_strengths i_hill_expelled i_hill_terms i_hill_orders i_hill_ordered w2_17 := q
                unfold f_Planner_planned_74b at h
                obtain ⟨w3_0, w3_1, w3_2, e, h⟩ := xz_d3 h
                cases h
                first | exact hN | exact q
        · rcases xp_if h with ⟨_, h⟩ | ⟨_, h⟩
          · rcases xp_if h with ⟨_, h⟩ | ⟨_, h⟩
            · cases h
              first | exact hN | exact q
            · obtain ⟨w0_0, e, h⟩ := xz_d1 h
              rcases xp_if h with ⟨_, h⟩ | ⟨_, h⟩
              · unfold f_Planner_planned_73a at h
                unfold f_Planner_planned_74a at h
                obtain ⟨w1_0, w1_1, w1_2, e, h⟩ := xz_d3 h
                cases h
                first | exact hN | exact q
              · obtain ⟨w1_0, e, h⟩ := xz_d1 h
                rcases xp_if h with ⟨_, h⟩ | ⟨_, h⟩
                · unfold f_Planner_planned_73a at h
                  unfold f_Planner_planned_74a at h
                  obtain ⟨w2_0, w2_1, w2_2, e, h⟩ := xz_d3 h
                  cases h
                  first | exact hN | exact q
                · obtain ⟨w2_0, w2_1, w2_2, w2_3, w2_4, w2_5, w2_6, w2_7, w2_8, w2_9, w2_10, w2_11, w2_12, w2_13, w2_14, w2_15, w2_16, w2_17, w2_18, w2_19, e, h⟩ := xz_d20 h
                  have q := pn_search hF hcg hm hH hW _ _ _ _ _ _ _ _ _ _ _ _ _ _ _ _ _ _ _ hk hwg hh hN e
                  have q : NOK i_hill_changes i_hill_children i_hill_laws i_hill_inForce i_hill_strengths i_hill_expelled i_hill_terms i_hill_orders i_hill_ordered w2_17 := q
                  unfold f_Planner_planned_74a at h
                  obtain ⟨w3_0, w3_1, w3_2, e, h⟩ := xz_d3 h
                  cases h
                  first | exact hN | exact q
          · exact nomatch h
    · unfold f_Planner_planned_22 at h
      rcases xp_if h with ⟨_, h⟩ | ⟨_, h⟩
      · rcases xp_if h with ⟨_, h⟩ | ⟨_, h⟩
        · cases h
          first | exact hN | exact q
        · obtain ⟨w0_0, e, h⟩ := xz_d1 h
          rcases xp_if h with ⟨_, h⟩ | ⟨_, h⟩
          · unfold f_Planner_planned_73c at h
            unfold f_Planner_planned_74c at h
            obtain ⟨w1_0, w1_1, w1_2, e, h⟩ := xz_d3 h
            cases h
            first | exact hN | exact q
          · obtain ⟨w1_0, e, h⟩ := xz_d1 h
            rcases xp_if h with ⟨_, h⟩ | ⟨_, h⟩
            · unfold f_Planner_planned_73c at h
              unfold f_Planner_planned_74c at h
              obtain ⟨w2_0, w2_1, w2_2, e, h⟩ := xz_d3 h
              cases h
              first | exact hN | exact q
            · obtain ⟨w2_0, w2_1, w2_2, w2_3, w2_4, w2_5, w2_6, w2_7, w2_8, w2_9, w2_10, w2_11, w2_12, w2_13, w2_14, w2_15, w2_16, w2_17, w2_18, w2_19, e, h⟩ := xz_d20 h
              have q := pn_search hF hcg hm hH hW _ _ _ _ _ _ _ _ _ _ _ _ _ _ _ _ _ _ _ hk hwg hh hN e
              have q : NOK i_hill_changes i_hill_children i_hill_laws i_hill_inForce i_hill_strengths i_hill_expelled i_hill_terms i_hill_orders i_hill_ordered w2_17 := q
              unfold f_Planner_planned_74c at h
              obtain ⟨w3_0, w3_1, w3_2, e, h⟩ := xz_d3 h
              cases h
              first | exact hN | exact q
      · rcases xp_if h with ⟨_, h⟩ | ⟨_, h⟩
        · rcases xp_if h with ⟨_, h⟩ | ⟨_, h⟩
          · cases h
            first | exact hN | exact q
          · obtain ⟨w0_0, e, h⟩ := xz_d1 h
            rcases xp_if h with ⟨_, h⟩ | ⟨_, h⟩
            · unfold f_Planner_planned_73b at h
              unfold f_Planner_planned_74b at h
              obtain ⟨w1_0, w1_1, w1_2, e, h⟩ := xz_d3 h
              cases h
              first | exact hN | exact q
            · obtain ⟨w1_0, e, h⟩ := xz_d1 h
              rcases xp_if h with ⟨_, h⟩ | ⟨_, h⟩
              · unfold f_Planner_planned_73b at h
                unfold f_Planner_planned_74b at h
                obtain ⟨w2_0, w2_1, w2_2, e, h⟩ := xz_d3 h
                cases h
                first | exact hN | exact q
              · obtain ⟨w2_0, w2_1, w2_2, w2_3, w2_4, w2_5, w2_6, w2_7, w2_8, w2_9, w2_10, w2_11, w2_12, w2_13, w2_14, w2_15, w2_16, w2_17, w2_18, w2_19, e, h⟩ := xz_d20 h
                have q := pn_search hF hcg hm hH hW _ _ _ _ _ _ _ _ _ _ _ _ _ _ _ _ _ _ _ hk hwg hh hN e
                have q : NOK i_hill_changes i_hill_children i_hill_laws i_hill_inForce i_hill_strengths i_hill_expelled i_hill_terms i_hill_orders i_hill_ordered w2_17 := q
                unfold f_Planner_planned_74b at h
                obtain ⟨w3_0, w3_1, w3_2, e, h⟩ := xz_d3 h
                cases h
                first | exact hN | exact q
        · rcases xp_if h with ⟨_, h⟩ | ⟨_, h⟩
          · rcases xp_if h with ⟨_, h⟩ | ⟨_, h⟩
            · cases h
              first | exact hN | exact q
            · obtain ⟨w0_0, e, h⟩ := xz_d1 h
              rcases xp_if h with ⟨_, h⟩ | ⟨_, h⟩
              · unfold f_Planner_planned_73a at h
                unfold f_Planner_planned_74a at h
                obtain ⟨w1_0, w1_1, w1_2, e, h⟩ := xz_d3 h
                cases h
                first | exact hN | exact q
              · obtain ⟨w1_0, e, h⟩ := xz_d1 h
                rcases xp_if h with ⟨_, h⟩ | ⟨_, h⟩
                · unfold f_Planner_planned_73a at h
                  unfold f_Planner_planned_74a at h
                  obtain ⟨w2_0, w2_1, w2_2, e, h⟩ := xz_d3 h
                  cases h
                  first | exact hN | exact q
                · obtain ⟨w2_0, w2_1, w2_2, w2_3, w2_4, w2_5, w2_6, w2_7, w2_8, w2_9, w2_10, w2_11, w2_12, w2_13, w2_14, w2_15, w2_16, w2_17, w2_18, w2_19, e, h⟩ := xz_d20 h
                  have q := pn_search hF hcg hm hH hW _ _ _ _ _ _ _ _ _ _ _ _ _ _ _ _ _ _ _ hk hwg hh hN e
                  have q : NOK i_hill_changes i_hill_children i_hill_laws i_hill_inForce i_hill_strengths i_hill_expelled i_hill_terms i_hill_orders i_hill_ordered w2_17 := q
                  unfold f_Planner_planned_74a at h
                  obtain ⟨w3_0, w3_1, w3_2, e, h⟩ := xz_d3 h
                  cases h
                  first | exact hN | exact q
          · exact nomatch h
set_option maxHeartbeats 4000000 in
set_option maxRecDepth 10000 in
theorem pn_plan {row : Nat → Int} {x1 : Int} {x2 : Int} {x3 : Int} {i_hill_children : Int} {i_hill_laws : Int} {i_hill_inForce : Int} {i_hill_changes : Int} {i_hill_columns_many : Int} {i_hill_strengths : Nat → Int} {i_hill_expelled : Nat → Int} {i_hill_terms : Nat → Int} {i_hill_goals : Nat → Int} {i_hill_orders : Nat → Int} {i_hill_ordered : Nat → Int} {i_hill_columns_heights : Nat → Int} {i_hill_columns_weights : Nat → Int} {i_judge_piled : Int} {i_judge_tiring : Int} {i_judge_barred : Int} {i_planner_kinds : Int} {i_planner_found : Int} {i_planner_queued : Int} {i_judge_words : Nat → Int} {i_judge_pile : Nat → Int} {i_carriers_notes : Nat → Int} {i_planner_slots : Nat → Int} {i_planner_states : Nat → Int} {i_planner_costs : Nat → Int} {i_planner_before : Nat → Int} {i_planner_by : Nat → Int} {i_planner_queue : Nat → Int} {i_planner_queuedAt : Nat → Int} {i_planner_weights : Nat → Int} {i_planner_heights : Nat → Int} {i_planner_tops : Nat → Int} {i_planner_plans_0_version : Int} {i_planner_plans_0_length : Int} {i_planner_plans_0_tiring : Int} {i_planner_plans_1_version : Int} {i_planner_plans_1_length : Int} {i_planner_plans_1_tiring : Int} {i_planner_plans_2_version : Int} {i_planner_plans_2_length : Int} {i_planner_plans_2_tiring : Int} {i_planner_plans_0_row : Nat → Int} {i_planner_plans_1_row : Nat → Int} {i_planner_plans_2_row : Nat → Int} {v : Int × Int × Int × Int × Int × Int × Int × (Nat → Int) × (Nat → Int) × (Nat → Int) × (Nat → Int) × (Nat → Int) × (Nat → Int) × (Nat → Int) × (Nat → Int) × (Nat → Int) × (Nat → Int) × (Nat → Int) × (Nat → Int) × (Nat → Int) × Int × Int × Int × Int × Int × Int × Int × Int × Int × (Nat → Int) × (Nat → Int) × (Nat → Int)} (hF : FOK i_hill_children i_hill_laws i_hill_inForce i_hill_strengths i_hill_expelled i_hill_terms i_hill_orders i_hill_ordered row) (hcg : 0 ≤ i_hill_changes ∧ i_hill_changes ≤ 5000) (hm : 0 ≤ i_hill_columns_many ∧ i_hill_columns_many ≤ 12) (hH : zR i_hill_columns_heights 0 10) (hW : zR i_hill_columns_weights 0 30) (hk : 0 ≤ i_planner_kinds ∧ i_planner_kinds ≤ 5) (hwg : zR i_planner_weights 0 30) (hh : zR i_planner_heights 0 5) (hN : NOK i_hill_changes i_hill_children i_hill_laws i_hill_inForce i_hill_strengths i_hill_expelled i_hill_terms i_hill_orders i_hill_ordered i_carriers_notes) (h : f_HS_plan x1 x2 x3 i_hill_children i_hill_laws i_hill_inForce i_hill_changes i_hill_columns_many i_hill_strengths i_hill_expelled i_hill_terms i_hill_goals i_hill_orders i_hill_ordered i_hill_columns_heights i_hill_columns_weights i_judge_piled i_judge_tiring i_judge_barred i_planner_kinds i_planner_found i_planner_queued i_judge_words i_judge_pile i_carriers_notes i_planner_slots i_planner_states i_planner_costs i_planner_before i_planner_by i_planner_queue i_planner_queuedAt i_planner_weights i_planner_heights i_planner_tops i_planner_plans_0_version i_planner_plans_0_length i_planner_plans_0_tiring i_planner_plans_1_version i_planner_plans_1_length i_planner_plans_1_tiring i_planner_plans_2_version i_planner_plans_2_length i_planner_plans_2_tiring i_planner_plans_0_row i_planner_plans_1_row i_planner_plans_2_row = some v) : NOK i_hill_changes i_hill_children i_hill_laws i_hill_inForce i_hill_strengths i_hill_expelled i_hill_terms i_hill_orders i_hill_ordered v.2.2.2.2.2.2.2.2.2.1 := by
  unfold f_HS_plan at h
  rcases xp_if h with ⟨_, h⟩ | ⟨_, h⟩
  · cases h
    first | exact hN | exact q
  · rcases xp_if h with ⟨_, h⟩ | ⟨_, h⟩
    · cases h
      first | exact hN | exact q
    · obtain ⟨w0_0, e, h⟩ := xz_d1 h
      rcases xp_if h with ⟨_, h⟩ | ⟨_, h⟩
      · obtain ⟨w1_0, w1_1, w1_2, w1_3, w1_4, w1_5, w1_6, w1_7, w1_8, w1_9, w1_10, w1_11, w1_12, w1_13, w1_14, w1_15, w1_16, w1_17, w1_18, w1_19, w1_20, w1_21, w1_22, w1_23, w1_24, w1_25, w1_26, w1_27, w1_28, w1_29, w1_30, w1_31, e, h⟩ := xz_d32 h
        have q := pn_planned hF hcg hm hH hW hk hwg hh hN e
        have q : NOK i_hill_changes i_hill_children i_hill_laws i_hill_inForce i_hill_strengths i_hill_expelled i_hill_terms i_hill_orders i_hill_ordered w1_17 := q
        rcases xp_if h with ⟨_, h⟩ | ⟨_, h⟩
        · rcases xp_if h with ⟨_, h⟩ | ⟨_, h⟩
          · unfold f_HS_plan_45c at h
            rcases xp_if h with ⟨_, h⟩ | ⟨_, h⟩
            · cases h
              first | exact hN | exact q
            · cases h
              first | exact hN | exact q
          · rcases xp_if h with ⟨_, h⟩ | ⟨_, h⟩
            · obtain ⟨w2_0, e, h⟩ := xz_d1 h
              cases h
              first | exact hN | exact q
            · unfold f_HS_plan_45c at h
              rcases xp_if h with ⟨_, h⟩ | ⟨_, h⟩
              · cases h
                first | exact hN | exact q
              · cases h
                first | exact hN | exact q
        · rcases xp_if h with ⟨_, h⟩ | ⟨_, h⟩
          · rcases xp_if h with ⟨_, h⟩ | ⟨_, h⟩
            · unfold f_HS_plan_45b at h
              rcases xp_if h with ⟨_, h⟩ | ⟨_, h⟩
              · cases h
                first | exact hN | exact q
              · cases h
                first | exact hN | exact q
            · rcases xp_if h with ⟨_, h⟩ | ⟨_, h⟩
              · obtain ⟨w2_0, e, h⟩ := xz_d1 h
                cases h
                first | exact hN | exact q
              · unfold f_HS_plan_45b at h
                rcases xp_if h with ⟨_, h⟩ | ⟨_, h⟩
                · cases h
                  first | exact hN | exact q
                · cases h
                  first | exact hN | exact q
          · rcases xp_if h with ⟨_, h⟩ | ⟨_, h⟩
            · rcases xp_if h with ⟨_, h⟩ | ⟨_, h⟩
              · unfold f_HS_plan_45a at h
                rcases xp_if h with ⟨_, h⟩ | ⟨_, h⟩
                · cases h
                  first | exact hN | exact q
                · cases h
                  first | exact hN | exact q
              · rcases xp_if h with ⟨_, h⟩ | ⟨_, h⟩
                · obtain ⟨w2_0, e, h⟩ := xz_d1 h
                  cases h
                  first | exact hN | exact q
                · unfold f_HS_plan_45a at h
                  rcases xp_if h with ⟨_, h⟩ | ⟨_, h⟩
                  · cases h
                    first | exact hN | exact q
                  · cases h
                    first | exact hN | exact q
            · exact nomatch h
      · cases h
        first | exact hN | exact q
theorem AT_c {pa many ch la fo : Int} {st ex te ord od pl : Nat → Int} {row : Nat → Int} (hR : RI row) (hm : 0 ≤ many ∧ many ≤ 12) (em : many = row 0) (hP : PREL pa pl te row) (ht : zR te 0 99) (t : Nat) (s : Int) {H W H' W' : Nat → Int} (hh : zR H 0 10) (hh' : zR H' 0 10) (hC : CREL many H W H' W') : AT pa pl many ch la fo st ex te ord od t s H W 16 = AT pa pl many ch la fo st ex te ord od t s H' W' 16 := 
  ACQ_c (fun a b => CANX_c (pa := pa) (pl := pl) hC hh a b) (fun a b hx => (VAL_c hR hm em hP ht t (1 - s) _ _ _ _ (MVH_R hh hx.2.2.2.1 hx.2.2.2.2.1) (MVH_R hh' (by rw [hC.1 a hx.1]; exact hx.2.2.2.1) (by rw [hC.1 b hx.2.1]; exact hx.2.2.2.2.1)) (CREL_mv hC hh hx.1 hx.2.1 hx.2.2.1 hx.2.2.2.1 hx.2.2.2.2.1)).1) 16
/-- what a duel answers -/
def DAN (what v : Int) (r : Int × Int) : Int := if what = 0 then v else if r.1 = -1 then -1 else if what = 1 then r.2 / 4 else r.2 % 4
/-- what the class has found out about its latest duel -/
def SOK (pa : Int) (pl : Nat → Int) (many ch la fo : Int) (st ex te ord od : Nat → Int) (cg : Int) (H W : Nat → Int) (ver lt lf sh : Int) (fr tt : Nat → Int) : Prop := (-1 ≤ ver ∧ ver ≤ cg) ∧ (0 ≤ lt ∧ lt ≤ 4) ∧ (0 ≤ lf ∧ lf ≤ 1) ∧ (ver = cg → 1 ≤ lt → sh = VAL pa pl many ch la fo st ex te ord od lt.toNat lf H W ∧ KREL (AT pa pl many ch la fo st ex te ord od (lt.toNat - 1) lf H W 16) (AT pa pl many ch la fo st ex te ord od (lt.toNat - 1) lf H W 16).1 (fr lt.toNat) (tt lt.toNat))
theorem SOK_up {pa many ch la fo : Int} {st ex te ord od pl : Nat → Int} {cg cg' ver lt lf sh pa' many' ch' la' fo' : Int} {H W fr tt pl' st' ex' te' ord' od' H' W' : Nat → Int} (h : SOK pa pl many ch la fo st ex te ord od cg H W ver lt lf sh fr tt) (hc : cg < cg') : SOK pa' pl' many' ch' la' fo' st' ex' te' ord' od' cg' H' W' ver lt lf sh fr tt := ⟨⟨h.1.1, by have := h.1.2; omega⟩, h.2.1, h.2.2.1, fun e => by have := h.1.2; omega⟩
theorem SOK_same {pa many ch la fo : Int} {st ex te ord od pl : Nat → Int} {row : Nat → Int} (hR : RI row) (hm : 0 ≤ many ∧ many ≤ 12) (em : many = row 0) (hP : PREL pa pl te row) (ht : zR te 0 99) {cg ver lt lf sh : Int} {H W H' W' fr tt : Nat → Int} (hh : zR H 0 10) (hh' : zR H' 0 10) (hC : CREL many H W H' W') (h : SOK pa pl many ch la fo st ex te ord od cg H W ver lt lf sh fr tt) : SOK pa pl many ch la fo st ex te ord od cg H' W' ver lt lf sh fr tt := ⟨h.1, h.2.1, h.2.2.1, fun e l => by
  have q := h.2.2.2 e l
  rw [← AT_c hR hm em hP ht (lt.toNat - 1) lf hh hh' hC, ← (VAL_c hR hm em hP ht lt.toNat lf _ _ _ _ hh hh' hC).1]
  exact q⟩
set_option maxHeartbeats 8000000 in
theorem r_duel {pa many ch la fo : Int} {st ex te ord od pl : Nat → Int} {row : Nat → Int} {a1 a2 a3 thr lw br va su : Int} {H W set rest hi he tried bests firsts : Nat → Int} {w : Int × Int × Int × Int × Int × Int × (Nat → Int) × (Nat → Int) × (Nat → Int) × (Nat → Int) × (Nat → Int) × (Nat → Int) × (Nat → Int)} (b1 : -2147483648 ≤ a1 ∧ a1 ≤ 2147483647) (b2 : -2147483648 ≤ a2 ∧ a2 ≤ 2147483647) (b3 : -2147483648 ≤ a3 ∧ a3 ≤ 2147483647) (hF : FOK ch la fo st ex te ord od row) (hP : PREL pa pl te row) (em : many = row 0) (hm : 0 ≤ many ∧ many ≤ 12) (h16 : zR hi 0 10) (h17 : zR he 0 30) (hh : zR H 0 10) (hC : CREL many H W (fun c => row (9 + c)) (fun j => row (21 + j))) (hS : STW many H W) (h : f_HM_duel a1 a2 a3 row thr lw br va su set rest hi he tried bests firsts = some w) : w.1 = if (1 ≤ a1 ∧ a1 ≤ 4) ∧ (0 ≤ a2 ∧ a2 ≤ 1) ∧ (0 ≤ a3 ∧ a3 ≤ 2) ∧ many ≤ 4 then DAN a3 (VAL pa pl many ch la fo st ex te ord od a1.toNat a2 H W) (AT pa pl many ch la fo st ex te ord od (a1.toNat - 1) a2 H W 16) else -1 := by
  have hR := hF.2.1
  have hte := hF.2.2.2.2.1
  have w4 : zi_w 4 = 4 := by decide +kernel
  have w1 : zi_w 1 = 1 := by decide +kernel
  have w15 : zi_w 15 = 15 := by decide +kernel
  have no : ∀ {o : Int × Int × Int × Int × Int × Int × (Nat → Int) × (Nat → Int) × (Nat → Int) × (Nat → Int) × (Nat → Int) × (Nat → Int) × (Nat → Int)}, w.1 = -1 → ¬ ((1 ≤ a1 ∧ a1 ≤ 4) ∧ (0 ≤ a2 ∧ a2 ≤ 1) ∧ (0 ≤ a3 ∧ a3 ≤ 2) ∧ many ≤ 4) → w.1 = if (1 ≤ a1 ∧ a1 ≤ 4) ∧ (0 ≤ a2 ∧ a2 ≤ 1) ∧ (0 ≤ a3 ∧ a3 ≤ 2) ∧ many ≤ 4 then DAN a3 (VAL pa pl many ch la fo st ex te ord od a1.toNat a2 H W) (AT pa pl many ch la fo st ex te ord od (a1.toNat - 1) a2 H W 16) else -1 := fun e n => by rw [if_neg n]; exact e
  unfold f_HM_duel at h
  rw [zwi b1, zwi b2, zwi b3] at h
  replace h := xp_n h
  obtain ⟨u2, d2, h⟩ := xz_d1 h
  have g2 := x_in (by omega) (by decide) (by decide) d2
  by_cases c1 : 1 ≤ a1 ∧ a1 ≤ 4
  rotate_left
  · rw [if_neg c1] at g2
    subst g2
    rw [if_pos (by decide +kernel)] at h
    cases h
    exact no (o := (0, 0, 0, 0, 0, 0, hi, hi, hi, hi, hi, hi, hi)) rfl (fun z => c1 z.1)
  rw [if_pos c1] at g2
  subst g2
  rw [if_neg (by decide +kernel)] at h
  replace h := xp_n h
  obtain ⟨u4, d4, h⟩ := xz_d1 h
  have g4 := x_in (by omega) (by decide) (by decide) d4
  by_cases c2 : 0 ≤ a2 ∧ a2 ≤ 1
  rotate_left
  · rw [if_neg c2] at g4
    subst g4
    rw [if_pos (by decide +kernel)] at h
    cases h
    exact no (o := (0, 0, 0, 0, 0, 0, hi, hi, hi, hi, hi, hi, hi)) rfl (fun z => c2 z.2.1)
  rw [if_pos c2] at g4
  subst g4
  rw [if_neg (by decide +kernel)] at h
  replace h := xp_n h
  obtain ⟨u6, d6, h⟩ := xz_d1 h
  have g6 := x_in (by omega) (by decide) (by decide) d6
  by_cases c3 : 0 ≤ a3 ∧ a3 ≤ 2
  rotate_left
  · rw [if_neg c3] at g6
    subst g6
    rw [if_pos (by decide +kernel)] at h
    cases h
    exact no (o := (0, 0, 0, 0, 0, 0, hi, hi, hi, hi, hi, hi, hi)) rfl (fun z => c3 z.2.2.1)
  rw [if_pos c3] at g6
  subst g6
  rw [if_neg (by decide +kernel)] at h
  obtain ⟨v7, d7, h⟩ := xz_d1 h
  have g7 := r_columns d7
  rw [← em] at g7
  subst g7
  rw [zwi (x := v7) (by omega), w4] at h
  by_cases c4 : v7 ≤ 4
  rotate_left
  · rw [if_neg c4] at h
    cases h
    exact no (o := (0, 0, 0, 0, 0, 0, hi, hi, hi, hi, hi, hi, hi)) rfl (fun z => c4 z.2.2.2)
  rw [if_pos c4] at h
  rw [if_pos ⟨c1, c2, c3, c4⟩]
  obtain ⟨a8, a9, d8, h⟩ := xz_d2 h
  have ld := r_load d8
  have lz := zok_x (s_HM_load row hi he hR h16 h17) d8
  have lz1 : zR a8 0 10 := lz.1
  have lz2 : zR a9 0 30 := lz.2
  have C2 : CREL v7 H W a8 a9 := CREL_load hm.2 hh hC ld.1 ld.2
  replace h := (xp_s (xp_s h).2).2
  have RT := sp_all (pa := pa) (pl := pl) (what := a3) (thr := 0) hF hP em hm c1 c2 a1.toNat zfu 0 _ _ _ _ _ _ a8 a9 _ _ _ w (by omega) (fun _ => ⟨zu_eq _ _ _, zu_eq _ _ _⟩) lz1 lz2 (STW_c hS C2) h
  have s0 : SDF a2 0 = a2 := by unfold SDF; omega
  unfold RET at RT
  rw [s0] at RT
  obtain ⟨N', lw', br', va', su', set', rest', he', tried', bests', firsts', h, C', R', kp, fin⟩ := RT
  obtain ⟨f1, f2⟩ := fin (by omega)
  have vv := VAL_c (ch := ch) (la := la) (fo := fo) (st := st) (ex := ex) (ord := ord) (od := od) hR hm em hP hte a1.toNat a2 _ _ _ _ hh lz1 C2
  have aa := AT_c (ch := ch) (la := la) (fo := fo) (st := st) (ex := ex) (ord := ord) (od := od) hR hm em hP hte (a1.toNat - 1) a2 hh lz1 C2
  rw [← vv.1] at f1
  rw [← aa] at f2
  have bv := vv.2
  unfold f_HM_duel_136 at h
  replace h := xp_n h
  rw [show zi_w (((0 : Nat) : Int) + (-1)) = -1 from by decide +kernel, if_pos (by decide)] at h
  unfold f_HM_duel_166 f_HM_duel_224 at h
  cases N' with
  | zero => exact nomatch h
  | succ N' =>
    replace h : f_HM_duel_72_b row (f_HM_duel_72 row N') a1 a2 a3 (((0 : Nat) : Int) + (-1)) 0 lw' br' va' su' set' rest' a8 he' tried' bests' firsts' = some w := h
    unfold f_HM_duel_72_b at h
    rw [show zi_w (((0 : Nat) : Int) + (-1)) = -1 from by decide +kernel, if_pos (by decide), zwi b3, w1, w15, w4] at h
    have z0 : (zi_w 0).toNat = 0 := by decide +kernel
    unfold DAN
    by_cases c5 : a3 = 0
    · rw [if_neg (fun z => z c5)] at h
      replace h := (xp_g h).2
      rw [z0] at h
      cases h
      rw [if_pos c5]
      exact f1
    rw [if_pos c5] at h
    rw [if_neg c5]
    replace h := (xp_g h).2
    rw [z0] at h
    rcases f2 with ⟨k1, k2⟩ | ⟨k1, k2, k3⟩
    · rw [k2, show zi_w 17 = 17 from by decide +kernel, if_neg (by decide)] at h
      cases h
      rw [if_pos k1]
    · rw [zwi (x := firsts' 0) (by omega), if_pos (by omega)] at h
      rw [if_neg (by omega), ← k3]
      by_cases c6 : a3 = 1
      · rw [if_neg (fun z => z c6)] at h
        replace h := xp_n (xp_gd (xp_g h).2).2
        rw [z0, zi_div_n (by omega) (by decide)] at h
        cases h
        rw [if_pos c6]
      · rw [if_pos c6] at h
        replace h := xp_n (xp_gd (xp_g h).2).2
        rw [z0, zi_rem_n (by omega) (by decide)] at h
        cases h
        rw [if_neg c6]
theorem k_87 {what v : Int} {r : Int × Int} {f t : Int} (hk : KREL r r.1 f t) (h3 : 0 ≤ what ∧ what ≤ 2) : (what = 0 → DAN what v r = v) ∧ (what = 1 → DAN what v r = f) ∧ (what = 2 → DAN what v r = t) := by
  unfold DAN
  obtain ⟨_, k⟩ := hk
  refine ⟨fun e => by rw [if_pos e], fun e => ?_, fun e => ?_⟩
  · rw [if_neg (by omega)]
    rcases k with ⟨k1, k2, k3⟩ | ⟨k1, k2, k3, k4⟩
    · rw [if_pos k1]; exact k2.symm
    · rw [if_neg (by omega), if_pos e]; omega
  · rw [if_neg (by omega)]
    rcases k with ⟨k1, k2, k3⟩ | ⟨k1, k2, k3, k4⟩
    · rw [if_pos k1]; exact k3.symm
    · rw [if_neg (by omega), if_neg (by omega)]; omega
set_option maxHeartbeats 8000000 in
theorem k_duel {pa many ch la fo : Int} {st ex te ord od pl : Nat → Int} {row : Nat → Int} {a1 a2 a3 cg pi ti ba ver lt lf sh m0 : Int} {H W wo pz nt fr tt H0 W0 : Nat → Int} {v : Int × Int × Int × Int × Int × Int × Int × Int × (Nat → Int) × (Nat → Int) × (Nat → Int) × Int × (Nat → Int) × (Nat → Int) × (Nat → Int) × (Nat → Int)} (b1 : -2147483648 ≤ a1 ∧ a1 ≤ 2147483647) (b2 : -2147483648 ≤ a2 ∧ a2 ≤ 2147483647) (b3 : -2147483648 ≤ a3 ∧ a3 ≤ 2147483647) (hF : FOK ch la fo st ex te ord od row) (hP : PREL pa pl te row) (em : many = row 0) (hm : 0 ≤ many ∧ many ≤ 12) (hcg : 0 ≤ cg ∧ cg ≤ 5000) (hh : zR H 0 10) (hw : zR W 0 30) (h81 : zR H0 0 10) (h82 : zR W0 0 30) (hS : STW many H W) (hN : NOK cg ch la fo st ex te ord od nt) (hK : SOK pa pl many ch la fo st ex te ord od cg H W ver lt lf sh fr tt) (h : f_HS_duel a1 a2 a3 ch pa la fo cg many st ex pl te ord od H W pi ti ba ver lt lf sh wo pz nt m0 fr tt H0 W0 = some v) : v.1 = (if (1 ≤ a1 ∧ a1 ≤ 4) ∧ (0 ≤ a2 ∧ a2 ≤ 1) ∧ (0 ≤ a3 ∧ a3 ≤ 2) ∧ many ≤ 4 then DAN a3 (VAL pa pl many ch la fo st ex te ord od a1.toNat a2 H W) (AT pa pl many ch la fo st ex te ord od (a1.toNat - 1) a2 H W 16) else -1) ∧ NOK cg ch la fo st ex te ord od v.2.2.2.2.2.2.2.2.2.2.1 ∧ SOK pa pl many ch la fo st ex te ord od cg H W v.2.2.2.2.1 v.2.2.2.2.2.1 v.2.2.2.2.2.2.1 v.2.2.2.2.2.2.2.1 v.2.2.2.2.2.2.2.2.2.2.2.2.1 v.2.2.2.2.2.2.2.2.2.2.2.2.2.1 := by
  have hR := hF.2.1
  have hte := hF.2.2.2.2.1
  have w4 : zi_w 4 = 4 := by decide +kernel
  have w1 : zi_w 1 = 1 := by decide +kernel
  have w2 : zi_w 2 = 2 := by decide +kernel
  unfold f_HS_duel at h
  rw [zwi b1, zwi b2, w4, w1, zwi (x := many) (by omega)] at h
  by_cases c1 : a1 < 1
  · rw [if_pos c1] at h
    cases h
    rw [if_neg (by omega)]
    exact ⟨rfl, hN, hK⟩
  rw [if_neg c1] at h
  by_cases c2 : 4 < a1
  · rw [if_pos c2] at h
    cases h
    rw [if_neg (by omega)]
    exact ⟨rfl, hN, hK⟩
  rw [if_neg c2] at h
  by_cases c3 : a2 < 0
  · rw [if_pos c3] at h
    cases h
    rw [if_neg (by omega)]
    exact ⟨rfl, hN, hK⟩
  rw [if_neg c3] at h
  by_cases c4 : 1 < a2
  · rw [if_pos c4] at h
    cases h
    rw [if_neg (by omega)]
    exact ⟨rfl, hN, hK⟩
  rw [if_neg c4] at h
  by_cases c5 : many ≤ 4
  rotate_left
  · rw [if_neg c5] at h
    cases h
    rw [if_neg (by omega)]
    exact ⟨rfl, hN, hK⟩
  rw [if_pos c5] at h
  obtain ⟨u1, u2, u3, u4, u5, u6, a7, a8, u9, u10, u11, a12, a13, a14, a15, a16, e1, h⟩ := xz_d16 h
  cases h
  show u1 = _ ∧ NOK cg ch la fo st ex te ord od a12 ∧ SOK pa pl many ch la fo st ex te ord od cg H W u2 u3 u4 u5 a7 a8
  -- the answer out of what is known
  have ans : ∀ {vr sh' m1 p1 t1 b1' : Int} {f' t' n' H1 W1 o1 z1 : Nat → Int}, NOK cg ch la fo st ex te ord od n' → SOK pa pl many ch la fo st ex te ord od cg H W vr a1 a2 sh' f' t' → vr = cg → f_Schools_outcome_87 ch pa la fo cg many st ex pl te ord od H W a1 a3 vr a1 a2 sh' m1 f' t' p1 t1 b1' n' H1 W1 o1 z1 = some (u1, u2, u3, u4, u5, u6, a7, a8, u9, u10, u11, a12, a13, a14, a15, a16) → u1 = (if (1 ≤ a1 ∧ a1 ≤ 4) ∧ (0 ≤ a2 ∧ a2 ≤ 1) ∧ (0 ≤ a3 ∧ a3 ≤ 2) ∧ many ≤ 4 then DAN a3 (VAL pa pl many ch la fo st ex te ord od a1.toNat a2 H W) (AT pa pl many ch la fo st ex te ord od (a1.toNat - 1) a2 H W 16) else -1) ∧ NOK cg ch la fo st ex te ord od a12 ∧ SOK pa pl many ch la fo st ex te ord od cg H W u2 u3 u4 u5 a7 a8 := fun {vr sh' m1 p1 t1 b1' f' t' n' H1 W1 o1 z1} q1 q2 q3 e => by
    have q4 := q2.2.2.2 q3 (by omega)
    unfold f_Schools_outcome_87 at e
    rw [zwi b3] at e
    have za : (zi_w a1).toNat = a1.toNat := by rw [zwi b1]
    by_cases d0 : a3 = 0
    · rw [if_pos d0] at e
      cases e
      rw [if_pos ⟨by omega, by omega, by omega, c5⟩]
      exact ⟨q4.1.trans ((k_87 q4.2 (by omega)).1 d0).symm, q1, q2⟩
    rw [if_neg d0] at e
    by_cases d1 : a3 = 1
    · rw [if_pos d1] at e
      replace e := (xp_g e).2
      rw [za] at e
      cases e
      rw [if_pos ⟨by omega, by omega, by omega, c5⟩]
      exact ⟨((k_87 q4.2 (by omega)).2.1 d1).symm, q1, q2⟩
    rw [if_neg d1] at e
    by_cases d2 : a3 = 2
    · rw [if_pos d2] at e
      replace e := (xp_g e).2
      rw [za] at e
      cases e
      rw [if_pos ⟨by omega, by omega, by omega, c5⟩]
      exact ⟨((k_87 q4.2 (by omega)).2.2 d2).symm, q1, q2⟩
    rw [if_neg d2] at e
    cases e
    rw [if_neg (by omega)]
    exact ⟨rfl, q1, q2⟩
  have anew : f_Schools_outcome_42 ch pa la fo cg many st ex pl te ord od H W a1 a2 a3 ver lt lf sh m0 fr tt pi ti ba nt H0 W0 wo pz = some (u1, u2, u3, u4, u5, u6, a7, a8, u9, u10, u11, a12, a13, a14, a15, a16) → u1 = (if (1 ≤ a1 ∧ a1 ≤ 4) ∧ (0 ≤ a2 ∧ a2 ≤ 1) ∧ (0 ≤ a3 ∧ a3 ≤ 2) ∧ many ≤ 4 then DAN a3 (VAL pa pl many ch la fo st ex te ord od a1.toNat a2 H W) (AT pa pl many ch la fo st ex te ord od (a1.toNat - 1) a2 H W 16) else -1) ∧ NOK cg ch la fo st ex te ord od a12 ∧ SOK pa pl many ch la fo st ex te ord od cg H W u2 u3 u4 u5 a7 a8 := fun e => by
    unfold f_Schools_outcome_42 at e
    obtain ⟨y1, y2, y3, d1, e⟩ := xz_d3 e
    unfold f_Columns_become at d1
    replace d1 := xp_cp (xp_cp d1)
    have y1e : y1 = many := (congrArg Prod.fst (Option.some.inj d1)).symm
    have y2e : y2 = va_cpy H H0 0 0 12 := (congrArg (fun t => t.2.1) (Option.some.inj d1)).symm
    have y3e : y3 = va_cpy W W0 0 0 120 := (congrArg (fun t => t.2.2) (Option.some.inj d1)).symm
    have C2 : CREL many H W y2 y3 := ⟨fun c hc => by rw [y2e]; exact cpy_lt (by omega), fun c i hc hi => by
      have bc := hh c
      rw [y3e]
      exact cpy_lt (by omega)⟩
    have r2 : zR y2 0 10 := by rw [y2e]; exact zR_cp hh h81
    have r3 : zR y3 0 30 := by rw [y3e]; exact zR_cp hw h82
    rw [y1e] at e
    obtain ⟨v4, a5, a6, v7, v8, v9, a10, a11, a12', a13', a14', d2, e⟩ := xz_d11 e
    have d2 : (g_Schools_shadesBehind zdp).1 a1 a2 ch pa la fo cg many st ex pl te ord od fr tt pi ti ba nt y2 y3 wo pz = some (v4, a5, a6, v7, v8, v9, a10, a11, a12', a13', a14') := d2
    rw [show a1 = ((a1.toNat : Nat) : Int) from by omega] at d2
    have sb := cs_all (pa := pa) (pl := pl) (cg := cg) (M := many.toNat) hF hP em (by omega) (by omega) hcg a1.toNat (by omega) zdp a2 _ _ _ _ _ _ _ _ _ _ _ (by omega) r2 r3 (STW_c hS C2) hN d2
    obtain ⟨t1, t2, t3, t4, _, _, _⟩ := sb
    have t1 : v4 = _ := t1
    have vv := (VAL_c (ch := ch) (la := la) (fo := fo) (st := st) (ex := ex) (ord := ord) (od := od) hR hm em hP hte a1.toNat a2 _ _ _ _ hh r2 C2).1
    have aa := AT_c (ch := ch) (la := la) (fo := fo) (st := st) (ex := ex) (ord := ord) (od := od) hR hm em hP hte (a1.toNat - 1) a2 hh r2 C2
    have t2 := t2 (by omega)
    rw [← aa] at t2
    exact ans (vr := cg) t4 ⟨⟨by omega, Int.le_refl _⟩, by omega, by omega, fun _ _ => ⟨t1.trans vv.symm, t2⟩⟩ rfl e
  unfold f_Schools_outcome at e1
  rw [zwi b1, w1, w4, zwi b2, if_neg c1, if_pos (by omega), zwi (x := ver) (by have := hK.1; omega), zwi (x := cg) (by omega), zwi (x := lt) (by have := hK.2.1; omega), zwi (x := lf) (by have := hK.2.2.1; omega)] at e1
  by_cases f1 : ver = cg
  rotate_left
  · rw [if_pos f1] at e1
    exact anew e1
  rw [if_neg (fun z => z f1)] at e1
  by_cases f2 : lt = a1
  rotate_left
  · rw [if_pos f2] at e1
    exact anew e1
  rw [if_neg (fun z => z f2)] at e1
  by_cases f3 : lf = a2
  rotate_left
  · rw [if_neg f3] at e1
    exact anew e1
  rw [if_pos f3] at e1
  subst f2
  subst f3
  exact ans hN hK f1 e1
