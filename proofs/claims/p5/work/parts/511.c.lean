set_option maxHeartbeats 4000000 in
theorem s_Planner_goOn (x1 : Int) (x2 : Int) (i_hill_children : Int) (i_hill_laws : Int) (i_hill_inForce : Int) (i_hill_changes : Int) (i_weights : Nat → Int) (i_tops : Nat → Int) (i_hill_columns_many : Int) (i_hill_strengths : Nat → Int) (i_hill_expelled : Nat → Int) (i_hill_terms : Nat → Int) (i_hill_orders : Nat → Int) (i_hill_ordered : Nat → Int) (i_found : Int) (i_queued : Int) (i_slots : Nat → Int) (i_states : Nat → Int) (i_costs : Nat → Int) (i_before : Nat → Int) (i_by : Nat → Int) (i_queue : Nat → Int) (i_queuedAt : Nat → Int) (i_heights : Nat → Int) (i_carriers_judge_piled : Int) (i_carriers_judge_tiring : Int) (i_carriers_judge_barred : Int) (i_carriers_notes : Nat → Int) (i_carriers_judge_words : Nat → Int) (i_carriers_judge_pile : Nat → Int) (b_x1 : 0 ≤ x1 ∧ x1 ≤ 6719) (b_x2 : 0 ≤ x2 ∧ x2 ≤ 2) (b_i_hill_children : 0 ≤ i_hill_children ∧ i_hill_children ≤ 6) (b_i_hill_laws : 0 ≤ i_hill_laws ∧ i_hill_laws ≤ 6) (b_i_hill_inForce : (-1) ≤ i_hill_inForce ∧ i_hill_inForce ≤ 5) (h_i_weights : zR i_weights 0 30) (h_i_tops : zR i_tops 0 7) (b_i_hill_columns_many : 0 ≤ i_hill_columns_many ∧ i_hill_columns_many ≤ 12) (h_i_hill_strengths : zR i_hill_strengths 0 60) (h_i_hill_expelled : zR i_hill_expelled 0 1) (h_i_hill_terms : zR i_hill_terms 0 99) (h_i_hill_orders : zR i_hill_orders (-2147483648) 2147483647) (h_i_hill_ordered : zR i_hill_ordered 0 424) (b_i_found : 0 ≤ i_found ∧ i_found ≤ 6720) (b_i_queued : 0 ≤ i_queued ∧ i_queued ≤ 6719) (h_i_slots : zR i_slots 0 6720) (h_i_states : zR i_states (-9223372036854775808) 9223372036854775807) (h_i_before : zR i_before (-1) 6719) (h_i_by : zR i_by 0 150) (h_i_queue : zR i_queue 0 6719) (h_i_queuedAt : zR i_queuedAt 0 6719) (h_i_heights : zR i_heights 0 5) (b_i_carriers_judge_piled : 0 ≤ i_carriers_judge_piled ∧ i_carriers_judge_piled ≤ 32) (b_i_carriers_judge_tiring : 0 ≤ i_carriers_judge_tiring ∧ i_carriers_judge_tiring ≤ 2147483647) (b_i_carriers_judge_barred : 0 ≤ i_carriers_judge_barred ∧ i_carriers_judge_barred ≤ 1) (h_i_carriers_notes : zR i_carriers_notes (-2147483648) 2147483647) (h_i_carriers_judge_words : zR i_carriers_judge_words 0 99) (p_0 : i_queued ≤ i_found) : zok (f_Planner_goOn x1 x2 i_hill_children i_hill_laws i_hill_inForce i_hill_changes i_weights i_tops i_hill_columns_many i_hill_strengths i_hill_expelled i_hill_terms i_hill_orders i_hill_ordered i_found i_queued i_slots i_states i_costs i_before i_by i_queue i_queuedAt i_heights i_carriers_judge_piled i_carriers_judge_tiring i_carriers_judge_barred i_carriers_notes i_carriers_judge_words i_carriers_judge_pile) (fun o => (0 ≤ o.1 ∧ o.1 ≤ 6720) ∧ (0 ≤ o.2.1 ∧ o.2.1 ≤ 6720) ∧ (0 ≤ o.2.2.2.2.2.2.2.2.2.2.1 ∧ o.2.2.2.2.2.2.2.2.2.2.1 ≤ 32) ∧ (0 ≤ o.2.2.2.2.2.2.2.2.2.2.2.1 ∧ o.2.2.2.2.2.2.2.2.2.2.2.1 ≤ 2147483647) ∧ (0 ≤ o.2.2.2.2.2.2.2.2.2.2.2.2.1 ∧ o.2.2.2.2.2.2.2.2.2.2.2.2.1 ≤ 1) ∧ zR o.2.2.1 0 6720 ∧ zR o.2.2.2.1 (-9223372036854775808) 9223372036854775807 ∧ zR o.2.2.2.2.2.1 (-1) 6719 ∧ zR o.2.2.2.2.2.2.1 0 150 ∧ zR o.2.2.2.2.2.2.2.1 0 6719 ∧ zR o.2.2.2.2.2.2.2.2.1 0 6719 ∧ zR o.2.2.2.2.2.2.2.2.2.1 0 5 ∧ zR o.2.2.2.2.2.2.2.2.2.2.2.2.2.1 (-2147483648) 2147483647 ∧ zR o.2.2.2.2.2.2.2.2.2.2.2.2.2.2.1 0 99 ∧ (o.2.1 ≤ o.1)) := by
  unfold f_Planner_goOn
  refine zk_nE (fun v1 h_v1 => ?_)
  have r_v1 := zi_min_f (4) (by omega) (i_hill_columns_many) (by omega); rw [← h_v1] at r_v1
  exact s_Planner_goOn_18 _ _ _ _ _ _ _ _ _ _ _ _ (by omega) (by omega) (by omega) h_i_weights h_i_tops (by omega) h_i_hill_strengths h_i_hill_expelled h_i_hill_terms h_i_hill_orders h_i_hill_ordered zfu _ _ _ _ _ _ _ _ _ _ _ _ _ _ _ _ _ _ _ _ (by omega) (by omega) (by omega) (by omega) (by omega) (by omega) h_i_slots h_i_states h_i_before h_i_by h_i_queue h_i_queuedAt h_i_heights (by omega) (by omega) (by omega) h_i_carriers_notes h_i_carriers_judge_words (by omega) (by unfold zfu; omega)
set_option maxHeartbeats 4000000 in
theorem s_Planner_search_33 (i_hill_children : Int) (i_hill_laws : Int) (i_hill_inForce : Int) (i_hill_changes : Int) (i_hill_columns_many : Int) (i_hill_strengths : Nat → Int) (i_hill_expelled : Nat → Int) (i_hill_terms : Nat → Int) (i_hill_goals : Nat → Int) (i_hill_orders : Nat → Int) (i_hill_ordered : Nat → Int) (i_hill_columns_heights : Nat → Int) (i_hill_columns_weights : Nat → Int) (b_i_hill_children : 0 ≤ i_hill_children ∧ i_hill_children ≤ 6) (b_i_hill_laws : 0 ≤ i_hill_laws ∧ i_hill_laws ≤ 6) (b_i_hill_inForce : (-1) ≤ i_hill_inForce ∧ i_hill_inForce ≤ 5) (b_i_hill_columns_many : 0 ≤ i_hill_columns_many ∧ i_hill_columns_many ≤ 12) (h_i_hill_strengths : zR i_hill_strengths 0 60) (h_i_hill_expelled : zR i_hill_expelled 0 1) (h_i_hill_terms : zR i_hill_terms 0 99) (h_i_hill_goals : zR i_hill_goals (-1) 10) (h_i_hill_orders : zR i_hill_orders (-2147483648) 2147483647) (h_i_hill_ordered : zR i_hill_ordered 0 424) (h_i_hill_columns_heights : zR i_hill_columns_heights 0 10) (h_i_hill_columns_weights : zR i_hill_columns_weights 0 30) : ∀ (n : Nat) (x1 : Int) (x2 : Int) (x3 : Int) (i_kinds : Int) (i_found : Int) (i_queued : Int) (i_slots : Nat → Int) (i_states : Nat → Int) (i_costs : Nat → Int) (i_before : Nat → Int) (i_by : Nat → Int) (i_queue : Nat → Int) (i_queuedAt : Nat → Int) (i_weights : Nat → Int) (i_heights : Nat → Int) (i_tops : Nat → Int) (i_carriers_judge_piled : Int) (i_carriers_judge_tiring : Int) (i_carriers_judge_barred : Int) (i_carriers_notes : Nat → Int) (i_carriers_judge_words : Nat → Int) (i_carriers_judge_pile : Nat → Int), (0 ≤ x1 ∧ x1 ≤ 2) → ((-1) ≤ x2 ∧ x2 ≤ 6719) → (0 ≤ x3 ∧ x3 ≤ 6720) → (0 ≤ i_kinds ∧ i_kinds ≤ 5) → (0 ≤ i_found ∧ i_found ≤ 6720) → (0 ≤ i_queued ∧ i_queued ≤ 6720) → (zR i_slots 0 6720) → (zR i_states (-9223372036854775808) 9223372036854775807) → (zR i_before (-1) 6719) → (zR i_by 0 150) → (zR i_queue 0 6719) → (zR i_queuedAt 0 6719) → (zR i_weights 0 30) → (zR i_heights 0 5) → (zR i_tops 0 7) → (0 ≤ i_carriers_judge_piled ∧ i_carriers_judge_piled ≤ 32) → (0 ≤ i_carriers_judge_tiring ∧ i_carriers_judge_tiring ≤ 2147483647) → (0 ≤ i_carriers_judge_barred ∧ i_carriers_judge_barred ≤ 1) → (zR i_carriers_notes (-2147483648) 2147483647) → (zR i_carriers_judge_words 0 99) → (i_queued ≤ i_found) → (6721 - x3) < (n : Int) → zok (f_Planner_search_33 i_hill_children i_hill_laws i_hill_inForce i_hill_changes i_hill_columns_many i_hill_strengths i_hill_expelled i_hill_terms i_hill_goals i_hill_orders i_hill_ordered i_hill_columns_heights i_hill_columns_weights n x1 x2 x3 i_kinds i_found i_queued i_slots i_states i_costs i_before i_by i_queue i_queuedAt i_weights i_heights i_tops i_carriers_judge_piled i_carriers_judge_tiring i_carriers_judge_barred i_carriers_notes i_carriers_judge_words i_carriers_judge_pile) (fun o => ((-1) ≤ o.1 ∧ o.1 ≤ 6719) ∧ (0 ≤ o.2.1 ∧ o.2.1 ≤ 5) ∧ (0 ≤ o.2.2.1 ∧ o.2.2.1 ≤ 6720) ∧ (0 ≤ o.2.2.2.1 ∧ o.2.2.2.1 ≤ 6720) ∧ (0 ≤ o.2.2.2.2.2.2.2.2.2.2.2.2.2.2.1 ∧ o.2.2.2.2.2.2.2.2.2.2.2.2.2.2.1 ≤ 32) ∧ (0 ≤ o.2.2.2.2.2.2.2.2.2.2.2.2.2.2.2.1 ∧ o.2.2.2.2.2.2.2.2.2.2.2.2.2.2.2.1 ≤ 2147483647) ∧ (0 ≤ o.2.2.2.2.2.2.2.2.2.2.2.2.2.2.2.2.1 ∧ o.2.2.2.2.2.2.2.2.2.2.2.2.2.2.2.2.1 ≤ 1) ∧ zR o.2.2.2.2.1 0 6720 ∧ zR o.2.2.2.2.2.1 (-9223372036854775808) 9223372036854775807 ∧ zR o.2.2.2.2.2.2.2.1 (-1) 6719 ∧ zR o.2.2.2.2.2.2.2.2.1 0 150 ∧ zR o.2.2.2.2.2.2.2.2.2.1 0 6719 ∧ zR o.2.2.2.2.2.2.2.2.2.2.1 0 6719 ∧ zR o.2.2.2.2.2.2.2.2.2.2.2.1 0 30 ∧ zR o.2.2.2.2.2.2.2.2.2.2.2.2.1 0 5 ∧ zR o.2.2.2.2.2.2.2.2.2.2.2.2.2.1 0 7 ∧ zR o.2.2.2.2.2.2.2.2.2.2.2.2.2.2.2.2.2.1 (-2147483648) 2147483647 ∧ zR o.2.2.2.2.2.2.2.2.2.2.2.2.2.2.2.2.2.2.1 0 99) := by
  intro n
  induction n with
  | zero => intro x1 x2 x3 i_kinds i_found i_queued i_slots i_states i_costs i_before i_by i_queue i_queuedAt i_weights i_heights i_tops i_carriers_judge_piled i_carriers_judge_tiring i_carriers_judge_barred i_carriers_notes i_carriers_judge_words i_carriers_judge_pile b_x1 b_x2 b_x3 b_i_kinds b_i_found b_i_queued h_i_slots h_i_states h_i_before h_i_by h_i_queue h_i_queuedAt h_i_weights h_i_heights h_i_tops b_i_carriers_judge_piled b_i_carriers_judge_tiring b_i_carriers_judge_barred h_i_carriers_notes h_i_carriers_judge_words p_0 hm; exfalso; omega
  | succ n ih =>
    intro x1 x2 x3 i_kinds i_found i_queued i_slots i_states i_costs i_before i_by i_queue i_queuedAt i_weights i_heights i_tops i_carriers_judge_piled i_carriers_judge_tiring i_carriers_judge_barred i_carriers_notes i_carriers_judge_words i_carriers_judge_pile b_x1 b_x2 b_x3 b_i_kinds b_i_found b_i_queued h_i_slots h_i_states h_i_before h_i_by h_i_queue h_i_queuedAt h_i_weights h_i_heights h_i_tops b_i_carriers_judge_piled b_i_carriers_judge_tiring b_i_carriers_judge_barred h_i_carriers_notes h_i_carriers_judge_words p_0 hm
    show zok (f_Planner_search_33_b i_hill_children i_hill_laws i_hill_inForce i_hill_changes i_hill_columns_many i_hill_strengths i_hill_expelled i_hill_terms i_hill_goals i_hill_orders i_hill_ordered i_hill_columns_heights i_hill_columns_weights (f_Planner_search_33 i_hill_children i_hill_laws i_hill_inForce i_hill_changes i_hill_columns_many i_hill_strengths i_hill_expelled i_hill_terms i_hill_goals i_hill_orders i_hill_ordered i_hill_columns_heights i_hill_columns_weights n) x1 x2 x3 i_kinds i_found i_queued i_slots i_states i_costs i_before i_by i_queue i_queuedAt i_weights i_heights i_tops i_carriers_judge_piled i_carriers_judge_tiring i_carriers_judge_barred i_carriers_notes i_carriers_judge_words i_carriers_judge_pile) _
    unfold f_Planner_search_33_b
    refine zk_ifc (zci_le (by omega) (by omega)) (fun hc => ?_) (fun hc => ?_)
    · refine zk_ret ?_
      try dsimp only
      exact ⟨by omega, by omega, by omega, by omega, by omega, by omega, by omega, h_i_slots, h_i_states, h_i_before, h_i_by, h_i_queue, h_i_queuedAt, h_i_weights, h_i_heights, h_i_tops, h_i_carriers_notes, h_i_carriers_judge_words⟩
    · refine zk_ifc (zci_ler (by omega)) (fun hc_2 => ?_) (fun hc_2 => ?_)
      · refine zk_ret ?_
        try dsimp only
        exact ⟨by omega, by omega, by omega, by omega, by omega, by omega, by omega, h_i_slots, h_i_states, h_i_before, h_i_by, h_i_queue, h_i_queuedAt, h_i_weights, h_i_heights, h_i_tops, h_i_carriers_notes, h_i_carriers_judge_words⟩
      · refine zk_d4 (s_Planner_leave _ _ _ _ (by omega) h_i_queue h_i_queuedAt) (fun v1 v2 a3 a4 hp => ?_)
        try dsimp only at hp
        obtain ⟨hpp0, hpp1, hpp2, hpp3, hpp4⟩ := hp
        refine zk_ifc (zci_eq (by omega) (by omega)) (fun hc_3 => ?_) (fun hc_3 => ?_)
        · unfold f_Planner_search_77
          refine zk_gv (by omega) (by decide) (fun v1_2 h_v1_2 => ?_)
          have r_v1_2 := h_i_states (v1.toNat)
          refine zk_d2 (s_Planner_look _ _ _ (by omega) h_i_heights h_i_tops) (fun a2 a3_2 hp_2 => ?_)
          try dsimp only at hp_2
          obtain ⟨hp_2p0, hp_2p1⟩ := hp_2
          refine zk_d1 (s_Planner_goalsAreSo _ _ _ hp_2p0 (by omega) h_i_hill_goals) (fun v4 hp_3 => ?_)
          try dsimp only at hp_3
          have hp_3p0 := hp_3
          refine zk_ifc (zci_eqr (by omega)) (fun hc_4 => ?_) (fun hc_4 => ?_)
          · refine zk_ifc (zci_ne (by omega) (by omega)) (fun hc_5 => ?_) (fun hc_5 => ?_)
            · exfalso; omega
            · refine zk_d16 (s_Planner_goOn _ _ _ _ _ _ _ _ _ _ _ _ _ _ _ _ _ _ _ _ _ _ _ _ _ _ _ _ _ _ (by omega) (by omega) (by omega) (by omega) (by omega) h_i_weights hp_2p1 (by omega) h_i_hill_strengths h_i_hill_expelled h_i_hill_terms h_i_hill_orders h_i_hill_ordered (by omega) (by omega) h_i_slots h_i_states h_i_before h_i_by hpp2 hpp3 hp_2p0 (by omega) (by omega) (by omega) h_i_carriers_notes h_i_carriers_judge_words (by omega)) (fun v5 v6 a7 a8 a9 a10 a11 a12 a13 a14 v15 v16 v17 a18 a19 a20 hp_4 => ?_)
              try dsimp only at hp_4
              obtain ⟨hp_4p0, hp_4p1, hp_4p2, hp_4p3, hp_4p4, hp_4p5, hp_4p6, hp_4p7, hp_4p8, hp_4p9, hp_4p10, hp_4p11, hp_4p12, hp_4p13, hp_4p14⟩ := hp_4
              unfold f_Planner_search_140
              refine zk_n ?_
              exact ih _ _ _ _ _ _ _ _ _ _ _ _ _ _ _ _ _ _ _ _ _ _ (by omega) (by omega) (by omega) (by omega) (by omega) (by omega) hp_4p5 hp_4p6 hp_4p7 hp_4p8 hp_4p9 hp_4p10 h_i_weights hp_4p11 hp_2p1 (by omega) (by omega) (by omega) hp_4p12 hp_4p13 (by omega) (by omega)
          · refine zk_ifc (zci_eq (by omega) (by omega)) (fun hc_6 => ?_) (fun hc_6 => ?_)
            · unfold f_Planner_search_122
              unfold f_Planner_search_140
              refine zk_n ?_
              exact ih _ _ _ _ _ _ _ _ _ _ _ _ _ _ _ _ _ _ _ _ _ _ (by omega) (by omega) (by omega) (by omega) (by omega) (by omega) h_i_slots h_i_states h_i_before h_i_by hpp2 hpp3 h_i_weights hp_2p0 hp_2p1 (by omega) (by omega) (by omega) h_i_carriers_notes h_i_carriers_judge_words (by omega) (by omega)
            · exfalso; omega
        · refine zk_gv (by omega) (by decide) (fun v5_2 h_v5_2 => ?_)
          refine zk_gv (by omega) (by decide) (fun v6_2 h_v6_2 => ?_)
          refine zk_if (fun hc_7 => ?_) (fun hc_7 => ?_)
          · unfold f_Planner_search_77
            refine zk_gv (by omega) (by decide) (fun v1_5 h_v1_5 => ?_)
            have r_v1_5 := h_i_states (v1.toNat)
            refine zk_d2 (s_Planner_look _ _ _ (by omega) h_i_heights h_i_tops) (fun a2_2 a3_3 hp_5 => ?_)
            try dsimp only at hp_5
            obtain ⟨hp_5p0, hp_5p1⟩ := hp_5
            refine zk_d1 (s_Planner_goalsAreSo _ _ _ hp_5p0 (by omega) h_i_hill_goals) (fun v4_2 hp_6 => ?_)
            try dsimp only at hp_6
            have hp_6p0 := hp_6
            refine zk_ifc (zci_eqr (by omega)) (fun hc_8 => ?_) (fun hc_8 => ?_)
            · refine zk_ifc (zci_ne (by omega) (by omega)) (fun hc_9 => ?_) (fun hc_9 => ?_)
              · unfold f_Planner_search_140
                refine zk_n ?_
                exact ih _ _ _ _ _ _ _ _ _ _ _ _ _ _ _ _ _ _ _ _ _ _ (by omega) (by omega) (by omega) (by omega) (by omega) (by omega) h_i_slots h_i_states h_i_before h_i_by hpp2 hpp3 h_i_weights hp_5p0 hp_5p1 (by omega) (by omega) (by omega) h_i_carriers_notes h_i_carriers_judge_words (by omega) (by omega)
              · exfalso; omega
            · refine zk_ifc (zci_eq (by omega) (by omega)) (fun hc_10 => ?_) (fun hc_10 => ?_)
              · exfalso; omega
              · refine zk_gv (by omega) (by decide) (fun v21 h_v21 => ?_)
                have r_v21 := h_i_before (v1.toNat)
                refine zk_gv (by omega) (by decide) (fun v22 h_v22 => ?_)
                have r_v22 := h_i_by (v1.toNat)
                refine zk_d1 (s_Planner_isEarlier _ _ _ _ _ (by omega) (by omega) (by omega) h_i_before h_i_by) (fun v23 hp_7 => ?_)
                try dsimp only at hp_7
                have hp_7p0 := hp_7
                refine zk_ifc (zci_eqr (by omega)) (fun hc_11 => ?_) (fun hc_11 => ?_)
                · unfold f_Planner_search_140
                  refine zk_n ?_
                  exact ih _ _ _ _ _ _ _ _ _ _ _ _ _ _ _ _ _ _ _ _ _ _ (by omega) (by omega) (by omega) (by omega) (by omega) (by omega) h_i_slots h_i_states h_i_before h_i_by hpp2 hpp3 h_i_weights hp_5p0 hp_5p1 (by omega) (by omega) (by omega) h_i_carriers_notes h_i_carriers_judge_words (by omega) (by omega)
                · unfold f_Planner_search_122
                  unfold f_Planner_search_140
                  refine zk_n ?_
                  exact ih _ _ _ _ _ _ _ _ _ _ _ _ _ _ _ _ _ _ _ _ _ _ (by omega) (by omega) (by omega) (by omega) (by omega) (by omega) h_i_slots h_i_states h_i_before h_i_by hpp2 hpp3 h_i_weights hp_5p0 hp_5p1 (by omega) (by omega) (by omega) h_i_carriers_notes h_i_carriers_judge_words (by omega) (by omega)
          · refine zk_ret ?_
            try dsimp only
            exact ⟨by omega, by omega, by omega, by omega, by omega, by omega, by omega, h_i_slots, h_i_states, h_i_before, h_i_by, hpp2, hpp3, h_i_weights, h_i_heights, h_i_tops, h_i_carriers_notes, h_i_carriers_judge_words⟩
set_option maxHeartbeats 4000000 in
theorem s_Planner_search (x1 : Int) (i_hill_children : Int) (i_hill_laws : Int) (i_hill_inForce : Int) (i_hill_changes : Int) (i_hill_columns_many : Int) (i_hill_strengths : Nat → Int) (i_hill_expelled : Nat → Int) (i_hill_terms : Nat → Int) (i_hill_goals : Nat → Int) (i_hill_orders : Nat → Int) (i_hill_ordered : Nat → Int) (i_hill_columns_heights : Nat → Int) (i_hill_columns_weights : Nat → Int) (i_kinds : Int) (i_found : Int) (i_queued : Int) (i_slots : Nat → Int) (i_states : Nat → Int) (i_costs : Nat → Int) (i_before : Nat → Int) (i_by : Nat → Int) (i_queue : Nat → Int) (i_queuedAt : Nat → Int) (i_weights : Nat → Int) (i_heights : Nat → Int) (i_tops : Nat → Int) (i_carriers_judge_piled : Int) (i_carriers_judge_tiring : Int) (i_carriers_judge_barred : Int) (i_carriers_notes : Nat → Int) (i_carriers_judge_words : Nat → Int) (i_carriers_judge_pile : Nat → Int) (b_x1 : 0 ≤ x1 ∧ x1 ≤ 2) (b_i_hill_children : 0 ≤ i_hill_children ∧ i_hill_children ≤ 6) (b_i_hill_laws : 0 ≤ i_hill_laws ∧ i_hill_laws ≤ 6) (b_i_hill_inForce : (-1) ≤ i_hill_inForce ∧ i_hill_inForce ≤ 5) (b_i_hill_columns_many : 0 ≤ i_hill_columns_many ∧ i_hill_columns_many ≤ 12) (h_i_hill_strengths : zR i_hill_strengths 0 60) (h_i_hill_expelled : zR i_hill_expelled 0 1) (h_i_hill_terms : zR i_hill_terms 0 99) (h_i_hill_goals : zR i_hill_goals (-1) 10) (h_i_hill_orders : zR i_hill_orders (-2147483648) 2147483647) (h_i_hill_ordered : zR i_hill_ordered 0 424) (h_i_hill_columns_heights : zR i_hill_columns_heights 0 10) (h_i_hill_columns_weights : zR i_hill_columns_weights 0 30) (b_i_kinds : 0 ≤ i_kinds ∧ i_kinds ≤ 5) (b_i_found : 0 ≤ i_found ∧ i_found ≤ 6720) (b_i_queued : 0 ≤ i_queued ∧ i_queued ≤ 6720) (h_i_slots : zR i_slots 0 6720) (h_i_states : zR i_states (-9223372036854775808) 9223372036854775807) (h_i_before : zR i_before (-1) 6719) (h_i_by : zR i_by 0 150) (h_i_queue : zR i_queue 0 6719) (h_i_queuedAt : zR i_queuedAt 0 6719) (h_i_weights : zR i_weights 0 30) (h_i_heights : zR i_heights 0 5) (h_i_tops : zR i_tops 0 7) (b_i_carriers_judge_piled : 0 ≤ i_carriers_judge_piled ∧ i_carriers_judge_piled ≤ 32) (b_i_carriers_judge_tiring : 0 ≤ i_carriers_judge_tiring ∧ i_carriers_judge_tiring ≤ 2147483647) (b_i_carriers_judge_barred : 0 ≤ i_carriers_judge_barred ∧ i_carriers_judge_barred ≤ 1) (h_i_carriers_notes : zR i_carriers_notes (-2147483648) 2147483647) (h_i_carriers_judge_words : zR i_carriers_judge_words 0 99) : zok (f_Planner_search x1 i_hill_children i_hill_laws i_hill_inForce i_hill_changes i_hill_columns_many i_hill_strengths i_hill_expelled i_hill_terms i_hill_goals i_hill_orders i_hill_ordered i_hill_columns_heights i_hill_columns_weights i_kinds i_found i_queued i_slots i_states i_costs i_before i_by i_queue i_queuedAt i_weights i_heights i_tops i_carriers_judge_piled i_carriers_judge_tiring i_carriers_judge_barred i_carriers_notes i_carriers_judge_words i_carriers_judge_pile) (fun o => ((-1) ≤ o.1 ∧ o.1 ≤ 6719) ∧ (0 ≤ o.2.1 ∧ o.2.1 ≤ 5) ∧ (0 ≤ o.2.2.1 ∧ o.2.2.1 ≤ 6720) ∧ (0 ≤ o.2.2.2.1 ∧ o.2.2.2.1 ≤ 6720) ∧ (0 ≤ o.2.2.2.2.2.2.2.2.2.2.2.2.2.2.1 ∧ o.2.2.2.2.2.2.2.2.2.2.2.2.2.2.1 ≤ 32) ∧ (0 ≤ o.2.2.2.2.2.2.2.2.2.2.2.2.2.2.2.1 ∧ o.2.2.2.2.2.2.2.2.2.2.2.2.2.2.2.1 ≤ 2147483647) ∧ (0 ≤ o.2.2.2.2.2.2.2.2.2.2.2.2.2.2.2.2.1 ∧ o.2.2.2.2.2.2.2.2.2.2.2.2.2.2.2.2.1 ≤ 1) ∧ zR o.2.2.2.2.1 0 6720 ∧ zR o.2.2.2.2.2.1 (-9223372036854775808) 9223372036854775807 ∧ zR o.2.2.2.2.2.2.2.1 (-1) 6719 ∧ zR o.2.2.2.2.2.2.2.2.1 0 150 ∧ zR o.2.2.2.2.2.2.2.2.2.1 0 6719 ∧ zR o.2.2.2.2.2.2.2.2.2.2.1 0 6719 ∧ zR o.2.2.2.2.2.2.2.2.2.2.2.1 0 30 ∧ zR o.2.2.2.2.2.2.2.2.2.2.2.2.1 0 5 ∧ zR o.2.2.2.2.2.2.2.2.2.2.2.2.2.1 0 7 ∧ zR o.2.2.2.2.2.2.2.2.2.2.2.2.2.2.2.2.2.1 (-2147483648) 2147483647 ∧ zR o.2.2.2.2.2.2.2.2.2.2.2.2.2.2.2.2.2.2.1 0 99) := by
  unfold f_Planner_search
  refine zk_d1 (s_Arrays_fill_n16384 _ _ (by omega) h_i_slots) (fun a1 hp => ?_)
  try dsimp only at hp
  have hpp0 := hp
  refine zk_d3 (s_Planner_firstState _ _ _ _ _ (by omega) h_i_hill_columns_heights h_i_hill_columns_weights (by omega) h_i_weights) (fun v2 v3 a4 hp_2 => ?_)
  try dsimp only at hp_2
  obtain ⟨hp_2p0, hp_2p1, hp_2p2⟩ := hp_2
  refine zk_d9 (s_Planner_come _ _ _ _ _ _ _ _ _ _ _ _ _ (by omega) (by omega) (by omega) (by omega) (by omega) hpp0 h_i_states h_i_before h_i_by h_i_queue h_i_queuedAt (by omega)) (fun v5 v6 a7 a8 a9 a10 a11 a12 a13 hp_3 => ?_)
  try dsimp only at hp_3
  obtain ⟨hp_3p0, hp_3p1, hp_3p2, hp_3p3, hp_3p4, hp_3p5, hp_3p6, hp_3p7, hp_3p8⟩ := hp_3
  exact s_Planner_search_33 _ _ _ _ _ _ _ _ _ _ _ _ _ (by omega) (by omega) (by omega) (by omega) h_i_hill_strengths h_i_hill_expelled h_i_hill_terms h_i_hill_goals h_i_hill_orders h_i_hill_ordered h_i_hill_columns_heights h_i_hill_columns_weights zfu _ _ _ _ _ _ _ _ _ _ _ _ _ _ _ _ _ _ _ _ _ _ (by omega) (by omega) (by omega) (by omega) (by omega) (by omega) hp_3p2 hp_3p3 hp_3p4 hp_3p5 hp_3p6 hp_3p7 hp_2p2 h_i_heights h_i_tops (by omega) (by omega) (by omega) h_i_carriers_notes h_i_carriers_judge_words (by omega) (by unfold zfu; omega)
set_option maxHeartbeats 4000000 in
theorem s_Planner_isSmall (i_hill_columns_many : Int) (i_hill_columns_heights : Nat → Int) (b_i_hill_columns_many : 0 ≤ i_hill_columns_many ∧ i_hill_columns_many ≤ 12) (h_i_hill_columns_heights : zR i_hill_columns_heights 0 10) : zok (f_Planner_isSmall i_hill_columns_many i_hill_columns_heights) (fun o => (0 ≤ o ∧ o ≤ 1)) := by
  unfold f_Planner_isSmall
  refine zk_ifc (zci_lt (by omega) (by omega)) (fun hc => ?_) (fun hc => ?_)
  · exact zk_ret (by omega)
  · refine zk_d1 (s_Columns_stones _ _ (by omega) h_i_hill_columns_heights) (fun v1 hp => ?_)
    refine zk_if (fun hc_2 => ?_) (fun hc_2 => ?_)
    · exact zk_ret (by omega)
    · exact zk_ret (by omega)
set_option maxHeartbeats 4000000 in
theorem s_Planner_planned (x1 : Int) (i_hill_children : Int) (i_hill_laws : Int) (i_hill_inForce : Int) (i_hill_changes : Int) (i_hill_columns_many : Int) (i_hill_strengths : Nat → Int) (i_hill_expelled : Nat → Int) (i_hill_terms : Nat → Int) (i_hill_goals : Nat → Int) (i_hill_orders : Nat → Int) (i_hill_ordered : Nat → Int) (i_hill_columns_heights : Nat → Int) (i_hill_columns_weights : Nat → Int) (i_kinds : Int) (i_found : Int) (i_queued : Int) (i_slots : Nat → Int) (i_states : Nat → Int) (i_costs : Nat → Int) (i_before : Nat → Int) (i_by : Nat → Int) (i_queue : Nat → Int) (i_queuedAt : Nat → Int) (i_weights : Nat → Int) (i_heights : Nat → Int) (i_tops : Nat → Int) (i_carriers_judge_piled : Int) (i_carriers_judge_tiring : Int) (i_carriers_judge_barred : Int) (i_carriers_notes : Nat → Int) (i_plans_0_version : Int) (i_plans_0_length : Int) (i_plans_0_tiring : Int) (i_plans_1_version : Int) (i_plans_1_length : Int) (i_plans_1_tiring : Int) (i_plans_2_version : Int) (i_plans_2_length : Int) (i_plans_2_tiring : Int) (i_carriers_judge_words : Nat → Int) (i_carriers_judge_pile : Nat → Int) (i_plans_0_row : Nat → Int) (i_plans_1_row : Nat → Int) (i_plans_2_row : Nat → Int) (b_x1 : 0 ≤ x1 ∧ x1 ≤ 2) (b_i_hill_children : 0 ≤ i_hill_children ∧ i_hill_children ≤ 6) (b_i_hill_laws : 0 ≤ i_hill_laws ∧ i_hill_laws ≤ 6) (b_i_hill_inForce : (-1) ≤ i_hill_inForce ∧ i_hill_inForce ≤ 5) (b_i_hill_columns_many : 0 ≤ i_hill_columns_many ∧ i_hill_columns_many ≤ 12) (h_i_hill_strengths : zR i_hill_strengths 0 60) (h_i_hill_expelled : zR i_hill_expelled 0 1) (h_i_hill_terms : zR i_hill_terms 0 99) (h_i_hill_goals : zR i_hill_goals (-1) 10) (h_i_hill_orders : zR i_hill_orders (-2147483648) 2147483647) (h_i_hill_ordered : zR i_hill_ordered 0 424) (h_i_hill_columns_heights : zR i_hill_columns_heights 0 10) (h_i_hill_columns_weights : zR i_hill_columns_weights 0 30) (b_i_kinds : 0 ≤ i_kinds ∧ i_kinds ≤ 5) (b_i_found : 0 ≤ i_found ∧ i_found ≤ 6720) (b_i_queued : 0 ≤ i_queued ∧ i_queued ≤ 6720) (h_i_slots : zR i_slots 0 6720) (h_i_states : zR i_states (-9223372036854775808) 9223372036854775807) (h_i_before : zR i_before (-1) 6719) (h_i_by : zR i_by 0 150) (h_i_queue : zR i_queue 0 6719) (h_i_queuedAt : zR i_queuedAt 0 6719) (h_i_weights : zR i_weights 0 30) (h_i_heights : zR i_heights 0 5) (h_i_tops : zR i_tops 0 7) (b_i_carriers_judge_piled : 0 ≤ i_carriers_judge_piled ∧ i_carriers_judge_piled ≤ 32) (b_i_carriers_judge_tiring : 0 ≤ i_carriers_judge_tiring ∧ i_carriers_judge_tiring ≤ 2147483647) (b_i_carriers_judge_barred : 0 ≤ i_carriers_judge_barred ∧ i_carriers_judge_barred ≤ 1) (h_i_carriers_notes : zR i_carriers_notes (-2147483648) 2147483647) (b_i_plans_0_length : (-1000000000) ≤ i_plans_0_length ∧ i_plans_0_length ≤ 8191) (b_i_plans_0_tiring : (-9223372036854775808) ≤ i_plans_0_tiring ∧ i_plans_0_tiring ≤ 9223372036854775807) (b_i_plans_1_length : (-1000000000) ≤ i_plans_1_length ∧ i_plans_1_length ≤ 8191) (b_i_plans_1_tiring : (-9223372036854775808) ≤ i_plans_1_tiring ∧ i_plans_1_tiring ≤ 9223372036854775807) (b_i_plans_2_length : (-1000000000) ≤ i_plans_2_length ∧ i_plans_2_length ≤ 8191) (b_i_plans_2_tiring : (-9223372036854775808) ≤ i_plans_2_tiring ∧ i_plans_2_tiring ≤ 9223372036854775807) (h_i_carriers_judge_words : zR i_carriers_judge_words 0 99) (h_i_plans_0_row : zR i_plans_0_row 0 150) (h_i_plans_1_row : zR i_plans_1_row 0 150) (h_i_plans_2_row : zR i_plans_2_row 0 150) : zok (f_Planner_planned x1 i_hill_children i_hill_laws i_hill_inForce i_hill_changes i_hill_columns_many i_hill_strengths i_hill_expelled i_hill_terms i_hill_goals i_hill_orders i_hill_ordered i_hill_columns_heights i_hill_columns_weights i_kinds i_found i_queued i_slots i_states i_costs i_before i_by i_queue i_queuedAt i_weights i_heights i_tops i_carriers_judge_piled i_carriers_judge_tiring i_carriers_judge_barred i_carriers_notes i_plans_0_version i_plans_0_length i_plans_0_tiring i_plans_1_version i_plans_1_length i_plans_1_tiring i_plans_2_version i_plans_2_length i_plans_2_tiring i_carriers_judge_words i_carriers_judge_pile i_plans_0_row i_plans_1_row i_plans_2_row) (fun o => (0 ≤ o.1 ∧ o.1 ≤ 2) ∧ (0 ≤ o.2.1 ∧ o.2.1 ≤ 5) ∧ (0 ≤ o.2.2.1 ∧ o.2.2.1 ≤ 6720) ∧ (0 ≤ o.2.2.2.1 ∧ o.2.2.2.1 ≤ 6720) ∧ (0 ≤ o.2.2.2.2.2.2.2.2.2.2.2.2.2.2.1 ∧ o.2.2.2.2.2.2.2.2.2.2.2.2.2.2.1 ≤ 32) ∧ (0 ≤ o.2.2.2.2.2.2.2.2.2.2.2.2.2.2.2.1 ∧ o.2.2.2.2.2.2.2.2.2.2.2.2.2.2.2.1 ≤ 2147483647) ∧ (0 ≤ o.2.2.2.2.2.2.2.2.2.2.2.2.2.2.2.2.1 ∧ o.2.2.2.2.2.2.2.2.2.2.2.2.2.2.2.2.1 ≤ 1) ∧ ((-1000000000) ≤ o.2.2.2.2.2.2.2.2.2.2.2.2.2.2.2.2.2.2.2.1 ∧ o.2.2.2.2.2.2.2.2.2.2.2.2.2.2.2.2.2.2.2.1 ≤ 8191) ∧ ((-9223372036854775808) ≤ o.2.2.2.2.2.2.2.2.2.2.2.2.2.2.2.2.2.2.2.2.1 ∧ o.2.2.2.2.2.2.2.2.2.2.2.2.2.2.2.2.2.2.2.2.1 ≤ 9223372036854775807) ∧ ((-1000000000) ≤ o.2.2.2.2.2.2.2.2.2.2.2.2.2.2.2.2.2.2.2.2.2.2.1 ∧ o.2.2.2.2.2.2.2.2.2.2.2.2.2.2.2.2.2.2.2.2.2.2.1 ≤ 8191) ∧ ((-9223372036854775808) ≤ o.2.2.2.2.2.2.2.2.2.2.2.2.2.2.2.2.2.2.2.2.2.2.2.1 ∧ o.2.2.2.2.2.2.2.2.2.2.2.2.2.2.2.2.2.2.2.2.2.2.2.1 ≤ 9223372036854775807) ∧ ((-1000000000) ≤ o.2.2.2.2.2.2.2.2.2.2.2.2.2.2.2.2.2.2.2.2.2.2.2.2.2.1 ∧ o.2.2.2.2.2.2.2.2.2.2.2.2.2.2.2.2.2.2.2.2.2.2.2.2.2.1 ≤ 8191) ∧ ((-9223372036854775808) ≤ o.2.2.2.2.2.2.2.2.2.2.2.2.2.2.2.2.2.2.2.2.2.2.2.2.2.2.1 ∧ o.2.2.2.2.2.2.2.2.2.2.2.2.2.2.2.2.2.2.2.2.2.2.2.2.2.2.1 ≤ 9223372036854775807) ∧ zR o.2.2.2.2.1 0 6720 ∧ zR o.2.2.2.2.2.1 (-9223372036854775808) 9223372036854775807 ∧ zR o.2.2.2.2.2.2.2.1 (-1) 6719 ∧ zR o.2.2.2.2.2.2.2.2.1 0 150 ∧ zR o.2.2.2.2.2.2.2.2.2.1 0 6719 ∧ zR o.2.2.2.2.2.2.2.2.2.2.1 0 6719 ∧ zR o.2.2.2.2.2.2.2.2.2.2.2.1 0 30 ∧ zR o.2.2.2.2.2.2.2.2.2.2.2.2.1 0 5 ∧ zR o.2.2.2.2.2.2.2.2.2.2.2.2.2.1 0 7 ∧ zR o.2.2.2.2.2.2.2.2.2.2.2.2.2.2.2.2.2.1 (-2147483648) 2147483647 ∧ zR o.2.2.2.2.2.2.2.2.2.2.2.2.2.2.2.2.2.2.2.2.2.2.2.2.2.2.2.1 0 99 ∧ zR o.2.2.2.2.2.2.2.2.2.2.2.2.2.2.2.2.2.2.2.2.2.2.2.2.2.2.2.2.2.1 0 150 ∧ zR o.2.2.2.2.2.2.2.2.2.2.2.2.2.2.2.2.2.2.2.2.2.2.2.2.2.2.2.2.2.2.1 0 150 ∧ zR o.2.2.2.2.2.2.2.2.2.2.2.2.2.2.2.2.2.2.2.2.2.2.2.2.2.2.2.2.2.2.2 0 150) := by
  unfold f_Planner_planned
  refine zk_ifc (zci_ltr (by omega)) (fun hc => ?_) (fun hc => ?_)
  · exfalso; omega
  · refine zk_ifc (zci_le (by omega) (by omega)) (fun hc_2 => ?_) (fun hc_2 => ?_)
    · exfalso; omega
    · unfold f_Planner_planned_22
      refine zk_ifc (zci_eqr (by omega)) (fun hc_3 => ?_) (fun hc_3 => ?_)
      · refine zk_if (fun hc_4 => ?_) (fun hc_4 => ?_)
        · refine zk_ret ?_
          try dsimp only
          exact ⟨by omega, by omega, by omega, by omega, by omega, by omega, by omega, by omega, by omega, by omega, by omega, by omega, by omega, h_i_slots, h_i_states, h_i_before, h_i_by, h_i_queue, h_i_queuedAt, h_i_weights, h_i_heights, h_i_tops, h_i_carriers_notes, h_i_carriers_judge_words, h_i_plans_0_row, h_i_plans_1_row, h_i_plans_2_row⟩
        · refine zk_d1 (s_Planner_isSmall _ _ (by omega) h_i_hill_columns_heights) (fun v1 hp => ?_)
          try dsimp only at hp
          have hpp0 := hp
          refine zk_ifc (zci_eqr (by omega)) (fun hc_5 => ?_) (fun hc_5 => ?_)
          · unfold f_Planner_planned_73c
            unfold f_Planner_planned_74c
            refine zk_d3 (s_Planner_write _ _ _ _ _ _ _ (by omega) h_i_before h_i_by (by omega) (by omega) h_i_plans_0_row) (fun v1_2 v2 a3 hp_2 => ?_)
            try dsimp only at hp_2
            obtain ⟨hp_2p0, hp_2p1, hp_2p2⟩ := hp_2
            refine zk_ret ?_
            try dsimp only
            exact ⟨by omega, by omega, by omega, by omega, by omega, by omega, by omega, by omega, by omega, by omega, by omega, by omega, by omega, h_i_slots, h_i_states, h_i_before, h_i_by, h_i_queue, h_i_queuedAt, h_i_weights, h_i_heights, h_i_tops, h_i_carriers_notes, h_i_carriers_judge_words, hp_2p2, h_i_plans_1_row, h_i_plans_2_row⟩
          · refine zk_d1 (s_Planner_goalsFit _ _ _ (by omega) h_i_hill_goals h_i_hill_columns_heights) (fun v2_2 hp_3 => ?_)
            try dsimp only at hp_3
            have hp_3p0 := hp_3
            refine zk_ifc (zci_eqr (by omega)) (fun hc_6 => ?_) (fun hc_6 => ?_)
            · unfold f_Planner_planned_73c
              unfold f_Planner_planned_74c
              refine zk_d3 (s_Planner_write _ _ _ _ _ _ _ (by omega) h_i_before h_i_by (by omega) (by omega) h_i_plans_0_row) (fun v1_3 v2_3 a3_2 hp_4 => ?_)
              try dsimp only at hp_4
              obtain ⟨hp_4p0, hp_4p1, hp_4p2⟩ := hp_4
              refine zk_ret ?_
              try dsimp only
              exact ⟨by omega, by omega, by omega, by omega, by omega, by omega, by omega, by omega, by omega, by omega, by omega, by omega, by omega, h_i_slots, h_i_states, h_i_before, h_i_by, h_i_queue, h_i_queuedAt, h_i_weights, h_i_heights, h_i_tops, h_i_carriers_notes, h_i_carriers_judge_words, hp_4p2, h_i_plans_1_row, h_i_plans_2_row⟩
            · refine zk_d20 (s_Planner_search _ _ _ _ _ _ _ _ _ _ _ _ _ _ _ _ _ _ _ _ _ _ _ _ _ _ _ _ _ _ _ _ _ (by omega) (by omega) (by omega) (by omega) (by omega) h_i_hill_strengths h_i_hill_expelled h_i_hill_terms h_i_hill_goals h_i_hill_orders h_i_hill_ordered h_i_hill_columns_heights h_i_hill_columns_weights (by omega) (by omega) (by omega) h_i_slots h_i_states h_i_before h_i_by h_i_queue h_i_queuedAt h_i_weights h_i_heights h_i_tops (by omega) (by omega) (by omega) h_i_carriers_notes h_i_carriers_judge_words) (fun v3 v4 v5 v6 a7 a8 a9 a10 a11 a12 a13 a14 a15 a16 v17 v18 v19 a20 a21 a22 hp_5 => ?_)
              try dsimp only at hp_5
              obtain ⟨hp_5p0, hp_5p1, hp_5p2, hp_5p3, hp_5p4, hp_5p5, hp_5p6, hp_5p7, hp_5p8, hp_5p9, hp_5p10, hp_5p11, hp_5p12, hp_5p13, hp_5p14, hp_5p15, hp_5p16, hp_5p17⟩ := hp_5
              unfold f_Planner_planned_74c
              refine zk_d3 (s_Planner_write _ _ _ _ _ _ _ (by omega) hp_5p9 hp_5p10 (by omega) (by omega) h_i_plans_0_row) (fun v1_4 v2_4 a3_3 hp_6 => ?_)
              try dsimp only at hp_6
              obtain ⟨hp_6p0, hp_6p1, hp_6p2⟩ := hp_6
              refine zk_ret ?_
              try dsimp only
              exact ⟨by omega, by omega, by omega, by omega, by omega, by omega, by omega, by omega, by omega, by omega, by omega, by omega, by omega, hp_5p7, hp_5p8, hp_5p9, hp_5p10, hp_5p11, hp_5p12, hp_5p13, hp_5p14, hp_5p15, hp_5p16, hp_5p17, hp_6p2, h_i_plans_1_row, h_i_plans_2_row⟩
      · refine zk_ifc (zci_eqr (by omega)) (fun hc_7 => ?_) (fun hc_7 => ?_)
        · refine zk_if (fun hc_8 => ?_) (fun hc_8 => ?_)
          · refine zk_ret ?_
            try dsimp only
            exact ⟨by omega, by omega, by omega, by omega, by omega, by omega, by omega, by omega, by omega, by omega, by omega, by omega, by omega, h_i_slots, h_i_states, h_i_before, h_i_by, h_i_queue, h_i_queuedAt, h_i_weights, h_i_heights, h_i_tops, h_i_carriers_notes, h_i_carriers_judge_words, h_i_plans_0_row, h_i_plans_1_row, h_i_plans_2_row⟩
          · refine zk_d1 (s_Planner_isSmall _ _ (by omega) h_i_hill_columns_heights) (fun v23 hp_7 => ?_)
            try dsimp only at hp_7
            have hp_7p0 := hp_7
            refine zk_ifc (zci_eqr (by omega)) (fun hc_9 => ?_) (fun hc_9 => ?_)
            · unfold f_Planner_planned_73b
              unfold f_Planner_planned_74b
              refine zk_d3 (s_Planner_write _ _ _ _ _ _ _ (by omega) h_i_before h_i_by (by omega) (by omega) h_i_plans_1_row) (fun v1_5 v2_5 a3_4 hp_8 => ?_)
              try dsimp only at hp_8
              obtain ⟨hp_8p0, hp_8p1, hp_8p2⟩ := hp_8
              refine zk_ret ?_
              try dsimp only
              exact ⟨by omega, by omega, by omega, by omega, by omega, by omega, by omega, by omega, by omega, by omega, by omega, by omega, by omega, h_i_slots, h_i_states, h_i_before, h_i_by, h_i_queue, h_i_queuedAt, h_i_weights, h_i_heights, h_i_tops, h_i_carriers_notes, h_i_carriers_judge_words, h_i_plans_0_row, hp_8p2, h_i_plans_2_row⟩
            · refine zk_d1 (s_Planner_goalsFit _ _ _ (by omega) h_i_hill_goals h_i_hill_columns_heights) (fun v24 hp_9 => ?_)
              try dsimp only at hp_9
              have hp_9p0 := hp_9
              refine zk_ifc (zci_eqr (by omega)) (fun hc_10 => ?_) (fun hc_10 => ?_)
              · unfold f_Planner_planned_73b
                unfold f_Planner_planned_74b
                refine zk_d3 (s_Planner_write _ _ _ _ _ _ _ (by omega) h_i_before h_i_by (by omega) (by omega) h_i_plans_1_row) (fun v1_6 v2_6 a3_5 hp_10 => ?_)
                try dsimp only at hp_10
                obtain ⟨hp_10p0, hp_10p1, hp_10p2⟩ := hp_10
                refine zk_ret ?_
                try dsimp only
                exact ⟨by omega, by omega, by omega, by omega, by omega, by omega, by omega, by omega, by omega, by omega, by omega, by omega, by omega, h_i_slots, h_i_states, h_i_before, h_i_by, h_i_queue, h_i_queuedAt, h_i_weights, h_i_heights, h_i_tops, h_i_carriers_notes, h_i_carriers_judge_words, h_i_plans_0_row, hp_10p2, h_i_plans_2_row⟩
              · refine zk_d20 (s_Planner_search _ _ _ _ _ _ _ _ _ _ _ _ _ _ _ _ _ _ _ _ _ _ _ _ _ _ _ _ _ _ _ _ _ (by omega) (by omega) (by omega) (by omega) (by omega) h_i_hill_strengths h_i_hill_expelled h_i_hill_terms h_i_hill_goals h_i_hill_orders h_i_hill_ordered h_i_hill_columns_heights h_i_hill_columns_weights (by omega) (by omega) (by omega) h_i_slots h_i_states h_i_before h_i_by h_i_queue h_i_queuedAt h_i_weights h_i_heights h_i_tops (by omega) (by omega) (by omega) h_i_carriers_notes h_i_carriers_judge_words) (fun v25 v26 v27 v28 a29 a30 a31 a32 a33 a34 a35 a36 a37 a38 v39 v40 v41 a42 a43 a44 hp_11 => ?_)
                try dsimp only at hp_11
                obtain ⟨hp_11p0, hp_11p1, hp_11p2, hp_11p3, hp_11p4, hp_11p5, hp_11p6, hp_11p7, hp_11p8, hp_11p9, hp_11p10, hp_11p11, hp_11p12, hp_11p13, hp_11p14, hp_11p15, hp_11p16, hp_11p17⟩ := hp_11
                unfold f_Planner_planned_74b
                refine zk_d3 (s_Planner_write _ _ _ _ _ _ _ (by omega) hp_11p9 hp_11p10 (by omega) (by omega) h_i_plans_1_row) (fun v1_7 v2_7 a3_6 hp_12 => ?_)
                try dsimp only at hp_12
                obtain ⟨hp_12p0, hp_12p1, hp_12p2⟩ := hp_12
                refine zk_ret ?_
                try dsimp only
                exact ⟨by omega, by omega, by omega, by omega, by omega, by omega, by omega, by omega, by omega, by omega, by omega, by omega, by omega, hp_11p7, hp_11p8, hp_11p9, hp_11p10, hp_11p11, hp_11p12, hp_11p13, hp_11p14, hp_11p15, hp_11p16, hp_11p17, h_i_plans_0_row, hp_12p2, h_i_plans_2_row⟩
        · refine zk_ifc (zci_eqr (by omega)) (fun hc_11 => ?_) (fun hc_11 => ?_)
          · refine zk_if (fun hc_12 => ?_) (fun hc_12 => ?_)
            · refine zk_ret ?_
              try dsimp only
              exact ⟨by omega, by omega, by omega, by omega, by omega, by omega, by omega, by omega, by omega, by omega, by omega, by omega, by omega, h_i_slots, h_i_states, h_i_before, h_i_by, h_i_queue, h_i_queuedAt, h_i_weights, h_i_heights, h_i_tops, h_i_carriers_notes, h_i_carriers_judge_words, h_i_plans_0_row, h_i_plans_1_row, h_i_plans_2_row⟩
            · refine zk_d1 (s_Planner_isSmall _ _ (by omega) h_i_hill_columns_heights) (fun v45 hp_13 => ?_)
              try dsimp only at hp_13
              have hp_13p0 := hp_13
              refine zk_ifc (zci_eqr (by omega)) (fun hc_13 => ?_) (fun hc_13 => ?_)
              · unfold f_Planner_planned_73a
                unfold f_Planner_planned_74a
                refine zk_d3 (s_Planner_write _ _ _ _ _ _ _ (by omega) h_i_before h_i_by (by omega) (by omega) h_i_plans_2_row) (fun v1_8 v2_8 a3_7 hp_14 => ?_)
                try dsimp only at hp_14
                obtain ⟨hp_14p0, hp_14p1, hp_14p2⟩ := hp_14
                refine zk_ret ?_
                try dsimp only
                exact ⟨by omega, by omega, by omega, by omega, by omega, by omega, by omega, by omega, by omega, by omega, by omega, by omega, by omega, h_i_slots, h_i_states, h_i_before, h_i_by, h_i_queue, h_i_queuedAt, h_i_weights, h_i_heights, h_i_tops, h_i_carriers_notes, h_i_carriers_judge_words, h_i_plans_0_row, h_i_plans_1_row, hp_14p2⟩
              · refine zk_d1 (s_Planner_goalsFit _ _ _ (by omega) h_i_hill_goals h_i_hill_columns_heights) (fun v46 hp_15 => ?_)
                try dsimp only at hp_15
                have hp_15p0 := hp_15
                refine zk_ifc (zci_eqr (by omega)) (fun hc_14 => ?_) (fun hc_14 => ?_)
                · unfold f_Planner_planned_73a
                  unfold f_Planner_planned_74a
                  refine zk_d3 (s_Planner_write _ _ _ _ _ _ _ (by omega) h_i_before h_i_by (by omega) (by omega) h_i_plans_2_row) (fun v1_9 v2_9 a3_8 hp_16 => ?_)
                  try dsimp only at hp_16
                  obtain ⟨hp_16p0, hp_16p1, hp_16p2⟩ := hp_16
                  refine zk_ret ?_
                  try dsimp only
                  exact ⟨by omega, by omega, by omega, by omega, by omega, by omega, by omega, by omega, by omega, by omega, by omega, by omega, by omega, h_i_slots, h_i_states, h_i_before, h_i_by, h_i_queue, h_i_queuedAt, h_i_weights, h_i_heights, h_i_tops, h_i_carriers_notes, h_i_carriers_judge_words, h_i_plans_0_row, h_i_plans_1_row, hp_16p2⟩
                · refine zk_d20 (s_Planner_search _ _ _ _ _ _ _ _ _ _ _ _ _ _ _ _ _ _ _ _ _ _ _ _ _ _ _ _ _ _ _ _ _ (by omega) (by omega) (by omega) (by omega) (by omega) h_i_hill_strengths h_i_hill_expelled h_i_hill_terms h_i_hill_goals h_i_hill_orders h_i_hill_ordered h_i_hill_columns_heights h_i_hill_columns_weights (by omega) (by omega) (by omega) h_i_slots h_i_states h_i_before h_i_by h_i_queue h_i_queuedAt h_i_weights h_i_heights h_i_tops (by omega) (by omega) (by omega) h_i_carriers_notes h_i_carriers_judge_words) (fun v47 v48 v49 v50 a51 a52 a53 a54 a55 a56 a57 a58 a59 a60 v61 v62 v63 a64 a65 a66 hp_17 => ?_)
                  try dsimp only at hp_17
                  obtain ⟨hp_17p0, hp_17p1, hp_17p2, hp_17p3, hp_17p4, hp_17p5, hp_17p6, hp_17p7, hp_17p8, hp_17p9, hp_17p10, hp_17p11, hp_17p12, hp_17p13, hp_17p14, hp_17p15, hp_17p16, hp_17p17⟩ := hp_17
                  unfold f_Planner_planned_74a
                  refine zk_d3 (s_Planner_write _ _ _ _ _ _ _ (by omega) hp_17p9 hp_17p10 (by omega) (by omega) h_i_plans_2_row) (fun v1_10 v2_10 a3_9 hp_18 => ?_)
                  try dsimp only at hp_18
                  obtain ⟨hp_18p0, hp_18p1, hp_18p2⟩ := hp_18
                  refine zk_ret ?_
                  try dsimp only
                  exact ⟨by omega, by omega, by omega, by omega, by omega, by omega, by omega, by omega, by omega, by omega, by omega, by omega, by omega, hp_17p7, hp_17p8, hp_17p9, hp_17p10, hp_17p11, hp_17p12, hp_17p13, hp_17p14, hp_17p15, hp_17p16, hp_17p17, h_i_plans_0_row, h_i_plans_1_row, hp_18p2⟩
          · exfalso; omega
set_option maxHeartbeats 4000000 in
theorem s_Plan_piece (x1 : Int) (x2 : Int) (i_length : Int) (i_row : Nat → Int) (b_x1 : (-2147483648) ≤ x1 ∧ x1 ≤ 2147483647) (b_x2 : (-2147483648) ≤ x2 ∧ x2 ≤ 2147483647) (b_i_length : (-1000000000) ≤ i_length ∧ i_length ≤ 8191) (h_i_row : zR i_row 0 150) : zok (f_Plan_piece x1 x2 i_length i_row) (fun o => ((-1) ≤ o ∧ o ≤ 7)) := by
  unfold f_Plan_piece
  refine zk_ifc (zci_ltr (by omega)) (fun hc => ?_) (fun hc => ?_)
  · exact zk_ret (by omega)
  · refine zk_ifc (zci_le (by omega) (by omega)) (fun hc_2 => ?_) (fun hc_2 => ?_)
    · exact zk_ret (by omega)
    · refine zk_ifc (zci_lt (by omega) (by omega)) (fun hc_3 => ?_) (fun hc_3 => ?_)
      · refine zk_ifc (zci_eqr (by omega)) (fun hc_4 => ?_) (fun hc_4 => ?_)
        · refine zk_gv (by omega) (by decide) (fun v1 h_v1 => ?_)
          have r_v1 := h_i_row (x1.toNat)
          refine zk_g0zi_w (by omega) ?_
          refine zk_nE (fun v2 h_v2 => ?_)
          rw [zi_div_n (by omega) (by omega)] at h_v2
          exact zk_ret (by omega)
        · refine zk_ifc (zci_eqr (by omega)) (fun hc_5 => ?_) (fun hc_5 => ?_)
          · refine zk_gv (by omega) (by decide) (fun v3 h_v3 => ?_)
            have r_v3 := h_i_row (x1.toNat)
            refine zk_g0zi_w (by omega) ?_
            refine zk_nE (fun v4 h_v4 => ?_)
            rw [zi_div_n (by omega) (by omega)] at h_v4
            refine zk_g0zi_w (by omega) ?_
            refine zk_nE (fun v5 h_v5 => ?_)
            rw [zi_rem_n (by omega) (by omega)] at h_v5
            exact zk_ret (by omega)
          · refine zk_ifc (zci_eqr (by omega)) (fun hc_6 => ?_) (fun hc_6 => ?_)
            · refine zk_gv (by omega) (by decide) (fun v6 h_v6 => ?_)
              have r_v6 := h_i_row (x1.toNat)
              refine zk_g0zi_w (by omega) ?_
              refine zk_nE (fun v7 h_v7 => ?_)
              rw [zi_rem_n (by omega) (by omega)] at h_v7
              exact zk_ret (by omega)
            · exact zk_ret (by omega)
      · exact zk_ret (by omega)
set_option maxHeartbeats 4000000 in
theorem s_HS_plan (x1 : Int) (x2 : Int) (x3 : Int) (i_hill_children : Int) (i_hill_laws : Int) (i_hill_inForce : Int) (i_hill_changes : Int) (i_hill_columns_many : Int) (i_hill_strengths : Nat → Int) (i_hill_expelled : Nat → Int) (i_hill_terms : Nat → Int) (i_hill_goals : Nat → Int) (i_hill_orders : Nat → Int) (i_hill_ordered : Nat → Int) (i_hill_columns_heights : Nat → Int) (i_hill_columns_weights : Nat → Int) (i_judge_piled : Int) (i_judge_tiring : Int) (i_judge_barred : Int) (i_planner_kinds : Int) (i_planner_found : Int) (i_planner_queued : Int) (i_judge_words : Nat → Int) (i_judge_pile : Nat → Int) (i_carriers_notes : Nat → Int) (i_planner_slots : Nat → Int) (i_planner_states : Nat → Int) (i_planner_costs : Nat → Int) (i_planner_before : Nat → Int) (i_planner_by : Nat → Int) (i_planner_queue : Nat → Int) (i_planner_queuedAt : Nat → Int) (i_planner_weights : Nat → Int) (i_planner_heights : Nat → Int) (i_planner_tops : Nat → Int) (i_planner_plans_0_version : Int) (i_planner_plans_0_length : Int) (i_planner_plans_0_tiring : Int) (i_planner_plans_1_version : Int) (i_planner_plans_1_length : Int) (i_planner_plans_1_tiring : Int) (i_planner_plans_2_version : Int) (i_planner_plans_2_length : Int) (i_planner_plans_2_tiring : Int) (i_planner_plans_0_row : Nat → Int) (i_planner_plans_1_row : Nat → Int) (i_planner_plans_2_row : Nat → Int) (b_x1 : (-2147483648) ≤ x1 ∧ x1 ≤ 2147483647) (b_x2 : (-2147483648) ≤ x2 ∧ x2 ≤ 2147483647) (b_x3 : (-2147483648) ≤ x3 ∧ x3 ≤ 2147483647) (b_i_hill_children : 0 ≤ i_hill_children ∧ i_hill_children ≤ 6) (b_i_hill_laws : 0 ≤ i_hill_laws ∧ i_hill_laws ≤ 6) (b_i_hill_inForce : (-1) ≤ i_hill_inForce ∧ i_hill_inForce ≤ 5) (b_i_hill_columns_many : 0 ≤ i_hill_columns_many ∧ i_hill_columns_many ≤ 12) (h_i_hill_strengths : zR i_hill_strengths 0 60) (h_i_hill_expelled : zR i_hill_expelled 0 1) (h_i_hill_terms : zR i_hill_terms 0 99) (h_i_hill_goals : zR i_hill_goals (-1) 10) (h_i_hill_orders : zR i_hill_orders (-2147483648) 2147483647) (h_i_hill_ordered : zR i_hill_ordered 0 424) (h_i_hill_columns_heights : zR i_hill_columns_heights 0 10) (h_i_hill_columns_weights : zR i_hill_columns_weights 0 30) (b_i_judge_piled : 0 ≤ i_judge_piled ∧ i_judge_piled ≤ 32) (b_i_judge_tiring : 0 ≤ i_judge_tiring ∧ i_judge_tiring ≤ 2147483647) (b_i_judge_barred : 0 ≤ i_judge_barred ∧ i_judge_barred ≤ 1) (b_i_planner_kinds : 0 ≤ i_planner_kinds ∧ i_planner_kinds ≤ 5) (b_i_planner_found : 0 ≤ i_planner_found ∧ i_planner_found ≤ 6720) (b_i_planner_queued : 0 ≤ i_planner_queued ∧ i_planner_queued ≤ 6720) (h_i_judge_words : zR i_judge_words 0 99) (h_i_carriers_notes : zR i_carriers_notes (-2147483648) 2147483647) (h_i_planner_slots : zR i_planner_slots 0 6720) (h_i_planner_states : zR i_planner_states (-9223372036854775808) 9223372036854775807) (h_i_planner_before : zR i_planner_before (-1) 6719) (h_i_planner_by : zR i_planner_by 0 150) (h_i_planner_queue : zR i_planner_queue 0 6719) (h_i_planner_queuedAt : zR i_planner_queuedAt 0 6719) (h_i_planner_weights : zR i_planner_weights 0 30) (h_i_planner_heights : zR i_planner_heights 0 5) (h_i_planner_tops : zR i_planner_tops 0 7) (b_i_planner_plans_0_length : (-1000000000) ≤ i_planner_plans_0_length ∧ i_planner_plans_0_length ≤ 8191) (b_i_planner_plans_0_tiring : (-9223372036854775808) ≤ i_planner_plans_0_tiring ∧ i_planner_plans_0_tiring ≤ 9223372036854775807) (b_i_planner_plans_1_length : (-1000000000) ≤ i_planner_plans_1_length ∧ i_planner_plans_1_length ≤ 8191) (b_i_planner_plans_1_tiring : (-9223372036854775808) ≤ i_planner_plans_1_tiring ∧ i_planner_plans_1_tiring ≤ 9223372036854775807) (b_i_planner_plans_2_length : (-1000000000) ≤ i_planner_plans_2_length ∧ i_planner_plans_2_length ≤ 8191) (b_i_planner_plans_2_tiring : (-9223372036854775808) ≤ i_planner_plans_2_tiring ∧ i_planner_plans_2_tiring ≤ 9223372036854775807) (h_i_planner_plans_0_row : zR i_planner_plans_0_row 0 150) (h_i_planner_plans_1_row : zR i_planner_plans_1_row 0 150) (h_i_planner_plans_2_row : zR i_planner_plans_2_row 0 150) : zok (f_HS_plan x1 x2 x3 i_hill_children i_hill_laws i_hill_inForce i_hill_changes i_hill_columns_many i_hill_strengths i_hill_expelled i_hill_terms i_hill_goals i_hill_orders i_hill_ordered i_hill_columns_heights i_hill_columns_weights i_judge_piled i_judge_tiring i_judge_barred i_planner_kinds i_planner_found i_planner_queued i_judge_words i_judge_pile i_carriers_notes i_planner_slots i_planner_states i_planner_costs i_planner_before i_planner_by i_planner_queue i_planner_queuedAt i_planner_weights i_planner_heights i_planner_tops i_planner_plans_0_version i_planner_plans_0_length i_planner_plans_0_tiring i_planner_plans_1_version i_planner_plans_1_length i_planner_plans_1_tiring i_planner_plans_2_version i_planner_plans_2_length i_planner_plans_2_tiring i_planner_plans_0_row i_planner_plans_1_row i_planner_plans_2_row) (fun o => ((-9223372036854775808) ≤ o.1 ∧ o.1 ≤ 9223372036854775807) ∧ (0 ≤ o.2.1 ∧ o.2.1 ≤ 32) ∧ (0 ≤ o.2.2.1 ∧ o.2.2.1 ≤ 2147483647) ∧ (0 ≤ o.2.2.2.1 ∧ o.2.2.2.1 ≤ 1) ∧ (0 ≤ o.2.2.2.2.1 ∧ o.2.2.2.2.1 ≤ 5) ∧ (0 ≤ o.2.2.2.2.2.1 ∧ o.2.2.2.2.2.1 ≤ 6720) ∧ (0 ≤ o.2.2.2.2.2.2.1 ∧ o.2.2.2.2.2.2.1 ≤ 6720) ∧ ((-1000000000) ≤ o.2.2.2.2.2.2.2.2.2.2.2.2.2.2.2.2.2.2.2.2.2.1 ∧ o.2.2.2.2.2.2.2.2.2.2.2.2.2.2.2.2.2.2.2.2.2.1 ≤ 8191) ∧ ((-9223372036854775808) ≤ o.2.2.2.2.2.2.2.2.2.2.2.2.2.2.2.2.2.2.2.2.2.2.1 ∧ o.2.2.2.2.2.2.2.2.2.2.2.2.2.2.2.2.2.2.2.2.2.2.1 ≤ 9223372036854775807) ∧ ((-1000000000) ≤ o.2.2.2.2.2.2.2.2.2.2.2.2.2.2.2.2.2.2.2.2.2.2.2.2.1 ∧ o.2.2.2.2.2.2.2.2.2.2.2.2.2.2.2.2.2.2.2.2.2.2.2.2.1 ≤ 8191) ∧ ((-9223372036854775808) ≤ o.2.2.2.2.2.2.2.2.2.2.2.2.2.2.2.2.2.2.2.2.2.2.2.2.2.1 ∧ o.2.2.2.2.2.2.2.2.2.2.2.2.2.2.2.2.2.2.2.2.2.2.2.2.2.1 ≤ 9223372036854775807) ∧ ((-1000000000) ≤ o.2.2.2.2.2.2.2.2.2.2.2.2.2.2.2.2.2.2.2.2.2.2.2.2.2.2.2.1 ∧ o.2.2.2.2.2.2.2.2.2.2.2.2.2.2.2.2.2.2.2.2.2.2.2.2.2.2.2.1 ≤ 8191) ∧ ((-9223372036854775808) ≤ o.2.2.2.2.2.2.2.2.2.2.2.2.2.2.2.2.2.2.2.2.2.2.2.2.2.2.2.2.1 ∧ o.2.2.2.2.2.2.2.2.2.2.2.2.2.2.2.2.2.2.2.2.2.2.2.2.2.2.2.2.1 ≤ 9223372036854775807) ∧ zR o.2.2.2.2.2.2.2.1 0 99 ∧ zR o.2.2.2.2.2.2.2.2.2.1 (-2147483648) 2147483647 ∧ zR o.2.2.2.2.2.2.2.2.2.2.1 0 6720 ∧ zR o.2.2.2.2.2.2.2.2.2.2.2.1 (-9223372036854775808) 9223372036854775807 ∧ zR o.2.2.2.2.2.2.2.2.2.2.2.2.2.1 (-1) 6719 ∧ zR o.2.2.2.2.2.2.2.2.2.2.2.2.2.2.1 0 150 ∧ zR o.2.2.2.2.2.2.2.2.2.2.2.2.2.2.2.1 0 6719 ∧ zR o.2.2.2.2.2.2.2.2.2.2.2.2.2.2.2.2.1 0 6719 ∧ zR o.2.2.2.2.2.2.2.2.2.2.2.2.2.2.2.2.2.1 0 30 ∧ zR o.2.2.2.2.2.2.2.2.2.2.2.2.2.2.2.2.2.2.1 0 5 ∧ zR o.2.2.2.2.2.2.2.2.2.2.2.2.2.2.2.2.2.2.2.1 0 7 ∧ zR o.2.2.2.2.2.2.2.2.2.2.2.2.2.2.2.2.2.2.2.2.2.2.2.2.2.2.2.2.2.1 0 150 ∧ zR o.2.2.2.2.2.2.2.2.2.2.2.2.2.2.2.2.2.2.2.2.2.2.2.2.2.2.2.2.2.2.1 0 150 ∧ zR o.2.2.2.2.2.2.2.2.2.2.2.2.2.2.2.2.2.2.2.2.2.2.2.2.2.2.2.2.2.2.2 0 150) := by
  unfold f_HS_plan
  refine zk_ifc (zci_ltr (by omega)) (fun hc => ?_) (fun hc => ?_)
  · refine zk_ret ?_
    try dsimp only
    exact ⟨by omega, by omega, by omega, by omega, by omega, by omega, by omega, by omega, by omega, by omega, by omega, by omega, by omega, h_i_judge_words, h_i_carriers_notes, h_i_planner_slots, h_i_planner_states, h_i_planner_before, h_i_planner_by, h_i_planner_queue, h_i_planner_queuedAt, h_i_planner_weights, h_i_planner_heights, h_i_planner_tops, h_i_planner_plans_0_row, h_i_planner_plans_1_row, h_i_planner_plans_2_row⟩
  · refine zk_ifc (zci_lt (by omega) (by omega)) (fun hc_2 => ?_) (fun hc_2 => ?_)
    · refine zk_ret ?_
      try dsimp only
      exact ⟨by omega, by omega, by omega, by omega, by omega, by omega, by omega, by omega, by omega, by omega, by omega, by omega, by omega, h_i_judge_words, h_i_carriers_notes, h_i_planner_slots, h_i_planner_states, h_i_planner_before, h_i_planner_by, h_i_planner_queue, h_i_planner_queuedAt, h_i_planner_weights, h_i_planner_heights, h_i_planner_tops, h_i_planner_plans_0_row, h_i_planner_plans_1_row, h_i_planner_plans_2_row⟩
    · refine zk_d1 (s_Planner_isSmall _ _ (by omega) h_i_hill_columns_heights) (fun v1 hp => ?_)
      try dsimp only at hp
      have hpp0 := hp
      refine zk_ifc (zci_ner (by omega)) (fun hc_3 => ?_) (fun hc_3 => ?_)
      · refine zk_d32 (s_Planner_planned _ _ _ _ _ _ _ _ _ _ _ _ _ _ _ _ _ _ _ _ _ _ _ _ _ _ _ _ _ _ _ _ _ _ _ _ _ _ _ _ _ _ _ _ _ (by omega) (by omega) (by omega) (by omega) (by omega) h_i_hill_strengths h_i_hill_expelled h_i_hill_terms h_i_hill_goals h_i_hill_orders h_i_hill_ordered h_i_hill_columns_heights h_i_hill_columns_weights (by omega) (by omega) (by omega) h_i_planner_slots h_i_planner_states h_i_planner_before h_i_planner_by h_i_planner_queue h_i_planner_queuedAt h_i_planner_weights h_i_planner_heights h_i_planner_tops (by omega) (by omega) (by omega) h_i_carriers_notes (by omega) (by omega) (by omega) (by omega) (by omega) (by omega) h_i_judge_words h_i_planner_plans_0_row h_i_planner_plans_1_row h_i_planner_plans_2_row) (fun v2 v3 v4 v5 a6 a7 a8 a9 a10 a11 a12 a13 a14 a15 v16 v17 v18 a19 v20 v21 v22 v23 v24 v25 v26 v27 v28 a29 a30 a31 a32 a33 hp_2 => ?_)
        try dsimp only at hp_2
        obtain ⟨hp_2p0, hp_2p1, hp_2p2, hp_2p3, hp_2p4, hp_2p5, hp_2p6, hp_2p7, hp_2p8, hp_2p9, hp_2p10, hp_2p11, hp_2p12, hp_2p13, hp_2p14, hp_2p15, hp_2p16, hp_2p17, hp_2p18, hp_2p19, hp_2p20, hp_2p21, hp_2p22, hp_2p23, hp_2p24, hp_2p25, hp_2p26⟩ := hp_2
        refine zk_if (fun hc_4 => ?_) (fun hc_4 => ?_)
        · refine zk_ifc (zci_eq (by omega) (by omega)) (fun hc_5 => ?_) (fun hc_5 => ?_)
          · unfold f_HS_plan_45c
            refine zk_ifc (zci_ne (by omega) (by omega)) (fun hc_6 => ?_) (fun hc_6 => ?_)
            · refine zk_ret ?_
              try dsimp only
              exact ⟨by omega, by omega, by omega, by omega, by omega, by omega, by omega, by omega, by omega, by omega, by omega, by omega, by omega, hp_2p23, hp_2p22, hp_2p13, hp_2p14, hp_2p15, hp_2p16, hp_2p17, hp_2p18, hp_2p19, hp_2p20, hp_2p21, hp_2p24, hp_2p25, hp_2p26⟩
            · refine zk_ret ?_
              try dsimp only
              exact ⟨by omega, by omega, by omega, by omega, by omega, by omega, by omega, by omega, by omega, by omega, by omega, by omega, by omega, hp_2p23, hp_2p22, hp_2p13, hp_2p14, hp_2p15, hp_2p16, hp_2p17, hp_2p18, hp_2p19, hp_2p20, hp_2p21, hp_2p24, hp_2p25, hp_2p26⟩
          · refine zk_ifc (zci_ne (by omega) (by omega)) (fun hc_7 => ?_) (fun hc_7 => ?_)
            · refine zk_d1 (s_Plan_piece _ _ _ _ (by omega) (by omega) (by omega) hp_2p24) (fun v34 hp_3 => ?_)
              try dsimp only at hp_3
              have hp_3p0 := hp_3
              refine zk_ret ?_
              try dsimp only
              exact ⟨by omega, by omega, by omega, by omega, by omega, by omega, by omega, by omega, by omega, by omega, by omega, by omega, by omega, hp_2p23, hp_2p22, hp_2p13, hp_2p14, hp_2p15, hp_2p16, hp_2p17, hp_2p18, hp_2p19, hp_2p20, hp_2p21, hp_2p24, hp_2p25, hp_2p26⟩
            · unfold f_HS_plan_45c
              refine zk_ifc (zci_ne (by omega) (by omega)) (fun hc_8 => ?_) (fun hc_8 => ?_)
              · refine zk_ret ?_
                try dsimp only
                exact ⟨by omega, by omega, by omega, by omega, by omega, by omega, by omega, by omega, by omega, by omega, by omega, by omega, by omega, hp_2p23, hp_2p22, hp_2p13, hp_2p14, hp_2p15, hp_2p16, hp_2p17, hp_2p18, hp_2p19, hp_2p20, hp_2p21, hp_2p24, hp_2p25, hp_2p26⟩
              · refine zk_ret ?_
                try dsimp only
                exact ⟨by omega, by omega, by omega, by omega, by omega, by omega, by omega, by omega, by omega, by omega, by omega, by omega, by omega, hp_2p23, hp_2p22, hp_2p13, hp_2p14, hp_2p15, hp_2p16, hp_2p17, hp_2p18, hp_2p19, hp_2p20, hp_2p21, hp_2p24, hp_2p25, hp_2p26⟩
        · refine zk_if (fun hc_9 => ?_) (fun hc_9 => ?_)
          · refine zk_ifc (zci_eq (by omega) (by omega)) (fun hc_10 => ?_) (fun hc_10 => ?_)
            · unfold f_HS_plan_45b
              refine zk_ifc (zci_ne (by omega) (by omega)) (fun hc_11 => ?_) (fun hc_11 => ?_)
              · refine zk_ret ?_
                try dsimp only
                exact ⟨by omega, by omega, by omega, by omega, by omega, by omega, by omega, by omega, by omega, by omega, by omega, by omega, by omega, hp_2p23, hp_2p22, hp_2p13, hp_2p14, hp_2p15, hp_2p16, hp_2p17, hp_2p18, hp_2p19, hp_2p20, hp_2p21, hp_2p24, hp_2p25, hp_2p26⟩
              · refine zk_ret ?_
                try dsimp only
                exact ⟨by omega, by omega, by omega, by omega, by omega, by omega, by omega, by omega, by omega, by omega, by omega, by omega, by omega, hp_2p23, hp_2p22, hp_2p13, hp_2p14, hp_2p15, hp_2p16, hp_2p17, hp_2p18, hp_2p19, hp_2p20, hp_2p21, hp_2p24, hp_2p25, hp_2p26⟩
            · refine zk_ifc (zci_ne (by omega) (by omega)) (fun hc_12 => ?_) (fun hc_12 => ?_)
              · refine zk_d1 (s_Plan_piece _ _ _ _ (by omega) (by omega) (by omega) hp_2p25) (fun v35 hp_4 => ?_)
                try dsimp only at hp_4
                have hp_4p0 := hp_4
                refine zk_ret ?_
                try dsimp only
                exact ⟨by omega, by omega, by omega, by omega, by omega, by omega, by omega, by omega, by omega, by omega, by omega, by omega, by omega, hp_2p23, hp_2p22, hp_2p13, hp_2p14, hp_2p15, hp_2p16, hp_2p17, hp_2p18, hp_2p19, hp_2p20, hp_2p21, hp_2p24, hp_2p25, hp_2p26⟩
              · unfold f_HS_plan_45b
                refine zk_ifc (zci_ne (by omega) (by omega)) (fun hc_13 => ?_) (fun hc_13 => ?_)
                · refine zk_ret ?_
                  try dsimp only
                  exact ⟨by omega, by omega, by omega, by omega, by omega, by omega, by omega, by omega, by omega, by omega, by omega, by omega, by omega, hp_2p23, hp_2p22, hp_2p13, hp_2p14, hp_2p15, hp_2p16, hp_2p17, hp_2p18, hp_2p19, hp_2p20, hp_2p21, hp_2p24, hp_2p25, hp_2p26⟩
                · refine zk_ret ?_
                  try dsimp only
                  exact ⟨by omega, by omega, by omega, by omega, by omega, by omega, by omega, by omega, by omega, by omega, by omega, by omega, by omega, hp_2p23, hp_2p22, hp_2p13, hp_2p14, hp_2p15, hp_2p16, hp_2p17, hp_2p18, hp_2p19, hp_2p20, hp_2p21, hp_2p24, hp_2p25, hp_2p26⟩
          · refine zk_if (fun hc_14 => ?_) (fun hc_14 => ?_)
            · refine zk_ifc (zci_eq (by omega) (by omega)) (fun hc_15 => ?_) (fun hc_15 => ?_)
              · unfold f_HS_plan_45a
                refine zk_ifc (zci_ne (by omega) (by omega)) (fun hc_16 => ?_) (fun hc_16 => ?_)
                · refine zk_ret ?_
                  try dsimp only
                  exact ⟨by omega, by omega, by omega, by omega, by omega, by omega, by omega, by omega, by omega, by omega, by omega, by omega, by omega, hp_2p23, hp_2p22, hp_2p13, hp_2p14, hp_2p15, hp_2p16, hp_2p17, hp_2p18, hp_2p19, hp_2p20, hp_2p21, hp_2p24, hp_2p25, hp_2p26⟩
                · refine zk_ret ?_
                  try dsimp only
                  exact ⟨by omega, by omega, by omega, by omega, by omega, by omega, by omega, by omega, by omega, by omega, by omega, by omega, by omega, hp_2p23, hp_2p22, hp_2p13, hp_2p14, hp_2p15, hp_2p16, hp_2p17, hp_2p18, hp_2p19, hp_2p20, hp_2p21, hp_2p24, hp_2p25, hp_2p26⟩
              · refine zk_ifc (zci_ne (by omega) (by omega)) (fun hc_17 => ?_) (fun hc_17 => ?_)
                · refine zk_d1 (s_Plan_piece _ _ _ _ (by omega) (by omega) (by omega) hp_2p26) (fun v36 hp_5 => ?_)
                  try dsimp only at hp_5
                  have hp_5p0 := hp_5
                  refine zk_ret ?_
                  try dsimp only
                  exact ⟨by omega, by omega, by omega, by omega, by omega, by omega, by omega, by omega, by omega, by omega, by omega, by omega, by omega, hp_2p23, hp_2p22, hp_2p13, hp_2p14, hp_2p15, hp_2p16, hp_2p17, hp_2p18, hp_2p19, hp_2p20, hp_2p21, hp_2p24, hp_2p25, hp_2p26⟩
                · unfold f_HS_plan_45a
                  refine zk_ifc (zci_ne (by omega) (by omega)) (fun hc_18 => ?_) (fun hc_18 => ?_)
                  · refine zk_ret ?_
                    try dsimp only
                    exact ⟨by omega, by omega, by omega, by omega, by omega, by omega, by omega, by omega, by omega, by omega, by omega, by omega, by omega, hp_2p23, hp_2p22, hp_2p13, hp_2p14, hp_2p15, hp_2p16, hp_2p17, hp_2p18, hp_2p19, hp_2p20, hp_2p21, hp_2p24, hp_2p25, hp_2p26⟩
                  · refine zk_ret ?_
                    try dsimp only
                    exact ⟨by omega, by omega, by omega, by omega, by omega, by omega, by omega, by omega, by omega, by omega, by omega, by omega, by omega, hp_2p23, hp_2p22, hp_2p13, hp_2p14, hp_2p15, hp_2p16, hp_2p17, hp_2p18, hp_2p19, hp_2p20, hp_2p21, hp_2p24, hp_2p25, hp_2p26⟩
            · exfalso; omega
      · refine zk_ret ?_
        try dsimp only
        exact ⟨by omega, by omega, by omega, by omega, by omega, by omega, by omega, by omega, by omega, by omega, by omega, by omega, by omega, h_i_judge_words, h_i_carriers_notes, h_i_planner_slots, h_i_planner_states, h_i_planner_before, h_i_planner_by, h_i_planner_queue, h_i_planner_queuedAt, h_i_planner_weights, h_i_planner_heights, h_i_planner_tops, h_i_planner_plans_0_row, h_i_planner_plans_1_row, h_i_planner_plans_2_row⟩
