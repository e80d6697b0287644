section
set_option maxHeartbeats 4000000 in
theorem s_Planner_firstState (i_hill_columns_many : Int) (i_hill_columns_heights : Nat → Int) (i_hill_columns_weights : Nat → Int) (i_kinds : Int) (i_weights : Nat → Int) (b_i_hill_columns_many : 0 ≤ i_hill_columns_many ∧ i_hill_columns_many ≤ 12) (h_i_hill_columns_heights : zR i_hill_columns_heights 0 10) (h_i_hill_columns_weights : zR i_hill_columns_weights 0 30) (b_i_kinds : 0 ≤ i_kinds ∧ i_kinds ≤ 5) (h_i_weights : zR i_weights 0 30) : zok (f_Planner_firstState i_hill_columns_many i_hill_columns_heights i_hill_columns_weights i_kinds i_weights) (fun o => ((-9223372036854775808) ≤ o.1 ∧ o.1 ≤ 9223372036854775807) ∧ (0 ≤ o.2.1 ∧ o.2.1 ≤ 5) ∧ zR o.2.2 0 30) := by
  unfold f_Planner_firstState
  exact s_Planner_firstState_9 _ _ _ (by omega) h_i_hill_columns_heights h_i_hill_columns_weights zfu _ _ _ _ (by omega) (by omega) (by omega) h_i_weights (by unfold zfu; omega)
set_option maxHeartbeats 4000000 in
theorem s_Planner_look_37  (k2 : Int → Int → (Nat → Int) → (Nat → Int) → Option ((Nat → Int) × (Nat → Int))) (Nk2 : Nat) (hk2 : ∀ (x1 : Int) (x3 : Int) (i_heights : Nat → Int) (i_tops : Nat → Int), ((-9223372036854775808) ≤ x1 ∧ x1 ≤ 9223372036854775807) → (0 ≤ x3 ∧ x3 ≤ 4) → (zR i_heights 0 5) → (zR i_tops 0 7) → (5 - x3) < (Nk2 : Int) → zok (k2 x1 x3 i_heights i_tops) (fun o => zR o.1 0 5 ∧ zR o.2 0 7))  : ∀ (n : Nat) (x1 : Int) (x3 : Int) (x4 : Int) (x5 : Int) (i_heights : Nat → Int) (i_tops : Nat → Int), ((-9223372036854775808) ≤ x1 ∧ x1 ≤ 9223372036854775807) → (0 ≤ x3 ∧ x3 ≤ 3) → (0 ≤ x4 ∧ x4 ≤ 32767) → (0 ≤ x5 ∧ x5 ≤ 5) → (zR i_heights 0 5) → (zR i_tops 0 7) → (i_heights x3.toNat ≤ x5) → (5 - x3) < (Nk2 : Int) + 1 → (6 - x5) < (n : Int) → zok (f_Planner_look_37 k2 n x1 x3 x4 x5 i_heights i_tops) (fun o => zR o.1 0 5 ∧ zR o.2 0 7) := by
  intro n
  induction n with
  | zero => intro x1 x3 x4 x5 i_heights i_tops b_x1 b_x3 b_x4 b_x5 h_i_heights h_i_tops p_0 mk2 hm; exfalso; omega
  | succ n ih =>
    intro x1 x3 x4 x5 i_heights i_tops b_x1 b_x3 b_x4 b_x5 h_i_heights h_i_tops p_0 mk2 hm
    show zok (f_Planner_look_37_b k2 (f_Planner_look_37 k2 n) x1 x3 x4 x5 i_heights i_tops) _
    unfold f_Planner_look_37_b
    refine zk_ifc (zci_le (by omega) (by omega)) (fun hc => ?_) (fun hc => ?_)
    · unfold f_Planner_look_81
      refine zk_n ?_
      exact hk2 _ _ _ _ (by omega) (by omega) h_i_heights h_i_tops (by omega)
    · refine zk_ifc (zci_eqr (by omega)) (fun hc_2 => ?_) (fun hc_2 => ?_)
      · unfold f_Planner_look_81
        refine zk_n ?_
        exact hk2 _ _ _ _ (by omega) (by omega) h_i_heights h_i_tops (by omega)
      · refine zk_gv (by omega) (by decide) (fun v1_3 h_v1_3 => ?_)
        have r_v1_3 := h_i_heights (x3.toNat)
        refine zk_n ?_
        refine zk_sv (by omega) (by decide) (fun a3 h_a3 => ?_)
        have i_a3 : zR a3 0 5 := by rw [h_a3]; exact zR_zu h_i_heights (by decide) (by decide) (by omega)
        have m_a3 := zu_rd h_a3 x3.toNat
        refine zk_nE (fun v4 h_v4 => ?_)
        have r_v4 := zi_and_m x4 (m := 7) (by decide); rw [← h_v4] at r_v4
        refine zk_sv (by omega) (by decide) (fun a5 h_a5 => ?_)
        have i_a5 : zR a5 0 7 := by rw [h_a5]; exact zR_zu h_i_tops (by decide) (by decide) (by omega)
        refine zk_nE (fun v6 h_v6 => ?_)
        rw [show (3 : Int) = ((3 : Nat) : Int) from rfl, zi_shr_k 3 8 (by decide) (by decide) (by omega)] at h_v6
        refine zk_n ?_
        exact ih _ _ _ _ _ _ (by omega) (by omega) (by omega) (by omega) i_a3 i_a5 (by omega) (by omega) (by omega)
set_option maxHeartbeats 4000000 in
theorem s_Planner_look_2   : ∀ (n : Nat) (x1 : Int) (x3 : Int) (i_heights : Nat → Int) (i_tops : Nat → Int), ((-9223372036854775808) ≤ x1 ∧ x1 ≤ 9223372036854775807) → (0 ≤ x3 ∧ x3 ≤ 4) → (zR i_heights 0 5) → (zR i_tops 0 7) → (5 - x3) < (n : Int) → zok (f_Planner_look_2  n x1 x3 i_heights i_tops) (fun o => zR o.1 0 5 ∧ zR o.2 0 7) := by
  intro n
  induction n with
  | zero => intro x1 x3 i_heights i_tops b_x1 b_x3 h_i_heights h_i_tops hm; exfalso; omega
  | succ n ih =>
    intro x1 x3 i_heights i_tops b_x1 b_x3 h_i_heights h_i_tops hm
    show zok (f_Planner_look_2_b  (f_Planner_look_2  n) x1 x3 i_heights i_tops) _
    unfold f_Planner_look_2_b
    refine zk_ifc (zci_le (by omega) (by omega)) (fun hc => ?_) (fun hc => ?_)
    · refine zk_ret ?_
      try dsimp only
      exact ⟨h_i_heights, h_i_tops⟩
    · refine zk_n ?_
      refine zk_nE (fun v2 h_v2 => ?_)
      have r_v2 := zl_ushr_f x1 (15 * x3); rw [← h_v2] at r_v2
      refine zk_nE (fun v3 h_v3 => ?_)
      have r_v3 := zi_and_m v2 (m := 32767) (by decide); rw [← h_v3] at r_v3
      refine zk_sv (by omega) (by decide) (fun a4 h_a4 => ?_)
      have i_a4 : zR a4 0 5 := by rw [h_a4]; exact zR_zu h_i_heights (by decide) (by decide) (by omega)
      have m_a4 := zu_rd h_a4 x3.toNat
      refine zk_sv (by omega) (by decide) (fun a5 h_a5 => ?_)
      have i_a5 : zR a5 0 7 := by rw [h_a5]; exact zR_zu h_i_tops (by decide) (by decide) (by omega)
      exact s_Planner_look_37 _ n ih zfu _ _ _ _ _ _ (by omega) (by omega) (by omega) (by omega) i_a4 i_a5 (by omega) (by omega) (by unfold zfu; omega)
set_option maxHeartbeats 4000000 in
theorem s_Planner_look (x1 : Int) (i_heights : Nat → Int) (i_tops : Nat → Int) (b_x1 : (-9223372036854775808) ≤ x1 ∧ x1 ≤ 9223372036854775807) (h_i_heights : zR i_heights 0 5) (h_i_tops : zR i_tops 0 7) : zok (f_Planner_look x1 i_heights i_tops) (fun o => zR o.1 0 5 ∧ zR o.2 0 7) := by
  unfold f_Planner_look
  exact s_Planner_look_2 zfu _ _ _ _ (by omega) (by omega) h_i_heights h_i_tops (by unfold zfu; omega)
set_option maxHeartbeats 4000000 in
theorem s_Planner_isSafe_26 (i_hill_terms : Nat → Int) (h_i_hill_terms : zR i_hill_terms 0 99) : ∀ (n : Nat) (x1 : Int) (x2 : Int) (x3 : Int) (x4 : Int) (x5 : Int) (i_heights : Nat → Int), (0 ≤ x1 ∧ x1 ≤ 3) → (0 ≤ x2 ∧ x2 ≤ 3) → (1 ≤ x3 ∧ x3 ≤ 4) → (0 ≤ x4 ∧ x4 ≤ 1) → (1 ≤ x5 ∧ x5 ≤ 4) → (zR i_heights (-1) 6) → (5 - x5) < (n : Int) → zok (f_Planner_isSafe_26 i_hill_terms n x1 x2 x3 x4 x5 i_heights) (fun o => (0 ≤ o.1 ∧ o.1 ≤ 1) ∧ (o.2 = zu (zu i_heights x1.toNat (i_heights x1.toNat + 1)) x2.toNat (zu i_heights x1.toNat (i_heights x1.toNat + 1) x2.toNat - 1))) := by
  intro n
  induction n with
  | zero => intro x1 x2 x3 x4 x5 i_heights b_x1 b_x2 b_x3 b_x4 b_x5 h_i_heights hm; exfalso; omega
  | succ n ih =>
    intro x1 x2 x3 x4 x5 i_heights b_x1 b_x2 b_x3 b_x4 b_x5 h_i_heights hm
    show zok (f_Planner_isSafe_26_b i_hill_terms (f_Planner_isSafe_26 i_hill_terms n) x1 x2 x3 x4 x5 i_heights) _
    unfold f_Planner_isSafe_26_b
    refine zk_ifc (zci_le (by omega) (by omega)) (fun hc => ?_) (fun hc => ?_)
    · refine zk_gv (by omega) (by decide) (fun v1 h_v1 => ?_)
      have r_v1 := h_i_heights (x1.toNat)
      refine zk_n ?_
      refine zk_sv (by omega) (by decide) (fun a3 h_a3 => ?_)
      have i_a3 : zR a3 (-1) 7 := by rw [h_a3]; exact zR_zu h_i_heights (by decide) (by decide) (by omega)
      refine zk_gv (by omega) (by decide) (fun v4 h_v4 => ?_)
      have r_v4 := i_a3 (x2.toNat)
      refine zk_n ?_
      refine zk_sv (by omega) (by decide) (fun a6 h_a6 => ?_)
      have i_a6 : zR a6 (-2) 7 := by rw [h_a6]; exact zR_zu i_a3 (by decide) (by decide) (by omega)
      refine zk_gb (by omega) ?_
      refine zk_ret ?_
      try dsimp only
      exact ⟨by omega, by simp only [h_a6, h_v4, h_a3, h_v1]⟩
    · refine zk_ifc (zci_eqr (by omega)) (fun hc_2 => ?_) (fun hc_2 => ?_)
      · unfold f_Planner_isSafe_73
        unfold f_Planner_isSafe_74
        refine zk_n ?_
        refine zok_mono (ih _ _ _ _ _ _ (by omega) (by omega) (by omega) (by omega) (by omega) h_i_heights (by omega)) (fun o ho => ?_)
        try dsimp only at ho
        obtain ⟨ho_0, ho_1⟩ := ho
        exact ⟨by omega, by first | assumption | omega | simp_all⟩
      · refine zk_gv (by omega) (by decide) (fun v7 h_v7 => ?_)
        have r_v7 := h_i_heights (x5.toNat)
        refine zk_n ?_
        refine zk_gv (by omega) (by decide) (fun v9 h_v9 => ?_)
        have r_v9 := h_i_heights ((x5 - 1).toNat)
        refine zk_n ?_
        refine zk_nE (fun v11 h_v11 => ?_)
        have r_v11 := zi_abs_f ((v7 - v9)) (by omega); rw [← h_v11] at r_v11
        refine zk_gl 2 rfl (by decide) (by decide) (fun v12 h_v12 => ?_)
        have r_v12 := h_i_hill_terms (2)
        refine zk_ifc (zci_lt (by omega) (by omega)) (fun hc_3 => ?_) (fun hc_3 => ?_)
        · unfold f_Planner_isSafe_73
          unfold f_Planner_isSafe_74
          refine zk_n ?_
          refine zok_mono (ih _ _ _ _ _ _ (by omega) (by omega) (by omega) (by omega) (by omega) h_i_heights (by omega)) (fun o ho => ?_)
          try dsimp only at ho
          obtain ⟨ho_0, ho_1⟩ := ho
          exact ⟨by omega, by first | assumption | omega | simp_all⟩
        · unfold f_Planner_isSafe_74
          refine zk_n ?_
          refine zok_mono (ih _ _ _ _ _ _ (by omega) (by omega) (by omega) (by omega) (by omega) h_i_heights (by omega)) (fun o ho => ?_)
          try dsimp only at ho
          obtain ⟨ho_0, ho_1⟩ := ho
          exact ⟨by omega, by first | assumption | omega | simp_all⟩
set_option maxHeartbeats 4000000 in
theorem s_Planner_isSafe (x1 : Int) (x2 : Int) (x3 : Int) (i_hill_terms : Nat → Int) (i_heights : Nat → Int) (b_x1 : 0 ≤ x1 ∧ x1 ≤ 3) (b_x2 : 0 ≤ x2 ∧ x2 ≤ 3) (b_x3 : 1 ≤ x3 ∧ x3 ≤ 4) (h_i_hill_terms : zR i_hill_terms 0 99) (h_i_heights : zR i_heights 0 5) : zok (f_Planner_isSafe x1 x2 x3 i_hill_terms i_heights) (fun o => (0 ≤ o.1 ∧ o.1 ≤ 1) ∧ zR o.2 0 5) := by
  obtain ⟨o, e, p0, p1⟩ : zok (f_Planner_isSafe x1 x2 x3 i_hill_terms i_heights) (fun o => (0 ≤ o.1 ∧ o.1 ≤ 1) ∧ o.2 = i_heights) := by
    unfold f_Planner_isSafe
    refine zk_gv (by omega) (by decide) (fun v1 h_v1 => ?_)
    have r_v1 := h_i_heights x1.toNat
    refine zk_n ?_
    refine zk_sv (by omega) (by decide) (fun a3 h_a3 => ?_)
    have i_a3 : zR a3 (-1) 5 := by rw [h_a3]; exact zR_zu h_i_heights (by decide) (by decide) (by omega)
    refine zk_gv (by omega) (by decide) (fun v4 h_v4 => ?_)
    have r_v4 := i_a3 x2.toNat
    refine zk_n ?_
    refine zk_sv (by omega) (by decide) (fun a6 h_a6 => ?_)
    have i_a6 : zR a6 (-1) 6 := by rw [h_a6]; exact zR_zu i_a3 (by decide) (by decide) (by omega)
    refine zok_mono (s_Planner_isSafe_26 _ h_i_hill_terms zfu _ _ _ _ _ _ (by omega) (by omega) (by omega) (by omega) (by omega) i_a6 (by unfold zfu; omega)) (fun o ho => ?_)
    obtain ⟨h0, h1⟩ := ho
    refine ⟨h0, ?_⟩
    rw [h1, h_a6, h_v4, h_a3, h_v1]
    exact zu_back i_heights x1.toNat x2.toNat
  exact ⟨o, e, p0, by rw [p1]; exact h_i_heights⟩
set_option maxHeartbeats 4000000 in
theorem s_Carriers_lowest (x0 : Int) (b_x0 : (-2147483648) ≤ x0 ∧ x0 ≤ 2147483647) : zok (f_Carriers_lowest x0) (fun o => (0 ≤ o ∧ o ≤ 7) ∧ ((True))) := by
  unfold f_Carriers_lowest
  refine zk_nE (fun v1 h_v1 => ?_)
  have r_v1 := zi_and_m x0 (m := 7) (by decide); rw [← h_v1] at r_v1
  exact zk_ret ⟨by omega, trivial⟩
set_option maxHeartbeats 4000000 in
theorem s_Carriers_note_166 (i_hill_children : Int) (i_hill_laws : Int) (i_hill_inForce : Int) (i_hill_changes : Int) (i_hill_strengths : Nat → Int) (i_hill_expelled : Nat → Int) (i_hill_terms : Nat → Int) (i_hill_orders : Nat → Int) (i_hill_ordered : Nat → Int) (b_i_hill_children : 0 ≤ i_hill_children ∧ i_hill_children ≤ 6) (b_i_hill_laws : 0 ≤ i_hill_laws ∧ i_hill_laws ≤ 6) (b_i_hill_inForce : (-1) ≤ i_hill_inForce ∧ i_hill_inForce ≤ 5) (h_i_hill_strengths : zR i_hill_strengths 0 60) (h_i_hill_expelled : zR i_hill_expelled 0 1) (h_i_hill_terms : zR i_hill_terms 0 99) (h_i_hill_orders : zR i_hill_orders (-2147483648) 2147483647) (h_i_hill_ordered : zR i_hill_ordered 0 424) : ∀ (n : Nat) (x1 : Int) (x2 : Int) (x3 : Int) (x4 : Int) (x5 : Int) (x7 : Int) (x8 : Int) (x9 : Int) (x10 : Int) (x11 : Int) (x12 : Int) (i_judge_piled : Int) (i_judge_tiring : Int) (i_judge_barred : Int) (i_notes : Nat → Int) (i_judge_words : Nat → Int) (i_judge_pile : Nat → Int), (0 ≤ x1 ∧ x1 ≤ 3) → (0 ≤ x2 ∧ x2 ≤ 3) → (1 ≤ x3 ∧ x3 ≤ 30) → (1 ≤ x4 ∧ x4 ≤ 10) → (0 ≤ x5 ∧ x5 ≤ 9) → (0 ≤ x7 ∧ x7 ≤ 47999) → ((-524285) ≤ x8 ∧ x8 ≤ 524287) → (0 ≤ x9 ∧ x9 ≤ 7) → (0 ≤ x10 ∧ x10 ≤ 7) → (0 ≤ x11 ∧ x11 ≤ 2147483647) → (0 ≤ x12 ∧ x12 ≤ 6) → (0 ≤ i_judge_piled ∧ i_judge_piled ≤ 32) → (0 ≤ i_judge_tiring ∧ i_judge_tiring ≤ 2147483647) → (0 ≤ i_judge_barred ∧ i_judge_barred ≤ 1) → (zR i_notes (-2147483648) 2147483647) → (zR i_judge_words 0 99) → (7 - x12) < (n : Int) → zok (f_Carriers_note_166 i_hill_children i_hill_laws i_hill_inForce i_hill_changes i_hill_strengths i_hill_expelled i_hill_terms i_hill_orders i_hill_ordered n x1 x2 x3 x4 x5 x7 x8 x9 x10 x11 x12 i_judge_piled i_judge_tiring i_judge_barred i_notes i_judge_words i_judge_pile) (fun o => ((-2147483648) ≤ o.1 ∧ o.1 ≤ 2147483647) ∧ (0 ≤ o.2.1 ∧ o.2.1 ≤ 32) ∧ (0 ≤ o.2.2.1 ∧ o.2.2.1 ≤ 2147483647) ∧ (0 ≤ o.2.2.2.1 ∧ o.2.2.2.1 ≤ 1) ∧ zR o.2.2.2.2.1 (-2147483648) 2147483647 ∧ zR o.2.2.2.2.2.1 0 99) := by
  intro n
  induction n with
  | zero => intro x1 x2 x3 x4 x5 x7 x8 x9 x10 x11 x12 i_judge_piled i_judge_tiring i_judge_barred i_notes i_judge_words i_judge_pile b_x1 b_x2 b_x3 b_x4 b_x5 b_x7 b_x8 b_x9 b_x10 b_x11 b_x12 b_i_judge_piled b_i_judge_tiring b_i_judge_barred h_i_notes h_i_judge_words hm; exfalso; omega
  | succ n ih =>
    intro x1 x2 x3 x4 x5 x7 x8 x9 x10 x11 x12 i_judge_piled i_judge_tiring i_judge_barred i_notes i_judge_words i_judge_pile b_x1 b_x2 b_x3 b_x4 b_x5 b_x7 b_x8 b_x9 b_x10 b_x11 b_x12 b_i_judge_piled b_i_judge_tiring b_i_judge_barred h_i_notes h_i_judge_words hm
    show zok (f_Carriers_note_166_b i_hill_children i_hill_laws i_hill_inForce i_hill_changes i_hill_strengths i_hill_expelled i_hill_terms i_hill_orders i_hill_ordered (f_Carriers_note_166 i_hill_children i_hill_laws i_hill_inForce i_hill_changes i_hill_strengths i_hill_expelled i_hill_terms i_hill_orders i_hill_ordered n) x1 x2 x3 x4 x5 x7 x8 x9 x10 x11 x12 i_judge_piled i_judge_tiring i_judge_barred i_notes i_judge_words i_judge_pile) _
    unfold f_Carriers_note_166_b
    refine zk_ifc (zci_le (by omega) (by omega)) (fun hc => ?_) (fun hc => ?_)
    · refine zk_nE (fun v1 h_v1 => ?_)
      have r_v1 := zi_shl_f x11 3; rw [← h_v1] at r_v1
      refine zk_nE (fun v2 h_v2 => ?_)
      have r_v2 := zi_or_f v1 x10; rw [← h_v2] at r_v2
      refine zk_nE (fun v3 h_v3 => ?_)
      have r_v3 := zi_shl_f v2 3; rw [← h_v3] at r_v3
      refine zk_nE (fun v4 h_v4 => ?_)
      have r_v4 := zi_or_f v3 x9; rw [← h_v4] at r_v4
      refine zk_nE (fun v5 h_v5 => ?_)
      have r_v5 := zi_shl_f x8 13; rw [← h_v5] at r_v5
      refine zk_nE (fun v6 h_v6 => ?_)
      have r_v6 := zi_or_f v5 v4; rw [← h_v6] at r_v6
      refine zk_sv (by omega) (by decide) (fun a7 h_a7 => ?_)
      have i_a7 : zR a7 (-2147483648) 2147483647 := by rw [h_a7]; exact zR_zu h_i_notes (by decide) (by decide) (by omega)
      refine zk_ifc (zci_ne (by omega) (by omega)) (fun hc_2 => ?_) (fun hc_2 => ?_)
      · refine zk_ret ?_
        try dsimp only
        exact ⟨by omega, by omega, by omega, by omega, i_a7, h_i_judge_words⟩
      · refine zk_ret ?_
        try dsimp only
        exact ⟨by omega, by omega, by omega, by omega, i_a7, h_i_judge_words⟩
    · refine zk_d6 (s_Judge_effort _ _ _ _ _ _ _ _ _ _ _ _ _ _ _ _ _ _ _ (by omega) (by omega) (by omega) (by omega) (by omega) (by omega) (by omega) (by omega) (by omega) h_i_hill_strengths h_i_hill_expelled h_i_hill_terms h_i_hill_orders h_i_hill_ordered (by omega) (by omega) (by omega) h_i_judge_words) (fun v8 v9 v10 v11 a12 a13 hp => ?_)
      try dsimp only at hp
      obtain ⟨hpp0, hpp1, hpp2, hpp3, hpp4⟩ := hp
      refine zk_ifc (zci_ne (by omega) (by omega)) (fun hc_3 => ?_) (fun hc_3 => ?_)
      · refine zk_ifc (zci_ne (by omega) (by omega)) (fun hc_4 => ?_) (fun hc_4 => ?_)
        · unfold f_Carriers_note_216
          refine zk_ifc (zci_eq (by omega) (by omega)) (fun hc_5 => ?_) (fun hc_5 => ?_)
          · unfold f_Carriers_note_230
            unfold f_Carriers_note_238
            refine zk_n ?_
            exact ih _ _ _ _ _ _ _ _ _ _ _ _ _ _ _ _ _ (by omega) (by omega) (by omega) (by omega) (by omega) (by omega) (by omega) (by omega) (by omega) (by omega) (by omega) (by omega) (by omega) (by omega) h_i_notes hpp4 (by omega)
          · refine zk_ifc (zci_le (by omega) (by omega)) (fun hc_6 => ?_) (fun hc_6 => ?_)
            · unfold f_Carriers_note_238
              refine zk_n ?_
              exact ih _ _ _ _ _ _ _ _ _ _ _ _ _ _ _ _ _ (by omega) (by omega) (by omega) (by omega) (by omega) (by omega) (by omega) (by omega) (by omega) (by omega) (by omega) (by omega) (by omega) (by omega) h_i_notes hpp4 (by omega)
            · unfold f_Carriers_note_230
              unfold f_Carriers_note_238
              refine zk_n ?_
              exact ih _ _ _ _ _ _ _ _ _ _ _ _ _ _ _ _ _ (by omega) (by omega) (by omega) (by omega) (by omega) (by omega) (by omega) (by omega) (by omega) (by omega) (by omega) (by omega) (by omega) (by omega) h_i_notes hpp4 (by omega)
        · unfold f_Carriers_note_216
          refine zk_ifc (zci_eq (by omega) (by omega)) (fun hc_7 => ?_) (fun hc_7 => ?_)
          · unfold f_Carriers_note_230
            unfold f_Carriers_note_238
            refine zk_n ?_
            exact ih _ _ _ _ _ _ _ _ _ _ _ _ _ _ _ _ _ (by omega) (by omega) (by omega) (by omega) (by omega) (by omega) (by omega) (by omega) (by omega) (by omega) (by omega) (by omega) (by omega) (by omega) h_i_notes hpp4 (by omega)
          · refine zk_ifc (zci_le (by omega) (by omega)) (fun hc_8 => ?_) (fun hc_8 => ?_)
            · unfold f_Carriers_note_238
              refine zk_n ?_
              exact ih _ _ _ _ _ _ _ _ _ _ _ _ _ _ _ _ _ (by omega) (by omega) (by omega) (by omega) (by omega) (by omega) (by omega) (by omega) (by omega) (by omega) (by omega) (by omega) (by omega) (by omega) h_i_notes hpp4 (by omega)
            · unfold f_Carriers_note_230
              unfold f_Carriers_note_238
              refine zk_n ?_
              exact ih _ _ _ _ _ _ _ _ _ _ _ _ _ _ _ _ _ (by omega) (by omega) (by omega) (by omega) (by omega) (by omega) (by omega) (by omega) (by omega) (by omega) (by omega) (by omega) (by omega) (by omega) h_i_notes hpp4 (by omega)
      · unfold f_Carriers_note_238
        refine zk_n ?_
        exact ih _ _ _ _ _ _ _ _ _ _ _ _ _ _ _ _ _ (by omega) (by omega) (by omega) (by omega) (by omega) (by omega) (by omega) (by omega) (by omega) (by omega) (by omega) (by omega) (by omega) (by omega) h_i_notes hpp4 (by omega)
set_option maxHeartbeats 4000000 in
theorem s_Carriers_note (x1 : Int) (x2 : Int) (x3 : Int) (x4 : Int) (x5 : Int) (i_hill_children : Int) (i_hill_laws : Int) (i_hill_inForce : Int) (i_hill_changes : Int) (i_hill_strengths : Nat → Int) (i_hill_expelled : Nat → Int) (i_hill_terms : Nat → Int) (i_hill_orders : Nat → Int) (i_hill_ordered : Nat → Int) (i_judge_piled : Int) (i_judge_tiring : Int) (i_judge_barred : Int) (i_notes : Nat → Int) (i_judge_words : Nat → Int) (i_judge_pile : Nat → Int) (b_x1 : 0 ≤ x1 ∧ x1 ≤ 11) (b_x2 : 0 ≤ x2 ∧ x2 ≤ 11) (b_x3 : 0 ≤ x3 ∧ x3 ≤ 30) (b_x4 : 0 ≤ x4 ∧ x4 ≤ 10) (b_x5 : 0 ≤ x5 ∧ x5 ≤ 10) (b_i_hill_children : 0 ≤ i_hill_children ∧ i_hill_children ≤ 6) (b_i_hill_laws : 0 ≤ i_hill_laws ∧ i_hill_laws ≤ 6) (b_i_hill_inForce : (-1) ≤ i_hill_inForce ∧ i_hill_inForce ≤ 5) (h_i_hill_strengths : zR i_hill_strengths 0 60) (h_i_hill_expelled : zR i_hill_expelled 0 1) (h_i_hill_terms : zR i_hill_terms 0 99) (h_i_hill_orders : zR i_hill_orders (-2147483648) 2147483647) (h_i_hill_ordered : zR i_hill_ordered 0 424) (b_i_judge_piled : 0 ≤ i_judge_piled ∧ i_judge_piled ≤ 32) (b_i_judge_tiring : 0 ≤ i_judge_tiring ∧ i_judge_tiring ≤ 2147483647) (b_i_judge_barred : 0 ≤ i_judge_barred ∧ i_judge_barred ≤ 1) (h_i_notes : zR i_notes (-2147483648) 2147483647) (h_i_judge_words : zR i_judge_words 0 99) : zok (f_Carriers_note x1 x2 x3 x4 x5 i_hill_children i_hill_laws i_hill_inForce i_hill_changes i_hill_strengths i_hill_expelled i_hill_terms i_hill_orders i_hill_ordered i_judge_piled i_judge_tiring i_judge_barred i_notes i_judge_words i_judge_pile) (fun o => ((-2147483648) ≤ o.1 ∧ o.1 ≤ 2147483647) ∧ (0 ≤ o.2.1 ∧ o.2.1 ≤ 32) ∧ (0 ≤ o.2.2.1 ∧ o.2.2.1 ≤ 2147483647) ∧ (0 ≤ o.2.2.2.1 ∧ o.2.2.2.1 ≤ 1) ∧ zR o.2.2.2.2.1 (-2147483648) 2147483647 ∧ zR o.2.2.2.2.2.1 0 99) := by
  unfold f_Carriers_note
  refine zk_ifc (zci_ltr (by omega)) (fun hc => ?_) (fun hc => ?_)
  · exfalso; omega
  · refine zk_ifc (zci_le (by omega) (by omega)) (fun hc_2 => ?_) (fun hc_2 => ?_)
    · refine zk_ret ?_
      try dsimp only
      exact ⟨by omega, by omega, by omega, by omega, h_i_notes, h_i_judge_words⟩
    · refine zk_ifc (zci_ltr (by omega)) (fun hc_3 => ?_) (fun hc_3 => ?_)
      · exfalso; omega
      · refine zk_ifc (zci_le (by omega) (by omega)) (fun hc_4 => ?_) (fun hc_4 => ?_)
        · refine zk_ret ?_
          try dsimp only
          exact ⟨by omega, by omega, by omega, by omega, h_i_notes, h_i_judge_words⟩
        · refine zk_ifc (zci_eq (by omega) (by omega)) (fun hc_5 => ?_) (fun hc_5 => ?_)
          · refine zk_ret ?_
            try dsimp only
            exact ⟨by omega, by omega, by omega, by omega, h_i_notes, h_i_judge_words⟩
          · refine zk_ifc (zci_lt (by omega) (by omega)) (fun hc_6 => ?_) (fun hc_6 => ?_)
            · refine zk_ret ?_
              try dsimp only
              exact ⟨by omega, by omega, by omega, by omega, h_i_notes, h_i_judge_words⟩
            · refine zk_ifc (zci_lt (by omega) (by omega)) (fun hc_7 => ?_) (fun hc_7 => ?_)
              · exfalso; omega
              · refine zk_ifc (zci_lt (by omega) (by omega)) (fun hc_8 => ?_) (fun hc_8 => ?_)
                · refine zk_ret ?_
                  try dsimp only
                  exact ⟨by omega, by omega, by omega, by omega, h_i_notes, h_i_judge_words⟩
                · refine zk_ifc (zci_lt (by omega) (by omega)) (fun hc_9 => ?_) (fun hc_9 => ?_)
                  · exfalso; omega
                  · refine zk_ifc (zci_ltr (by omega)) (fun hc_10 => ?_) (fun hc_10 => ?_)
                    · exfalso; omega
                    · refine zk_ifc (zci_lt (by omega) (by omega)) (fun hc_11 => ?_) (fun hc_11 => ?_)
                      · refine zk_n ?_
                        refine zk_n ?_
                        refine zk_n ?_
                        refine zk_n ?_
                        refine zk_n ?_
                        refine zk_n ?_
                        refine zk_n ?_
                        refine zk_n ?_
                        refine zk_n ?_
                        refine zk_n ?_
                        refine zk_g0zi_w (by omega) ?_
                        refine zk_nE (fun v11 h_v11 => ?_)
                        have r_v11 := zi_rem_g i_hill_changes (y := 524287) (by omega); rw [← h_v11] at r_v11; try clear h_v11
                        refine zk_n ?_
                        refine zk_gv (by omega) (by decide) (fun v13 h_v13 => ?_)
                        have r_v13 := h_i_notes (((((((((((x1 * 4) + x2) * 30) + x3) - 1) * 10) + x4) - 1) * 10) + x5).toNat)
                        refine zk_nE (fun v14 h_v14 => ?_)
                        have r_v14 := zi_ushr_f v13 13; rw [← h_v14] at r_v14; try clear h_v14
                        refine zk_ifc (zci_ne (by omega) (by omega)) (fun hc_12 => ?_) (fun hc_12 => ?_)
                        · exact s_Carriers_note_166 _ _ _ _ _ _ _ _ _ (by omega) (by omega) (by omega) h_i_hill_strengths h_i_hill_expelled h_i_hill_terms h_i_hill_orders h_i_hill_ordered zfu _ _ _ _ _ _ _ _ _ _ _ _ _ _ _ _ _ (by omega) (by omega) (by omega) (by omega) (by omega) (by omega) (by omega) (by omega) (by omega) (by omega) (by omega) (by omega) (by omega) (by omega) h_i_notes h_i_judge_words (by unfold zfu; omega)
                        · refine zk_gv (by omega) (by decide) (fun v15 h_v15 => ?_)
                          have r_v15 := h_i_notes (((((((((((x1 * 4) + x2) * 30) + x3) - 1) * 10) + x4) - 1) * 10) + x5).toNat)
                          refine zk_nE (fun v16 h_v16 => ?_)
                          have r_v16 := zi_and_m v15 (m := 8191) (by decide); rw [← h_v16] at r_v16
                          refine zk_d1 (s_Carriers_lowest _ (by omega)) (fun v17 hp => ?_)
                          try dsimp only at hp
                          obtain ⟨hpp0, hpp1⟩ := hp
                          refine zk_ifc (zci_ne (by omega) (by omega)) (fun hc_13 => ?_) (fun hc_13 => ?_)
                          · refine zk_ret ?_
                            try dsimp only
                            exact ⟨by omega, by omega, by omega, by omega, h_i_notes, h_i_judge_words⟩
                          · refine zk_ret ?_
                            try dsimp only
                            exact ⟨by omega, by omega, by omega, by omega, h_i_notes, h_i_judge_words⟩
                      · refine zk_ret ?_
                        try dsimp only
                        exact ⟨by omega, by omega, by omega, by omega, h_i_notes, h_i_judge_words⟩
set_option maxHeartbeats 4000000 in
theorem s_Carriers_leastTired (x0 : Int) (b_x0 : (-2147483648) ≤ x0 ∧ x0 ≤ 2147483647) : zok (f_Carriers_leastTired x0) (fun o => (0 ≤ o ∧ o ≤ 7) ∧ ((True))) := by
  unfold f_Carriers_leastTired
  refine zk_nE (fun v1 h_v1 => ?_)
  rw [show (3 : Int) = ((3 : Nat) : Int) from rfl, zi_shr_k 3 8 (by decide) (by decide) (by omega)] at h_v1
  refine zk_nE (fun v2 h_v2 => ?_)
  have r_v2 := zi_and_m v1 (m := 7) (by decide); rw [← h_v2] at r_v2
  exact zk_ret ⟨by omega, trivial⟩
set_option maxHeartbeats 4000000 in
theorem s_Carriers_tiring (x0 : Int) (b_x0 : (-2147483648) ≤ x0 ∧ x0 ≤ 2147483647) : zok (f_Carriers_tiring x0) (fun o => ((-33554432) ≤ o ∧ o ≤ 33554431) ∧ ((True))) := by
  unfold f_Carriers_tiring
  refine zk_nE (fun v1 h_v1 => ?_)
  rw [show (6 : Int) = ((6 : Nat) : Int) from rfl, zi_shr_k 6 64 (by decide) (by decide) (by omega)] at h_v1
  exact zk_ret ⟨by omega, trivial⟩
set_option maxHeartbeats 4000000 in
theorem s_Planner_carried (x1 : Int) (x3 : Int) (x4 : Int) (i_heights : Nat → Int) (i_tops : Nat → Int) (b_x1 : (-9223372036854775808) ≤ x1 ∧ x1 ≤ 9223372036854775807) (b_x3 : 0 ≤ x3 ∧ x3 ≤ 3) (b_x4 : 0 ≤ x4 ∧ x4 ≤ 3) (h_i_heights : zR i_heights 0 5) (h_i_tops : zR i_tops 0 7) : zok (f_Planner_carried x1 x3 x4 i_heights i_tops) (fun o => ((-9223372036854775808) ≤ o ∧ o ≤ 9223372036854775807)) := by
  unfold f_Planner_carried
  refine zk_gv (by omega) (by decide) (fun v1 h_v1 => ?_)
  have r_v1 := h_i_tops (x3.toNat)
  refine zk_nE (fun v2 h_v2 => ?_)
  rw [zwi (by omega)] at h_v2
  replace h_v2 := h_v2.symm
  subst h_v2
  refine zk_n ?_
  refine zk_gv (by omega) (by decide) (fun v4 h_v4 => ?_)
  have r_v4 := h_i_heights (x3.toNat)
  refine zk_n ?_
  refine zk_n ?_
  refine zk_n ?_
  refine zk_nE (fun v8 h_v8 => ?_)
  have r_v8 := zl_shl_f v1 ((15 * x3) + (3 * (v4 - 1))); rw [← h_v8] at r_v8
  refine zk_nE (fun v9 h_v9 => ?_)
  have r_v9 := zl_xor_f x1 v8; rw [← h_v9] at r_v9
  refine zk_n ?_
  refine zk_gv (by omega) (by decide) (fun v11 h_v11 => ?_)
  have r_v11 := h_i_heights (x4.toNat)
  refine zk_n ?_
  refine zk_n ?_
  refine zk_nE (fun v14 h_v14 => ?_)
  have r_v14 := zl_shl_f v1 ((15 * x4) + (3 * v11)); rw [← h_v14] at r_v14
  refine zk_nE (fun v15 h_v15 => ?_)
  have r_v15 := zl_or_f v9 v14; rw [← h_v15] at r_v15
  exact zk_ret (by omega)
end
section
set_option maxHeartbeats 4000000 in
theorem s_Planner_rise_4 (i_queued : Int) (i_costs : Nat → Int) (b_i_queued : 0 ≤ i_queued ∧ i_queued ≤ 6720) : ∀ (n : Nat) (x2 : Int) (x3 : Int) (i_queue : Nat → Int) (i_queuedAt : Nat → Int), (0 ≤ x2 ∧ x2 ≤ 6719) → (0 ≤ x3 ∧ x3 ≤ 14) → (zR i_queue 0 6719) → (zR i_queuedAt 0 6719) → (15 - x3) < (n : Int) → zok (f_Planner_rise_4 i_queued i_costs n x2 x3 i_queue i_queuedAt) (fun o => zR o.1 0 6719 ∧ zR o.2 0 6719) := by
  intro n
  induction n with
  | zero => intro x2 x3 i_queue i_queuedAt b_x2 b_x3 h_i_queue h_i_queuedAt hm; exfalso; omega
  | succ n ih =>
    intro x2 x3 i_queue i_queuedAt b_x2 b_x3 h_i_queue h_i_queuedAt hm
    show zok (f_Planner_rise_4_b i_queued i_costs (f_Planner_rise_4 i_queued i_costs n) x2 x3 i_queue i_queuedAt) _
    unfold f_Planner_rise_4_b
    refine zk_ifc (zci_le (by omega) (by omega)) (fun hc => ?_) (fun hc => ?_)
    · refine zk_ret ?_
      try dsimp only
      exact ⟨h_i_queue, h_i_queuedAt⟩
    · refine zk_ifc (zci_ler (by omega)) (fun hc_2 => ?_) (fun hc_2 => ?_)
      · refine zk_ret ?_
        try dsimp only
        exact ⟨h_i_queue, h_i_queuedAt⟩
      · refine zk_ifc (zci_le (by omega) (by omega)) (fun hc_3 => ?_) (fun hc_3 => ?_)
        · refine zk_ret ?_
          try dsimp only
          exact ⟨h_i_queue, h_i_queuedAt⟩
        · refine zk_n ?_
          refine zk_g0zi_w (by omega) ?_
          refine zk_nE (fun v2 h_v2 => ?_)
          rw [zi_div_n (by omega) (by omega)] at h_v2
          refine zk_gv (by omega) (by decide) (fun v3 h_v3 => ?_)
          have r_v3 := h_i_queue (v2.toNat)
          refine zk_gv (by omega) (by decide) (fun v4 h_v4 => ?_)
          refine zk_gv (by omega) (by decide) (fun v5 h_v5 => ?_)
          have r_v5 := h_i_queue (x2.toNat)
          refine zk_gv (by omega) (by decide) (fun v6 h_v6 => ?_)
          refine zk_if (fun hc_4 => ?_) (fun hc_4 => ?_)
          · refine zk_d2 (s_Planner_swap _ _ _ _ (by omega) (by omega) h_i_queue h_i_queuedAt) (fun a7 a8 hp => ?_)
            try dsimp only at hp
            obtain ⟨hpp0, hpp1⟩ := hp
            refine zk_n ?_
            exact ih _ _ _ _ (by omega) (by omega) hpp0 hpp1 (by omega)
          · refine zk_ret ?_
            try dsimp only
            exact ⟨h_i_queue, h_i_queuedAt⟩
set_option maxHeartbeats 4000000 in
theorem s_Planner_rise (x1 : Int) (i_queued : Int) (i_costs : Nat → Int) (i_queue : Nat → Int) (i_queuedAt : Nat → Int) (b_x1 : 0 ≤ x1 ∧ x1 ≤ 6719) (b_i_queued : 0 ≤ i_queued ∧ i_queued ≤ 6720) (h_i_queue : zR i_queue 0 6719) (h_i_queuedAt : zR i_queuedAt 0 6719) : zok (f_Planner_rise x1 i_queued i_costs i_queue i_queuedAt) (fun o => zR o.1 0 6719 ∧ zR o.2 0 6719) := by
  unfold f_Planner_rise
  exact s_Planner_rise_4 _ _ (by omega) zfu _ _ _ _ (by omega) (by omega) h_i_queue h_i_queuedAt (by unfold zfu; omega)
set_option maxHeartbeats 4000000 in
theorem s_Planner_slotOf_13 (i_slots : Nat → Int) (i_states : Nat → Int) (h_i_slots : zR i_slots 0 6720) (h_i_states : zR i_states (-9223372036854775808) 9223372036854775807) : ∀ (n : Nat) (x1 : Int) (x3 : Int) (x4 : Int), ((-9223372036854775808) ≤ x1 ∧ x1 ≤ 9223372036854775807) → (0 ≤ x3 ∧ x3 ≤ 16383) → (0 ≤ x4 ∧ x4 ≤ 16384) → (16385 - x4) < (n : Int) → zok (f_Planner_slotOf_13 i_slots i_states n x1 x3 x4) (fun o => ((-1) ≤ o ∧ o ≤ 16383)) := by
  intro n
  induction n with
  | zero => intro x1 x3 x4 b_x1 b_x3 b_x4 hm; exfalso; omega
  | succ n ih =>
    intro x1 x3 x4 b_x1 b_x3 b_x4 hm
    show zok (f_Planner_slotOf_13_b i_slots i_states (f_Planner_slotOf_13 i_slots i_states n) x1 x3 x4) _
    unfold f_Planner_slotOf_13_b
    refine zk_ifc (zci_le (by omega) (by omega)) (fun hc => ?_) (fun hc => ?_)
    · exact zk_ret (by omega)
    · refine zk_gv (by omega) (by decide) (fun v1 h_v1 => ?_)
      have r_v1 := h_i_slots (x3.toNat)
      refine zk_ifc (zci_eqr (by omega)) (fun hc_2 => ?_) (fun hc_2 => ?_)
      · exact zk_ret (by omega)
      · refine zk_gv (by omega) (by decide) (fun v2 h_v2 => ?_)
        have r_v2 := h_i_slots (x3.toNat)
        refine zk_n ?_
        refine zk_gv (by omega) (by decide) (fun v4 h_v4 => ?_)
        have r_v4 := h_i_states ((v2 - 1).toNat)
        refine zk_ifc (zcl_ne (by omega) (by omega)) (fun hc_3 => ?_) (fun hc_3 => ?_)
        · refine zk_n ?_
          refine zk_nE (fun v6 h_v6 => ?_)
          have r_v6 := zi_and_m (x3 + 1) (m := 16383) (by decide); rw [← h_v6] at r_v6
          refine zk_n ?_
          exact ih _ _ _ (by omega) (by omega) (by omega) (by omega)
        · exact zk_ret (by omega)
set_option maxHeartbeats 4000000 in
theorem s_Planner_slotOf (x1 : Int) (i_slots : Nat → Int) (i_states : Nat → Int) (b_x1 : (-9223372036854775808) ≤ x1 ∧ x1 ≤ 9223372036854775807) (h_i_slots : zR i_slots 0 6720) (h_i_states : zR i_states (-9223372036854775808) 9223372036854775807) : zok (f_Planner_slotOf x1 i_slots i_states) (fun o => ((-1) ≤ o ∧ o ≤ 16383)) := by
  unfold f_Planner_slotOf
  refine zk_n ?_
  refine zk_nE (fun v2 h_v2 => ?_)
  have r_v2 := zl_ushr50 (x1 * (-7046029254386353131)); rw [← h_v2] at r_v2
  exact s_Planner_slotOf_13 _ _ h_i_slots h_i_states zfu _ _ _ (by omega) (by omega) (by omega) (by unfold zfu; omega)
set_option maxHeartbeats 4000000 in
theorem s_Planner_come (x1 : Int) (x3 : Int) (x4 : Int) (x5 : Int) (i_found : Int) (i_queued : Int) (i_slots : Nat → Int) (i_states : Nat → Int) (i_costs : Nat → Int) (i_before : Nat → Int) (i_by : Nat → Int) (i_queue : Nat → Int) (i_queuedAt : Nat → Int) (b_x1 : (-9223372036854775808) ≤ x1 ∧ x1 ≤ 9223372036854775807) (b_x3 : (-1) ≤ x3 ∧ x3 ≤ 6719) (b_x4 : 0 ≤ x4 ∧ x4 ≤ 150) (b_i_found : 0 ≤ i_found ∧ i_found ≤ 6720) (b_i_queued : 0 ≤ i_queued ∧ i_queued ≤ 6720) (h_i_slots : zR i_slots 0 6720) (h_i_states : zR i_states (-9223372036854775808) 9223372036854775807) (h_i_before : zR i_before (-1) 6719) (h_i_by : zR i_by 0 150) (h_i_queue : zR i_queue 0 6719) (h_i_queuedAt : zR i_queuedAt 0 6719) (p_0 : i_queued ≤ i_found) : zok (f_Planner_come x1 x3 x4 x5 i_found i_queued i_slots i_states i_costs i_before i_by i_queue i_queuedAt) (fun o => (0 ≤ o.1 ∧ o.1 ≤ 6720) ∧ (0 ≤ o.2.1 ∧ o.2.1 ≤ 6720) ∧ zR o.2.2.1 0 6720 ∧ zR o.2.2.2.1 (-9223372036854775808) 9223372036854775807 ∧ zR o.2.2.2.2.2.1 (-1) 6719 ∧ zR o.2.2.2.2.2.2.1 0 150 ∧ zR o.2.2.2.2.2.2.2.1 0 6719 ∧ zR o.2.2.2.2.2.2.2.2 0 6719 ∧ (o.2.1 ≤ o.1)) := by
  unfold f_Planner_come
  refine zk_d1 (s_Planner_slotOf _ _ _ (by omega) h_i_slots h_i_states) (fun v1 hp => ?_)
  try dsimp only at hp
  have hpp0 := hp
  refine zk_ifc (zci_ne (by omega) (by omega)) (fun hc => ?_) (fun hc => ?_)
  · refine zk_gv (by omega) (by decide) (fun v2 h_v2 => ?_)
    have r_v2 := h_i_slots (v1.toNat)
    refine zk_n ?_
    refine zk_ifc (zci_lel (by omega)) (fun hc_2 => ?_) (fun hc_2 => ?_)
    · refine zk_gv (by omega) (by decide) (fun v4 h_v4 => ?_)
      refine zk_if (fun hc_3 => ?_) (fun hc_3 => ?_)
      · refine zk_ret ?_
        try dsimp only
        exact ⟨by omega, by omega, h_i_slots, h_i_states, h_i_before, h_i_by, h_i_queue, h_i_queuedAt, by omega⟩
      · refine zk_gv (by omega) (by decide) (fun v5 h_v5 => ?_)
        refine zk_if (fun hc_4 => ?_) (fun hc_4 => ?_)
        · unfold f_Planner_come_150
          refine zk_sv (by omega) (by decide) (fun a1 h_a1 => ?_)
          refine zk_sv (by omega) (by decide) (fun a2 h_a2 => ?_)
          have i_a2 : zR a2 (-1) 6719 := by rw [h_a2]; exact zR_zu h_i_before (by decide) (by decide) (by omega)
          refine zk_sv (by omega) (by decide) (fun a3 h_a3 => ?_)
          have i_a3 : zR a3 0 150 := by rw [h_a3]; exact zR_zu h_i_by (by decide) (by decide) (by omega)
          refine zk_gv (by omega) (by decide) (fun v4_2 h_v4_2 => ?_)
          have r_v4_2 := h_i_queuedAt ((v2 - 1).toNat)
          refine zk_d2 (s_Planner_rise _ _ _ _ _ (by omega) (by omega) h_i_queue h_i_queuedAt) (fun a5 a6 hp_2 => ?_)
          try dsimp only at hp_2
          obtain ⟨hp_2p0, hp_2p1⟩ := hp_2
          refine zk_ret ?_
          try dsimp only
          exact ⟨by omega, by omega, h_i_slots, h_i_states, i_a2, i_a3, hp_2p0, hp_2p1, by omega⟩
        · refine zk_d1 (s_Planner_isEarlier _ _ _ _ _ (by omega) (by omega) (by omega) h_i_before h_i_by) (fun v6 hp_3 => ?_)
          try dsimp only at hp_3
          have hp_3p0 := hp_3
          refine zk_ifc (zci_ner (by omega)) (fun hc_5 => ?_) (fun hc_5 => ?_)
          · unfold f_Planner_come_150
            refine zk_sv (by omega) (by decide) (fun a1_2 h_a1_2 => ?_)
            refine zk_sv (by omega) (by decide) (fun a2_2 h_a2_2 => ?_)
            have i_a2_2 : zR a2_2 (-1) 6719 := by rw [h_a2_2]; exact zR_zu h_i_before (by decide) (by decide) (by omega)
            refine zk_sv (by omega) (by decide) (fun a3_2 h_a3_2 => ?_)
            have i_a3_2 : zR a3_2 0 150 := by rw [h_a3_2]; exact zR_zu h_i_by (by decide) (by decide) (by omega)
            refine zk_gv (by omega) (by decide) (fun v4_3 h_v4_3 => ?_)
            have r_v4_3 := h_i_queuedAt ((v2 - 1).toNat)
            refine zk_d2 (s_Planner_rise _ _ _ _ _ (by omega) (by omega) h_i_queue h_i_queuedAt) (fun a5_2 a6_2 hp_4 => ?_)
            try dsimp only at hp_4
            obtain ⟨hp_4p0, hp_4p1⟩ := hp_4
            refine zk_ret ?_
            try dsimp only
            exact ⟨by omega, by omega, h_i_slots, h_i_states, i_a2_2, i_a3_2, hp_4p0, hp_4p1, by omega⟩
          · refine zk_ret ?_
            try dsimp only
            exact ⟨by omega, by omega, h_i_slots, h_i_states, h_i_before, h_i_by, h_i_queue, h_i_queuedAt, by omega⟩
    · refine zk_ifc (zci_lt (by omega) (by omega)) (fun hc_6 => ?_) (fun hc_6 => ?_)
      · refine zk_n ?_
        refine zk_sv (by omega) (by decide) (fun a8 h_a8 => ?_)
        have i_a8 : zR a8 0 6720 := by rw [h_a8]; exact zR_zu h_i_slots (by decide) (by decide) (by omega)
        refine zk_sv (by omega) (by decide) (fun a9 h_a9 => ?_)
        have i_a9 : zR a9 (-9223372036854775808) 9223372036854775807 := by rw [h_a9]; exact zR_zu h_i_states (by decide) (by decide) (by omega)
        refine zk_sv (by omega) (by decide) (fun a10 h_a10 => ?_)
        have i_a10 : zR a10 0 6719 := by rw [h_a10]; exact zR_zu h_i_queue (by decide) (by decide) (by omega)
        refine zk_sv (by omega) (by decide) (fun a11 h_a11 => ?_)
        have i_a11 : zR a11 0 6719 := by rw [h_a11]; exact zR_zu h_i_queuedAt (by decide) (by decide) (by omega)
        refine zk_n ?_
        unfold f_Planner_come_150
        refine zk_sv (by omega) (by decide) (fun a1_3 h_a1_3 => ?_)
        refine zk_sv (by omega) (by decide) (fun a2_3 h_a2_3 => ?_)
        have i_a2_3 : zR a2_3 (-1) 6719 := by rw [h_a2_3]; exact zR_zu h_i_before (by decide) (by decide) (by omega)
        refine zk_sv (by omega) (by decide) (fun a3_3 h_a3_3 => ?_)
        have i_a3_3 : zR a3_3 0 150 := by rw [h_a3_3]; exact zR_zu h_i_by (by decide) (by decide) (by omega)
        refine zk_gv (by omega) (by decide) (fun v4_4 h_v4_4 => ?_)
        have r_v4_4 := i_a11 (i_found.toNat)
        refine zk_d2 (s_Planner_rise _ _ _ _ _ (by omega) (by omega) i_a10 i_a11) (fun a5_3 a6_3 hp_5 => ?_)
        try dsimp only at hp_5
        obtain ⟨hp_5p0, hp_5p1⟩ := hp_5
        refine zk_ret ?_
        try dsimp only
        exact ⟨by omega, by omega, i_a8, i_a9, i_a2_3, i_a3_3, hp_5p0, hp_5p1, by omega⟩
      · refine zk_ret ?_
        try dsimp only
        exact ⟨by omega, by omega, h_i_slots, h_i_states, h_i_before, h_i_by, h_i_queue, h_i_queuedAt, by omega⟩
  · refine zk_ret ?_
    try dsimp only
    exact ⟨by omega, by omega, h_i_slots, h_i_states, h_i_before, h_i_by, h_i_queue, h_i_queuedAt, by omega⟩
set_option maxHeartbeats 4000000 in
theorem s_Planner_goOn_55 (i_hill_children : Int) (i_hill_laws : Int) (i_hill_inForce : Int) (i_hill_changes : Int) (i_weights : Nat → Int) (i_tops : Nat → Int) (i_hill_columns_many : Int) (i_hill_strengths : Nat → Int) (i_hill_expelled : Nat → Int) (i_hill_terms : Nat → Int) (i_hill_orders : Nat → Int) (i_hill_ordered : Nat → Int) (k18 : Int → Int → Int → Int → Int → Int → (Nat → Int) → (Nat → Int) → (Nat → Int) → (Nat → Int) → (Nat → Int) → (Nat → Int) → (Nat → Int) → (Nat → Int) → Int → Int → Int → (Nat → Int) → (Nat → Int) → (Nat → Int) → Option (Int × Int × (Nat → Int) × (Nat → Int) × (Nat → Int) × (Nat → Int) × (Nat → Int) × (Nat → Int) × (Nat → Int) × (Nat → Int) × Int × Int × Int × (Nat → Int) × (Nat → Int) × (Nat → Int))) (Nk18 : Nat) (hk18 : ∀ (x1 : Int) (x2 : Int) (x3 : Int) (x4 : Int) (i_found : Int) (i_queued : Int) (i_slots : Nat → Int) (i_states : Nat → Int) (i_costs : Nat → Int) (i_before : Nat → Int) (i_by : Nat → Int) (i_queue : Nat → Int) (i_queuedAt : Nat → Int) (i_heights : Nat → Int) (i_carriers_judge_piled : Int) (i_carriers_judge_tiring : Int) (i_carriers_judge_barred : Int) (i_carriers_notes : Nat → Int) (i_carriers_judge_words : Nat → Int) (i_carriers_judge_pile : Nat → Int), (0 ≤ x1 ∧ x1 ≤ 6719) → (0 ≤ x2 ∧ x2 ≤ 2) → (0 ≤ x3 ∧ x3 ≤ 4) → (0 ≤ x4 ∧ x4 ≤ 4) → (0 ≤ i_found ∧ i_found ≤ 6720) → (0 ≤ i_queued ∧ i_queued ≤ 6720) → (zR i_slots 0 6720) → (zR i_states (-9223372036854775808) 9223372036854775807) → (zR i_before (-1) 6719) → (zR i_by 0 150) → (zR i_queue 0 6719) → (zR i_queuedAt 0 6719) → (zR i_heights 0 5) → (0 ≤ i_carriers_judge_piled ∧ i_carriers_judge_piled ≤ 32) → (0 ≤ i_carriers_judge_tiring ∧ i_carriers_judge_tiring ≤ 2147483647) → (0 ≤ i_carriers_judge_barred ∧ i_carriers_judge_barred ≤ 1) → (zR i_carriers_notes (-2147483648) 2147483647) → (zR i_carriers_judge_words 0 99) → (i_queued ≤ i_found) → (5 - x4) < (Nk18 : Int) → zok (k18 x1 x2 x3 x4 i_found i_queued i_slots i_states i_costs i_before i_by i_queue i_queuedAt i_heights i_carriers_judge_piled i_carriers_judge_tiring i_carriers_judge_barred i_carriers_notes i_carriers_judge_words i_carriers_judge_pile) (fun o => (0 ≤ o.1 ∧ o.1 ≤ 6720) ∧ (0 ≤ o.2.1 ∧ o.2.1 ≤ 6720) ∧ (0 ≤ o.2.2.2.2.2.2.2.2.2.2.1 ∧ o.2.2.2.2.2.2.2.2.2.2.1 ≤ 32) ∧ (0 ≤ o.2.2.2.2.2.2.2.2.2.2.2.1 ∧ o.2.2.2.2.2.2.2.2.2.2.2.1 ≤ 2147483647) ∧ (0 ≤ o.2.2.2.2.2.2.2.2.2.2.2.2.1 ∧ o.2.2.2.2.2.2.2.2.2.2.2.2.1 ≤ 1) ∧ zR o.2.2.1 0 6720 ∧ zR o.2.2.2.1 (-9223372036854775808) 9223372036854775807 ∧ zR o.2.2.2.2.2.1 (-1) 6719 ∧ zR o.2.2.2.2.2.2.1 0 150 ∧ zR o.2.2.2.2.2.2.2.1 0 6719 ∧ zR o.2.2.2.2.2.2.2.2.1 0 6719 ∧ zR o.2.2.2.2.2.2.2.2.2.1 0 5 ∧ zR o.2.2.2.2.2.2.2.2.2.2.2.2.2.1 (-2147483648) 2147483647 ∧ zR o.2.2.2.2.2.2.2.2.2.2.2.2.2.2.1 0 99 ∧ (o.2.1 ≤ o.1))) (b_i_hill_children : 0 ≤ i_hill_children ∧ i_hill_children ≤ 6) (b_i_hill_laws : 0 ≤ i_hill_laws ∧ i_hill_laws ≤ 6) (b_i_hill_inForce : (-1) ≤ i_hill_inForce ∧ i_hill_inForce ≤ 5) (h_i_weights : zR i_weights 0 30) (h_i_tops : zR i_tops 0 7) (b_i_hill_columns_many : 0 ≤ i_hill_columns_many ∧ i_hill_columns_many ≤ 12) (h_i_hill_strengths : zR i_hill_strengths 0 60) (h_i_hill_expelled : zR i_hill_expelled 0 1) (h_i_hill_terms : zR i_hill_terms 0 99) (h_i_hill_orders : zR i_hill_orders (-2147483648) 2147483647) (h_i_hill_ordered : zR i_hill_ordered 0 424) : ∀ (n : Nat) (x1 : Int) (x2 : Int) (x3 : Int) (x4 : Int) (x6 : Int) (x7 : Int) (i_found : Int) (i_queued : Int) (i_slots : Nat → Int) (i_states : Nat → Int) (i_costs : Nat → Int) (i_before : Nat → Int) (i_by : Nat → Int) (i_queue : Nat → Int) (i_queuedAt : Nat → Int) (i_heights : Nat → Int) (i_carriers_judge_piled : Int) (i_carriers_judge_tiring : Int) (i_carriers_judge_barred : Int) (i_carriers_notes : Nat → Int) (i_carriers_judge_words : Nat → Int) (i_carriers_judge_pile : Nat → Int), (0 ≤ x1 ∧ x1 ≤ 6719) → (0 ≤ x2 ∧ x2 ≤ 2) → (1 ≤ x3 ∧ x3 ≤ 4) → (0 ≤ x4 ∧ x4 ≤ 3) → (0 ≤ x6 ∧ x6 ≤ 30) → (0 ≤ x7 ∧ x7 ≤ 4) → (0 ≤ i_found ∧ i_found ≤ 6720) → (0 ≤ i_queued ∧ i_queued ≤ 6720) → (zR i_slots 0 6720) → (zR i_states (-9223372036854775808) 9223372036854775807) → (zR i_before (-1) 6719) → (zR i_by 0 150) → (zR i_queue 0 6719) → (zR i_queuedAt 0 6719) → (zR i_heights 0 5) → (0 ≤ i_carriers_judge_piled ∧ i_carriers_judge_piled ≤ 32) → (0 ≤ i_carriers_judge_tiring ∧ i_carriers_judge_tiring ≤ 2147483647) → (0 ≤ i_carriers_judge_barred ∧ i_carriers_judge_barred ≤ 1) → (zR i_carriers_notes (-2147483648) 2147483647) → (zR i_carriers_judge_words 0 99) → (i_queued ≤ i_found) → (5 - x4) < (Nk18 : Int) + 1 → (5 - x7) < (n : Int) → zok (f_Planner_goOn_55 i_hill_children i_hill_laws i_hill_inForce i_hill_changes i_weights i_tops i_hill_columns_many i_hill_strengths i_hill_expelled i_hill_terms i_hill_orders i_hill_ordered k18 n x1 x2 x3 x4 x6 x7 i_found i_queued i_slots i_states i_costs i_before i_by i_queue i_queuedAt i_heights i_carriers_judge_piled i_carriers_judge_tiring i_carriers_judge_barred i_carriers_notes i_carriers_judge_words i_carriers_judge_pile) (fun o => (0 ≤ o.1 ∧ o.1 ≤ 6720) ∧ (0 ≤ o.2.1 ∧ o.2.1 ≤ 6720) ∧ (0 ≤ o.2.2.2.2.2.2.2.2.2.2.1 ∧ o.2.2.2.2.2.2.2.2.2.2.1 ≤ 32) ∧ (0 ≤ o.2.2.2.2.2.2.2.2.2.2.2.1 ∧ o.2.2.2.2.2.2.2.2.2.2.2.1 ≤ 2147483647) ∧ (0 ≤ o.2.2.2.2.2.2.2.2.2.2.2.2.1 ∧ o.2.2.2.2.2.2.2.2.2.2.2.2.1 ≤ 1) ∧ zR o.2.2.1 0 6720 ∧ zR o.2.2.2.1 (-9223372036854775808) 9223372036854775807 ∧ zR o.2.2.2.2.2.1 (-1) 6719 ∧ zR o.2.2.2.2.2.2.1 0 150 ∧ zR o.2.2.2.2.2.2.2.1 0 6719 ∧ zR o.2.2.2.2.2.2.2.2.1 0 6719 ∧ zR o.2.2.2.2.2.2.2.2.2.1 0 5 ∧ zR o.2.2.2.2.2.2.2.2.2.2.2.2.2.1 (-2147483648) 2147483647 ∧ zR o.2.2.2.2.2.2.2.2.2.2.2.2.2.2.1 0 99 ∧ (o.2.1 ≤ o.1)) := by
  intro n
  induction n with
  | zero => intro x1 x2 x3 x4 x6 x7 i_found i_queued i_slots i_states i_costs i_before i_by i_queue i_queuedAt i_heights i_carriers_judge_piled i_carriers_judge_tiring i_carriers_judge_barred i_carriers_notes i_carriers_judge_words i_carriers_judge_pile b_x1 b_x2 b_x3 b_x4 b_x6 b_x7 b_i_found b_i_queued h_i_slots h_i_states h_i_before h_i_by h_i_queue h_i_queuedAt h_i_heights b_i_carriers_judge_piled b_i_carriers_judge_tiring b_i_carriers_judge_barred h_i_carriers_notes h_i_carriers_judge_words p_0 mk18 hm; exfalso; omega
  | succ n ih =>
    intro x1 x2 x3 x4 x6 x7 i_found i_queued i_slots i_states i_costs i_before i_by i_queue i_queuedAt i_heights i_carriers_judge_piled i_carriers_judge_tiring i_carriers_judge_barred i_carriers_notes i_carriers_judge_words i_carriers_judge_pile b_x1 b_x2 b_x3 b_x4 b_x6 b_x7 b_i_found b_i_queued h_i_slots h_i_states h_i_before h_i_by h_i_queue h_i_queuedAt h_i_heights b_i_carriers_judge_piled b_i_carriers_judge_tiring b_i_carriers_judge_barred h_i_carriers_notes h_i_carriers_judge_words p_0 mk18 hm
    show zok (f_Planner_goOn_55_b i_hill_children i_hill_laws i_hill_inForce i_hill_changes i_weights i_tops i_hill_columns_many i_hill_strengths i_hill_expelled i_hill_terms i_hill_orders i_hill_ordered k18 (f_Planner_goOn_55 i_hill_children i_hill_laws i_hill_inForce i_hill_changes i_weights i_tops i_hill_columns_many i_hill_strengths i_hill_expelled i_hill_terms i_hill_orders i_hill_ordered k18 n) x1 x2 x3 x4 x6 x7 i_found i_queued i_slots i_states i_costs i_before i_by i_queue i_queuedAt i_heights i_carriers_judge_piled i_carriers_judge_tiring i_carriers_judge_barred i_carriers_notes i_carriers_judge_words i_carriers_judge_pile) _
    unfold f_Planner_goOn_55_b
    refine zk_ifc (zci_le (by omega) (by omega)) (fun hc => ?_) (fun hc => ?_)
    · unfold f_Planner_goOn_230
      refine zk_n ?_
      exact hk18 _ _ _ _ _ _ _ _ _ _ _ _ _ _ _ _ _ _ _ _ (by omega) (by omega) (by omega) (by omega) (by omega) (by omega) h_i_slots h_i_states h_i_before h_i_by h_i_queue h_i_queuedAt h_i_heights (by omega) (by omega) (by omega) h_i_carriers_notes h_i_carriers_judge_words (by omega) (by omega)
    · refine zk_gv (by omega) (by decide) (fun v1_2 h_v1_2 => ?_)
      have r_v1_2 := h_i_heights (x4.toNat)
      refine zk_ifc (zci_ler (by omega)) (fun hc_2 => ?_) (fun hc_2 => ?_)
      · unfold f_Planner_goOn_230
        refine zk_n ?_
        exact hk18 _ _ _ _ _ _ _ _ _ _ _ _ _ _ _ _ _ _ _ _ (by omega) (by omega) (by omega) (by omega) (by omega) (by omega) h_i_slots h_i_states h_i_before h_i_by h_i_queue h_i_queuedAt h_i_heights (by omega) (by omega) (by omega) h_i_carriers_notes h_i_carriers_judge_words (by omega) (by omega)
      · refine zk_gv (by omega) (by decide) (fun v2 h_v2 => ?_)
        have r_v2 := h_i_heights (x4.toNat)
        refine zk_gv (by omega) (by decide) (fun v3 h_v3 => ?_)
        have r_v3 := h_i_heights (x7.toNat)
        refine zk_d7 (s_Carriers_note _ _ _ _ _ _ _ _ _ _ _ _ _ _ _ _ _ _ _ _ (by omega) (by omega) (by omega) (by omega) (by omega) (by omega) (by omega) (by omega) h_i_hill_strengths h_i_hill_expelled h_i_hill_terms h_i_hill_orders h_i_hill_ordered (by omega) (by omega) (by omega) h_i_carriers_notes h_i_carriers_judge_words) (fun v4 v5 v6 v7 a8 a9 a10 hp => ?_)
        try dsimp only at hp
        obtain ⟨hpp0, hpp1, hpp2, hpp3, hpp4, hpp5⟩ := hp
        refine zk_ifc (zci_eq (by omega) (by omega)) (fun hc_3 => ?_) (fun hc_3 => ?_)
        · unfold f_Planner_goOn_224
          refine zk_n ?_
          exact ih _ _ _ _ _ _ _ _ _ _ _ _ _ _ _ _ _ _ _ _ _ _ (by omega) (by omega) (by omega) (by omega) (by omega) (by omega) (by omega) (by omega) h_i_slots h_i_states h_i_before h_i_by h_i_queue h_i_queuedAt h_i_heights (by omega) (by omega) (by omega) hpp4 hpp5 (by omega) (by omega) (by omega)
        · refine zk_ifc (zci_ne (by omega) (by omega)) (fun hc_4 => ?_) (fun hc_4 => ?_)
          · unfold f_Planner_goOn_123
            refine zk_ifc (zci_ne (by omega) (by omega)) (fun hc_5 => ?_) (fun hc_5 => ?_)
            · unfold f_Planner_goOn_133
              refine zk_ifc (zci_eqr (by omega)) (fun hc_6 => ?_) (fun hc_6 => ?_)
              · refine zk_d1 (s_Carriers_lowest _ (by omega)) (fun v1_5 hp_2 => ?_)
                try dsimp only at hp_2
                obtain ⟨hp_2p0, hp_2p1⟩ := hp_2
                unfold f_Planner_goOn_153
                refine zk_ifc (zci_eqr (by omega)) (fun hc_7 => ?_) (fun hc_7 => ?_)
                · unfold f_Planner_goOn_176
                  refine zk_n ?_
                  refine zk_n ?_
                  refine zk_n ?_
                  refine zk_n ?_
                  refine zk_gv (by omega) (by decide) (fun v5_2 h_v5_2 => ?_)
                  have r_v5_2 := h_i_states (x1.toNat)
                  refine zk_d1 (s_Planner_carried _ _ _ _ _ (by omega) (by omega) (by omega) h_i_heights h_i_tops) (fun v6_2 hp_3 => ?_)
                  try dsimp only at hp_3
                  have hp_3p0 := hp_3
                  refine zk_gv (by omega) (by decide) (fun v7_2 h_v7_2 => ?_)
                  refine zk_n ?_
                  refine zk_d9 (s_Planner_come _ _ _ _ _ _ _ _ _ _ _ _ _ (by omega) (by omega) (by omega) (by omega) (by omega) h_i_slots h_i_states h_i_before h_i_by h_i_queue h_i_queuedAt (by omega)) (fun v9 v10 a11 a12 a13 a14 a15 a16 a17 hp_4 => ?_)
                  try dsimp only at hp_4
                  obtain ⟨hp_4p0, hp_4p1, hp_4p2, hp_4p3, hp_4p4, hp_4p5, hp_4p6, hp_4p7, hp_4p8⟩ := hp_4
                  unfold f_Planner_goOn_224
                  refine zk_n ?_
                  exact ih _ _ _ _ _ _ _ _ _ _ _ _ _ _ _ _ _ _ _ _ _ _ (by omega) (by omega) (by omega) (by omega) (by omega) (by omega) (by omega) (by omega) hp_4p2 hp_4p3 hp_4p4 hp_4p5 hp_4p6 hp_4p7 h_i_heights (by omega) (by omega) (by omega) hpp4 hpp5 (by omega) (by omega) (by omega)
                · exfalso; omega
              · exfalso; omega
            · unfold f_Planner_goOn_133
              refine zk_ifc (zci_eqr (by omega)) (fun hc_8 => ?_) (fun hc_8 => ?_)
              · exfalso; omega
              · refine zk_d1 (s_Carriers_leastTired _ (by omega)) (fun v2_3 hp_5 => ?_)
                try dsimp only at hp_5
                obtain ⟨hp_5p0, hp_5p1⟩ := hp_5
                unfold f_Planner_goOn_153
                refine zk_ifc (zci_eqr (by omega)) (fun hc_9 => ?_) (fun hc_9 => ?_)
                · exfalso; omega
                · refine zk_d1 (s_Carriers_tiring _ (by omega)) (fun v1_8 hp_6 => ?_)
                  try dsimp only at hp_6
                  obtain ⟨hp_6p0, hp_6p1⟩ := hp_6
                  refine zk_nE (fun v2_4 h_v2_4 => ?_)
                  rw [zwi (by omega)] at h_v2_4
                  replace h_v2_4 := h_v2_4.symm
                  subst h_v2_4
                  refine zk_n ?_
                  refine zk_n ?_
                  unfold f_Planner_goOn_176
                  refine zk_n ?_
                  refine zk_n ?_
                  refine zk_n ?_
                  refine zk_n ?_
                  refine zk_gv (by omega) (by decide) (fun v5_3 h_v5_3 => ?_)
                  have r_v5_3 := h_i_states (x1.toNat)
                  refine zk_d1 (s_Planner_carried _ _ _ _ _ (by omega) (by omega) (by omega) h_i_heights h_i_tops) (fun v6_3 hp_7 => ?_)
                  try dsimp only at hp_7
                  have hp_7p0 := hp_7
                  refine zk_gv (by omega) (by decide) (fun v7_3 h_v7_3 => ?_)
                  refine zk_n ?_
                  refine zk_d9 (s_Planner_come _ _ _ _ _ _ _ _ _ _ _ _ _ (by omega) (by omega) (by omega) (by omega) (by omega) h_i_slots h_i_states h_i_before h_i_by h_i_queue h_i_queuedAt (by omega)) (fun v9_2 v10_2 a11_2 a12_2 a13_2 a14_2 a15_2 a16_2 a17_2 hp_8 => ?_)
                  try dsimp only at hp_8
                  obtain ⟨hp_8p0, hp_8p1, hp_8p2, hp_8p3, hp_8p4, hp_8p5, hp_8p6, hp_8p7, hp_8p8⟩ := hp_8
                  unfold f_Planner_goOn_224
                  refine zk_n ?_
                  exact ih _ _ _ _ _ _ _ _ _ _ _ _ _ _ _ _ _ _ _ _ _ _ (by omega) (by omega) (by omega) (by omega) (by omega) (by omega) (by omega) (by omega) hp_8p2 hp_8p3 hp_8p4 hp_8p5 hp_8p6 hp_8p7 h_i_heights (by omega) (by omega) (by omega) hpp4 hpp5 (by omega) (by omega) (by omega)
          · refine zk_d2 (s_Planner_isSafe _ _ _ _ _ (by omega) (by omega) (by omega) h_i_hill_terms h_i_heights) (fun v11 a12_3 hp_9 => ?_)
            try dsimp only at hp_9
            obtain ⟨hp_9p0, hp_9p1⟩ := hp_9
            refine zk_ifc (zci_eqr (by omega)) (fun hc_10 => ?_) (fun hc_10 => ?_)
            · unfold f_Planner_goOn_224
              refine zk_n ?_
              exact ih _ _ _ _ _ _ _ _ _ _ _ _ _ _ _ _ _ _ _ _ _ _ (by omega) (by omega) (by omega) (by omega) (by omega) (by omega) (by omega) (by omega) h_i_slots h_i_states h_i_before h_i_by h_i_queue h_i_queuedAt hp_9p1 (by omega) (by omega) (by omega) hpp4 hpp5 (by omega) (by omega) (by omega)
            · unfold f_Planner_goOn_123
              refine zk_ifc (zci_ne (by omega) (by omega)) (fun hc_11 => ?_) (fun hc_11 => ?_)
              · unfold f_Planner_goOn_133
                refine zk_ifc (zci_eqr (by omega)) (fun hc_12 => ?_) (fun hc_12 => ?_)
                · refine zk_d1 (s_Carriers_lowest _ (by omega)) (fun v1_12 hp_10 => ?_)
                  try dsimp only at hp_10
                  obtain ⟨hp_10p0, hp_10p1⟩ := hp_10
                  unfold f_Planner_goOn_153
                  refine zk_ifc (zci_eqr (by omega)) (fun hc_13 => ?_) (fun hc_13 => ?_)
                  · unfold f_Planner_goOn_176
                    refine zk_n ?_
                    refine zk_n ?_
                    refine zk_n ?_
                    refine zk_n ?_
                    refine zk_gv (by omega) (by decide) (fun v5_4 h_v5_4 => ?_)
                    have r_v5_4 := h_i_states (x1.toNat)
                    refine zk_d1 (s_Planner_carried _ _ _ _ _ (by omega) (by omega) (by omega) hp_9p1 h_i_tops) (fun v6_4 hp_11 => ?_)
                    try dsimp only at hp_11
                    have hp_11p0 := hp_11
                    refine zk_gv (by omega) (by decide) (fun v7_4 h_v7_4 => ?_)
                    refine zk_n ?_
                    refine zk_d9 (s_Planner_come _ _ _ _ _ _ _ _ _ _ _ _ _ (by omega) (by omega) (by omega) (by omega) (by omega) h_i_slots h_i_states h_i_before h_i_by h_i_queue h_i_queuedAt (by omega)) (fun v9_3 v10_3 a11_3 a12_4 a13_3 a14_3 a15_3 a16_3 a17_3 hp_12 => ?_)
                    try dsimp only at hp_12
                    obtain ⟨hp_12p0, hp_12p1, hp_12p2, hp_12p3, hp_12p4, hp_12p5, hp_12p6, hp_12p7, hp_12p8⟩ := hp_12
                    unfold f_Planner_goOn_224
                    refine zk_n ?_
                    exact ih _ _ _ _ _ _ _ _ _ _ _ _ _ _ _ _ _ _ _ _ _ _ (by omega) (by omega) (by omega) (by omega) (by omega) (by omega) (by omega) (by omega) hp_12p2 hp_12p3 hp_12p4 hp_12p5 hp_12p6 hp_12p7 hp_9p1 (by omega) (by omega) (by omega) hpp4 hpp5 (by omega) (by omega) (by omega)
                  · exfalso; omega
                · exfalso; omega
              · exfalso; omega
set_option maxHeartbeats 4000000 in
theorem s_Planner_goOn_18 (i_hill_children : Int) (i_hill_laws : Int) (i_hill_inForce : Int) (i_hill_changes : Int) (i_weights : Nat → Int) (i_tops : Nat → Int) (i_hill_columns_many : Int) (i_hill_strengths : Nat → Int) (i_hill_expelled : Nat → Int) (i_hill_terms : Nat → Int) (i_hill_orders : Nat → Int) (i_hill_ordered : Nat → Int) (b_i_hill_children : 0 ≤ i_hill_children ∧ i_hill_children ≤ 6) (b_i_hill_laws : 0 ≤ i_hill_laws ∧ i_hill_laws ≤ 6) (b_i_hill_inForce : (-1) ≤ i_hill_inForce ∧ i_hill_inForce ≤ 5) (h_i_weights : zR i_weights 0 30) (h_i_tops : zR i_tops 0 7) (b_i_hill_columns_many : 0 ≤ i_hill_columns_many ∧ i_hill_columns_many ≤ 12) (h_i_hill_strengths : zR i_hill_strengths 0 60) (h_i_hill_expelled : zR i_hill_expelled 0 1) (h_i_hill_terms : zR i_hill_terms 0 99) (h_i_hill_orders : zR i_hill_orders (-2147483648) 2147483647) (h_i_hill_ordered : zR i_hill_ordered 0 424) : ∀ (n : Nat) (x1 : Int) (x2 : Int) (x3 : Int) (x4 : Int) (i_found : Int) (i_queued : Int) (i_slots : Nat → Int) (i_states : Nat → Int) (i_costs : Nat → Int) (i_before : Nat → Int) (i_by : Nat → Int) (i_queue : Nat → Int) (i_queuedAt : Nat → Int) (i_heights : Nat → Int) (i_carriers_judge_piled : Int) (i_carriers_judge_tiring : Int) (i_carriers_judge_barred : Int) (i_carriers_notes : Nat → Int) (i_carriers_judge_words : Nat → Int) (i_carriers_judge_pile : Nat → Int), (0 ≤ x1 ∧ x1 ≤ 6719) → (0 ≤ x2 ∧ x2 ≤ 2) → (0 ≤ x3 ∧ x3 ≤ 4) → (0 ≤ x4 ∧ x4 ≤ 4) → (0 ≤ i_found ∧ i_found ≤ 6720) → (0 ≤ i_queued ∧ i_queued ≤ 6720) → (zR i_slots 0 6720) → (zR i_states (-9223372036854775808) 9223372036854775807) → (zR i_before (-1) 6719) → (zR i_by 0 150) → (zR i_queue 0 6719) → (zR i_queuedAt 0 6719) → (zR i_heights 0 5) → (0 ≤ i_carriers_judge_piled ∧ i_carriers_judge_piled ≤ 32) → (0 ≤ i_carriers_judge_tiring ∧ i_carriers_judge_tiring ≤ 2147483647) → (0 ≤ i_carriers_judge_barred ∧ i_carriers_judge_barred ≤ 1) → (zR i_carriers_notes (-2147483648) 2147483647) → (zR i_carriers_judge_words 0 99) → (i_queued ≤ i_found) → (5 - x4) < (n : Int) → zok (f_Planner_goOn_18 i_hill_children i_hill_laws i_hill_inForce i_hill_changes i_weights i_tops i_hill_columns_many i_hill_strengths i_hill_expelled i_hill_terms i_hill_orders i_hill_ordered n x1 x2 x3 x4 i_found i_queued i_slots i_states i_costs i_before i_by i_queue i_queuedAt i_heights i_carriers_judge_piled i_carriers_judge_tiring i_carriers_judge_barred i_carriers_notes i_carriers_judge_words i_carriers_judge_pile) (fun o => (0 ≤ o.1 ∧ o.1 ≤ 6720) ∧ (0 ≤ o.2.1 ∧ o.2.1 ≤ 6720) ∧ (0 ≤ o.2.2.2.2.2.2.2.2.2.2.1 ∧ o.2.2.2.2.2.2.2.2.2.2.1 ≤ 32) ∧ (0 ≤ o.2.2.2.2.2.2.2.2.2.2.2.1 ∧ o.2.2.2.2.2.2.2.2.2.2.2.1 ≤ 2147483647) ∧ (0 ≤ o.2.2.2.2.2.2.2.2.2.2.2.2.1 ∧ o.2.2.2.2.2.2.2.2.2.2.2.2.1 ≤ 1) ∧ zR o.2.2.1 0 6720 ∧ zR o.2.2.2.1 (-9223372036854775808) 9223372036854775807 ∧ zR o.2.2.2.2.2.1 (-1) 6719 ∧ zR o.2.2.2.2.2.2.1 0 150 ∧ zR o.2.2.2.2.2.2.2.1 0 6719 ∧ zR o.2.2.2.2.2.2.2.2.1 0 6719 ∧ zR o.2.2.2.2.2.2.2.2.2.1 0 5 ∧ zR o.2.2.2.2.2.2.2.2.2.2.2.2.2.1 (-2147483648) 2147483647 ∧ zR o.2.2.2.2.2.2.2.2.2.2.2.2.2.2.1 0 99 ∧ (o.2.1 ≤ o.1)) := by
  intro n
  induction n with
  | zero => intro x1 x2 x3 x4 i_found i_queued i_slots i_states i_costs i_before i_by i_queue i_queuedAt i_heights i_carriers_judge_piled i_carriers_judge_tiring i_carriers_judge_barred i_carriers_notes i_carriers_judge_words i_carriers_judge_pile b_x1 b_x2 b_x3 b_x4 b_i_found b_i_queued h_i_slots h_i_states h_i_before h_i_by h_i_queue h_i_queuedAt h_i_heights b_i_carriers_judge_piled b_i_carriers_judge_tiring b_i_carriers_judge_barred h_i_carriers_notes h_i_carriers_judge_words p_0 hm; exfalso; omega
  | succ n ih =>
    intro x1 x2 x3 x4 i_found i_queued i_slots i_states i_costs i_before i_by i_queue i_queuedAt i_heights i_carriers_judge_piled i_carriers_judge_tiring i_carriers_judge_barred i_carriers_notes i_carriers_judge_words i_carriers_judge_pile b_x1 b_x2 b_x3 b_x4 b_i_found b_i_queued h_i_slots h_i_states h_i_before h_i_by h_i_queue h_i_queuedAt h_i_heights b_i_carriers_judge_piled b_i_carriers_judge_tiring b_i_carriers_judge_barred h_i_carriers_notes h_i_carriers_judge_words p_0 hm
    show zok (f_Planner_goOn_18_b i_hill_children i_hill_laws i_hill_inForce i_hill_changes i_weights i_tops i_hill_columns_many i_hill_strengths i_hill_expelled i_hill_terms i_hill_orders i_hill_ordered (f_Planner_goOn_18 i_hill_children i_hill_laws i_hill_inForce i_hill_changes i_weights i_tops i_hill_columns_many i_hill_strengths i_hill_expelled i_hill_terms i_hill_orders i_hill_ordered n) x1 x2 x3 x4 i_found i_queued i_slots i_states i_costs i_before i_by i_queue i_queuedAt i_heights i_carriers_judge_piled i_carriers_judge_tiring i_carriers_judge_barred i_carriers_notes i_carriers_judge_words i_carriers_judge_pile) _
    unfold f_Planner_goOn_18_b
    refine zk_ifc (zci_le (by omega) (by omega)) (fun hc => ?_) (fun hc => ?_)
    · refine zk_ret ?_
      try dsimp only
      exact ⟨by omega, by omega, by omega, by omega, by omega, h_i_slots, h_i_states, h_i_before, h_i_by, h_i_queue, h_i_queuedAt, h_i_heights, h_i_carriers_notes, h_i_carriers_judge_words, by omega⟩
    · refine zk_gv (by omega) (by decide) (fun v1 h_v1 => ?_)
      have r_v1 := h_i_tops (x4.toNat)
      refine zk_ifc (zci_lt (by omega) (by omega)) (fun hc_2 => ?_) (fun hc_2 => ?_)
      · unfold f_Planner_goOn_50
        exact s_Planner_goOn_55 _ _ _ _ _ _ _ _ _ _ _ _ _ n ih (by omega) (by omega) (by omega) h_i_weights h_i_tops (by omega) h_i_hill_strengths h_i_hill_expelled h_i_hill_terms h_i_hill_orders h_i_hill_ordered zfu _ _ _ _ _ _ _ _ _ _ _ _ _ _ _ _ _ _ _ _ _ _ (by omega) (by omega) (by omega) (by omega) (by omega) (by omega) (by omega) (by omega) h_i_slots h_i_states h_i_before h_i_by h_i_queue h_i_queuedAt h_i_heights (by omega) (by omega) (by omega) h_i_carriers_notes h_i_carriers_judge_words (by omega) (by omega) (by unfold zfu; omega)
      · refine zk_gv (by omega) (by decide) (fun v2 h_v2 => ?_)
        have r_v2 := h_i_weights (v1.toNat)
        unfold f_Planner_goOn_50
        exact s_Planner_goOn_55 _ _ _ _ _ _ _ _ _ _ _ _ _ n ih (by omega) (by omega) (by omega) h_i_weights h_i_tops (by omega) h_i_hill_strengths h_i_hill_expelled h_i_hill_terms h_i_hill_orders h_i_hill_ordered zfu _ _ _ _ _ _ _ _ _ _ _ _ _ _ _ _ _ _ _ _ _ _ (by omega) (by omega) (by omega) (by omega) (by omega) (by omega) (by omega) (by omega) h_i_slots h_i_states h_i_before h_i_by h_i_queue h_i_queuedAt h_i_heights (by omega) (by omega) (by omega) h_i_carriers_notes h_i_carriers_judge_words (by omega) (by omega) (by unfold zfu; omega)
end
section
set_option maxHeartbeats 4000000 in
theorem s_Planner_goOn (x1 : Int) (x2 : Int) (i_hill_children : Int) (i_hill_laws : Int) (i_hill_inForce : Int) (i_hill_changes : Int) (i_weights : Nat → Int) (i_tops : Nat → Int) (i_hill_columns_many : Int) (i_hill_strengths : Nat → Int) (i_hill_expelled : Nat → Int) (i_hill_terms : Nat → Int) (i_hill_orders : Nat → Int) (i_hill_ordered : Nat → Int) (i_found : Int) (i_queued : Int) (i_slots : Nat → Int) (i_states : Nat → Int) (i_costs : Nat → Int) (i_before : Nat → Int) (i_by : Nat → Int) (i_queue : Nat → Int) (i_queuedAt : Nat → Int) (i_heights : Nat → Int) (i_carriers_judge_piled : Int) (i_carriers_judge_tiring : Int) (i_carriers_judge_barred : Int) (i_carriers_notes : Nat → Int) (i_carriers_judge_words : Nat → Int) (i_carriers_judge_pile : Nat → Int) (b_x1 : 0 ≤ x1 ∧ x1 ≤ 6719) (b_x2 : 0 ≤ x2 ∧ x2 ≤ 2) (b_i_hill_children : 0 ≤ i_hill_children ∧ i_hill_children ≤ 6) (b_i_hill_laws : 0 ≤ i_hill_laws ∧ i_hill_laws ≤ 6) (b_i_hill_inForce : (-1) ≤ i_hill_inForce ∧ i_hill_inForce ≤ 5) (h_i_weights : zR i_weights 0 30) (h_i_tops : zR i_tops 0 7) (b_i_hill_columns_many : 0 ≤ i_hill_columns_many ∧ i_hill_columns_many ≤ 12) (h_i_hill_strengths : zR i_hill_strengths 0 60) (h_i_hill_expelled : zR i_hill_expelled 0 1) (h_i_hill_terms : zR i_hill_terms 0 99) (h_i_hill_orders : zR i_hill_orders (-2147483648) 2147483647) (h_i_hill_ordered : zR i_hill_ordered 0 424) (b_i_found : 0 ≤ i_found ∧ i_found ≤ 6720) (b_i_queued : 0 ≤ i_queued ∧ i_queued ≤ 6719) (h_i_slots : zR i_slots 0 6720) (h_i_states : zR i_states (-9223372036854775808) 9223372036854775807) (h_i_before : zR i_before (-1) 6719) (h_i_by : zR i_by 0 150) (h_i_queue : zR i_queue 0 6719) (h_i_queuedAt : zR i_queuedAt 0 6719) (h_i_heights : zR i_heights 0 5) (b_i_carriers_judge_piled : 0 ≤ i_carriers_judge_piled ∧ i_carriers_judge_piled ≤ 32) (b_i_carriers_judge_tiring : 0 ≤ i_carriers_judge_tiring ∧ i_carriers_judge_tiring ≤ 2147483647) (b_i_carriers_judge_barred : 0 ≤ i_carriers_judge_barred ∧ i_carriers_judge_barred ≤ 1) (h_i_carriers_notes : zR i_carriers_notes (-2147483648) 2147483647) (h_i_carriers_judge_words : zR i_carriers_judge_words 0 99) (p_0 : i_queued ≤ i_found) : zok (f_Planner_goOn x1 x2 i_hill_children i_hill_laws i_hill_inForce i_hill_changes i_weights i_tops i_hill_columns_many i_hill_strengths i_hill_expelled i_hill_terms i_hill_orders i_hill_ordered i_found i_queued i_slots i_states i_costs i_before i_by i_queue i_queuedAt i_heights i_carriers_judge_piled i_carriers_judge_tiring i_carriers_judge_barred i_carriers_notes i_carriers_judge_words i_carriers_judge_pile) (fun o => (0 ≤ o.1 ∧ o.1 ≤ 6720) ∧ (0 ≤ o.2.1 ∧ o.2.1 ≤ 6720) ∧ (0 ≤ o.2.2.2.2.2.2.2.2.2.2.1 ∧ o.2.2.2.2.2.2.2.2.2.2.1 ≤ 32) ∧ (0 ≤ o.2.2.2.2.2.2.2.2.2.2.2.1 ∧ o.2.2.2.2.2.2.2.2.2.2.2.1 ≤ 2147483647) ∧ (0 ≤ o.2.2.2.2.2.2.2.2.2.2.2.2.1 ∧ o.2.2.2.2.2.2.2.2.2.2.2.2.1 ≤ 1) ∧ zR o.2.2.1 0 6720 ∧ zR o.2.2.2.1 (-9223372036854775808) 9223372036854775807 ∧ zR o.2.2.2.2.2.1 (-1) 6719 ∧ zR o.2.2.2.2.2.2.1 0 150 ∧ zR o.2.2.2.2.2.2.2.1 0 6719 ∧ zR o.2.2.2.2.2.2.2.2.1 0 6719 ∧ zR o.2.2.2.2.2.2.2.2.2.1 0 5 ∧ zR o.2.2.2.2.2.2.2.2.2.2.2.2.2.1 (-2147483648) 2147483647 ∧ zR o.2.2.2.2.2.2.2.2.2.2.2.2.2.2.1 0 99 ∧ (o.2.1 ≤ o.1)) := by
  unfold f_Planner_goOn
  refine zk_nE (fun v1 h_v1 => ?_)
  have r_v1 := zi_min_f (4) (by omega) (i_hill_columns_many) (by omega); rw [← h_v1] at r_v1
  exact s_Planner_goOn_18 _ _ _ _ _ _ _ _ _ _ _ _ (by omega) (by omega) (by omega) h_i_weights h_i_tops (by omega) h_i_hill_strengths h_i_hill_expelled h_i_hill_terms h_i_hill_orders h_i_hill_ordered zfu _ _ _ _ _ _ _ _ _ _ _ _ _ _ _ _ _ _ _ _ (by omega) (by omega) (by omega) (by omega) (by omega) (by omega) h_i_slots h_i_states h_i_before h_i_by h_i_queue h_i_queuedAt h_i_heights (by omega) (by omega) (by omega) h_i_carriers_notes h_i_carriers_judge_words (by omega) (by unfold zfu; omega)
set_option maxHeartbeats 4000000 in
theorem s_Planner_search_33 (i_hill_children : Int) (i_hill_laws : Int) (i_hill_inForce : Int) (i_hill_changes : Int) (i_hill_columns_many : Int) (i_hill_strengths : Nat → Int) (i_hill_expelled : Nat → Int) (i_hill_terms : Nat → Int) (i_hill_goals : Nat → Int) (i_hill_orders : Nat → Int) (i_hill_ordered : Nat → Int) (i_hill_columns_heights : Nat → Int) (i_hill_columns_weights : Nat → Int) (b_i_hill_children : 0 ≤ i_hill_children ∧ i_hill_children ≤ 6) (b_i_hill_laws : 0 ≤ i_hill_laws ∧ i_hill_laws ≤ 6) (b_i_hill_inForce : (-1) ≤ i_hill_inForce ∧ i_hill_inForce ≤ 5) (b_i_hill_columns_many : 0 ≤ i_hill_columns_many ∧ i_hill_columns_many ≤ 12) (h_i_hill_strengths : zR i_hill_strengths 0 60) (h_i_hill_expelled : zR i_hill_expelled 0 1) (h_i_hill_terms : zR i_hill_terms 0 99) (h_i_hill_goals : zR i_hill_goals (-1) 10) (h_i_hill_orders : zR i_hill_orders (-2147483648) 2147483647) (h_i_hill_ordered : zR i_hill_ordered 0 424) (h_i_hill_columns_heights : zR i_hill_columns_heights 0 10) (h_i_hill_columns_weights : zR i_hill_columns_weights 0 30) : ∀ (n : Nat) (x1 : Int) (x2 : Int) (x3 : Int) (i_kinds : Int) (i_found : Int) (i_queued : Int) (i_slots : Nat → Int) (i_states : Nat → Int) (i_costs : Nat → Int) (i_before : Nat → Int) (i_by : Nat → Int) (i_queue : Nat → Int) (i_queuedAt : Nat → Int) (i_weights : Nat → Int) (i_heights : Nat → Int) (i_tops : Nat → Int) (i_carriers_judge_piled : Int) (i_carriers_judge_tiring : Int) (i_carriers_judge_barred : Int) (i_carriers_notes : Nat → Int) (i_carriers_judge_words : Nat → Int) (i_carriers_judge_pile : Nat → Int), (0 ≤ x1 ∧ x1 ≤ 2) → ((-1) ≤ x2 ∧ x2 ≤ 6719) → (0 ≤ x3 ∧ x3 ≤ 6720) → (0 ≤ i_kinds ∧ i_kinds ≤ 5) → (0 ≤ i_found ∧ i_found ≤ 6720) → (0 ≤ i_queued ∧ i_queued ≤ 6720) → (zR i_slots 0 6720) → (zR i_states (-9223372036854775808) 9223372036854775807) → (zR i_before (-1) 6719) → (zR i_by 0 150) → (zR i_queue 0 6719) → (zR i_queuedAt 0 6719) → (zR i_weights 0 30) → (zR i_heights 0 5) → (zR i_tops 0 7) → (0 ≤ i_carriers_judge_piled ∧ i_carriers_judge_piled ≤ 32) → (0 ≤ i_carriers_judge_tiring ∧ i_carriers_judge_tiring ≤ 2147483647) → (0 ≤ i_carriers_judge_barred ∧ i_carriers_judge_barred ≤ 1) → (zR i_carriers_notes (-2147483648) 2147483647) → (zR i_carriers_judge_words 0 99) → (i_queued ≤ i_found) → (6721 - x3) < (n : Int) → zok (f_Planner_search_33 i_hill_children i_hill_laws i_hill_inForce i_hill_changes i_hill_columns_many i_hill_strengths i_hill_expelled i_hill_terms i_hill_goals i_hill_orders i_hill_ordered i_hill_columns_heights i_hill_columns_weights n x1 x2 x3 i_kinds i_found i_queued i_slots i_states i_costs i_before i_by i_queue i_queuedAt i_weights i_heights i_tops i_carriers_judge_piled i_carriers_judge_tiring i_carriers_judge_barred i_carriers_notes i_carriers_judge_words i_carriers_judge_pile) (fun o => ((-1) ≤ o.1 ∧ o.1 ≤ 6719) ∧ (0 ≤ o.2.1 ∧ o.2.1 ≤ 5) ∧ (0 ≤ o.2.2.1 ∧ o.2.2.1 ≤ 6720) ∧ (0 ≤ o.2.2.2.1 ∧ o.2.2.2.1 ≤ 6720) ∧ (0 ≤ o.2.2.2.2.2.2.2.2.2.2.2.2.2.2.1 ∧ o.2.2.2.2.2.2.2.2.2.2.2.2.2.2.1 ≤ 32) ∧ (0 ≤ o.2.2.2.2.2.2.2.2.2.2.2.2.2.2.2.1 ∧ o.2.2.2.2.2.2.2.2.2.2.2.2.2.2.2.1 ≤ 2147483647) ∧ (0 ≤ o.2.2.2.2.2.2.2.2.2.2.2.2.2.2.2.2.1 ∧ o.2.2.2.2.2.2.2.2.2.2.2.2.2.2.2.2.1 ≤ 1) ∧ zR o.2.2.2.2.1 0 6720 ∧ zR o.2.2.2.2.2.1 (-9223372036854775808) 9223372036854775807 ∧ zR o.2.2.2.2.2.2.2.1 (-1) 6719 ∧ zR o.2.2.2.2.2.2.2.2.1 0 150 ∧ zR o.2.2.2.2.2.2.2.2.2.1 0 6719 ∧ zR o.2.2.2.2.2.2.2.2.2.2.1 0 6719 ∧ zR o.2.2.2.2.2.2.2.2.2.2.2.1 0 30 ∧ zR o.2.2.2.2.2.2.2.2.2.2.2.2.1 0 5 ∧ zR o.2.2.2.2.2.2.2.2.2.2.2.2.2.1 0 7 ∧ zR o.2.2.2.2.2.2.2.2.2.2.2.2.2.2.2.2.2.1 (-2147483648) 2147483647 ∧ zR o.2.2.2.2.2.2.2.2.2.2.2.2.2.2.2.2.2.2.1 0 99) := by
  intro n
  induction n with
  | zero => intro x1 x2 x3 i_kinds i_found i_queued i_slots i_states i_costs i_before i_by i_queue i_queuedAt i_weights i_heights i_tops i_carriers_judge_piled i_carriers_judge_tiring i_carriers_judge_barred i_carriers_notes i_carriers_judge_words i_carriers_judge_pile b_x1 b_x2 b_x3 b_i_kinds b_i_found b_i_queued h_i_slots h_i_states h_i_before h_i_by h_i_queue h_i_queuedAt h_i_weights h_i_heights h_i_tops b_i_carriers_judge_piled b_i_carriers_judge_tiring b_i_carriers_judge_barred h_i_carriers_notes h_i_carriers_judge_words p_0 hm; exfalso; omega
  | succ n ih =>
    intro x1 x2 x3 i_kinds i_found i_queued i_slots i_states i_costs i_before i_by i_queue i_queuedAt i_weights i_heights i_tops i_carriers_judge_piled i_carriers_judge_tiring i_carriers_judge_barred i_carriers_notes i_carriers_judge_words i_carriers_judge_pile b_x1 b_x2 b_x3 b_i_kinds b_i_found b_i_queued h_i_slots h_i_states h_i_before h_i_by h_i_queue h_i_queuedAt h_i_weights h_i_heights h_i_tops b_i_carriers_judge_piled b_i_carriers_judge_tiring b_i_carriers_judge_barred h_i_carriers_notes h_i_carriers_judge_words p_0 hm
    show zok (f_Planner_search_33_b i_hill_children i_hill_laws i_hill_inForce i_hill_changes i_hill_columns_many i_hill_strengths i_hill_expelled i_hill_terms i_hill_goals i_hill_orders i_hill_ordered i_hill_columns_heights i_hill_columns_weights (f_Planner_search_33 i_hill_children i_hill_laws i_hill_inForce i_hill_changes i_hill_columns_many i_hill_strengths i_hill_expelled i_hill_terms i_hill_goals i_hill_orders i_hill_ordered i_hill_columns_heights i_hill_columns_weights n) x1 x2 x3 i_kinds i_found i_queued i_slots i_states i_costs i_before i_by i_queue i_queuedAt i_weights i_heights i_tops i_carriers_judge_piled i_carriers_judge_tiring i_carriers_judge_barred i_carriers_notes i_carriers_judge_words i_carriers_judge_pile) _
    unfold f_Planner_search_33_b
    refine zk_ifc (zci_le (by omega) (by omega)) (fun hc => ?_) (fun hc => ?_)
    · refine zk_ret ?_
      try dsimp only
      exact ⟨by omega, by omega, by omega, by omega, by omega, by omega, by omega, h_i_slots, h_i_states, h_i_before, h_i_by, h_i_queue, h_i_queuedAt, h_i_weights, h_i_heights, h_i_tops, h_i_carriers_notes, h_i_carriers_judge_words⟩
    · refine zk_ifc (zci_ler (by omega)) (fun hc_2 => ?_) (fun hc_2 => ?_)
      · refine zk_ret ?_
        try dsimp only
        exact ⟨by omega, by omega, by omega, by omega, by omega, by omega, by omega, h_i_slots, h_i_states, h_i_before, h_i_by, h_i_queue, h_i_queuedAt, h_i_weights, h_i_heights, h_i_tops, h_i_carriers_notes, h_i_carriers_judge_words⟩
      · refine zk_d4 (s_Planner_leave _ _ _ _ (by omega) h_i_queue h_i_queuedAt) (fun v1 v2 a3 a4 hp => ?_)
        try dsimp only at hp
        obtain ⟨hpp0, hpp1, hpp2, hpp3, hpp4⟩ := hp
        refine zk_ifc (zci_eq (by omega) (by omega)) (fun hc_3 => ?_) (fun hc_3 => ?_)
        · unfold f_Planner_search_77
          refine zk_gv (by omega) (by decide) (fun v1_2 h_v1_2 => ?_)
          have r_v1_2 := h_i_states (v1.toNat)
          refine zk_d2 (s_Planner_look _ _ _ (by omega) h_i_heights h_i_tops) (fun a2 a3_2 hp_2 => ?_)
          try dsimp only at hp_2
          obtain ⟨hp_2p0, hp_2p1⟩ := hp_2
          refine zk_d1 (s_Planner_goalsAreSo _ _ _ hp_2p0 (by omega) h_i_hill_goals) (fun v4 hp_3 => ?_)
          try dsimp only at hp_3
          have hp_3p0 := hp_3
          refine zk_ifc (zci_eqr (by omega)) (fun hc_4 => ?_) (fun hc_4 => ?_)
          · refine zk_ifc (zci_ne (by omega) (by omega)) (fun hc_5 => ?_) (fun hc_5 => ?_)
            · exfalso; omega
            · refine zk_d16 (s_Planner_goOn _ _ _ _ _ _ _ _ _ _ _ _ _ _ _ _ _ _ _ _ _ _ _ _ _ _ _ _ _ _ (by omega) (by omega) (by omega) (by omega) (by omega) h_i_weights hp_2p1 (by omega) h_i_hill_strengths h_i_hill_expelled h_i_hill_terms h_i_hill_orders h_i_hill_ordered (by omega) (by omega) h_i_slots h_i_states h_i_before h_i_by hpp2 hpp3 hp_2p0 (by omega) (by omega) (by omega) h_i_carriers_notes h_i_carriers_judge_words (by omega)) (fun v5 v6 a7 a8 a9 a10 a11 a12 a13 a14 v15 v16 v17 a18 a19 a20 hp_4 => ?_)
              try dsimp only at hp_4
              obtain ⟨hp_4p0, hp_4p1, hp_4p2, hp_4p3, hp_4p4, hp_4p5, hp_4p6, hp_4p7, hp_4p8, hp_4p9, hp_4p10, hp_4p11, hp_4p12, hp_4p13, hp_4p14⟩ := hp_4
              unfold f_Planner_search_140
              refine zk_n ?_
              exact ih _ _ _ _ _ _ _ _ _ _ _ _ _ _ _ _ _ _ _ _ _ _ (by omega) (by omega) (by omega) (by omega) (by omega) (by omega) hp_4p5 hp_4p6 hp_4p7 hp_4p8 hp_4p9 hp_4p10 h_i_weights hp_4p11 hp_2p1 (by omega) (by omega) (by omega) hp_4p12 hp_4p13 (by omega) (by omega)
          · refine zk_ifc (zci_eq (by omega) (by omega)) (fun hc_6 => ?_) (fun hc_6 => ?_)
            · unfold f_Planner_search_122
              unfold f_Planner_search_140
              refine zk_n ?_
              exact ih _ _ _ _ _ _ _ _ _ _ _ _ _ _ _ _ _ _ _ _ _ _ (by omega) (by omega) (by omega) (by omega) (by omega) (by omega) h_i_slots h_i_states h_i_before h_i_by hpp2 hpp3 h_i_weights hp_2p0 hp_2p1 (by omega) (by omega) (by omega) h_i_carriers_notes h_i_carriers_judge_words (by omega) (by omega)
            · exfalso; omega
        · refine zk_gv (by omega) (by decide) (fun v5_2 h_v5_2 => ?_)
          refine zk_gv (by omega) (by decide) (fun v6_2 h_v6_2 => ?_)
          refine zk_if (fun hc_7 => ?_) (fun hc_7 => ?_)
          · unfold f_Planner_search_77
            refine zk_gv (by omega) (by decide) (fun v1_5 h_v1_5 => ?_)
            have r_v1_5 := h_i_states (v1.toNat)
            refine zk_d2 (s_Planner_look _ _ _ (by omega) h_i_heights h_i_tops) (fun a2_2 a3_3 hp_5 => ?_)
            try dsimp only at hp_5
            obtain ⟨hp_5p0, hp_5p1⟩ := hp_5
            refine zk_d1 (s_Planner_goalsAreSo _ _ _ hp_5p0 (by omega) h_i_hill_goals) (fun v4_2 hp_6 => ?_)
            try dsimp only at hp_6
            have hp_6p0 := hp_6
            refine zk_ifc (zci_eqr (by omega)) (fun hc_8 => ?_) (fun hc_8 => ?_)
            · refine zk_ifc (zci_ne (by omega) (by omega)) (fun hc_9 => ?_) (fun hc_9 => ?_)
              · unfold f_Planner_search_140
                refine zk_n ?_
                exact ih _ _ _ _ _ _ _ _ _ _ _ _ _ _ _ _ _ _ _ _ _ _ (by omega) (by omega) (by omega) (by omega) (by omega) (by omega) h_i_slots h_i_states h_i_before h_i_by hpp2 hpp3 h_i_weights hp_5p0 hp_5p1 (by omega) (by omega) (by omega) h_i_carriers_notes h_i_carriers_judge_words (by omega) (by omega)
              · exfalso; omega
            · refine zk_ifc (zci_eq (by omega) (by omega)) (fun hc_10 => ?_) (fun hc_10 => ?_)
              · exfalso; omega
              · refine zk_gv (by omega) (by decide) (fun v21 h_v21 => ?_)
                have r_v21 := h_i_before (v1.toNat)
                refine zk_gv (by omega) (by decide) (fun v22 h_v22 => ?_)
                have r_v22 := h_i_by (v1.toNat)
                refine zk_d1 (s_Planner_isEarlier _ _ _ _ _ (by omega) (by omega) (by omega) h_i_before h_i_by) (fun v23 hp_7 => ?_)
                try dsimp only at hp_7
                have hp_7p0 := hp_7
                refine zk_ifc (zci_eqr (by omega)) (fun hc_11 => ?_) (fun hc_11 => ?_)
                · unfold f_Planner_search_140
                  refine zk_n ?_
                  exact ih _ _ _ _ _ _ _ _ _ _ _ _ _ _ _ _ _ _ _ _ _ _ (by omega) (by omega) (by omega) (by omega) (by omega) (by omega) h_i_slots h_i_states h_i_before h_i_by hpp2 hpp3 h_i_weights hp_5p0 hp_5p1 (by omega) (by omega) (by omega) h_i_carriers_notes h_i_carriers_judge_words (by omega) (by omega)
                · unfold f_Planner_search_122
                  unfold f_Planner_search_140
                  refine zk_n ?_
                  exact ih _ _ _ _ _ _ _ _ _ _ _ _ _ _ _ _ _ _ _ _ _ _ (by omega) (by omega) (by omega) (by omega) (by omega) (by omega) h_i_slots h_i_states h_i_before h_i_by hpp2 hpp3 h_i_weights hp_5p0 hp_5p1 (by omega) (by omega) (by omega) h_i_carriers_notes h_i_carriers_judge_words (by omega) (by omega)
          · refine zk_ret ?_
            try dsimp only
            exact ⟨by omega, by omega, by omega, by omega, by omega, by omega, by omega, h_i_slots, h_i_states, h_i_before, h_i_by, hpp2, hpp3, h_i_weights, h_i_heights, h_i_tops, h_i_carriers_notes, h_i_carriers_judge_words⟩
set_option maxHeartbeats 4000000 in
theorem s_Planner_search (x1 : Int) (i_hill_children : Int) (i_hill_laws : Int) (i_hill_inForce : Int) (i_hill_changes : Int) (i_hill_columns_many : Int) (i_hill_strengths : Nat → Int) (i_hill_expelled : Nat → Int) (i_hill_terms : Nat → Int) (i_hill_goals : Nat → Int) (i_hill_orders : Nat → Int) (i_hill_ordered : Nat → Int) (i_hill_columns_heights : Nat → Int) (i_hill_columns_weights : Nat → Int) (i_kinds : Int) (i_found : Int) (i_queued : Int) (i_slots : Nat → Int) (i_states : Nat → Int) (i_costs : Nat → Int) (i_before : Nat → Int) (i_by : Nat → Int) (i_queue : Nat → Int) (i_queuedAt : Nat → Int) (i_weights : Nat → Int) (i_heights : Nat → Int) (i_tops : Nat → Int) (i_carriers_judge_piled : Int) (i_carriers_judge_tiring : Int) (i_carriers_judge_barred : Int) (i_carriers_notes : Nat → Int) (i_carriers_judge_words : Nat → Int) (i_carriers_judge_pile : Nat → Int) (b_x1 : 0 ≤ x1 ∧ x1 ≤ 2) (b_i_hill_children : 0 ≤ i_hill_children ∧ i_hill_children ≤ 6) (b_i_hill_laws : 0 ≤ i_hill_laws ∧ i_hill_laws ≤ 6) (b_i_hill_inForce : (-1) ≤ i_hill_inForce ∧ i_hill_inForce ≤ 5) (b_i_hill_columns_many : 0 ≤ i_hill_columns_many ∧ i_hill_columns_many ≤ 12) (h_i_hill_strengths : zR i_hill_strengths 0 60) (h_i_hill_expelled : zR i_hill_expelled 0 1) (h_i_hill_terms : zR i_hill_terms 0 99) (h_i_hill_goals : zR i_hill_goals (-1) 10) (h_i_hill_orders : zR i_hill_orders (-2147483648) 2147483647) (h_i_hill_ordered : zR i_hill_ordered 0 424) (h_i_hill_columns_heights : zR i_hill_columns_heights 0 10) (h_i_hill_columns_weights : zR i_hill_columns_weights 0 30) (b_i_kinds : 0 ≤ i_kinds ∧ i_kinds ≤ 5) (b_i_found : 0 ≤ i_found ∧ i_found ≤ 6720) (b_i_queued : 0 ≤ i_queued ∧ i_queued ≤ 6720) (h_i_slots : zR i_slots 0 6720) (h_i_states : zR i_states (-9223372036854775808) 9223372036854775807) (h_i_before : zR i_before (-1) 6719) (h_i_by : zR i_by 0 150) (h_i_queue : zR i_queue 0 6719) (h_i_queuedAt : zR i_queuedAt 0 6719) (h_i_weights : zR i_weights 0 30) (h_i_heights : zR i_heights 0 5) (h_i_tops : zR i_tops 0 7) (b_i_carriers_judge_piled : 0 ≤ i_carriers_judge_piled ∧ i_carriers_judge_piled ≤ 32) (b_i_carriers_judge_tiring : 0 ≤ i_carriers_judge_tiring ∧ i_carriers_judge_tiring ≤ 2147483647) (b_i_carriers_judge_barred : 0 ≤ i_carriers_judge_barred ∧ i_carriers_judge_barred ≤ 1) (h_i_carriers_notes : zR i_carriers_notes (-2147483648) 2147483647) (h_i_carriers_judge_words : zR i_carriers_judge_words 0 99) : zok (f_Planner_search x1 i_hill_children i_hill_laws i_hill_inForce i_hill_changes i_hill_columns_many i_hill_strengths i_hill_expelled i_hill_terms i_hill_goals i_hill_orders i_hill_ordered i_hill_columns_heights i_hill_columns_weights i_kinds i_found i_queued i_slots i_states i_costs i_before i_by i_queue i_queuedAt i_weights i_heights i_tops i_carriers_judge_piled i_carriers_judge_tiring i_carriers_judge_barred i_carriers_notes i_carriers_judge_words i_carriers_judge_pile) (fun o => ((-1) ≤ o.1 ∧ o.1 ≤ 6719) ∧ (0 ≤ o.2.1 ∧ o.2.1 ≤ 5) ∧ (0 ≤ o.2.2.1 ∧ o.2.2.1 ≤ 6720) ∧ (0 ≤ o.2.2.2.1 ∧ o.2.2.2.1 ≤ 6720) ∧ (0 ≤ o.2.2.2.2.2.2.2.2.2.2.2.2.2.2.1 ∧ o.2.2.2.2.2.2.2.2.2.2.2.2.2.2.1 ≤ 32) ∧ (0 ≤ o.2.2.2.2.2.2.2.2.2.2.2.2.2.2.2.1 ∧ o.2.2.2.2.2.2.2.2.2.2.2.2.2.2.2.1 ≤ 2147483647) ∧ (0 ≤ o.2.2.2.2.2.2.2.2.2.2.2.2.2.2.2.2.1 ∧ o.2.2.2.2.2.2.2.2.2.2.2.2.2.2.2.2.1 ≤ 1) ∧ zR o.2.2.2.2.1 0 6720 ∧ zR o.2.2.2.2.2.1 (-9223372036854775808) 9223372036854775807 ∧ zR o.2.2.2.2.2.2.2.1 (-1) 6719 ∧ zR o.2.2.2.2.2.2.2.2.1 0 150 ∧ zR o.2.2.2.2.2.2.2.2.2.1 0 6719 ∧ zR o.2.2.2.2.2.2.2.2.2.2.1 0 6719 ∧ zR o.2.2.2.2.2.2.2.2.2.2.2.1 0 30 ∧ zR o.2.2.2.2.2.2.2.2.2.2.2.2.1 0 5 ∧ zR o.2.2.2.2.2.2.2.2.2.2.2.2.2.1 0 7 ∧ zR o.2.2.2.2.2.2.2.2.2.2.2.2.2.2.2.2.2.1 (-2147483648) 2147483647 ∧ zR o.2.2.2.2.2.2.2.2.2.2.2.2.2.2.2.2.2.2.1 0 99) := by
  unfold f_Planner_search
  refine zk_d1 (s_Arrays_fill_n16384 _ _ (by omega) h_i_slots) (fun a1 hp => ?_)
  try dsimp only at hp
  have hpp0 := hp
  refine zk_d3 (s_Planner_firstState _ _ _ _ _ (by omega) h_i_hill_columns_heights h_i_hill_columns_weights (by omega) h_i_weights) (fun v2 v3 a4 hp_2 => ?_)
  try dsimp only at hp_2
  obtain ⟨hp_2p0, hp_2p1, hp_2p2⟩ := hp_2
  refine zk_d9 (s_Planner_come _ _ _ _ _ _ _ _ _ _ _ _ _ (by omega) (by omega) (by omega) (by omega) (by omega) hpp0 h_i_states h_i_before h_i_by h_i_queue h_i_queuedAt (by omega)) (fun v5 v6 a7 a8 a9 a10 a11 a12 a13 hp_3 => ?_)
  try dsimp only at hp_3
  obtain ⟨hp_3p0, hp_3p1, hp_3p2, hp_3p3, hp_3p4, hp_3p5, hp_3p6, hp_3p7, hp_3p8⟩ := hp_3
  exact s_Planner_search_33 _ _ _ _ _ _ _ _ _ _ _ _ _ (by omega) (by omega) (by omega) (by omega) h_i_hill_strengths h_i_hill_expelled h_i_hill_terms h_i_hill_goals h_i_hill_orders h_i_hill_ordered h_i_hill_columns_heights h_i_hill_columns_weights zfu _ _ _ _ _ _ _ _ _ _ _ _ _ _ _ _ _ _ _ _ _ _ (by omega) (by omega) (by omega) (by omega) (by omega) (by omega) hp_3p2 hp_3p3 hp_3p4 hp_3p5 hp_3p6 hp_3p7 hp_2p2 h_i_heights h_i_tops (by omega) (by omega) (by omega) h_i_carriers_notes h_i_carriers_judge_words (by omega) (by unfold zfu; omega)
set_option maxHeartbeats 4000000 in
theorem s_Planner_isSmall (i_hill_columns_many : Int) (i_hill_columns_heights : Nat → Int) (b_i_hill_columns_many : 0 ≤ i_hill_columns_many ∧ i_hill_columns_many ≤ 12) (h_i_hill_columns_heights : zR i_hill_columns_heights 0 10) : zok (f_Planner_isSmall i_hill_columns_many i_hill_columns_heights) (fun o => (0 ≤ o ∧ o ≤ 1)) := by
  unfold f_Planner_isSmall
  refine zk_ifc (zci_lt (by omega) (by omega)) (fun hc => ?_) (fun hc => ?_)
  · exact zk_ret (by omega)
  · refine zk_d1 (s_Columns_stones _ _ (by omega) h_i_hill_columns_heights) (fun v1 hp => ?_)
    refine zk_if (fun hc_2 => ?_) (fun hc_2 => ?_)
    · exact zk_ret (by omega)
    · exact zk_ret (by omega)
set_option maxHeartbeats 4000000 in
theorem s_Planner_planned (x1 : Int) (i_hill_children : Int) (i_hill_laws : Int) (i_hill_inForce : Int) (i_hill_changes : Int) (i_hill_columns_many : Int) (i_hill_strengths : Nat → Int) (i_hill_expelled : Nat → Int) (i_hill_terms : Nat → Int) (i_hill_goals : Nat → Int) (i_hill_orders : Nat → Int) (i_hill_ordered : Nat → Int) (i_hill_columns_heights : Nat → Int) (i_hill_columns_weights : Nat → Int) (i_kinds : Int) (i_found : Int) (i_queued : Int) (i_slots : Nat → Int) (i_states : Nat → Int) (i_costs : Nat → Int) (i_before : Nat → Int) (i_by : Nat → Int) (i_queue : Nat → Int) (i_queuedAt : Nat → Int) (i_weights : Nat → Int) (i_heights : Nat → Int) (i_tops : Nat → Int) (i_carriers_judge_piled : Int) (i_carriers_judge_tiring : Int) (i_carriers_judge_barred : Int) (i_carriers_notes : Nat → Int) (i_plans_0_version : Int) (i_plans_0_length : Int) (i_plans_0_tiring : Int) (i_plans_1_version : Int) (i_plans_1_length : Int) (i_plans_1_tiring : Int) (i_plans_2_version : Int) (i_plans_2_length : Int) (i_plans_2_tiring : Int) (i_carriers_judge_words : Nat → Int) (i_carriers_judge_pile : Nat → Int) (i_plans_0_row : Nat → Int) (i_plans_1_row : Nat → Int) (i_plans_2_row : Nat → Int) (b_x1 : 0 ≤ x1 ∧ x1 ≤ 2) (b_i_hill_children : 0 ≤ i_hill_children ∧ i_hill_children ≤ 6) (b_i_hill_laws : 0 ≤ i_hill_laws ∧ i_hill_laws ≤ 6) (b_i_hill_inForce : (-1) ≤ i_hill_inForce ∧ i_hill_inForce ≤ 5) (b_i_hill_columns_many : 0 ≤ i_hill_columns_many ∧ i_hill_columns_many ≤ 12) (h_i_hill_strengths : zR i_hill_strengths 0 60) (h_i_hill_expelled : zR i_hill_expelled 0 1) (h_i_hill_terms : zR i_hill_terms 0 99) (h_i_hill_goals : zR i_hill_goals (-1) 10) (h_i_hill_orders : zR i_hill_orders (-2147483648) 2147483647) (h_i_hill_ordered : zR i_hill_ordered 0 424) (h_i_hill_columns_heights : zR i_hill_columns_heights 0 10) (h_i_hill_columns_weights : zR i_hill_columns_weights 0 30) (b_i_kinds : 0 ≤ i_kinds ∧ i_kinds ≤ 5) (b_i_found : 0 ≤ i_found ∧ i_found ≤ 6720) (b_i_queued : 0 ≤ i_queued ∧ i_queued ≤ 6720) (h_i_slots : zR i_slots 0 6720) (h_i_states : zR i_states (-9223372036854775808) 9223372036854775807) (h_i_before : zR i_before (-1) 6719) (h_i_by : zR i_by 0 150) (h_i_queue : zR i_queue 0 6719) (h_i_queuedAt : zR i_queuedAt 0 6719) (h_i_weights : zR i_weights 0 30) (h_i_heights : zR i_heights 0 5) (h_i_tops : zR i_tops 0 7) (b_i_carriers_judge_piled : 0 ≤ i_carriers_judge_piled ∧ i_carriers_judge_piled ≤ 32) (b_i_carriers_judge_tiring : 0 ≤ i_carriers_judge_tiring ∧ i_carriers_judge_tiring ≤ 2147483647) (b_i_carriers_judge_barred : 0 ≤ i_carriers_judge_barred ∧ i_carriers_judge_barred ≤ 1) (h_i_carriers_notes : zR i_carriers_notes (-2147483648) 2147483647) (b_i_plans_0_length : (-1000000000) ≤ i_plans_0_length ∧ i_plans_0_length ≤ 8191) (b_i_plans_0_tiring : (-9223372036854775808) ≤ i_plans_0_tiring ∧ i_plans_0_tiring ≤ 9223372036854775807) (b_i_plans_1_length : (-1000000000) ≤ i_plans_1_length ∧ i_plans_1_length ≤ 8191) (b_i_plans_1_tiring : (-9223372036854775808) ≤ i_plans_1_tiring ∧ i_plans_1_tiring ≤ 9223372036854775807) (b_i_plans_2_length : (-1000000000) ≤ i_plans_2_length ∧ i_plans_2_length ≤ 8191) (b_i_plans_2_tiring : (-9223372036854775808) ≤ i_plans_2_tiring ∧ i_plans_2_tiring ≤ 9223372036854775807) (h_i_carriers_judge_words : zR i_carriers_judge_words 0 99) (h_i_plans_0_row : zR i_plans_0_row 0 150) (h_i_plans_1_row : zR i_plans_1_row 0 150) (h_i_plans_2_row : zR i_plans_2_row 0 150) : zok (f_Planner_planned x1 i_hill_children i_hill_laws i_hill_inForce i_hill_changes i_hill_columns_many i_hill_strengths i_hill_expelled i_hill_terms i_hill_goals i_hill_orders i_hill_ordered i_hill_columns_heights i_hill_columns_weights i_kinds i_found i_queued i_slots i_states i_costs i_before i_by i_queue i_queuedAt i_weights i_heights i_tops i_carriers_judge_piled i_carriers_judge_tiring i_carriers_judge_barred i_carriers_notes i_plans_0_version i_plans_0_length i_plans_0_tiring i_plans_1_version i_plans_1_length i_plans_1_tiring i_plans_2_version i_plans_2_length i_plans_2_tiring i_carriers_judge_words i_carriers_judge_pile i_plans_0_row i_plans_1_row i_plans_2_row) (fun o => (0 ≤ o.1 ∧ o.1 ≤ 2) ∧ (0 ≤ o.2.1 ∧ o.2.1 ≤ 5) ∧ (0 ≤ o.2.2.1 ∧ o.2.2.1 ≤ 6720) ∧ (0 ≤ o.2.2.2.1 ∧ o.2.2.2.1 ≤ 6720) ∧ (0 ≤ o.2.2.2.2.2.2.2.2.2.2.2.2.2.2.1 ∧ o.2.2.2.2.2.2.2.2.2.2.2.2.2.2.1 ≤ 32) ∧ (0 ≤ o.2.2.2.2.2.2.2.2.2.2.2.2.2.2.2.1 ∧ o.2.2.2.2.2.2.2.2.2.2.2.2.2.2.2.1 ≤ 2147483647) ∧ (0 ≤ o.2.2.2.2.2.2.2.2.2.2.2.2.2.2.2.2.1 ∧ o.2.2.2.2.2.2.2.2.2.2.2.2.2.2.2.2.1 ≤ 1) ∧ ((-1000000000) ≤ o.2.2.2.2.2.2.2.2.2.2.2.2.2.2.2.2.2.2.2.1 ∧ o.2.2.2.2.2.2.2.2.2.2.2.2.2.2.2.2.2.2.2.1 ≤ 8191) ∧ ((-9223372036854775808) ≤ o.2.2.2.2.2.2.2.2.2.2.2.2.2.2.2.2.2.2.2.2.1 ∧ o.2.2.2.2.2.2.2.2.2.2.2.2.2.2.2.2.2.2.2.2.1 ≤ 9223372036854775807) ∧ ((-1000000000) ≤ o.2.2.2.2.2.2.2.2.2.2.2.2.2.2.2.2.2.2.2.2.2.2.1 ∧ o.2.2.2.2.2.2.2.2.2.2.2.2.2.2.2.2.2.2.2.2.2.2.1 ≤ 8191) ∧ ((-9223372036854775808) ≤ o.2.2.2.2.2.2.2.2.2.2.2.2.2.2.2.2.2.2.2.2.2.2.2.1 ∧ o.2.2.2.2.2.2.2.2.2.2.2.2.2.2.2.2.2.2.2.2.2.2.2.1 ≤ 9223372036854775807) ∧ ((-1000000000) ≤ o.2.2.2.2.2.2.2.2.2.2.2.2.2.2.2.2.2.2.2.2.2.2.2.2.2.1 ∧ o.2.2.2.2.2.2.2.2.2.2.2.2.2.2.2.2.2.2.2.2.2.2.2.2.2.1 ≤ 8191) ∧ ((-9223372036854775808) ≤ o.2.2.2.2.2.2.2.2.2.2.2.2.2.2.2.2.2.2.2.2.2.2.2.2.2.2.1 ∧ o.2.2.2.2.2.2.2.2.2.2.2.2.2.2.2.2.2.2.2.2.2.2.2.2.2.2.1 ≤ 9223372036854775807) ∧ zR o.2.2.2.2.1 0 6720 ∧ zR o.2.2.2.2.2.1 (-9223372036854775808) 9223372036854775807 ∧ zR o.2.2.2.2.2.2.2.1 (-1) 6719 ∧ zR o.2.2.2.2.2.2.2.2.1 0 150 ∧ zR o.2.2.2.2.2.2.2.2.2.1 0 6719 ∧ zR o.2.2.2.2.2.2.2.2.2.2.1 0 6719 ∧ zR o.2.2.2.2.2.2.2.2.2.2.2.1 0 30 ∧ zR o.2.2.2.2.2.2.2.2.2.2.2.2.1 0 5 ∧ zR o.2.2.2.2.2.2.2.2.2.2.2.2.2.1 0 7 ∧ zR o.2.2.2.2.2.2.2.2.2.2.2.2.2.2.2.2.2.1 (-2147483648) 2147483647 ∧ zR o.2.2.2.2.2.2.2.2.2.2.2.2.2.2.2.2.2.2.2.2.2.2.2.2.2.2.2.1 0 99 ∧ zR o.2.2.2.2.2.2.2.2.2.2.2.2.2.2.2.2.2.2.2.2.2.2.2.2.2.2.2.2.2.1 0 150 ∧ zR o.2.2.2.2.2.2.2.2.2.2.2.2.2.2.2.2.2.2.2.2.2.2.2.2.2.2.2.2.2.2.1 0 150 ∧ zR o.2.2.2.2.2.2.2.2.2.2.2.2.2.2.2.2.2.2.2.2.2.2.2.2.2.2.2.2.2.2.2 0 150) := by
  unfold f_Planner_planned
  refine zk_ifc (zci_ltr (by omega)) (fun hc => ?_) (fun hc => ?_)
  · exfalso; omega
  · refine zk_ifc (zci_le (by omega) (by omega)) (fun hc_2 => ?_) (fun hc_2 => ?_)
    · exfalso; omega
    · unfold f_Planner_planned_22
      refine zk_ifc (zci_eqr (by omega)) (fun hc_3 => ?_) (fun hc_3 => ?_)
      · refine zk_if (fun hc_4 => ?_) (fun hc_4 => ?_)
        · refine zk_ret ?_
          try dsimp only
          exact ⟨by omega, by omega, by omega, by omega, by omega, by omega, by omega, by omega, by omega, by omega, by omega, by omega, by omega, h_i_slots, h_i_states, h_i_before, h_i_by, h_i_queue, h_i_queuedAt, h_i_weights, h_i_heights, h_i_tops, h_i_carriers_notes, h_i_carriers_judge_words, h_i_plans_0_row, h_i_plans_1_row, h_i_plans_2_row⟩
        · refine zk_d1 (s_Planner_isSmall _ _ (by omega) h_i_hill_columns_heights) (fun v1 hp => ?_)
          try dsimp only at hp
          have hpp0 := hp
          refine zk_ifc (zci_eqr (by omega)) (fun hc_5 => ?_) (fun hc_5 => ?_)
          · unfold f_Planner_planned_73c
            unfold f_Planner_planned_74c
            refine zk_d3 (s_Planner_write _ _ _ _ _ _ _ (by omega) h_i_before h_i_by (by omega) (by omega) h_i_plans_0_row) (fun v1_2 v2 a3 hp_2 => ?_)
            try dsimp only at hp_2
            obtain ⟨hp_2p0, hp_2p1, hp_2p2⟩ := hp_2
            refine zk_ret ?_
            try dsimp only
            exact ⟨by omega, by omega, by omega, by omega, by omega, by omega, by omega, by omega, by omega, by omega, by omega, by omega, by omega, h_i_slots, h_i_states, h_i_before, h_i_by, h_i_queue, h_i_queuedAt, h_i_weights, h_i_heights, h_i_tops, h_i_carriers_notes, h_i_carriers_judge_words, hp_2p2, h_i_plans_1_row, h_i_plans_2_row⟩
          · refine zk_d1 (s_Planner_goalsFit _ _ _ (by omega) h_i_hill_goals h_i_hill_columns_heights) (fun v2_2 hp_3 => ?_)
            try dsimp only at hp_3
            have hp_3p0 := hp_3
            refine zk_ifc (zci_eqr (by omega)) (fun hc_6 => ?_) (fun hc_6 => ?_)
            · unfold f_Planner_planned_73c
              unfold f_Planner_planned_74c
              refine zk_d3 (s_Planner_write _ _ _ _ _ _ _ (by omega) h_i_before h_i_by (by omega) (by omega) h_i_plans_0_row) (fun v1_3 v2_3 a3_2 hp_4 => ?_)
              try dsimp only at hp_4
              obtain ⟨hp_4p0, hp_4p1, hp_4p2⟩ := hp_4
              refine zk_ret ?_
              try dsimp only
              exact ⟨by omega, by omega, by omega, by omega, by omega, by omega, by omega, by omega, by omega, by omega, by omega, by omega, by omega, h_i_slots, h_i_states, h_i_before, h_i_by, h_i_queue, h_i_queuedAt, h_i_weights, h_i_heights, h_i_tops, h_i_carriers_notes, h_i_carriers_judge_words, hp_4p2, h_i_plans_1_row, h_i_plans_2_row⟩
            · refine zk_d20 (s_Planner_search _ _ _ _ _ _ _ _ _ _ _ _ _ _ _ _ _ _ _ _ _ _ _ _ _ _ _ _ _ _ _ _ _ (by omega) (by omega) (by omega) (by omega) (by omega) h_i_hill_strengths h_i_hill_expelled h_i_hill_terms h_i_hill_goals h_i_hill_orders h_i_hill_ordered h_i_hill_columns_heights h_i_hill_columns_weights (by omega) (by omega) (by omega) h_i_slots h_i_states h_i_before h_i_by h_i_queue h_i_queuedAt h_i_weights h_i_heights h_i_tops (by omega) (by omega) (by omega) h_i_carriers_notes h_i_carriers_judge_words) (fun v3 v4 v5 v6 a7 a8 a9 a10 a11 a12 a13 a14 a15 a16 v17 v18 v19 a20 a21 a22 hp_5 => ?_)
              try dsimp only at hp_5
              obtain ⟨hp_5p0, hp_5p1, hp_5p2, hp_5p3, hp_5p4, hp_5p5, hp_5p6, hp_5p7, hp_5p8, hp_5p9, hp_5p10, hp_5p11, hp_5p12, hp_5p13, hp_5p14, hp_5p15, hp_5p16, hp_5p17⟩ := hp_5
              unfold f_Planner_planned_74c
              refine zk_d3 (s_Planner_write _ _ _ _ _ _ _ (by omega) hp_5p9 hp_5p10 (by omega) (by omega) h_i_plans_0_row) (fun v1_4 v2_4 a3_3 hp_6 => ?_)
              try dsimp only at hp_6
              obtain ⟨hp_6p0, hp_6p1, hp_6p2⟩ := hp_6
              refine zk_ret ?_
              try dsimp only
              exact ⟨by omega, by omega, by omega, by omega, by omega, by omega, by omega, by omega, by omega, by omega, by omega, by omega, by omega, hp_5p7, hp_5p8, hp_5p9, hp_5p10, hp_5p11, hp_5p12, hp_5p13, hp_5p14, hp_5p15, hp_5p16, hp_5p17, hp_6p2, h_i_plans_1_row, h_i_plans_2_row⟩
      · refine zk_ifc (zci_eqr (by omega)) (fun hc_7 => ?_) (fun hc_7 => ?_)
        · refine zk_if (fun hc_8 => ?_) (fun hc_8 => ?_)
          · refine zk_ret ?_
            try dsimp only
            exact ⟨by omega, by omega, by omega, by omega, by omega, by omega, by omega, by omega, by omega, by omega, by omega, by omega, by omega, h_i_slots, h_i_states, h_i_before, h_i_by, h_i_queue, h_i_queuedAt, h_i_weights, h_i_heights, h_i_tops, h_i_carriers_notes, h_i_carriers_judge_words, h_i_plans_0_row, h_i_plans_1_row, h_i_plans_2_row⟩
          · refine zk_d1 (s_Planner_isSmall _ _ (by omega) h_i_hill_columns_heights) (fun v23 hp_7 => ?_)
            try dsimp only at hp_7
            have hp_7p0 := hp_7
            refine zk_ifc (zci_eqr (by omega)) (fun hc_9 => ?_) (fun hc_9 => ?_)
            · unfold f_Planner_planned_73b
              unfold f_Planner_planned_74b
              refine zk_d3 (s_Planner_write _ _ _ _ _ _ _ (by omega) h_i_before h_i_by (by omega) (by omega) h_i_plans_1_row) (fun v1_5 v2_5 a3_4 hp_8 => ?_)
              try dsimp only at hp_8
              obtain ⟨hp_8p0, hp_8p1, hp_8p2⟩ := hp_8
              refine zk_ret ?_
              try dsimp only
              exact ⟨by omega, by omega, by omega, by omega, by omega, by omega, by omega, by omega, by omega, by omega, by omega, by omega, by omega, h_i_slots, h_i_states, h_i_before, h_i_by, h_i_queue, h_i_queuedAt, h_i_weights, h_i_heights, h_i_tops, h_i_carriers_notes, h_i_carriers_judge_words, h_i_plans_0_row, hp_8p2, h_i_plans_2_row⟩
            · refine zk_d1 (s_Planner_goalsFit _ _ _ (by omega) h_i_hill_goals h_i_hill_columns_heights) (fun v24 hp_9 => ?_)
              try dsimp only at hp_9
              have hp_9p0 := hp_9
              refine zk_ifc (zci_eqr (by omega)) (fun hc_10 => ?_) (fun hc_10 => ?_)
              · unfold f_Planner_planned_73b
                unfold f_Planner_planned_74b
                refine zk_d3 (s_Planner_write _ _ _ _ _ _ _ (by omega) h_i_before h_i_by (by omega) (by omega) h_i_plans_1_row) (fun v1_6 v2_6 a3_5 hp_10 => ?_)
                try dsimp only at hp_10
                obtain ⟨hp_10p0, hp_10p1, hp_10p2⟩ := hp_10
                refine zk_ret ?_
                try dsimp only
                exact ⟨by omega, by omega, by omega, by omega, by omega, by omega, by omega, by omega, by omega, by omega, by omega, by omega, by omega, h_i_slots, h_i_states, h_i_before, h_i_by, h_i_queue, h_i_queuedAt, h_i_weights, h_i_heights, h_i_tops, h_i_carriers_notes, h_i_carriers_judge_words, h_i_plans_0_row, hp_10p2, h_i_plans_2_row⟩
              · refine zk_d20 (s_Planner_search _ _ _ _ _ _ _ _ _ _ _ _ _ _ _ _ _ _ _ _ _ _ _ _ _ _ _ _ _ _ _ _ _ (by omega) (by omega) (by omega) (by omega) (by omega) h_i_hill_strengths h_i_hill_expelled h_i_hill_terms h_i_hill_goals h_i_hill_orders h_i_hill_ordered h_i_hill_columns_heights h_i_hill_columns_weights (by omega) (by omega) (by omega) h_i_slots h_i_states h_i_before h_i_by h_i_queue h_i_queuedAt h_i_weights h_i_heights h_i_tops (by omega) (by omega) (by omega) h_i_carriers_notes h_i_carriers_judge_words) (fun v25 v26 v27 v28 a29 a30 a31 a32 a33 a34 a35 a36 a37 a38 v39 v40 v41 a42 a43 a44 hp_11 => ?_)
                try dsimp only at hp_11
                obtain ⟨hp_11p0, hp_11p1, hp_11p2, hp_11p3, hp_11p4, hp_11p5, hp_11p6, hp_11p7, hp_11p8, hp_11p9, hp_11p10, hp_11p11, hp_11p12, hp_11p13, hp_11p14, hp_11p15, hp_11p16, hp_11p17⟩ := hp_11
                unfold f_Planner_planned_74b
                refine zk_d3 (s_Planner_write _ _ _ _ _ _ _ (by omega) hp_11p9 hp_11p10 (by omega) (by omega) h_i_plans_1_row) (fun v1_7 v2_7 a3_6 hp_12 => ?_)
                try dsimp only at hp_12
                obtain ⟨hp_12p0, hp_12p1, hp_12p2⟩ := hp_12
                refine zk_ret ?_
                try dsimp only
                exact ⟨by omega, by omega, by omega, by omega, by omega, by omega, by omega, by omega, by omega, by omega, by omega, by omega, by omega, hp_11p7, hp_11p8, hp_11p9, hp_11p10, hp_11p11, hp_11p12, hp_11p13, hp_11p14, hp_11p15, hp_11p16, hp_11p17, h_i_plans_0_row, hp_12p2, h_i_plans_2_row⟩
        · refine zk_ifc (zci_eqr (by omega)) (fun hc_11 => ?_) (fun hc_11 => ?_)
          · refine zk_if (fun hc_12 => ?_) (fun hc_12 => ?_)
            · refine zk_ret ?_
              try dsimp only
              exact ⟨by omega, by omega, by omega, by omega, by omega, by omega, by omega, by omega, by omega, by omega, by omega, by omega, by omega, h_i_slots, h_i_states, h_i_before, h_i_by, h_i_queue, h_i_queuedAt, h_i_weights, h_i_heights, h_i_tops, h_i_carriers_notes, h_i_carriers_judge_words, h_i_plans_0_row, h_i_plans_1_row, h_i_plans_2_row⟩
            · refine zk_d1 (s_Planner_isSmall _ _ (by omega) h_i_hill_columns_heights) (fun v45 hp_13 => ?_)
              try dsimp only at hp_13
              have hp_13p0 := hp_13
              refine zk_ifc (zci_eqr (by omega)) (fun hc_13 => ?_) (fun hc_13 => ?_)
              · unfold f_Planner_planned_73a
                unfold f_Planner_planned_74a
                refine zk_d3 (s_Planner_write _ _ _ _ _ _ _ (by omega) h_i_before h_i_by (by omega) (by omega) h_i_plans_2_row) (fun v1_8 v2_8 a3_7 hp_14 => ?_)
                try dsimp only at hp_14
                obtain ⟨hp_14p0, hp_14p1, hp_14p2⟩ := hp_14
                refine zk_ret ?_
                try dsimp only
                exact ⟨by omega, by omega, by omega, by omega, by omega, by omega, by omega, by omega, by omega, by omega, by omega, by omega, by omega, h_i_slots, h_i_states, h_i_before, h_i_by, h_i_queue, h_i_queuedAt, h_i_weights, h_i_heights, h_i_tops, h_i_carriers_notes, h_i_carriers_judge_words, h_i_plans_0_row, h_i_plans_1_row, hp_14p2⟩
              · refine zk_d1 (s_Planner_goalsFit _ _ _ (by omega) h_i_hill_goals h_i_hill_columns_heights) (fun v46 hp_15 => ?_)
                try dsimp only at hp_15
                have hp_15p0 := hp_15
                refine zk_ifc (zci_eqr (by omega)) (fun hc_14 => ?_) (fun hc_14 => ?_)
                · unfold f_Planner_planned_73a
                  unfold f_Planner_planned_74a
                  refine zk_d3 (s_Planner_write _ _ _ _ _ _ _ (by omega) h_i_before h_i_by (by omega) (by omega) h_i_plans_2_row) (fun v1_9 v2_9 a3_8 hp_16 => ?_)
                  try dsimp only at hp_16
                  obtain ⟨hp_16p0, hp_16p1, hp_16p2⟩ := hp_16
                  refine zk_ret ?_
                  try dsimp only
                  exact ⟨by omega, by omega, by omega, by omega, by omega, by omega, by omega, by omega, by omega, by omega, by omega, by omega, by omega, h_i_slots, h_i_states, h_i_before, h_i_by, h_i_queue, h_i_queuedAt, h_i_weights, h_i_heights, h_i_tops, h_i_carriers_notes, h_i_carriers_judge_words, h_i_plans_0_row, h_i_plans_1_row, hp_16p2⟩
                · refine zk_d20 (s_Planner_search _ _ _ _ _ _ _ _ _ _ _ _ _ _ _ _ _ _ _ _ _ _ _ _ _ _ _ _ _ _ _ _ _ (by omega) (by omega) (by omega) (by omega) (by omega) h_i_hill_strengths h_i_hill_expelled h_i_hill_terms h_i_hill_goals h_i_hill_orders h_i_hill_ordered h_i_hill_columns_heights h_i_hill_columns_weights (by omega) (by omega) (by omega) h_i_slots h_i_states h_i_before h_i_by h_i_queue h_i_queuedAt h_i_weights h_i_heights h_i_tops (by omega) (by omega) (by omega) h_i_carriers_notes h_i_carriers_judge_words) (fun v47 v48 v49 v50 a51 a52 a53 a54 a55 a56 a57 a58 a59 a60 v61 v62 v63 a64 a65 a66 hp_17 => ?_)
                  try dsimp only at hp_17
                  obtain ⟨hp_17p0, hp_17p1, hp_17p2, hp_17p3, hp_17p4, hp_17p5, hp_17p6, hp_17p7, hp_17p8, hp_17p9, hp_17p10, hp_17p11, hp_17p12, hp_17p13, hp_17p14, hp_17p15, hp_17p16, hp_17p17⟩ := hp_17
                  unfold f_Planner_planned_74a
                  refine zk_d3 (s_Planner_write _ _ _ _ _ _ _ (by omega) hp_17p9 hp_17p10 (by omega) (by omega) h_i_plans_2_row) (fun v1_10 v2_10 a3_9 hp_18 => ?_)
                  try dsimp only at hp_18
                  obtain ⟨hp_18p0, hp_18p1, hp_18p2⟩ := hp_18
                  refine zk_ret ?_
                  try dsimp only
                  exact ⟨by omega, by omega, by omega, by omega, by omega, by omega, by omega, by omega, by omega, by omega, by omega, by omega, by omega, hp_17p7, hp_17p8, hp_17p9, hp_17p10, hp_17p11, hp_17p12, hp_17p13, hp_17p14, hp_17p15, hp_17p16, hp_17p17, h_i_plans_0_row, h_i_plans_1_row, hp_18p2⟩
          · exfalso; omega
set_option maxHeartbeats 4000000 in
theorem s_Plan_piece (x1 : Int) (x2 : Int) (i_length : Int) (i_row : Nat → Int) (b_x1 : (-2147483648) ≤ x1 ∧ x1 ≤ 2147483647) (b_x2 : (-2147483648) ≤ x2 ∧ x2 ≤ 2147483647) (b_i_length : (-1000000000) ≤ i_length ∧ i_length ≤ 8191) (h_i_row : zR i_row 0 150) : zok (f_Plan_piece x1 x2 i_length i_row) (fun o => ((-1) ≤ o ∧ o ≤ 7)) := by
  unfold f_Plan_piece
  refine zk_ifc (zci_ltr (by omega)) (fun hc => ?_) (fun hc => ?_)
  · exact zk_ret (by omega)
  · refine zk_ifc (zci_le (by omega) (by omega)) (fun hc_2 => ?_) (fun hc_2 => ?_)
    · exact zk_ret (by omega)
    · refine zk_ifc (zci_lt (by omega) (by omega)) (fun hc_3 => ?_) (fun hc_3 => ?_)
      · refine zk_ifc (zci_eqr (by omega)) (fun hc_4 => ?_) (fun hc_4 => ?_)
        · refine zk_gv (by omega) (by decide) (fun v1 h_v1 => ?_)
          have r_v1 := h_i_row (x1.toNat)
          refine zk_g0zi_w (by omega) ?_
          refine zk_nE (fun v2 h_v2 => ?_)
          rw [zi_div_n (by omega) (by omega)] at h_v2
          exact zk_ret (by omega)
        · refine zk_ifc (zci_eqr (by omega)) (fun hc_5 => ?_) (fun hc_5 => ?_)
          · refine zk_gv (by omega) (by decide) (fun v3 h_v3 => ?_)
            have r_v3 := h_i_row (x1.toNat)
            refine zk_g0zi_w (by omega) ?_
            refine zk_nE (fun v4 h_v4 => ?_)
            rw [zi_div_n (by omega) (by omega)] at h_v4
            refine zk_g0zi_w (by omega) ?_
            refine zk_nE (fun v5 h_v5 => ?_)
            rw [zi_rem_n (by omega) (by omega)] at h_v5
            exact zk_ret (by omega)
          · refine zk_ifc (zci_eqr (by omega)) (fun hc_6 => ?_) (fun hc_6 => ?_)
            · refine zk_gv (by omega) (by decide) (fun v6 h_v6 => ?_)
              have r_v6 := h_i_row (x1.toNat)
              refine zk_g0zi_w (by omega) ?_
              refine zk_nE (fun v7 h_v7 => ?_)
              rw [zi_rem_n (by omega) (by omega)] at h_v7
              exact zk_ret (by omega)
            · exact zk_ret (by omega)
      · exact zk_ret (by omega)
set_option maxHeartbeats 4000000 in
theorem s_HS_plan (x1 : Int) (x2 : Int) (x3 : Int) (i_hill_children : Int) (i_hill_laws : Int) (i_hill_inForce : Int) (i_hill_changes : Int) (i_hill_columns_many : Int) (i_hill_strengths : Nat → Int) (i_hill_expelled : Nat → Int) (i_hill_terms : Nat → Int) (i_hill_goals : Nat → Int) (i_hill_orders : Nat → Int) (i_hill_ordered : Nat → Int) (i_hill_columns_heights : Nat → Int) (i_hill_columns_weights : Nat → Int) (i_judge_piled : Int) (i_judge_tiring : Int) (i_judge_barred : Int) (i_planner_kinds : Int) (i_planner_found : Int) (i_planner_queued : Int) (i_judge_words : Nat → Int) (i_judge_pile : Nat → Int) (i_carriers_notes : Nat → Int) (i_planner_slots : Nat → Int) (i_planner_states : Nat → Int) (i_planner_costs : Nat → Int) (i_planner_before : Nat → Int) (i_planner_by : Nat → Int) (i_planner_queue : Nat → Int) (i_planner_queuedAt : Nat → Int) (i_planner_weights : Nat → Int) (i_planner_heights : Nat → Int) (i_planner_tops : Nat → Int) (i_planner_plans_0_version : Int) (i_planner_plans_0_length : Int) (i_planner_plans_0_tiring : Int) (i_planner_plans_1_version : Int) (i_planner_plans_1_length : Int) (i_planner_plans_1_tiring : Int) (i_planner_plans_2_version : Int) (i_planner_plans_2_length : Int) (i_planner_plans_2_tiring : Int) (i_planner_plans_0_row : Nat → Int) (i_planner_plans_1_row : Nat → Int) (i_planner_plans_2_row : Nat → Int) (b_x1 : (-2147483648) ≤ x1 ∧ x1 ≤ 2147483647) (b_x2 : (-2147483648) ≤ x2 ∧ x2 ≤ 2147483647) (b_x3 : (-2147483648) ≤ x3 ∧ x3 ≤ 2147483647) (b_i_hill_children : 0 ≤ i_hill_children ∧ i_hill_children ≤ 6) (b_i_hill_laws : 0 ≤ i_hill_laws ∧ i_hill_laws ≤ 6) (b_i_hill_inForce : (-1) ≤ i_hill_inForce ∧ i_hill_inForce ≤ 5) (b_i_hill_columns_many : 0 ≤ i_hill_columns_many ∧ i_hill_columns_many ≤ 12) (h_i_hill_strengths : zR i_hill_strengths 0 60) (h_i_hill_expelled : zR i_hill_expelled 0 1) (h_i_hill_terms : zR i_hill_terms 0 99) (h_i_hill_goals : zR i_hill_goals (-1) 10) (h_i_hill_orders : zR i_hill_orders (-2147483648) 2147483647) (h_i_hill_ordered : zR i_hill_ordered 0 424) (h_i_hill_columns_heights : zR i_hill_columns_heights 0 10) (h_i_hill_columns_weights : zR i_hill_columns_weights 0 30) (b_i_judge_piled : 0 ≤ i_judge_piled ∧ i_judge_piled ≤ 32) (b_i_judge_tiring : 0 ≤ i_judge_tiring ∧ i_judge_tiring ≤ 2147483647) (b_i_judge_barred : 0 ≤ i_judge_barred ∧ i_judge_barred ≤ 1) (b_i_planner_kinds : 0 ≤ i_planner_kinds ∧ i_planner_kinds ≤ 5) (b_i_planner_found : 0 ≤ i_planner_found ∧ i_planner_found ≤ 6720) (b_i_planner_queued : 0 ≤ i_planner_queued ∧ i_planner_queued ≤ 6720) (h_i_judge_words : zR i_judge_words 0 99) (h_i_carriers_notes : zR i_carriers_notes (-2147483648) 2147483647) (h_i_planner_slots : zR i_planner_slots 0 6720) (h_i_planner_states : zR i_planner_states (-9223372036854775808) 9223372036854775807) (h_i_planner_before : zR i_planner_before (-1) 6719) (h_i_planner_by : zR i_planner_by 0 150) (h_i_planner_queue : zR i_planner_queue 0 6719) (h_i_planner_queuedAt : zR i_planner_queuedAt 0 6719) (h_i_planner_weights : zR i_planner_weights 0 30) (h_i_planner_heights : zR i_planner_heights 0 5) (h_i_planner_tops : zR i_planner_tops 0 7) (b_i_planner_plans_0_length : (-1000000000) ≤ i_planner_plans_0_length ∧ i_planner_plans_0_length ≤ 8191) (b_i_planner_plans_0_tiring : (-9223372036854775808) ≤ i_planner_plans_0_tiring ∧ i_planner_plans_0_tiring ≤ 9223372036854775807) (b_i_planner_plans_1_length : (-1000000000) ≤ i_planner_plans_1_length ∧ i_planner_plans_1_length ≤ 8191) (b_i_planner_plans_1_tiring : (-9223372036854775808) ≤ i_planner_plans_1_tiring ∧ i_planner_plans_1_tiring ≤ 9223372036854775807) (b_i_planner_plans_2_length : (-1000000000) ≤ i_planner_plans_2_length ∧ i_planner_plans_2_length ≤ 8191) (b_i_planner_plans_2_tiring : (-9223372036854775808) ≤ i_planner_plans_2_tiring ∧ i_planner_plans_2_tiring ≤ 9223372036854775807) (h_i_planner_plans_0_row : zR i_planner_plans_0_row 0 150) (h_i_planner_plans_1_row : zR i_planner_plans_1_row 0 150) (h_i_planner_plans_2_row : zR i_planner_plans_2_row 0 150) : zok (f_HS_plan x1 x2 x3 i_hill_children i_hill_laws i_hill_inForce i_hill_changes i_hill_columns_many i_hill_strengths i_hill_expelled i_hill_terms i_hill_goals i_hill_orders i_hill_ordered i_hill_columns_heights i_hill_columns_weights i_judge_piled i_judge_tiring i_judge_barred i_planner_kinds i_planner_found i_planner_queued i_judge_words i_judge_pile i_carriers_notes i_planner_slots i_planner_states i_planner_costs i_planner_before i_planner_by i_planner_queue i_planner_queuedAt i_planner_weights i_planner_heights i_planner_tops i_planner_plans_0_version i_planner_plans_0_length i_planner_plans_0_tiring i_planner_plans_1_version i_planner_plans_1_length i_planner_plans_1_tiring i_planner_plans_2_version i_planner_plans_2_length i_planner_plans_2_tiring i_planner_plans_0_row i_planner_plans_1_row i_planner_plans_2_row) (fun o => ((-9223372036854775808) ≤ o.1 ∧ o.1 ≤ 9223372036854775807) ∧ (0 ≤ o.2.1 ∧ o.2.1 ≤ 32) ∧ (0 ≤ o.2.2.1 ∧ o.2.2.1 ≤ 2147483647) ∧ (0 ≤ o.2.2.2.1 ∧ o.2.2.2.1 ≤ 1) ∧ (0 ≤ o.2.2.2.2.1 ∧ o.2.2.2.2.1 ≤ 5) ∧ (0 ≤ o.2.2.2.2.2.1 ∧ o.2.2.2.2.2.1 ≤ 6720) ∧ (0 ≤ o.2.2.2.2.2.2.1 ∧ o.2.2.2.2.2.2.1 ≤ 6720) ∧ ((-1000000000) ≤ o.2.2.2.2.2.2.2.2.2.2.2.2.2.2.2.2.2.2.2.2.2.1 ∧ o.2.2.2.2.2.2.2.2.2.2.2.2.2.2.2.2.2.2.2.2.2.1 ≤ 8191) ∧ ((-9223372036854775808) ≤ o.2.2.2.2.2.2.2.2.2.2.2.2.2.2.2.2.2.2.2.2.2.2.1 ∧ o.2.2.2.2.2.2.2.2.2.2.2.2.2.2.2.2.2.2.2.2.2.2.1 ≤ 9223372036854775807) ∧ ((-1000000000) ≤ o.2.2.2.2.2.2.2.2.2.2.2.2.2.2.2.2.2.2.2.2.2.2.2.2.1 ∧ o.2.2.2.2.2.2.2.2.2.2.2.2.2.2.2.2.2.2.2.2.2.2.2.2.1 ≤ 8191) ∧ ((-9223372036854775808) ≤ o.2.2.2.2.2.2.2.2.2.2.2.2.2.2.2.2.2.2.2.2.2.2.2.2.2.1 ∧ o.2.2.2.2.2.2.2.2.2.2.2.2.2.2.2.2.2.2.2.2.2.2.2.2.2.1 ≤ 9223372036854775807) ∧ ((-1000000000) ≤ o.2.2.2.2.2.2.2.2.2.2.2.2.2.2.2.2.2.2.2.2.2.2.2.2.2.2.2.1 ∧ o.2.2.2.2.2.2.2.2.2.2.2.2.2.2.2.2.2.2.2.2.2.2.2.2.2.2.2.1 ≤ 8191) ∧ ((-9223372036854775808) ≤ o.2.2.2.2.2.2.2.2.2.2.2.2.2.2.2.2.2.2.2.2.2.2.2.2.2.2.2.2.1 ∧ o.2.2.2.2.2.2.2.2.2.2.2.2.2.2.2.2.2.2.2.2.2.2.2.2.2.2.2.2.1 ≤ 9223372036854775807) ∧ zR o.2.2.2.2.2.2.2.1 0 99 ∧ zR o.2.2.2.2.2.2.2.2.2.1 (-2147483648) 2147483647 ∧ zR o.2.2.2.2.2.2.2.2.2.2.1 0 6720 ∧ zR o.2.2.2.2.2.2.2.2.2.2.2.1 (-9223372036854775808) 9223372036854775807 ∧ zR o.2.2.2.2.2.2.2.2.2.2.2.2.2.1 (-1) 6719 ∧ zR o.2.2.2.2.2.2.2.2.2.2.2.2.2.2.1 0 150 ∧ zR o.2.2.2.2.2.2.2.2.2.2.2.2.2.2.2.1 0 6719 ∧ zR o.2.2.2.2.2.2.2.2.2.2.2.2.2.2.2.2.1 0 6719 ∧ zR o.2.2.2.2.2.2.2.2.2.2.2.2.2.2.2.2.2.1 0 30 ∧ zR o.2.2.2.2.2.2.2.2.2.2.2.2.2.2.2.2.2.2.1 0 5 ∧ zR o.2.2.2.2.2.2.2.2.2.2.2.2.2.2.2.2.2.2.2.1 0 7 ∧ zR o.2.2.2.2.2.2.2.2.2.2.2.2.2.2.2.2.2.2.2.2.2.2.2.2.2.2.2.2.2.1 0 150 ∧ zR o.2.2.2.2.2.2.2.2.2.2.2.2.2.2.2.2.2.2.2.2.2.2.2.2.2.2.2.2.2.2.1 0 150 ∧ zR o.2.2.2.2.2.2.2.2.2.2.2.2.2.2.2.2.2.2.2.2.2.2.2.2.2.2.2.2.2.2.2 0 150) := by
  unfold f_HS_plan
  refine zk_ifc (zci_ltr (by omega)) (fun hc => ?_) (fun hc => ?_)
  · refine zk_ret ?_
    try dsimp only
    exact ⟨by omega, by omega, by omega, by omega, by omega, by omega, by omega, by omega, by omega, by omega, by omega, by omega, by omega, h_i_judge_words, h_i_carriers_notes, h_i_planner_slots, h_i_planner_states, h_i_planner_before, h_i_planner_by, h_i_planner_queue, h_i_planner_queuedAt, h_i_planner_weights, h_i_planner_heights, h_i_planner_tops, h_i_planner_plans_0_row, h_i_planner_plans_1_row, h_i_planner_plans_2_row⟩
  · refine zk_ifc (zci_lt (by omega) (by omega)) (fun hc_2 => ?_) (fun hc_2 => ?_)
    · refine zk_ret ?_
      try dsimp only
      exact ⟨by omega, by omega, by omega, by omega, by omega, by omega, by omega, by omega, by omega, by omega, by omega, by omega, by omega, h_i_judge_words, h_i_carriers_notes, h_i_planner_slots, h_i_planner_states, h_i_planner_before, h_i_planner_by, h_i_planner_queue, h_i_planner_queuedAt, h_i_planner_weights, h_i_planner_heights, h_i_planner_tops, h_i_planner_plans_0_row, h_i_planner_plans_1_row, h_i_planner_plans_2_row⟩
    · refine zk_d1 (s_Planner_isSmall _ _ (by omega) h_i_hill_columns_heights) (fun v1 hp => ?_)
      try dsimp only at hp
      have hpp0 := hp
      refine zk_ifc (zci_ner (by omega)) (fun hc_3 => ?_) (fun hc_3 => ?_)
      · refine zk_d32 (s_Planner_planned _ _ _ _ _ _ _ _ _ _ _ _ _ _ _ _ _ _ _ _ _ _ _ _ _ _ _ _ _ _ _ _ _ _ _ _ _ _ _ _ _ _ _ _ _ (by omega) (by omega) (by omega) (by omega) (by omega) h_i_hill_strengths h_i_hill_expelled h_i_hill_terms h_i_hill_goals h_i_hill_orders h_i_hill_ordered h_i_hill_columns_heights h_i_hill_columns_weights (by omega) (by omega) (by omega) h_i_planner_slots h_i_planner_states h_i_planner_before h_i_planner_by h_i_planner_queue h_i_planner_queuedAt h_i_planner_weights h_i_planner_heights h_i_planner_tops (by omega) (by omega) (by omega) h_i_carriers_notes (by omega) (by omega) (by omega) (by omega) (by omega) (by omega) h_i_judge_words h_i_planner_plans_0_row h_i_planner_plans_1_row h_i_planner_plans_2_row) (fun v2 v3 v4 v5 a6 a7 a8 a9 a10 a11 a12 a13 a14 a15 v16 v17 v18 a19 v20 v21 v22 v23 v24 v25 v26 v27 v28 a29 a30 a31 a32 a33 hp_2 => ?_)
        try dsimp only at hp_2
        obtain ⟨hp_2p0, hp_2p1, hp_2p2, hp_2p3, hp_2p4, hp_2p5, hp_2p6, hp_2p7, hp_2p8, hp_2p9, hp_2p10, hp_2p11, hp_2p12, hp_2p13, hp_2p14, hp_2p15, hp_2p16, hp_2p17, hp_2p18, hp_2p19, hp_2p20, hp_2p21, hp_2p22, hp_2p23, hp_2p24, hp_2p25, hp_2p26⟩ := hp_2
        refine zk_if (fun hc_4 => ?_) (fun hc_4 => ?_)
        · refine zk_ifc (zci_eq (by omega) (by omega)) (fun hc_5 => ?_) (fun hc_5 => ?_)
          · unfold f_HS_plan_45c
            refine zk_ifc (zci_ne (by omega) (by omega)) (fun hc_6 => ?_) (fun hc_6 => ?_)
            · refine zk_ret ?_
              try dsimp only
              exact ⟨by omega, by omega, by omega, by omega, by omega, by omega, by omega, by omega, by omega, by omega, by omega, by omega, by omega, hp_2p23, hp_2p22, hp_2p13, hp_2p14, hp_2p15, hp_2p16, hp_2p17, hp_2p18, hp_2p19, hp_2p20, hp_2p21, hp_2p24, hp_2p25, hp_2p26⟩
            · refine zk_ret ?_
              try dsimp only
              exact ⟨by omega, by omega, by omega, by omega, by omega, by omega, by omega, by omega, by omega, by omega, by omega, by omega, by omega, hp_2p23, hp_2p22, hp_2p13, hp_2p14, hp_2p15, hp_2p16, hp_2p17, hp_2p18, hp_2p19, hp_2p20, hp_2p21, hp_2p24, hp_2p25, hp_2p26⟩
          · refine zk_ifc (zci_ne (by omega) (by omega)) (fun hc_7 => ?_) (fun hc_7 => ?_)
            · refine zk_d1 (s_Plan_piece _ _ _ _ (by omega) (by omega) (by omega) hp_2p24) (fun v34 hp_3 => ?_)
              try dsimp only at hp_3
              have hp_3p0 := hp_3
              refine zk_ret ?_
              try dsimp only
              exact ⟨by omega, by omega, by omega, by omega, by omega, by omega, by omega, by omega, by omega, by omega, by omega, by omega, by omega, hp_2p23, hp_2p22, hp_2p13, hp_2p14, hp_2p15, hp_2p16, hp_2p17, hp_2p18, hp_2p19, hp_2p20, hp_2p21, hp_2p24, hp_2p25, hp_2p26⟩
            · unfold f_HS_plan_45c
              refine zk_ifc (zci_ne (by omega) (by omega)) (fun hc_8 => ?_) (fun hc_8 => ?_)
              · refine zk_ret ?_
                try dsimp only
                exact ⟨by omega, by omega, by omega, by omega, by omega, by omega, by omega, by omega, by omega, by omega, by omega, by omega, by omega, hp_2p23, hp_2p22, hp_2p13, hp_2p14, hp_2p15, hp_2p16, hp_2p17, hp_2p18, hp_2p19, hp_2p20, hp_2p21, hp_2p24, hp_2p25, hp_2p26⟩
              · refine zk_ret ?_
                try dsimp only
                exact ⟨by omega, by omega, by omega, by omega, by omega, by omega, by omega, by omega, by omega, by omega, by omega, by omega, by omega, hp_2p23, hp_2p22, hp_2p13, hp_2p14, hp_2p15, hp_2p16, hp_2p17, hp_2p18, hp_2p19, hp_2p20, hp_2p21, hp_2p24, hp_2p25, hp_2p26⟩
        · refine zk_if (fun hc_9 => ?_) (fun hc_9 => ?_)
          · refine zk_ifc (zci_eq (by omega) (by omega)) (fun hc_10 => ?_) (fun hc_10 => ?_)
            · unfold f_HS_plan_45b
              refine zk_ifc (zci_ne (by omega) (by omega)) (fun hc_11 => ?_) (fun hc_11 => ?_)
              · refine zk_ret ?_
                try dsimp only
                exact ⟨by omega, by omega, by omega, by omega, by omega, by omega, by omega, by omega, by omega, by omega, by omega, by omega, by omega, hp_2p23, hp_2p22, hp_2p13, hp_2p14, hp_2p15, hp_2p16, hp_2p17, hp_2p18, hp_2p19, hp_2p20, hp_2p21, hp_2p24, hp_2p25, hp_2p26⟩
              · refine zk_ret ?_
                try dsimp only
                exact ⟨by omega, by omega, by omega, by omega, by omega, by omega, by omega, by omega, by omega, by omega, by omega, by omega, by omega, hp_2p23, hp_2p22, hp_2p13, hp_2p14, hp_2p15, hp_2p16, hp_2p17, hp_2p18, hp_2p19, hp_2p20, hp_2p21, hp_2p24, hp_2p25, hp_2p26⟩
            · refine zk_ifc (zci_ne (by omega) (by omega)) (fun hc_12 => ?_) (fun hc_12 => ?_)
              · refine zk_d1 (s_Plan_piece _ _ _ _ (by omega) (by omega) (by omega) hp_2p25) (fun v35 hp_4 => ?_)
                try dsimp only at hp_4
                have hp_4p0 := hp_4
                refine zk_ret ?_
                try dsimp only
                exact ⟨by omega, by omega, by omega, by omega, by omega, by omega, by omega, by omega, by omega, by omega, by omega, by omega, by omega, hp_2p23, hp_2p22, hp_2p13, hp_2p14, hp_2p15, hp_2p16, hp_2p17, hp_2p18, hp_2p19, hp_2p20, hp_2p21, hp_2p24, hp_2p25, hp_2p26⟩
              · unfold f_HS_plan_45b
                refine zk_ifc (zci_ne (by omega) (by omega)) (fun hc_13 => ?_) (fun hc_13 => ?_)
                · refine zk_ret ?_
                  try dsimp only
                  exact ⟨by omega, by omega, by omega, by omega, by omega, by omega, by omega, by omega, by omega, by omega, by omega, by omega, by omega, hp_2p23, hp_2p22, hp_2p13, hp_2p14, hp_2p15, hp_2p16, hp_2p17, hp_2p18, hp_2p19, hp_2p20, hp_2p21, hp_2p24, hp_2p25, hp_2p26⟩
                · refine zk_ret ?_
                  try dsimp only
                  exact ⟨by omega, by omega, by omega, by omega, by omega, by omega, by omega, by omega, by omega, by omega, by omega, by omega, by omega, hp_2p23, hp_2p22, hp_2p13, hp_2p14, hp_2p15, hp_2p16, hp_2p17, hp_2p18, hp_2p19, hp_2p20, hp_2p21, hp_2p24, hp_2p25, hp_2p26⟩
          · refine zk_if (fun hc_14 => ?_) (fun hc_14 => ?_)
            · refine zk_ifc (zci_eq (by omega) (by omega)) (fun hc_15 => ?_) (fun hc_15 => ?_)
              · unfold f_HS_plan_45a
                refine zk_ifc (zci_ne (by omega) (by omega)) (fun hc_16 => ?_) (fun hc_16 => ?_)
                · refine zk_ret ?_
                  try dsimp only
                  exact ⟨by omega, by omega, by omega, by omega, by omega, by omega, by omega, by omega, by omega, by omega, by omega, by omega, by omega, hp_2p23, hp_2p22, hp_2p13, hp_2p14, hp_2p15, hp_2p16, hp_2p17, hp_2p18, hp_2p19, hp_2p20, hp_2p21, hp_2p24, hp_2p25, hp_2p26⟩
                · refine zk_ret ?_
                  try dsimp only
                  exact ⟨by omega, by omega, by omega, by omega, by omega, by omega, by omega, by omega, by omega, by omega, by omega, by omega, by omega, hp_2p23, hp_2p22, hp_2p13, hp_2p14, hp_2p15, hp_2p16, hp_2p17, hp_2p18, hp_2p19, hp_2p20, hp_2p21, hp_2p24, hp_2p25, hp_2p26⟩
              · refine zk_ifc (zci_ne (by omega) (by omega)) (fun hc_17 => ?_) (fun hc_17 => ?_)
                · refine zk_d1 (s_Plan_piece _ _ _ _ (by omega) (by omega) (by omega) hp_2p26) (fun v36 hp_5 => ?_)
                  try dsimp only at hp_5
                  have hp_5p0 := hp_5
                  refine zk_ret ?_
                  try dsimp only
                  exact ⟨by omega, by omega, by omega, by omega, by omega, by omega, by omega, by omega, by omega, by omega, by omega, by omega, by omega, hp_2p23, hp_2p22, hp_2p13, hp_2p14, hp_2p15, hp_2p16, hp_2p17, hp_2p18, hp_2p19, hp_2p20, hp_2p21, hp_2p24, hp_2p25, hp_2p26⟩
                · unfold f_HS_plan_45a
                  refine zk_ifc (zci_ne (by omega) (by omega)) (fun hc_18 => ?_) (fun hc_18 => ?_)
                  · refine zk_ret ?_
                    try dsimp only
                    exact ⟨by omega, by omega, by omega, by omega, by omega, by omega, by omega, by omega, by omega, by omega, by omega, by omega, by omega, hp_2p23, hp_2p22, hp_2p13, hp_2p14, hp_2p15, hp_2p16, hp_2p17, hp_2p18, hp_2p19, hp_2p20, hp_2p21, hp_2p24, hp_2p25, hp_2p26⟩
                  · refine zk_ret ?_
                    try dsimp only
                    exact ⟨by omega, by omega, by omega, by omega, by omega, by omega, by omega, by omega, by omega, by omega, by omega, by omega, by omega, hp_2p23, hp_2p22, hp_2p13, hp_2p14, hp_2p15, hp_2p16, hp_2p17, hp_2p18, hp_2p19, hp_2p20, hp_2p21, hp_2p24, hp_2p25, hp_2p26⟩
            · exfalso; omega
      · refine zk_ret ?_
        try dsimp only
        exact ⟨by omega, by omega, by omega, by omega, by omega, by omega, by omega, by omega, by omega, by omega, by omega, by omega, by omega, h_i_judge_words, h_i_carriers_notes, h_i_planner_slots, h_i_planner_states, h_i_planner_before, h_i_planner_by, h_i_planner_queue, h_i_planner_queuedAt, h_i_planner_weights, h_i_planner_heights, h_i_planner_tops, h_i_planner_plans_0_row, h_i_planner_plans_1_row, h_i_planner_plans_2_row⟩
end
section
set_option maxHeartbeats 4000000 in
theorem s_Arrays_fill_n3601_5   : ∀ (n : Nat) (x1 : Int) (x2 : Int) (x3 : Int) (i_a0 : Nat → Int), (0 ≤ x1 ∧ x1 ≤ 0) → (0 ≤ x2 ∧ x2 ≤ 5580) → (3601 ≤ x3 ∧ x3 ≤ 3601) → (zR i_a0 0 1000000000) → (5581 - x2) < (n : Int) → zok (f_Arrays_fill_n3601_5  n x1 x2 x3 i_a0) (fun o => zR o 0 1000000000) := by
  intro n
  induction n with
  | zero => intro x1 x2 x3 i_a0 b_x1 b_x2 b_x3 h_i_a0 hm; exfalso; omega
  | succ n ih =>
    intro x1 x2 x3 i_a0 b_x1 b_x2 b_x3 h_i_a0 hm
    show zok (f_Arrays_fill_n3601_5_b  (f_Arrays_fill_n3601_5  n) x1 x2 x3 i_a0) _
    unfold f_Arrays_fill_n3601_5_b
    refine zk_ifc (zci_le (by omega) (by omega)) (fun hc => ?_) (fun hc => ?_)
    · exact zk_ret h_i_a0
    · refine zk_sv (by omega) (by decide) (fun a1 h_a1 => ?_)
      have i_a1 : zR a1 0 1000000000 := by rw [h_a1]; exact zR_zu h_i_a0 (by decide) (by decide) (by omega)
      refine zk_n ?_
      exact ih _ _ _ _ (by omega) (by omega) (by omega) i_a1 (by omega)
set_option maxHeartbeats 4000000 in
theorem s_Arrays_fill_n3601 (x1 : Int) (i_a0 : Nat → Int) (b_x1 : 0 ≤ x1 ∧ x1 ≤ 0) (h_i_a0 : zR i_a0 0 1000000000) : zok (f_Arrays_fill_n3601 x1 i_a0) (fun o => zR o 0 1000000000) := by
  unfold f_Arrays_fill_n3601
  exact s_Arrays_fill_n3601_5 zfu _ _ _ _ (by omega) (by omega) (by omega) h_i_a0 (by unfold zfu; omega)
set_option maxHeartbeats 4000000 in
theorem s_Scales_weighAll_78 (i_hill_columns_many : Int) (i_hill_columns_heights : Nat → Int) (i_hill_columns_weights : Nat → Int) (k19 : Int → Int → (Nat → Int) → Option ((Nat → Int))) (Nk19 : Nat) (hk19 : ∀ (x1 : Int) (x2 : Int) (i_setsBy : Nat → Int), (0 ≤ x1 ∧ x1 ≤ 3600) → (0 ≤ x2 ∧ x2 ≤ 12) → (zR i_setsBy 0 1000000000) → (13 - x2) < (Nk19 : Int) → zok (k19 x1 x2 i_setsBy) (fun o => zR o 0 1000000000)) (k35 : Int → Int → Int → (Nat → Int) → Option ((Nat → Int))) (Nk35 : Nat) (hk35 : ∀ (x1 : Int) (x2 : Int) (x3 : Int) (i_setsBy : Nat → Int), (0 ≤ x1 ∧ x1 ≤ 3600) → (0 ≤ x2 ∧ x2 ≤ 11) → (0 ≤ x3 ∧ x3 ≤ 10) → (zR i_setsBy 0 1000000000) → (13 - x2) < (Nk19 : Int) + 1 → (11 - x3) < (Nk35 : Int) → zok (k35 x1 x2 x3 i_setsBy) (fun o => zR o 0 1000000000)) (b_i_hill_columns_many : 1 ≤ i_hill_columns_many ∧ i_hill_columns_many ≤ 12) (h_i_hill_columns_heights : zR i_hill_columns_heights 0 10) (h_i_hill_columns_weights : zR i_hill_columns_weights 0 30) : ∀ (n : Nat) (x1 : Int) (x2 : Int) (x3 : Int) (x4 : Int) (x5 : Int) (i_setsBy : Nat → Int), (0 ≤ x1 ∧ x1 ≤ 3600) → (0 ≤ x2 ∧ x2 ≤ 11) → (0 ≤ x3 ∧ x3 ≤ 9) → (0 ≤ x4 ∧ x4 ≤ 30) → ((-1) ≤ x5 ∧ x5 ≤ 3600) → (zR i_setsBy 0 1000000000) → (13 - x2) < (Nk19 : Int) + 1 → (11 - x3) < (Nk35 : Int) + 1 → (x5 - (-2)) < (n : Int) → zok (f_Scales_weighAll_78 i_hill_columns_many i_hill_columns_heights i_hill_columns_weights k19 k35 n x1 x2 x3 x4 x5 i_setsBy) (fun o => zR o 0 1000000000) := by
  intro n
  induction n with
  | zero => intro x1 x2 x3 x4 x5 i_setsBy b_x1 b_x2 b_x3 b_x4 b_x5 h_i_setsBy mk19 mk35 hm; exfalso; omega
  | succ n ih =>
    intro x1 x2 x3 x4 x5 i_setsBy b_x1 b_x2 b_x3 b_x4 b_x5 h_i_setsBy mk19 mk35 hm
    show zok (f_Scales_weighAll_78_b i_hill_columns_many i_hill_columns_heights i_hill_columns_weights k19 k35 (f_Scales_weighAll_78 i_hill_columns_many i_hill_columns_heights i_hill_columns_weights k19 k35 n) x1 x2 x3 x4 x5 i_setsBy) _
    unfold f_Scales_weighAll_78_b
    refine zk_ifc (zci_lt (by omega) (by omega)) (fun hc => ?_) (fun hc => ?_)
    · refine zk_n ?_
      exact hk35 _ _ _ _ (by omega) (by omega) (by omega) h_i_setsBy (by omega) (by omega)
    · refine zk_gv (by omega) (by decide) (fun v2 h_v2 => ?_)
      have r_v2 := h_i_setsBy (x5.toNat)
      refine zk_n ?_
      refine zk_gv (by omega) (by decide) (fun v4 h_v4 => ?_)
      have r_v4 := h_i_setsBy ((x5 - x4).toNat)
      refine zk_n ?_
      refine zk_nE (fun v6 h_v6 => ?_)
      have r_v6 := zi_min_f (1000000000) (by omega) ((v2 + v4)) (by omega); rw [← h_v6] at r_v6
      refine zk_sv (by omega) (by decide) (fun a7 h_a7 => ?_)
      have i_a7 : zR a7 0 1000000000 := by rw [h_a7]; exact zR_zu h_i_setsBy (by decide) (by decide) (by omega)
      refine zk_n ?_
      exact ih _ _ _ _ _ _ (by omega) (by omega) (by omega) (by omega) (by omega) i_a7 (by omega) (by omega) (by omega)
set_option maxHeartbeats 4000000 in
theorem s_Scales_weighAll_35 (i_hill_columns_many : Int) (i_hill_columns_heights : Nat → Int) (i_hill_columns_weights : Nat → Int) (k19 : Int → Int → (Nat → Int) → Option ((Nat → Int))) (Nk19 : Nat) (hk19 : ∀ (x1 : Int) (x2 : Int) (i_setsBy : Nat → Int), (0 ≤ x1 ∧ x1 ≤ 3600) → (0 ≤ x2 ∧ x2 ≤ 12) → (zR i_setsBy 0 1000000000) → (13 - x2) < (Nk19 : Int) → zok (k19 x1 x2 i_setsBy) (fun o => zR o 0 1000000000)) (b_i_hill_columns_many : 1 ≤ i_hill_columns_many ∧ i_hill_columns_many ≤ 12) (h_i_hill_columns_heights : zR i_hill_columns_heights 0 10) (h_i_hill_columns_weights : zR i_hill_columns_weights 0 30) : ∀ (n : Nat) (x1 : Int) (x2 : Int) (x3 : Int) (i_setsBy : Nat → Int), (0 ≤ x1 ∧ x1 ≤ 3600) → (0 ≤ x2 ∧ x2 ≤ 11) → (0 ≤ x3 ∧ x3 ≤ 10) → (zR i_setsBy 0 1000000000) → (13 - x2) < (Nk19 : Int) + 1 → (11 - x3) < (n : Int) → zok (f_Scales_weighAll_35 i_hill_columns_many i_hill_columns_heights i_hill_columns_weights k19 n x1 x2 x3 i_setsBy) (fun o => zR o 0 1000000000) := by
  intro n
  induction n with
  | zero => intro x1 x2 x3 i_setsBy b_x1 b_x2 b_x3 h_i_setsBy mk19 hm; exfalso; omega
  | succ n ih =>
    intro x1 x2 x3 i_setsBy b_x1 b_x2 b_x3 h_i_setsBy mk19 hm
    show zok (f_Scales_weighAll_35_b i_hill_columns_many i_hill_columns_heights i_hill_columns_weights k19 (f_Scales_weighAll_35 i_hill_columns_many i_hill_columns_heights i_hill_columns_weights k19 n) x1 x2 x3 i_setsBy) _
    unfold f_Scales_weighAll_35_b
    refine zk_d1 (s_Columns_high _ _ _ (by omega) (by omega) h_i_hill_columns_heights) (fun v1 hp => ?_)
    try dsimp only at hp
    obtain ⟨hpp0, hpp1⟩ := hp
    refine zk_ifc (zci_le (by omega) (by omega)) (fun hc => ?_) (fun hc => ?_)
    · refine zk_n ?_
      exact hk19 _ _ _ (by omega) (by omega) h_i_setsBy (by omega)
    · refine zk_d1 (s_Columns_heft _ _ _ _ _ (by omega) (by omega) (by omega) h_i_hill_columns_heights h_i_hill_columns_weights) (fun v3 hp_2 => ?_)
      try dsimp only at hp_2
      have hp_2p0 := hp_2
      refine zk_n ?_
      refine zk_nE (fun v5 h_v5 => ?_)
      have r_v5 := zi_min_f (3600) (by omega) ((x1 + v3)) (by omega); rw [← h_v5] at r_v5
      exact s_Scales_weighAll_78 _ _ _ _ Nk19 hk19 _ n ih (by omega) h_i_hill_columns_heights h_i_hill_columns_weights zfu _ _ _ _ _ _ (by omega) (by omega) (by omega) (by omega) (by omega) h_i_setsBy (by omega) (by omega) (by unfold zfu; omega)
set_option maxHeartbeats 4000000 in
theorem s_Scales_weighAll_19 (i_hill_columns_many : Int) (i_hill_columns_heights : Nat → Int) (i_hill_columns_weights : Nat → Int) (b_i_hill_columns_many : 0 ≤ i_hill_columns_many ∧ i_hill_columns_many ≤ 12) (h_i_hill_columns_heights : zR i_hill_columns_heights 0 10) (h_i_hill_columns_weights : zR i_hill_columns_weights 0 30) : ∀ (n : Nat) (x1 : Int) (x2 : Int) (i_setsBy : Nat → Int), (0 ≤ x1 ∧ x1 ≤ 3600) → (0 ≤ x2 ∧ x2 ≤ 12) → (zR i_setsBy 0 1000000000) → (13 - x2) < (n : Int) → zok (f_Scales_weighAll_19 i_hill_columns_many i_hill_columns_heights i_hill_columns_weights n x1 x2 i_setsBy) (fun o => zR o 0 1000000000) := by
  intro n
  induction n with
  | zero => intro x1 x2 i_setsBy b_x1 b_x2 h_i_setsBy hm; exfalso; omega
  | succ n ih =>
    intro x1 x2 i_setsBy b_x1 b_x2 h_i_setsBy hm
    show zok (f_Scales_weighAll_19_b i_hill_columns_many i_hill_columns_heights i_hill_columns_weights (f_Scales_weighAll_19 i_hill_columns_many i_hill_columns_heights i_hill_columns_weights n) x1 x2 i_setsBy) _
    unfold f_Scales_weighAll_19_b
    refine zk_ifc (zci_le (by omega) (by omega)) (fun hc => ?_) (fun hc => ?_)
    · exact zk_ret h_i_setsBy
    · exact s_Scales_weighAll_35 _ _ _ _ n ih (by omega) h_i_hill_columns_heights h_i_hill_columns_weights zfu _ _ _ _ (by omega) (by omega) (by omega) h_i_setsBy (by omega) (by unfold zfu; omega)
set_option maxHeartbeats 4000000 in
theorem s_Scales_weighAll (i_hill_columns_many : Int) (i_hill_columns_heights : Nat → Int) (i_hill_columns_weights : Nat → Int) (i_setsBy : Nat → Int) (b_i_hill_columns_many : 0 ≤ i_hill_columns_many ∧ i_hill_columns_many ≤ 12) (h_i_hill_columns_heights : zR i_hill_columns_heights 0 10) (h_i_hill_columns_weights : zR i_hill_columns_weights 0 30) (h_i_setsBy : zR i_setsBy 0 1000000000) : zok (f_Scales_weighAll i_hill_columns_many i_hill_columns_heights i_hill_columns_weights i_setsBy) (fun o => zR o 0 1000000000) := by
  unfold f_Scales_weighAll
  refine zk_d1 (s_Arrays_fill_n3601 _ _ (by omega) h_i_setsBy) (fun a1 hp => ?_)
  try dsimp only at hp
  have hpp0 := hp
  refine zk_sl 0 rfl (by decide) (by decide) (fun a2 h_a2 => ?_)
  have i_a2 : zR a2 0 1000000000 := by rw [h_a2]; exact zR_zu hpp0 (by decide) (by decide) (by omega)
  exact s_Scales_weighAll_19 _ _ _ (by omega) h_i_hill_columns_heights h_i_hill_columns_weights zfu _ _ _ (by omega) (by omega) i_a2 (by unfold zfu; omega)
set_option maxHeartbeats 4000000 in
theorem s_Scales_sets (x1 : Int) (i_hill_changes : Int) (i_hill_columns_many : Int) (i_hill_columns_heights : Nat → Int) (i_hill_columns_weights : Nat → Int) (i_version : Int) (i_setsBy : Nat → Int) (b_x1 : (-2147483648) ≤ x1 ∧ x1 ≤ 2147483647) (b_i_hill_columns_many : 0 ≤ i_hill_columns_many ∧ i_hill_columns_many ≤ 12) (h_i_hill_columns_heights : zR i_hill_columns_heights 0 10) (h_i_hill_columns_weights : zR i_hill_columns_weights 0 30) (h_i_setsBy : zR i_setsBy 0 1000000000) : zok (f_Scales_sets x1 i_hill_changes i_hill_columns_many i_hill_columns_heights i_hill_columns_weights i_version i_setsBy) (fun o => ((-1) ≤ o.1 ∧ o.1 ≤ 1000000000) ∧ zR o.2.2 0 1000000000) := by
  unfold f_Scales_sets
  refine zk_ifc (zci_ltr (by omega)) (fun hc => ?_) (fun hc => ?_)
  · refine zk_ret ?_
    try dsimp only
    exact ⟨by omega, h_i_setsBy⟩
  · refine zk_ifc (zci_le (by omega) (by omega)) (fun hc_2 => ?_) (fun hc_2 => ?_)
    · refine zk_if (fun hc_3 => ?_) (fun hc_3 => ?_)
      · refine zk_gv (by omega) (by decide) (fun v1 h_v1 => ?_)
        have r_v1 := h_i_setsBy (x1.toNat)
        refine zk_ret ?_
        try dsimp only
        exact ⟨by omega, h_i_setsBy⟩
      · refine zk_d1 (s_Scales_weighAll _ _ _ _ (by omega) h_i_hill_columns_heights h_i_hill_columns_weights h_i_setsBy) (fun a2 hp => ?_)
        try dsimp only at hp
        have hpp0 := hp
        refine zk_gv (by omega) (by decide) (fun v3 h_v3 => ?_)
        have r_v3 := hpp0 (x1.toNat)
        refine zk_ret ?_
        try dsimp only
        exact ⟨by omega, hpp0⟩
    · refine zk_ret ?_
      try dsimp only
      exact ⟨by omega, h_i_setsBy⟩
set_option maxHeartbeats 4000000 in
theorem s_HS_weighs (x1 : Int) (i_hill_changes : Int) (i_hill_columns_many : Int) (i_hill_columns_heights : Nat → Int) (i_hill_columns_weights : Nat → Int) (i_scales_version : Int) (i_scales_setsBy : Nat → Int) (b_x1 : (-2147483648) ≤ x1 ∧ x1 ≤ 2147483647) (b_i_hill_columns_many : 0 ≤ i_hill_columns_many ∧ i_hill_columns_many ≤ 12) (h_i_hill_columns_heights : zR i_hill_columns_heights 0 10) (h_i_hill_columns_weights : zR i_hill_columns_weights 0 30) (h_i_scales_setsBy : zR i_scales_setsBy 0 1000000000) : zok (f_HS_weighs x1 i_hill_changes i_hill_columns_many i_hill_columns_heights i_hill_columns_weights i_scales_version i_scales_setsBy) (fun o => ((-1) ≤ o.1 ∧ o.1 ≤ 1000000000) ∧ zR o.2.2 0 1000000000) := by
  unfold f_HS_weighs
  refine zk_d3 (s_Scales_sets _ _ _ _ _ _ _ (by omega) (by omega) h_i_hill_columns_heights h_i_hill_columns_weights h_i_scales_setsBy) (fun v1 v2 a3 hp => ?_)
  try dsimp only at hp
  obtain ⟨hpp0, hpp1⟩ := hp
  refine zk_ret ?_
  try dsimp only
  exact ⟨by omega, hpp1⟩
set_option maxHeartbeats 4000000 in
theorem s_HS_trips (x1 : Int) (x2 : Int) (i_hill_children : Int) (i_latestStatus : Int) (i_hill_changes : Int) (i_refusals : Nat → Int) (i_hill_trips : Nat → Int) (b_x1 : (-2147483648) ≤ x1 ∧ x1 ≤ 2147483647) (b_x2 : (-2147483648) ≤ x2 ∧ x2 ≤ 2147483647) (b_i_hill_children : 0 ≤ i_hill_children ∧ i_hill_children ≤ 6) (b_i_latestStatus : (-6) ≤ i_latestStatus ∧ i_latestStatus ≤ 0) (h_i_hill_trips : zR i_hill_trips 0 20) : zok (f_HS_trips x1 x2 i_hill_children i_latestStatus i_hill_changes i_refusals i_hill_trips) (fun o => ((-6) ≤ o.2.1 ∧ o.2.1 ≤ 0) ∧ zR o.2.2.2.2 0 20) := by
  unfold f_HS_trips
  refine zk_ifc (zci_ltr (by omega)) (fun hc => ?_) (fun hc => ?_)
  · unfold f_HS_trips_10
    refine zk_d3 (s_HS_refuse _ _ _ (by omega) (by omega)) (fun v1 v2 a3 hp => ?_)
    try dsimp only at hp
    obtain ⟨hpp0, hpp1, hpp2, hpp3⟩ := hp
    refine zk_ret ?_
    try dsimp only
    exact ⟨by omega, h_i_hill_trips⟩
  · refine zk_ifc (zci_le (by omega) (by omega)) (fun hc_2 => ?_) (fun hc_2 => ?_)
    · refine zk_d1 (s_Hill_hasChild _ _ (by omega) (by omega)) (fun v1_2 hp_2 => ?_)
      try dsimp only at hp_2
      obtain ⟨hp_2p0, hp_2p1⟩ := hp_2
      refine zk_ifc (zci_ner (by omega)) (fun hc_3 => ?_) (fun hc_3 => ?_)
      · refine zk_gv (by omega) (by decide) (fun v2_2 h_v2_2 => ?_)
        have r_v2_2 := h_i_hill_trips (x1.toNat)
        refine zk_sv (by omega) (by decide) (fun a3_2 h_a3_2 => ?_)
        have i_a3_2 : zR a3_2 0 20 := by rw [h_a3_2]; exact zR_zu h_i_hill_trips (by decide) (by decide) (by omega)
        refine zk_d3 (s_HS_accept _ _ _ (by omega)) (fun v4 v5 v6 hp_3 => ?_)
        try dsimp only at hp_3
        obtain ⟨hp_3p0, hp_3p1, hp_3p2, hp_3p3⟩ := hp_3
        refine zk_ret ?_
        try dsimp only
        exact ⟨by omega, i_a3_2⟩
      · refine zk_d3 (s_HS_refuse _ _ _ (by omega) (by omega)) (fun v7 v8 a9 hp_4 => ?_)
        try dsimp only at hp_4
        obtain ⟨hp_4p0, hp_4p1, hp_4p2, hp_4p3⟩ := hp_4
        refine zk_ret ?_
        try dsimp only
        exact ⟨by omega, h_i_hill_trips⟩
    · unfold f_HS_trips_10
      refine zk_d3 (s_HS_refuse _ _ _ (by omega) (by omega)) (fun v1_3 v2_3 a3_3 hp_5 => ?_)
      try dsimp only at hp_5
      obtain ⟨hp_5p0, hp_5p1, hp_5p2, hp_5p3⟩ := hp_5
      refine zk_ret ?_
      try dsimp only
      exact ⟨by omega, h_i_hill_trips⟩
set_option maxHeartbeats 4000000 in
theorem s_Scales_bestToWeigh_6 (i_sets : Int) (i_hill_children : Int) (i_setsWith : Nat → Int) (b_i_hill_children : 0 ≤ i_hill_children ∧ i_hill_children ≤ 6) : ∀ (n : Nat) (x1 : Int) (x2 : Int) (x3 : Int), ((-1) ≤ x1 ∧ x1 ≤ 5) → ((-2147483648) ≤ x2 ∧ x2 ≤ 2147483647) → (0 ≤ x3 ∧ x3 ≤ 6) → (7 - x3) < (n : Int) → zok (f_Scales_bestToWeigh_6 i_sets i_hill_children i_setsWith n x1 x2 x3) (fun o => ((-1) ≤ o ∧ o ≤ 5)) := by
  intro n
  induction n with
  | zero => intro x1 x2 x3 b_x1 b_x2 b_x3 hm; exfalso; omega
  | succ n ih =>
    intro x1 x2 x3 b_x1 b_x2 b_x3 hm
    show zok (f_Scales_bestToWeigh_6_b i_sets i_hill_children i_setsWith (f_Scales_bestToWeigh_6 i_sets i_hill_children i_setsWith n) x1 x2 x3) _
    unfold f_Scales_bestToWeigh_6_b
    refine zk_ifc (zci_le (by omega) (by omega)) (fun hc => ?_) (fun hc => ?_)
    · exact zk_ret (by omega)
    · refine zk_gv (by omega) (by decide) (fun v1 h_v1 => ?_)
      refine zk_gv (by omega) (by decide) (fun v2 h_v2 => ?_)
      refine zk_n ?_
      refine zk_nE (fun v4 h_v4 => ?_)
      have r_v4 := zi_max_i v1 (i_sets - v2); rw [← h_v4] at r_v4
      refine zk_ifc (zci_eq (by omega) (by omega)) (fun hc_2 => ?_) (fun hc_2 => ?_)
      · unfold f_Scales_bestToWeigh_50
        unfold f_Scales_bestToWeigh_55
        refine zk_n ?_
        exact ih _ _ _ (by omega) (by omega) (by omega) (by omega)
      · refine zk_ifc (zci_le (by omega) (by omega)) (fun hc_3 => ?_) (fun hc_3 => ?_)
        · unfold f_Scales_bestToWeigh_55
          refine zk_n ?_
          exact ih _ _ _ (by omega) (by omega) (by omega) (by omega)
        · unfold f_Scales_bestToWeigh_50
          unfold f_Scales_bestToWeigh_55
          refine zk_n ?_
          exact ih _ _ _ (by omega) (by omega) (by omega) (by omega)
set_option maxHeartbeats 4000000 in
theorem s_Scales_bestToWeigh (i_sets : Int) (i_hill_children : Int) (i_setsWith : Nat → Int) (b_i_hill_children : 0 ≤ i_hill_children ∧ i_hill_children ≤ 6) : zok (f_Scales_bestToWeigh i_sets i_hill_children i_setsWith) (fun o => ((-1) ≤ o ∧ o ≤ 5)) := by
  unfold f_Scales_bestToWeigh
  exact s_Scales_bestToWeigh_6 _ _ _ (by omega) zfu _ _ _ (by omega) (by omega) (by omega) (by unfold zfu; omega)
set_option maxHeartbeats 4000000 in
theorem s_Scales_finding (x1 : Int) (i_sets : Int) (i_lowest : Int) (i_inAll : Int) (i_inAny : Int) (i_hill_children : Int) (i_setsWith : Nat → Int) (b_x1 : (-2147483648) ≤ x1 ∧ x1 ≤ 2147483647) (b_i_lowest : (-1) ≤ i_lowest ∧ i_lowest ≤ 63) (b_i_inAll : 0 ≤ i_inAll ∧ i_inAll ≤ 63) (b_i_inAny : 0 ≤ i_inAny ∧ i_inAny ≤ 63) (b_i_hill_children : 0 ≤ i_hill_children ∧ i_hill_children ≤ 6) : zok (f_Scales_finding x1 i_sets i_lowest i_inAll i_inAny i_hill_children i_setsWith) (fun o => True) := by
  unfold f_Scales_finding
  refine zk_ifc (zci_ner (by omega)) (fun hc => ?_) (fun hc => ?_)
  · refine zk_if (fun hc_2 => ?_) (fun hc_2 => ?_)
    · refine zk_ifc (zci_eqr (by omega)) (fun hc_3 => ?_) (fun hc_3 => ?_)
      · exact zk_ret trivial
      · refine zk_ifc (zci_eqr (by omega)) (fun hc_4 => ?_) (fun hc_4 => ?_)
        · exact zk_ret trivial
        · refine zk_ifc (zci_eqr (by omega)) (fun hc_5 => ?_) (fun hc_5 => ?_)
          · refine zk_nE (fun v1 h_v1 => ?_)
            have r_v1 := zi_shl1 (y := i_hill_children) (by omega); rw [← h_v1] at r_v1
            refine zk_n ?_
            refine zk_nE (fun v3 h_v3 => ?_)
            have r_v3 := zi_xor_f i_inAny (-1); rw [← h_v3] at r_v3
            refine zk_nE (fun v4 h_v4 => ?_)
            have r_v4 := zi_and_f (v1 - 1) v3; rw [← h_v4] at r_v4
            exact zk_ret trivial
          · refine zk_ifc (zci_eqr (by omega)) (fun hc_6 => ?_) (fun hc_6 => ?_)
            · refine zk_d1 (s_Scales_bestToWeigh _ _ _ (by omega)) (fun v5 hp => ?_)
              try dsimp only at hp
              have hpp0 := hp
              exact zk_ret trivial
            · exact zk_ret trivial
    · exact zk_ret trivial
  · exact zk_ret trivial
set_option maxHeartbeats 4000000 in
theorem s_Scales_note_44 (i_hill_children : Int) (b_i_hill_children : 0 ≤ i_hill_children ∧ i_hill_children ≤ 6) : ∀ (n : Nat) (x1 : Int) (x2 : Int) (i_sets : Int) (i_lowest : Int) (i_inAll : Int) (i_inAny : Int) (i_setsWith : Nat → Int), (0 ≤ x1 ∧ x1 ≤ 63) → (0 ≤ x2 ∧ x2 ≤ 6) → ((-1) ≤ i_lowest ∧ i_lowest ≤ 63) → (0 ≤ i_inAll ∧ i_inAll ≤ 63) → (0 ≤ i_inAny ∧ i_inAny ≤ 63) → (7 - x2) < (n : Int) → zok (f_Scales_note_44 i_hill_children n x1 x2 i_sets i_lowest i_inAll i_inAny i_setsWith) (fun o => ((-1) ≤ o.2.1 ∧ o.2.1 ≤ 63) ∧ (0 ≤ o.2.2.1 ∧ o.2.2.1 ≤ 63) ∧ (0 ≤ o.2.2.2.1 ∧ o.2.2.2.1 ≤ 63)) := by
  intro n
  induction n with
  | zero => intro x1 x2 i_sets i_lowest i_inAll i_inAny i_setsWith b_x1 b_x2 b_i_lowest b_i_inAll b_i_inAny hm; exfalso; omega
  | succ n ih =>
    intro x1 x2 i_sets i_lowest i_inAll i_inAny i_setsWith b_x1 b_x2 b_i_lowest b_i_inAll b_i_inAny hm
    show zok (f_Scales_note_44_b i_hill_children (f_Scales_note_44 i_hill_children n) x1 x2 i_sets i_lowest i_inAll i_inAny i_setsWith) _
    unfold f_Scales_note_44_b
    refine zk_ifc (zci_le (by omega) (by omega)) (fun hc => ?_) (fun hc => ?_)
    · refine zk_ret ?_
      try dsimp only
      exact ⟨by omega, by omega, by omega⟩
    · refine zk_gv (by omega) (by decide) (fun v1 h_v1 => ?_)
      refine zk_nE (fun v2 h_v2 => ?_)
      have r_v2 := zi_shr_f x1 x2; rw [← h_v2] at r_v2
      refine zk_nE (fun v3 h_v3 => ?_)
      have r_v3 := zi_and_m v2 (m := 1) (by decide); rw [← h_v3] at r_v3
      refine zk_n ?_
      refine zk_sv (by omega) (by decide) (fun a5 h_a5 => ?_)
      refine zk_n ?_
      exact ih _ _ _ _ _ _ _ (by omega) (by omega) (by omega) (by omega) (by omega) (by omega)
set_option maxHeartbeats 4000000 in
theorem s_Scales_note (x1 : Int) (i_hill_children : Int) (i_sets : Int) (i_lowest : Int) (i_inAll : Int) (i_inAny : Int) (i_setsWith : Nat → Int) (b_x1 : 0 ≤ x1 ∧ x1 ≤ 63) (b_i_hill_children : 0 ≤ i_hill_children ∧ i_hill_children ≤ 6) (b_i_lowest : (-1) ≤ i_lowest ∧ i_lowest ≤ 63) (b_i_inAll : 0 ≤ i_inAll ∧ i_inAll ≤ 63) (b_i_inAny : 0 ≤ i_inAny ∧ i_inAny ≤ 63) : zok (f_Scales_note x1 i_hill_children i_sets i_lowest i_inAll i_inAny i_setsWith) (fun o => ((-1) ≤ o.2.1 ∧ o.2.1 ≤ 63) ∧ (0 ≤ o.2.2.1 ∧ o.2.2.1 ≤ 63) ∧ (0 ≤ o.2.2.2.1 ∧ o.2.2.2.1 ≤ 63)) := by
  unfold f_Scales_note
  refine zk_if (fun hc => ?_) (fun hc => ?_)
  · unfold f_Scales_note_12
    refine zk_n ?_
    refine zk_nE (fun v2 h_v2 => ?_)
    have r_v2 := zi_and_le i_inAll (m := x1) (by omega); rw [← h_v2] at r_v2
    refine zk_nE (fun v3 h_v3 => ?_)
    have r_v3 := zi_or6 (a := i_inAny) (b := x1) (by omega) (by omega); rw [← h_v3] at r_v3
    exact s_Scales_note_44 _ (by omega) zfu _ _ _ _ _ _ _ (by omega) (by omega) (by omega) (by omega) (by omega) (by unfold zfu; omega)
  · unfold f_Scales_note_12
    refine zk_n ?_
    refine zk_nE (fun v2_2 h_v2_2 => ?_)
    have r_v2_2 := zi_and_le i_inAll (m := x1) (by omega); rw [← h_v2_2] at r_v2_2
    refine zk_nE (fun v3_2 h_v3_2 => ?_)
    have r_v3_2 := zi_or6 (a := i_inAny) (b := x1) (by omega) (by omega); rw [← h_v3_2] at r_v3_2
    exact s_Scales_note_44 _ (by omega) zfu _ _ _ _ _ _ _ (by omega) (by omega) (by omega) (by omega) (by omega) (by unfold zfu; omega)
set_option maxHeartbeats 4000000 in
theorem s_Arrays_fill_n6_5   : ∀ (n : Nat) (x1 : Int) (x2 : Int) (x3 : Int) (i_a0 : Nat → Int), (0 ≤ x1 ∧ x1 ≤ 0) → (0 ≤ x2 ∧ x2 ≤ 6) → (6 ≤ x3 ∧ x3 ≤ 6) → (7 - x2) < (n : Int) → zok (f_Arrays_fill_n6_5  n x1 x2 x3 i_a0) (fun o => True) := by
  intro n
  induction n with
  | zero => intro x1 x2 x3 i_a0 b_x1 b_x2 b_x3 hm; exfalso; omega
  | succ n ih =>
    intro x1 x2 x3 i_a0 b_x1 b_x2 b_x3 hm
    show zok (f_Arrays_fill_n6_5_b  (f_Arrays_fill_n6_5  n) x1 x2 x3 i_a0) _
    unfold f_Arrays_fill_n6_5_b
    refine zk_ifc (zci_le (by omega) (by omega)) (fun hc => ?_) (fun hc => ?_)
    · exact zk_ret trivial
    · refine zk_sv (by omega) (by decide) (fun a1 h_a1 => ?_)
      refine zk_n ?_
      exact ih _ _ _ _ (by omega) (by omega) (by omega) (by omega)
set_option maxHeartbeats 4000000 in
theorem s_Arrays_fill_n6 (x1 : Int) (i_a0 : Nat → Int) (b_x1 : 0 ≤ x1 ∧ x1 ≤ 0) : zok (f_Arrays_fill_n6 x1 i_a0) (fun o => True) := by
  unfold f_Arrays_fill_n6
  exact s_Arrays_fill_n6_5 zfu _ _ _ _ (by omega) (by omega) (by omega) (by unfold zfu; omega)
set_option maxHeartbeats 4000000 in
theorem s_Scales_tripsOf_4 (i_hill_children : Int) (i_hill_trips : Nat → Int) (b_i_hill_children : 0 ≤ i_hill_children ∧ i_hill_children ≤ 6) (h_i_hill_trips : zR i_hill_trips 0 20) : ∀ (n : Nat) (x1 : Int) (x2 : Int) (x3 : Int), (0 ≤ x1 ∧ x1 ≤ 63) → (0 ≤ x3 ∧ x3 ≤ 6) → (7 - x3) < (n : Int) → zok (f_Scales_tripsOf_4 i_hill_children i_hill_trips n x1 x2 x3) (fun o => True) := by
  intro n
  induction n with
  | zero => intro x1 x2 x3 b_x1 b_x3 hm; exfalso; omega
  | succ n ih =>
    intro x1 x2 x3 b_x1 b_x3 hm
    show zok (f_Scales_tripsOf_4_b i_hill_children i_hill_trips (f_Scales_tripsOf_4 i_hill_children i_hill_trips n) x1 x2 x3) _
    unfold f_Scales_tripsOf_4_b
    refine zk_ifc (zci_le (by omega) (by omega)) (fun hc => ?_) (fun hc => ?_)
    · exact zk_ret trivial
    · refine zk_nE (fun v1 h_v1 => ?_)
      have r_v1 := zi_shr_f x1 x3; rw [← h_v1] at r_v1
      refine zk_nE (fun v2 h_v2 => ?_)
      have r_v2 := zi_and_m v1 (m := 1) (by decide); rw [← h_v2] at r_v2
      refine zk_gv (by omega) (by decide) (fun v3 h_v3 => ?_)
      have r_v3 := h_i_hill_trips (x3.toNat)
      refine zk_nE (fun v4 h_v4 => ?_)
      have r_v4 := zmulb (a := v2) (b := v3) 1 20 (by omega) (by omega); rw [← h_v4] at r_v4
      refine zk_n ?_
      refine zk_n ?_
      exact ih _ _ _ (by omega) (by omega) (by omega)
set_option maxHeartbeats 4000000 in
theorem s_Scales_tripsOf (x1 : Int) (i_hill_children : Int) (i_hill_trips : Nat → Int) (b_x1 : 0 ≤ x1 ∧ x1 ≤ 63) (b_i_hill_children : 0 ≤ i_hill_children ∧ i_hill_children ≤ 6) (h_i_hill_trips : zR i_hill_trips 0 20) : zok (f_Scales_tripsOf x1 i_hill_children i_hill_trips) (fun o => True) := by
  unfold f_Scales_tripsOf
  exact s_Scales_tripsOf_4 _ _ (by omega) h_i_hill_trips zfu _ _ _ (by omega) (by omega) (by unfold zfu; omega)
set_option maxHeartbeats 4000000 in
theorem s_Scales_suspect_43 (i_hill_children : Int) (i_hill_trips : Nat → Int) (b_i_hill_children : 0 ≤ i_hill_children ∧ i_hill_children ≤ 6) (h_i_hill_trips : zR i_hill_trips 0 20) : ∀ (n : Nat) (x1 : Int) (x2 : Int) (x3 : Int) (x4 : Int) (i_sets : Int) (i_lowest : Int) (i_inAll : Int) (i_inAny : Int) (i_setsWith : Nat → Int), (1 ≤ x1 ∧ x1 ≤ 9) → (0 ≤ x2 ∧ x2 ≤ 999) → (0 ≤ x3 ∧ x3 ≤ 63) → (0 ≤ x4 ∧ x4 ≤ 64) → ((-1) ≤ i_lowest ∧ i_lowest ≤ 63) → (0 ≤ i_inAll ∧ i_inAll ≤ 63) → (0 ≤ i_inAny ∧ i_inAny ≤ 63) → (65 - x4) < (n : Int) → zok (f_Scales_suspect_43 i_hill_children i_hill_trips n x1 x2 x3 x4 i_sets i_lowest i_inAll i_inAny i_setsWith) (fun o => ((-1) ≤ o.2.1 ∧ o.2.1 ≤ 63) ∧ (0 ≤ o.2.2.1 ∧ o.2.2.1 ≤ 63) ∧ (0 ≤ o.2.2.2.1 ∧ o.2.2.2.1 ≤ 63)) := by
  intro n
  induction n with
  | zero => intro x1 x2 x3 x4 i_sets i_lowest i_inAll i_inAny i_setsWith b_x1 b_x2 b_x3 b_x4 b_i_lowest b_i_inAll b_i_inAny hm; exfalso; omega
  | succ n ih =>
    intro x1 x2 x3 x4 i_sets i_lowest i_inAll i_inAny i_setsWith b_x1 b_x2 b_x3 b_x4 b_i_lowest b_i_inAll b_i_inAny hm
    show zok (f_Scales_suspect_43_b i_hill_children i_hill_trips (f_Scales_suspect_43 i_hill_children i_hill_trips n) x1 x2 x3 x4 i_sets i_lowest i_inAll i_inAny i_setsWith) _
    unfold f_Scales_suspect_43_b
    refine zk_ifc (zci_lt (by omega) (by omega)) (fun hc => ?_) (fun hc => ?_)
    · refine zk_ret ?_
      try dsimp only
      exact ⟨by omega, by omega, by omega⟩
    · refine zk_d1 (s_Scales_tripsOf _ _ _ (by omega) (by omega) h_i_hill_trips) (fun v1 hp => ?_)
      refine zk_nE (fun v2 h_v2 => ?_)
      refine zk_if (fun hc_2 => ?_) (fun hc_2 => ?_)
      · unfold f_Scales_suspect_67
        refine zk_n ?_
        exact ih _ _ _ _ _ _ _ _ _ (by omega) (by omega) (by omega) (by omega) (by omega) (by omega) (by omega) (by omega)
      · refine zk_d5 (s_Scales_note _ _ _ _ _ _ _ (by omega) (by omega) (by omega) (by omega) (by omega)) (fun v3 v4 v5 v6 a7 hp_2 => ?_)
        try dsimp only at hp_2
        obtain ⟨hp_2p0, hp_2p1, hp_2p2⟩ := hp_2
        unfold f_Scales_suspect_67
        refine zk_n ?_
        exact ih _ _ _ _ _ _ _ _ _ (by omega) (by omega) (by omega) (by omega) (by omega) (by omega) (by omega) (by omega)
set_option maxHeartbeats 4000000 in
theorem s_Scales_suspect (x1 : Int) (x2 : Int) (i_hill_children : Int) (i_hill_trips : Nat → Int) (i_sets : Int) (i_lowest : Int) (i_inAll : Int) (i_inAny : Int) (i_setsWith : Nat → Int) (b_x1 : 1 ≤ x1 ∧ x1 ≤ 9) (b_x2 : 0 ≤ x2 ∧ x2 ≤ 999) (b_i_hill_children : 0 ≤ i_hill_children ∧ i_hill_children ≤ 6) (h_i_hill_trips : zR i_hill_trips 0 20) (b_i_lowest : (-1) ≤ i_lowest ∧ i_lowest ≤ 63) (b_i_inAll : 0 ≤ i_inAll ∧ i_inAll ≤ 63) (b_i_inAny : 0 ≤ i_inAny ∧ i_inAny ≤ 63) : zok (f_Scales_suspect x1 x2 i_hill_children i_hill_trips i_sets i_lowest i_inAll i_inAny i_setsWith) (fun o => ((-1) ≤ o.2.1 ∧ o.2.1 ≤ 63) ∧ (0 ≤ o.2.2.1 ∧ o.2.2.1 ≤ 63) ∧ (0 ≤ o.2.2.2.1 ∧ o.2.2.2.1 ≤ 63)) := by
  unfold f_Scales_suspect
  refine zk_nE (fun v1 h_v1 => ?_)
  have r_v1 := zi_shl1 (y := i_hill_children) (by omega); rw [← h_v1] at r_v1
  refine zk_n ?_
  refine zk_d1 (s_Arrays_fill_n6 _ _ (by omega)) (fun a3 hp => ?_)
  exact s_Scales_suspect_43 _ _ (by omega) h_i_hill_trips zfu _ _ _ _ _ _ _ _ _ (by omega) (by omega) (by omega) (by omega) (by omega) (by omega) (by omega) (by unfold zfu; omega)
set_option maxHeartbeats 4000000 in
theorem s_HS_culprits (x1 : Int) (x2 : Int) (x3 : Int) (i_hill_children : Int) (i_hill_trips : Nat → Int) (i_scales_sets : Int) (i_scales_lowest : Int) (i_scales_inAll : Int) (i_scales_inAny : Int) (i_scales_setsWith : Nat → Int) (b_x1 : (-2147483648) ≤ x1 ∧ x1 ≤ 2147483647) (b_x2 : (-2147483648) ≤ x2 ∧ x2 ≤ 2147483647) (b_x3 : (-2147483648) ≤ x3 ∧ x3 ≤ 2147483647) (b_i_hill_children : 0 ≤ i_hill_children ∧ i_hill_children ≤ 6) (h_i_hill_trips : zR i_hill_trips 0 20) (b_i_scales_lowest : (-1) ≤ i_scales_lowest ∧ i_scales_lowest ≤ 63) (b_i_scales_inAll : 0 ≤ i_scales_inAll ∧ i_scales_inAll ≤ 63) (b_i_scales_inAny : 0 ≤ i_scales_inAny ∧ i_scales_inAny ≤ 63) : zok (f_HS_culprits x1 x2 x3 i_hill_children i_hill_trips i_scales_sets i_scales_lowest i_scales_inAll i_scales_inAny i_scales_setsWith) (fun o => ((-1) ≤ o.2.2.1 ∧ o.2.2.1 ≤ 63) ∧ (0 ≤ o.2.2.2.1 ∧ o.2.2.2.1 ≤ 63) ∧ (0 ≤ o.2.2.2.2.1 ∧ o.2.2.2.2.1 ≤ 63)) := by
  unfold f_HS_culprits
  refine zk_ifc (zci_lt (by omega) (by omega)) (fun hc => ?_) (fun hc => ?_)
  · refine zk_ret ?_
    try dsimp only
    exact ⟨by omega, by omega, by omega⟩
  · refine zk_ifc (zci_lt (by omega) (by omega)) (fun hc_2 => ?_) (fun hc_2 => ?_)
    · refine zk_ret ?_
      try dsimp only
      exact ⟨by omega, by omega, by omega⟩
    · refine zk_ifc (zci_ltr (by omega)) (fun hc_3 => ?_) (fun hc_3 => ?_)
      · refine zk_ret ?_
        try dsimp only
        exact ⟨by omega, by omega, by omega⟩
      · refine zk_ifc (zci_le (by omega) (by omega)) (fun hc_4 => ?_) (fun hc_4 => ?_)
        · refine zk_d5 (s_Scales_suspect _ _ _ _ _ _ _ _ _ (by omega) (by omega) (by omega) h_i_hill_trips (by omega) (by omega) (by omega)) (fun v1 v2 v3 v4 a5 hp => ?_)
          try dsimp only at hp
          obtain ⟨hpp0, hpp1, hpp2⟩ := hp
          refine zk_d1 (s_Scales_finding _ _ _ _ _ _ _ (by omega) (by omega) (by omega) (by omega) (by omega)) (fun v6 hp_2 => ?_)
          refine zk_ret ?_
          try dsimp only
          exact ⟨by omega, by omega, by omega⟩
        · refine zk_ret ?_
          try dsimp only
          exact ⟨by omega, by omega, by omega⟩
end
section
set_option maxHeartbeats 4000000 in
theorem s_Columns_become (i_a1_many : Int) (i_a1_heights : Nat → Int) (i_a1_weights : Nat → Int) (i_many : Int) (i_heights : Nat → Int) (i_weights : Nat → Int) (b_i_a1_many : 0 ≤ i_a1_many ∧ i_a1_many ≤ 12) (h_i_a1_heights : zR i_a1_heights 0 10) (h_i_a1_weights : zR i_a1_weights 0 30) (b_i_many : 0 ≤ i_many ∧ i_many ≤ 12) (h_i_heights : zR i_heights 0 10) (h_i_weights : zR i_weights 0 30) : zok (f_Columns_become i_a1_many i_a1_heights i_a1_weights i_many i_heights i_weights) (fun o => (0 ≤ o.1 ∧ o.1 ≤ 12) ∧ zR o.2.1 0 10 ∧ zR o.2.2 0 30) := by
  unfold f_Columns_become
  refine zk_cp (by omega) (fun a1 h_a1 => ?_)
  have i_a1 : zR a1 0 10 := by rw [h_a1]; exact zR_cp h_i_a1_heights h_i_heights
  refine zk_cp (by omega) (fun a2 h_a2 => ?_)
  have i_a2 : zR a2 0 30 := by rw [h_a2]; exact zR_cp h_i_a1_weights h_i_weights
  refine zk_ret ?_
  try dsimp only
  exact ⟨by omega, i_a1, i_a2⟩
set_option maxHeartbeats 4000000 in
theorem s_Schools_shadesBehind_55 (r_Schools_shadesBehind : Int → Int → Int → Int → Int → Int → Int → Int → (Nat → Int) → (Nat → Int) → (Nat → Int) → (Nat → Int) → (Nat → Int) → (Nat → Int) → (Nat → Int) → (Nat → Int) → Int → Int → Int → (Nat → Int) → (Nat → Int) → (Nat → Int) → (Nat → Int) → (Nat → Int) → Option (Int × (Nat → Int) × (Nat → Int) × Int × Int × Int × (Nat → Int) × (Nat → Int) × (Nat → Int) × (Nat → Int) × (Nat → Int))) (r_Schools_shadesCarried : Int → Int → Int → Int → Int → Int → Int → Int → Int → Int → (Nat → Int) → (Nat → Int) → (Nat → Int) → (Nat → Int) → (Nat → Int) → (Nat → Int) → (Nat → Int) → (Nat → Int) → Int → Int → Int → (Nat → Int) → (Nat → Int) → (Nat → Int) → (Nat → Int) → (Nat → Int) → Option (Int × (Nat → Int) × (Nat → Int) × Int × Int × Int × (Nat → Int) × (Nat → Int) × (Nat → Int) × (Nat → Int) × (Nat → Int))) (Nr : Nat) (hr_Schools_shadesBehind : ∀ (x1 : Int) (x2 : Int) (i_hill_children : Int) (i_hill_parishes : Int) (i_hill_laws : Int) (i_hill_inForce : Int) (i_hill_changes : Int) (i_columns_many : Int) (i_hill_strengths : Nat → Int) (i_hill_expelled : Nat → Int) (i_hill_places : Nat → Int) (i_hill_terms : Nat → Int) (i_hill_orders : Nat → Int) (i_hill_ordered : Nat → Int) (i_from : Nat → Int) (i_to : Nat → Int) (i_carriers_judge_piled : Int) (i_carriers_judge_tiring : Int) (i_carriers_judge_barred : Int) (i_carriers_notes : Nat → Int) (i_columns_heights : Nat → Int) (i_columns_weights : Nat → Int) (i_carriers_judge_words : Nat → Int) (i_carriers_judge_pile : Nat → Int), (0 ≤ x1 ∧ x1 ≤ 4) → (0 ≤ x2 ∧ x2 ≤ 1) → (0 ≤ i_hill_children ∧ i_hill_children ≤ 6) → (0 ≤ i_hill_parishes ∧ i_hill_parishes ≤ 6) → (0 ≤ i_hill_laws ∧ i_hill_laws ≤ 6) → ((-1) ≤ i_hill_inForce ∧ i_hill_inForce ≤ 5) → (0 ≤ i_columns_many ∧ i_columns_many ≤ 12) → (zR i_hill_strengths 0 60) → (zR i_hill_expelled 0 1) → (zR i_hill_places 0 11) → (zR i_hill_terms 0 99) → (zR i_hill_orders (-2147483648) 2147483647) → (zR i_hill_ordered 0 424) → (zR i_from (-1) 11) → (zR i_to (-1) 11) → (0 ≤ i_carriers_judge_piled ∧ i_carriers_judge_piled ≤ 32) → (0 ≤ i_carriers_judge_tiring ∧ i_carriers_judge_tiring ≤ 2147483647) → (0 ≤ i_carriers_judge_barred ∧ i_carriers_judge_barred ≤ 1) → (zR i_carriers_notes (-2147483648) 2147483647) → (zR i_columns_heights 0 10) → (zR i_columns_weights 0 30) → (zR i_carriers_judge_words 0 99) → (2 * x1 + 1) < (Nr : Int) → zok (r_Schools_shadesBehind x1 x2 i_hill_children i_hill_parishes i_hill_laws i_hill_inForce i_hill_changes i_columns_many i_hill_strengths i_hill_expelled i_hill_places i_hill_terms i_hill_orders i_hill_ordered i_from i_to i_carriers_judge_piled i_carriers_judge_tiring i_carriers_judge_barred i_carriers_notes i_columns_heights i_columns_weights i_carriers_judge_words i_carriers_judge_pile) (fun o => (0 ≤ o.2.2.2.1 ∧ o.2.2.2.1 ≤ 32) ∧ (0 ≤ o.2.2.2.2.1 ∧ o.2.2.2.2.1 ≤ 2147483647) ∧ (0 ≤ o.2.2.2.2.2.1 ∧ o.2.2.2.2.2.1 ≤ 1) ∧ zR o.2.1 (-1) 11 ∧ zR o.2.2.1 (-1) 11 ∧ zR o.2.2.2.2.2.2.1 (-2147483648) 2147483647 ∧ zR o.2.2.2.2.2.2.2.1 0 10 ∧ zR o.2.2.2.2.2.2.2.2.1 0 30 ∧ zR o.2.2.2.2.2.2.2.2.2.1 0 99)) (hr_Schools_shadesCarried : ∀ (x1 : Int) (x2 : Int) (x3 : Int) (x4 : Int) (i_hill_children : Int) (i_hill_parishes : Int) (i_hill_laws : Int) (i_hill_inForce : Int) (i_hill_changes : Int) (i_columns_many : Int) (i_hill_strengths : Nat → Int) (i_hill_expelled : Nat → Int) (i_hill_places : Nat → Int) (i_hill_terms : Nat → Int) (i_hill_orders : Nat → Int) (i_hill_ordered : Nat → Int) (i_from : Nat → Int) (i_to : Nat → Int) (i_carriers_judge_piled : Int) (i_carriers_judge_tiring : Int) (i_carriers_judge_barred : Int) (i_carriers_notes : Nat → Int) (i_columns_heights : Nat → Int) (i_columns_weights : Nat → Int) (i_carriers_judge_words : Nat → Int) (i_carriers_judge_pile : Nat → Int), (1 ≤ x1 ∧ x1 ≤ 4) → (0 ≤ x2 ∧ x2 ≤ 1) → (0 ≤ x3 ∧ x3 ≤ 11) → (0 ≤ x4 ∧ x4 ≤ 11) → (0 ≤ i_hill_children ∧ i_hill_children ≤ 6) → (0 ≤ i_hill_parishes ∧ i_hill_parishes ≤ 6) → (0 ≤ i_hill_laws ∧ i_hill_laws ≤ 6) → ((-1) ≤ i_hill_inForce ∧ i_hill_inForce ≤ 5) → (1 ≤ i_columns_many ∧ i_columns_many ≤ 12) → (zR i_hill_strengths 0 60) → (zR i_hill_expelled 0 1) → (zR i_hill_places 0 11) → (zR i_hill_terms 0 99) → (zR i_hill_orders (-2147483648) 2147483647) → (zR i_hill_ordered 0 424) → (zR i_from (-1) 11) → (zR i_to (-1) 11) → (0 ≤ i_carriers_judge_piled ∧ i_carriers_judge_piled ≤ 32) → (0 ≤ i_carriers_judge_tiring ∧ i_carriers_judge_tiring ≤ 2147483647) → (0 ≤ i_carriers_judge_barred ∧ i_carriers_judge_barred ≤ 1) → (zR i_carriers_notes (-2147483648) 2147483647) → (zR i_columns_heights 0 10) → (zR i_columns_weights 0 30) → (zR i_carriers_judge_words 0 99) → (2 * x1) < (Nr : Int) → zok (r_Schools_shadesCarried x1 x2 x3 x4 i_hill_children i_hill_parishes i_hill_laws i_hill_inForce i_hill_changes i_columns_many i_hill_strengths i_hill_expelled i_hill_places i_hill_terms i_hill_orders i_hill_ordered i_from i_to i_carriers_judge_piled i_carriers_judge_tiring i_carriers_judge_barred i_carriers_notes i_columns_heights i_columns_weights i_carriers_judge_words i_carriers_judge_pile) (fun o => (0 ≤ o.2.2.2.1 ∧ o.2.2.2.1 ≤ 32) ∧ (0 ≤ o.2.2.2.2.1 ∧ o.2.2.2.2.1 ≤ 2147483647) ∧ (0 ≤ o.2.2.2.2.2.1 ∧ o.2.2.2.2.2.1 ≤ 1) ∧ zR o.2.1 (-1) 11 ∧ zR o.2.2.1 (-1) 11 ∧ zR o.2.2.2.2.2.2.1 (-2147483648) 2147483647 ∧ zR o.2.2.2.2.2.2.2.1 0 10 ∧ zR o.2.2.2.2.2.2.2.2.1 0 30 ∧ zR o.2.2.2.2.2.2.2.2.2.1 0 99)) (i_hill_children : Int) (i_hill_parishes : Int) (i_hill_laws : Int) (i_hill_inForce : Int) (i_hill_changes : Int) (i_columns_many : Int) (i_hill_strengths : Nat → Int) (i_hill_expelled : Nat → Int) (i_hill_places : Nat → Int) (i_hill_terms : Nat → Int) (i_hill_orders : Nat → Int) (i_hill_ordered : Nat → Int) (k40 : Int → Int → Int → Int → (Nat → Int) → (Nat → Int) → Int → Int → Int → (Nat → Int) → (Nat → Int) → (Nat → Int) → (Nat → Int) → (Nat → Int) → Option (Int × (Nat → Int) × (Nat → Int) × Int × Int × Int × (Nat → Int) × (Nat → Int) × (Nat → Int) × (Nat → Int) × (Nat → Int))) (Nk40 : Nat) (hk40 : ∀ (x1 : Int) (x2 : Int) (x3 : Int) (x4 : Int) (i_from : Nat → Int) (i_to : Nat → Int) (i_carriers_judge_piled : Int) (i_carriers_judge_tiring : Int) (i_carriers_judge_barred : Int) (i_carriers_notes : Nat → Int) (i_columns_heights : Nat → Int) (i_columns_weights : Nat → Int) (i_carriers_judge_words : Nat → Int) (i_carriers_judge_pile : Nat → Int), (1 ≤ x1 ∧ x1 ≤ 4) → (0 ≤ x2 ∧ x2 ≤ 1) → (0 ≤ x4 ∧ x4 ≤ 12) → (zR i_from (-1) 11) → (zR i_to (-1) 11) → (0 ≤ i_carriers_judge_piled ∧ i_carriers_judge_piled ≤ 32) → (0 ≤ i_carriers_judge_tiring ∧ i_carriers_judge_tiring ≤ 2147483647) → (0 ≤ i_carriers_judge_barred ∧ i_carriers_judge_barred ≤ 1) → (zR i_carriers_notes (-2147483648) 2147483647) → (zR i_columns_heights 0 10) → (zR i_columns_weights 0 30) → (zR i_carriers_judge_words 0 99) → (2 * x1 + 1 < (Nr : Int) + 1) → (13 - x4) < (Nk40 : Int) → zok (k40 x1 x2 x3 x4 i_from i_to i_carriers_judge_piled i_carriers_judge_tiring i_carriers_judge_barred i_carriers_notes i_columns_heights i_columns_weights i_carriers_judge_words i_carriers_judge_pile) (fun o => (0 ≤ o.2.2.2.1 ∧ o.2.2.2.1 ≤ 32) ∧ (0 ≤ o.2.2.2.2.1 ∧ o.2.2.2.2.1 ≤ 2147483647) ∧ (0 ≤ o.2.2.2.2.2.1 ∧ o.2.2.2.2.2.1 ≤ 1) ∧ zR o.2.1 (-1) 11 ∧ zR o.2.2.1 (-1) 11 ∧ zR o.2.2.2.2.2.2.1 (-2147483648) 2147483647 ∧ zR o.2.2.2.2.2.2.2.1 0 10 ∧ zR o.2.2.2.2.2.2.2.2.1 0 30 ∧ zR o.2.2.2.2.2.2.2.2.2.1 0 99)) (b_i_hill_children : 0 ≤ i_hill_children ∧ i_hill_children ≤ 6) (b_i_hill_parishes : 0 ≤ i_hill_parishes ∧ i_hill_parishes ≤ 6) (b_i_hill_laws : 0 ≤ i_hill_laws ∧ i_hill_laws ≤ 6) (b_i_hill_inForce : (-1) ≤ i_hill_inForce ∧ i_hill_inForce ≤ 5) (b_i_columns_many : 1 ≤ i_columns_many ∧ i_columns_many ≤ 12) (h_i_hill_strengths : zR i_hill_strengths 0 60) (h_i_hill_expelled : zR i_hill_expelled 0 1) (h_i_hill_places : zR i_hill_places 0 11) (h_i_hill_terms : zR i_hill_terms 0 99) (h_i_hill_orders : zR i_hill_orders (-2147483648) 2147483647) (h_i_hill_ordered : zR i_hill_ordered 0 424) : ∀ (n : Nat) (x1 : Int) (x2 : Int) (x3 : Int) (x4 : Int) (x5 : Int) (i_from : Nat → Int) (i_to : Nat → Int) (i_carriers_judge_piled : Int) (i_carriers_judge_tiring : Int) (i_carriers_judge_barred : Int) (i_carriers_notes : Nat → Int) (i_columns_heights : Nat → Int) (i_columns_weights : Nat → Int) (i_carriers_judge_words : Nat → Int) (i_carriers_judge_pile : Nat → Int), (1 ≤ x1 ∧ x1 ≤ 4) → (0 ≤ x2 ∧ x2 ≤ 1) → (0 ≤ x4 ∧ x4 ≤ 11) → (0 ≤ x5 ∧ x5 ≤ 12) → (zR i_from (-1) 11) → (zR i_to (-1) 11) → (0 ≤ i_carriers_judge_piled ∧ i_carriers_judge_piled ≤ 32) → (0 ≤ i_carriers_judge_tiring ∧ i_carriers_judge_tiring ≤ 2147483647) → (0 ≤ i_carriers_judge_barred ∧ i_carriers_judge_barred ≤ 1) → (zR i_carriers_notes (-2147483648) 2147483647) → (zR i_columns_heights 0 10) → (zR i_columns_weights 0 30) → (zR i_carriers_judge_words 0 99) → (2 * x1 + 1 < (Nr : Int) + 1) → (13 - x4) < (Nk40 : Int) + 1 → (13 - x5) < (n : Int) → zok (f_Schools_shadesBehind_55 r_Schools_shadesBehind r_Schools_shadesCarried i_hill_children i_hill_parishes i_hill_laws i_hill_inForce i_hill_changes i_columns_many i_hill_strengths i_hill_expelled i_hill_places i_hill_terms i_hill_orders i_hill_ordered k40 n x1 x2 x3 x4 x5 i_from i_to i_carriers_judge_piled i_carriers_judge_tiring i_carriers_judge_barred i_carriers_notes i_columns_heights i_columns_weights i_carriers_judge_words i_carriers_judge_pile) (fun o => (0 ≤ o.2.2.2.1 ∧ o.2.2.2.1 ≤ 32) ∧ (0 ≤ o.2.2.2.2.1 ∧ o.2.2.2.2.1 ≤ 2147483647) ∧ (0 ≤ o.2.2.2.2.2.1 ∧ o.2.2.2.2.2.1 ≤ 1) ∧ zR o.2.1 (-1) 11 ∧ zR o.2.2.1 (-1) 11 ∧ zR o.2.2.2.2.2.2.1 (-2147483648) 2147483647 ∧ zR o.2.2.2.2.2.2.2.1 0 10 ∧ zR o.2.2.2.2.2.2.2.2.1 0 30 ∧ zR o.2.2.2.2.2.2.2.2.2.1 0 99) := by
  intro n
  induction n with
  | zero => intro x1 x2 x3 x4 x5 i_from i_to i_carriers_judge_piled i_carriers_judge_tiring i_carriers_judge_barred i_carriers_notes i_columns_heights i_columns_weights i_carriers_judge_words i_carriers_judge_pile b_x1 b_x2 b_x4 b_x5 h_i_from h_i_to b_i_carriers_judge_piled b_i_carriers_judge_tiring b_i_carriers_judge_barred h_i_carriers_notes h_i_columns_heights h_i_columns_weights h_i_carriers_judge_words p_0 mk40 hm; exfalso; omega
  | succ n ih =>
    intro x1 x2 x3 x4 x5 i_from i_to i_carriers_judge_piled i_carriers_judge_tiring i_carriers_judge_barred i_carriers_notes i_columns_heights i_columns_weights i_carriers_judge_words i_carriers_judge_pile b_x1 b_x2 b_x4 b_x5 h_i_from h_i_to b_i_carriers_judge_piled b_i_carriers_judge_tiring b_i_carriers_judge_barred h_i_carriers_notes h_i_columns_heights h_i_columns_weights h_i_carriers_judge_words p_0 mk40 hm
    show zok (f_Schools_shadesBehind_55_b r_Schools_shadesBehind r_Schools_shadesCarried i_hill_children i_hill_parishes i_hill_laws i_hill_inForce i_hill_changes i_columns_many i_hill_strengths i_hill_expelled i_hill_places i_hill_terms i_hill_orders i_hill_ordered k40 (f_Schools_shadesBehind_55 r_Schools_shadesBehind r_Schools_shadesCarried i_hill_children i_hill_parishes i_hill_laws i_hill_inForce i_hill_changes i_columns_many i_hill_strengths i_hill_expelled i_hill_places i_hill_terms i_hill_orders i_hill_ordered k40 n) x1 x2 x3 x4 x5 i_from i_to i_carriers_judge_piled i_carriers_judge_tiring i_carriers_judge_barred i_carriers_notes i_columns_heights i_columns_weights i_carriers_judge_words i_carriers_judge_pile) _
    unfold f_Schools_shadesBehind_55_b
    refine zk_ifc (zci_le (by omega) (by omega)) (fun hc => ?_) (fun hc => ?_)
    · refine zk_n ?_
      exact hk40 _ _ _ _ _ _ _ _ _ _ _ _ _ _ (by omega) (by omega) (by omega) h_i_from h_i_to (by omega) (by omega) (by omega) h_i_carriers_notes h_i_columns_heights h_i_columns_weights h_i_carriers_judge_words (by omega) (by omega)
    · refine zk_d1 (s_Columns_top _ _ _ _ (by omega) (by omega) h_i_columns_heights h_i_columns_weights) (fun v2 hp => ?_)
      try dsimp only at hp
      have hpp0 := hp
      refine zk_d1 (s_Columns_high _ _ _ (by omega) (by omega) h_i_columns_heights) (fun v3 hp_2 => ?_)
      try dsimp only at hp_2
      obtain ⟨hp_2p0, hp_2p1⟩ := hp_2
      refine zk_d1 (s_Columns_high _ _ _ (by omega) (by omega) h_i_columns_heights) (fun v4 hp_3 => ?_)
      try dsimp only at hp_3
      obtain ⟨hp_3p0, hp_3p1⟩ := hp_3
      refine zk_d7 (s_Carriers_note _ _ _ _ _ _ _ _ _ _ _ _ _ _ _ _ _ _ _ _ (by omega) (by omega) (by omega) (by omega) (by omega) (by omega) (by omega) (by omega) h_i_hill_strengths h_i_hill_expelled h_i_hill_terms h_i_hill_orders h_i_hill_ordered (by omega) (by omega) (by omega) h_i_carriers_notes h_i_carriers_judge_words) (fun v5 v6 v7 v8 a9 a10 a11 hp_4 => ?_)
      try dsimp only at hp_4
      obtain ⟨hp_4p0, hp_4p1, hp_4p2, hp_4p3, hp_4p4, hp_4p5⟩ := hp_4
      refine zk_ifc (zci_ne (by omega) (by omega)) (fun hc_2 => ?_) (fun hc_2 => ?_)
      · refine zk_d11 (hr_Schools_shadesCarried _ _ _ _ _ _ _ _ _ _ _ _ _ _ _ _ _ _ _ _ _ _ _ _ _ _ (by omega) (by omega) (by omega) (by omega) (by omega) (by omega) (by omega) (by omega) (by omega) h_i_hill_strengths h_i_hill_expelled h_i_hill_places h_i_hill_terms h_i_hill_orders h_i_hill_ordered h_i_from h_i_to (by omega) (by omega) (by omega) hp_4p4 h_i_columns_heights h_i_columns_weights hp_4p5 (by omega)) (fun v12 a13 a14 v15 v16 v17 a18 a19 a20 a21 a22 hp_5 => ?_)
        try dsimp only at hp_5
        obtain ⟨hp_5p0, hp_5p1, hp_5p2, hp_5p3, hp_5p4, hp_5p5, hp_5p6, hp_5p7, hp_5p8⟩ := hp_5
        refine zk_if (fun hc_3 => ?_) (fun hc_3 => ?_)
        · unfold f_Schools_shadesBehind_148
          refine zk_sv (by omega) (by decide) (fun a1 h_a1 => ?_)
          have i_a1 : zR a1 (-1) 11 := by rw [h_a1]; exact zR_zu hp_5p3 (by decide) (by decide) (by omega)
          refine zk_sv (by omega) (by decide) (fun a2 h_a2 => ?_)
          have i_a2 : zR a2 (-1) 11 := by rw [h_a2]; exact zR_zu hp_5p4 (by decide) (by decide) (by omega)
          unfold f_Schools_shadesBehind_167
          refine zk_n ?_
          exact ih _ _ _ _ _ _ _ _ _ _ _ _ _ _ _ (by omega) (by omega) (by omega) (by omega) i_a1 i_a2 (by omega) (by omega) (by omega) hp_5p5 hp_5p6 hp_5p7 hp_5p8 (by omega) (by omega) (by omega)
        · refine zk_ifc (zci_ner (by omega)) (fun hc_4 => ?_) (fun hc_4 => ?_)
          · refine zk_if (fun hc_5 => ?_) (fun hc_5 => ?_)
            · unfold f_Schools_shadesBehind_167
              refine zk_n ?_
              exact ih _ _ _ _ _ _ _ _ _ _ _ _ _ _ _ (by omega) (by omega) (by omega) (by omega) hp_5p3 hp_5p4 (by omega) (by omega) (by omega) hp_5p5 hp_5p6 hp_5p7 hp_5p8 (by omega) (by omega) (by omega)
            · unfold f_Schools_shadesBehind_148
              refine zk_sv (by omega) (by decide) (fun a1_2 h_a1_2 => ?_)
              have i_a1_2 : zR a1_2 (-1) 11 := by rw [h_a1_2]; exact zR_zu hp_5p3 (by decide) (by decide) (by omega)
              refine zk_sv (by omega) (by decide) (fun a2_2 h_a2_2 => ?_)
              have i_a2_2 : zR a2_2 (-1) 11 := by rw [h_a2_2]; exact zR_zu hp_5p4 (by decide) (by decide) (by omega)
              unfold f_Schools_shadesBehind_167
              refine zk_n ?_
              exact ih _ _ _ _ _ _ _ _ _ _ _ _ _ _ _ (by omega) (by omega) (by omega) (by omega) i_a1_2 i_a2_2 (by omega) (by omega) (by omega) hp_5p5 hp_5p6 hp_5p7 hp_5p8 (by omega) (by omega) (by omega)
          · refine zk_if (fun hc_6 => ?_) (fun hc_6 => ?_)
            · unfold f_Schools_shadesBehind_167
              refine zk_n ?_
              exact ih _ _ _ _ _ _ _ _ _ _ _ _ _ _ _ (by omega) (by omega) (by omega) (by omega) hp_5p3 hp_5p4 (by omega) (by omega) (by omega) hp_5p5 hp_5p6 hp_5p7 hp_5p8 (by omega) (by omega) (by omega)
            · unfold f_Schools_shadesBehind_148
              refine zk_sv (by omega) (by decide) (fun a1_3 h_a1_3 => ?_)
              have i_a1_3 : zR a1_3 (-1) 11 := by rw [h_a1_3]; exact zR_zu hp_5p3 (by decide) (by decide) (by omega)
              refine zk_sv (by omega) (by decide) (fun a2_3 h_a2_3 => ?_)
              have i_a2_3 : zR a2_3 (-1) 11 := by rw [h_a2_3]; exact zR_zu hp_5p4 (by decide) (by decide) (by omega)
              unfold f_Schools_shadesBehind_167
              refine zk_n ?_
              exact ih _ _ _ _ _ _ _ _ _ _ _ _ _ _ _ (by omega) (by omega) (by omega) (by omega) i_a1_3 i_a2_3 (by omega) (by omega) (by omega) hp_5p5 hp_5p6 hp_5p7 hp_5p8 (by omega) (by omega) (by omega)
      · unfold f_Schools_shadesBehind_167
        refine zk_n ?_
        exact ih _ _ _ _ _ _ _ _ _ _ _ _ _ _ _ (by omega) (by omega) (by omega) (by omega) h_i_from h_i_to (by omega) (by omega) (by omega) hp_4p4 h_i_columns_heights h_i_columns_weights hp_4p5 (by omega) (by omega) (by omega)
set_option maxHeartbeats 4000000 in
theorem s_Schools_shadesBehind_40 (r_Schools_shadesBehind : Int → Int → Int → Int → Int → Int → Int → Int → (Nat → Int) → (Nat → Int) → (Nat → Int) → (Nat → Int) → (Nat → Int) → (Nat → Int) → (Nat → Int) → (Nat → Int) → Int → Int → Int → (Nat → Int) → (Nat → Int) → (Nat → Int) → (Nat → Int) → (Nat → Int) → Option (Int × (Nat → Int) × (Nat → Int) × Int × Int × Int × (Nat → Int) × (Nat → Int) × (Nat → Int) × (Nat → Int) × (Nat → Int))) (r_Schools_shadesCarried : Int → Int → Int → Int → Int → Int → Int → Int → Int → Int → (Nat → Int) → (Nat → Int) → (Nat → Int) → (Nat → Int) → (Nat → Int) → (Nat → Int) → (Nat → Int) → (Nat → Int) → Int → Int → Int → (Nat → Int) → (Nat → Int) → (Nat → Int) → (Nat → Int) → (Nat → Int) → Option (Int × (Nat → Int) × (Nat → Int) × Int × Int × Int × (Nat → Int) × (Nat → Int) × (Nat → Int) × (Nat → Int) × (Nat → Int))) (Nr : Nat) (hr_Schools_shadesBehind : ∀ (x1 : Int) (x2 : Int) (i_hill_children : Int) (i_hill_parishes : Int) (i_hill_laws : Int) (i_hill_inForce : Int) (i_hill_changes : Int) (i_columns_many : Int) (i_hill_strengths : Nat → Int) (i_hill_expelled : Nat → Int) (i_hill_places : Nat → Int) (i_hill_terms : Nat → Int) (i_hill_orders : Nat → Int) (i_hill_ordered : Nat → Int) (i_from : Nat → Int) (i_to : Nat → Int) (i_carriers_judge_piled : Int) (i_carriers_judge_tiring : Int) (i_carriers_judge_barred : Int) (i_carriers_notes : Nat → Int) (i_columns_heights : Nat → Int) (i_columns_weights : Nat → Int) (i_carriers_judge_words : Nat → Int) (i_carriers_judge_pile : Nat → Int), (0 ≤ x1 ∧ x1 ≤ 4) → (0 ≤ x2 ∧ x2 ≤ 1) → (0 ≤ i_hill_children ∧ i_hill_children ≤ 6) → (0 ≤ i_hill_parishes ∧ i_hill_parishes ≤ 6) → (0 ≤ i_hill_laws ∧ i_hill_laws ≤ 6) → ((-1) ≤ i_hill_inForce ∧ i_hill_inForce ≤ 5) → (0 ≤ i_columns_many ∧ i_columns_many ≤ 12) → (zR i_hill_strengths 0 60) → (zR i_hill_expelled 0 1) → (zR i_hill_places 0 11) → (zR i_hill_terms 0 99) → (zR i_hill_orders (-2147483648) 2147483647) → (zR i_hill_ordered 0 424) → (zR i_from (-1) 11) → (zR i_to (-1) 11) → (0 ≤ i_carriers_judge_piled ∧ i_carriers_judge_piled ≤ 32) → (0 ≤ i_carriers_judge_tiring ∧ i_carriers_judge_tiring ≤ 2147483647) → (0 ≤ i_carriers_judge_barred ∧ i_carriers_judge_barred ≤ 1) → (zR i_carriers_notes (-2147483648) 2147483647) → (zR i_columns_heights 0 10) → (zR i_columns_weights 0 30) → (zR i_carriers_judge_words 0 99) → (2 * x1 + 1) < (Nr : Int) → zok (r_Schools_shadesBehind x1 x2 i_hill_children i_hill_parishes i_hill_laws i_hill_inForce i_hill_changes i_columns_many i_hill_strengths i_hill_expelled i_hill_places i_hill_terms i_hill_orders i_hill_ordered i_from i_to i_carriers_judge_piled i_carriers_judge_tiring i_carriers_judge_barred i_carriers_notes i_columns_heights i_columns_weights i_carriers_judge_words i_carriers_judge_pile) (fun o => (0 ≤ o.2.2.2.1 ∧ o.2.2.2.1 ≤ 32) ∧ (0 ≤ o.2.2.2.2.1 ∧ o.2.2.2.2.1 ≤ 2147483647) ∧ (0 ≤ o.2.2.2.2.2.1 ∧ o.2.2.2.2.2.1 ≤ 1) ∧ zR o.2.1 (-1) 11 ∧ zR o.2.2.1 (-1) 11 ∧ zR o.2.2.2.2.2.2.1 (-2147483648) 2147483647 ∧ zR o.2.2.2.2.2.2.2.1 0 10 ∧ zR o.2.2.2.2.2.2.2.2.1 0 30 ∧ zR o.2.2.2.2.2.2.2.2.2.1 0 99)) (hr_Schools_shadesCarried : ∀ (x1 : Int) (x2 : Int) (x3 : Int) (x4 : Int) (i_hill_children : Int) (i_hill_parishes : Int) (i_hill_laws : Int) (i_hill_inForce : Int) (i_hill_changes : Int) (i_columns_many : Int) (i_hill_strengths : Nat → Int) (i_hill_expelled : Nat → Int) (i_hill_places : Nat → Int) (i_hill_terms : Nat → Int) (i_hill_orders : Nat → Int) (i_hill_ordered : Nat → Int) (i_from : Nat → Int) (i_to : Nat → Int) (i_carriers_judge_piled : Int) (i_carriers_judge_tiring : Int) (i_carriers_judge_barred : Int) (i_carriers_notes : Nat → Int) (i_columns_heights : Nat → Int) (i_columns_weights : Nat → Int) (i_carriers_judge_words : Nat → Int) (i_carriers_judge_pile : Nat → Int), (1 ≤ x1 ∧ x1 ≤ 4) → (0 ≤ x2 ∧ x2 ≤ 1) → (0 ≤ x3 ∧ x3 ≤ 11) → (0 ≤ x4 ∧ x4 ≤ 11) → (0 ≤ i_hill_children ∧ i_hill_children ≤ 6) → (0 ≤ i_hill_parishes ∧ i_hill_parishes ≤ 6) → (0 ≤ i_hill_laws ∧ i_hill_laws ≤ 6) → ((-1) ≤ i_hill_inForce ∧ i_hill_inForce ≤ 5) → (1 ≤ i_columns_many ∧ i_columns_many ≤ 12) → (zR i_hill_strengths 0 60) → (zR i_hill_expelled 0 1) → (zR i_hill_places 0 11) → (zR i_hill_terms 0 99) → (zR i_hill_orders (-2147483648) 2147483647) → (zR i_hill_ordered 0 424) → (zR i_from (-1) 11) → (zR i_to (-1) 11) → (0 ≤ i_carriers_judge_piled ∧ i_carriers_judge_piled ≤ 32) → (0 ≤ i_carriers_judge_tiring ∧ i_carriers_judge_tiring ≤ 2147483647) → (0 ≤ i_carriers_judge_barred ∧ i_carriers_judge_barred ≤ 1) → (zR i_carriers_notes (-2147483648) 2147483647) → (zR i_columns_heights 0 10) → (zR i_columns_weights 0 30) → (zR i_carriers_judge_words 0 99) → (2 * x1) < (Nr : Int) → zok (r_Schools_shadesCarried x1 x2 x3 x4 i_hill_children i_hill_parishes i_hill_laws i_hill_inForce i_hill_changes i_columns_many i_hill_strengths i_hill_expelled i_hill_places i_hill_terms i_hill_orders i_hill_ordered i_from i_to i_carriers_judge_piled i_carriers_judge_tiring i_carriers_judge_barred i_carriers_notes i_columns_heights i_columns_weights i_carriers_judge_words i_carriers_judge_pile) (fun o => (0 ≤ o.2.2.2.1 ∧ o.2.2.2.1 ≤ 32) ∧ (0 ≤ o.2.2.2.2.1 ∧ o.2.2.2.2.1 ≤ 2147483647) ∧ (0 ≤ o.2.2.2.2.2.1 ∧ o.2.2.2.2.2.1 ≤ 1) ∧ zR o.2.1 (-1) 11 ∧ zR o.2.2.1 (-1) 11 ∧ zR o.2.2.2.2.2.2.1 (-2147483648) 2147483647 ∧ zR o.2.2.2.2.2.2.2.1 0 10 ∧ zR o.2.2.2.2.2.2.2.2.1 0 30 ∧ zR o.2.2.2.2.2.2.2.2.2.1 0 99)) (i_hill_children : Int) (i_hill_parishes : Int) (i_hill_laws : Int) (i_hill_inForce : Int) (i_hill_changes : Int) (i_columns_many : Int) (i_hill_strengths : Nat → Int) (i_hill_expelled : Nat → Int) (i_hill_places : Nat → Int) (i_hill_terms : Nat → Int) (i_hill_orders : Nat → Int) (i_hill_ordered : Nat → Int) (b_i_hill_children : 0 ≤ i_hill_children ∧ i_hill_children ≤ 6) (b_i_hill_parishes : 0 ≤ i_hill_parishes ∧ i_hill_parishes ≤ 6) (b_i_hill_laws : 0 ≤ i_hill_laws ∧ i_hill_laws ≤ 6) (b_i_hill_inForce : (-1) ≤ i_hill_inForce ∧ i_hill_inForce ≤ 5) (b_i_columns_many : 0 ≤ i_columns_many ∧ i_columns_many ≤ 12) (h_i_hill_strengths : zR i_hill_strengths 0 60) (h_i_hill_expelled : zR i_hill_expelled 0 1) (h_i_hill_places : zR i_hill_places 0 11) (h_i_hill_terms : zR i_hill_terms 0 99) (h_i_hill_orders : zR i_hill_orders (-2147483648) 2147483647) (h_i_hill_ordered : zR i_hill_ordered 0 424) : ∀ (n : Nat) (x1 : Int) (x2 : Int) (x3 : Int) (x4 : Int) (i_from : Nat → Int) (i_to : Nat → Int) (i_carriers_judge_piled : Int) (i_carriers_judge_tiring : Int) (i_carriers_judge_barred : Int) (i_carriers_notes : Nat → Int) (i_columns_heights : Nat → Int) (i_columns_weights : Nat → Int) (i_carriers_judge_words : Nat → Int) (i_carriers_judge_pile : Nat → Int), (1 ≤ x1 ∧ x1 ≤ 4) → (0 ≤ x2 ∧ x2 ≤ 1) → (0 ≤ x4 ∧ x4 ≤ 12) → (zR i_from (-1) 11) → (zR i_to (-1) 11) → (0 ≤ i_carriers_judge_piled ∧ i_carriers_judge_piled ≤ 32) → (0 ≤ i_carriers_judge_tiring ∧ i_carriers_judge_tiring ≤ 2147483647) → (0 ≤ i_carriers_judge_barred ∧ i_carriers_judge_barred ≤ 1) → (zR i_carriers_notes (-2147483648) 2147483647) → (zR i_columns_heights 0 10) → (zR i_columns_weights 0 30) → (zR i_carriers_judge_words 0 99) → (2 * x1 + 1 < (Nr : Int) + 1) → (13 - x4) < (n : Int) → zok (f_Schools_shadesBehind_40 r_Schools_shadesBehind r_Schools_shadesCarried i_hill_children i_hill_parishes i_hill_laws i_hill_inForce i_hill_changes i_columns_many i_hill_strengths i_hill_expelled i_hill_places i_hill_terms i_hill_orders i_hill_ordered n x1 x2 x3 x4 i_from i_to i_carriers_judge_piled i_carriers_judge_tiring i_carriers_judge_barred i_carriers_notes i_columns_heights i_columns_weights i_carriers_judge_words i_carriers_judge_pile) (fun o => (0 ≤ o.2.2.2.1 ∧ o.2.2.2.1 ≤ 32) ∧ (0 ≤ o.2.2.2.2.1 ∧ o.2.2.2.2.1 ≤ 2147483647) ∧ (0 ≤ o.2.2.2.2.2.1 ∧ o.2.2.2.2.2.1 ≤ 1) ∧ zR o.2.1 (-1) 11 ∧ zR o.2.2.1 (-1) 11 ∧ zR o.2.2.2.2.2.2.1 (-2147483648) 2147483647 ∧ zR o.2.2.2.2.2.2.2.1 0 10 ∧ zR o.2.2.2.2.2.2.2.2.1 0 30 ∧ zR o.2.2.2.2.2.2.2.2.2.1 0 99) := by
  intro n
  induction n with
  | zero => intro x1 x2 x3 x4 i_from i_to i_carriers_judge_piled i_carriers_judge_tiring i_carriers_judge_barred i_carriers_notes i_columns_heights i_columns_weights i_carriers_judge_words i_carriers_judge_pile b_x1 b_x2 b_x4 h_i_from h_i_to b_i_carriers_judge_piled b_i_carriers_judge_tiring b_i_carriers_judge_barred h_i_carriers_notes h_i_columns_heights h_i_columns_weights h_i_carriers_judge_words p_0 hm; exfalso; omega
  | succ n ih =>
    intro x1 x2 x3 x4 i_from i_to i_carriers_judge_piled i_carriers_judge_tiring i_carriers_judge_barred i_carriers_notes i_columns_heights i_columns_weights i_carriers_judge_words i_carriers_judge_pile b_x1 b_x2 b_x4 h_i_from h_i_to b_i_carriers_judge_piled b_i_carriers_judge_tiring b_i_carriers_judge_barred h_i_carriers_notes h_i_columns_heights h_i_columns_weights h_i_carriers_judge_words p_0 hm
    show zok (f_Schools_shadesBehind_40_b r_Schools_shadesBehind r_Schools_shadesCarried i_hill_children i_hill_parishes i_hill_laws i_hill_inForce i_hill_changes i_columns_many i_hill_strengths i_hill_expelled i_hill_places i_hill_terms i_hill_orders i_hill_ordered (f_Schools_shadesBehind_40 r_Schools_shadesBehind r_Schools_shadesCarried i_hill_children i_hill_parishes i_hill_laws i_hill_inForce i_hill_changes i_columns_many i_hill_strengths i_hill_expelled i_hill_places i_hill_terms i_hill_orders i_hill_ordered n) x1 x2 x3 x4 i_from i_to i_carriers_judge_piled i_carriers_judge_tiring i_carriers_judge_barred i_carriers_notes i_columns_heights i_columns_weights i_carriers_judge_words i_carriers_judge_pile) _
    unfold f_Schools_shadesBehind_40_b
    refine zk_ifc (zci_le (by omega) (by omega)) (fun hc => ?_) (fun hc => ?_)
    · refine zk_if (fun hc_2 => ?_) (fun hc_2 => ?_)
      · refine zk_ret ?_
        try dsimp only
        exact ⟨by omega, by omega, by omega, h_i_from, h_i_to, h_i_carriers_notes, h_i_columns_heights, h_i_columns_weights, h_i_carriers_judge_words⟩
      · refine zk_d1 (s_Hill_shades _ _ _ _ _ (by omega) (by omega) h_i_hill_places h_i_hill_terms h_i_columns_heights) (fun v1 hp => ?_)
        refine zk_ret ?_
        try dsimp only
        exact ⟨by omega, by omega, by omega, h_i_from, h_i_to, h_i_carriers_notes, h_i_columns_heights, h_i_columns_weights, h_i_carriers_judge_words⟩
    · exact s_Schools_shadesBehind_55 _ _ Nr hr_Schools_shadesBehind hr_Schools_shadesCarried _ _ _ _ _ _ _ _ _ _ _ _ _ n ih (by omega) (by omega) (by omega) (by omega) (by omega) h_i_hill_strengths h_i_hill_expelled h_i_hill_places h_i_hill_terms h_i_hill_orders h_i_hill_ordered zfu _ _ _ _ _ _ _ _ _ _ _ _ _ _ _ (by omega) (by omega) (by omega) (by omega) h_i_from h_i_to (by omega) (by omega) (by omega) h_i_carriers_notes h_i_columns_heights h_i_columns_weights h_i_carriers_judge_words (by omega) (by omega) (by unfold zfu; omega)
set_option maxHeartbeats 4000000 in
theorem sb_Schools_shadesBehind (r_Schools_shadesBehind : Int → Int → Int → Int → Int → Int → Int → Int → (Nat → Int) → (Nat → Int) → (Nat → Int) → (Nat → Int) → (Nat → Int) → (Nat → Int) → (Nat → Int) → (Nat → Int) → Int → Int → Int → (Nat → Int) → (Nat → Int) → (Nat → Int) → (Nat → Int) → (Nat → Int) → Option (Int × (Nat → Int) × (Nat → Int) × Int × Int × Int × (Nat → Int) × (Nat → Int) × (Nat → Int) × (Nat → Int) × (Nat → Int))) (r_Schools_shadesCarried : Int → Int → Int → Int → Int → Int → Int → Int → Int → Int → (Nat → Int) → (Nat → Int) → (Nat → Int) → (Nat → Int) → (Nat → Int) → (Nat → Int) → (Nat → Int) → (Nat → Int) → Int → Int → Int → (Nat → Int) → (Nat → Int) → (Nat → Int) → (Nat → Int) → (Nat → Int) → Option (Int × (Nat → Int) × (Nat → Int) × Int × Int × Int × (Nat → Int) × (Nat → Int) × (Nat → Int) × (Nat → Int) × (Nat → Int))) (Nr : Nat) (hr_Schools_shadesBehind : ∀ (x1 : Int) (x2 : Int) (i_hill_children : Int) (i_hill_parishes : Int) (i_hill_laws : Int) (i_hill_inForce : Int) (i_hill_changes : Int) (i_columns_many : Int) (i_hill_strengths : Nat → Int) (i_hill_expelled : Nat → Int) (i_hill_places : Nat → Int) (i_hill_terms : Nat → Int) (i_hill_orders : Nat → Int) (i_hill_ordered : Nat → Int) (i_from : Nat → Int) (i_to : Nat → Int) (i_carriers_judge_piled : Int) (i_carriers_judge_tiring : Int) (i_carriers_judge_barred : Int) (i_carriers_notes : Nat → Int) (i_columns_heights : Nat → Int) (i_columns_weights : Nat → Int) (i_carriers_judge_words : Nat → Int) (i_carriers_judge_pile : Nat → Int), (0 ≤ x1 ∧ x1 ≤ 4) → (0 ≤ x2 ∧ x2 ≤ 1) → (0 ≤ i_hill_children ∧ i_hill_children ≤ 6) → (0 ≤ i_hill_parishes ∧ i_hill_parishes ≤ 6) → (0 ≤ i_hill_laws ∧ i_hill_laws ≤ 6) → ((-1) ≤ i_hill_inForce ∧ i_hill_inForce ≤ 5) → (0 ≤ i_columns_many ∧ i_columns_many ≤ 12) → (zR i_hill_strengths 0 60) → (zR i_hill_expelled 0 1) → (zR i_hill_places 0 11) → (zR i_hill_terms 0 99) → (zR i_hill_orders (-2147483648) 2147483647) → (zR i_hill_ordered 0 424) → (zR i_from (-1) 11) → (zR i_to (-1) 11) → (0 ≤ i_carriers_judge_piled ∧ i_carriers_judge_piled ≤ 32) → (0 ≤ i_carriers_judge_tiring ∧ i_carriers_judge_tiring ≤ 2147483647) → (0 ≤ i_carriers_judge_barred ∧ i_carriers_judge_barred ≤ 1) → (zR i_carriers_notes (-2147483648) 2147483647) → (zR i_columns_heights 0 10) → (zR i_columns_weights 0 30) → (zR i_carriers_judge_words 0 99) → (2 * x1 + 1) < (Nr : Int) → zok (r_Schools_shadesBehind x1 x2 i_hill_children i_hill_parishes i_hill_laws i_hill_inForce i_hill_changes i_columns_many i_hill_strengths i_hill_expelled i_hill_places i_hill_terms i_hill_orders i_hill_ordered i_from i_to i_carriers_judge_piled i_carriers_judge_tiring i_carriers_judge_barred i_carriers_notes i_columns_heights i_columns_weights i_carriers_judge_words i_carriers_judge_pile) (fun o => (0 ≤ o.2.2.2.1 ∧ o.2.2.2.1 ≤ 32) ∧ (0 ≤ o.2.2.2.2.1 ∧ o.2.2.2.2.1 ≤ 2147483647) ∧ (0 ≤ o.2.2.2.2.2.1 ∧ o.2.2.2.2.2.1 ≤ 1) ∧ zR o.2.1 (-1) 11 ∧ zR o.2.2.1 (-1) 11 ∧ zR o.2.2.2.2.2.2.1 (-2147483648) 2147483647 ∧ zR o.2.2.2.2.2.2.2.1 0 10 ∧ zR o.2.2.2.2.2.2.2.2.1 0 30 ∧ zR o.2.2.2.2.2.2.2.2.2.1 0 99)) (hr_Schools_shadesCarried : ∀ (x1 : Int) (x2 : Int) (x3 : Int) (x4 : Int) (i_hill_children : Int) (i_hill_parishes : Int) (i_hill_laws : Int) (i_hill_inForce : Int) (i_hill_changes : Int) (i_columns_many : Int) (i_hill_strengths : Nat → Int) (i_hill_expelled : Nat → Int) (i_hill_places : Nat → Int) (i_hill_terms : Nat → Int) (i_hill_orders : Nat → Int) (i_hill_ordered : Nat → Int) (i_from : Nat → Int) (i_to : Nat → Int) (i_carriers_judge_piled : Int) (i_carriers_judge_tiring : Int) (i_carriers_judge_barred : Int) (i_carriers_notes : Nat → Int) (i_columns_heights : Nat → Int) (i_columns_weights : Nat → Int) (i_carriers_judge_words : Nat → Int) (i_carriers_judge_pile : Nat → Int), (1 ≤ x1 ∧ x1 ≤ 4) → (0 ≤ x2 ∧ x2 ≤ 1) → (0 ≤ x3 ∧ x3 ≤ 11) → (0 ≤ x4 ∧ x4 ≤ 11) → (0 ≤ i_hill_children ∧ i_hill_children ≤ 6) → (0 ≤ i_hill_parishes ∧ i_hill_parishes ≤ 6) → (0 ≤ i_hill_laws ∧ i_hill_laws ≤ 6) → ((-1) ≤ i_hill_inForce ∧ i_hill_inForce ≤ 5) → (1 ≤ i_columns_many ∧ i_columns_many ≤ 12) → (zR i_hill_strengths 0 60) → (zR i_hill_expelled 0 1) → (zR i_hill_places 0 11) → (zR i_hill_terms 0 99) → (zR i_hill_orders (-2147483648) 2147483647) → (zR i_hill_ordered 0 424) → (zR i_from (-1) 11) → (zR i_to (-1) 11) → (0 ≤ i_carriers_judge_piled ∧ i_carriers_judge_piled ≤ 32) → (0 ≤ i_carriers_judge_tiring ∧ i_carriers_judge_tiring ≤ 2147483647) → (0 ≤ i_carriers_judge_barred ∧ i_carriers_judge_barred ≤ 1) → (zR i_carriers_notes (-2147483648) 2147483647) → (zR i_columns_heights 0 10) → (zR i_columns_weights 0 30) → (zR i_carriers_judge_words 0 99) → (2 * x1) < (Nr : Int) → zok (r_Schools_shadesCarried x1 x2 x3 x4 i_hill_children i_hill_parishes i_hill_laws i_hill_inForce i_hill_changes i_columns_many i_hill_strengths i_hill_expelled i_hill_places i_hill_terms i_hill_orders i_hill_ordered i_from i_to i_carriers_judge_piled i_carriers_judge_tiring i_carriers_judge_barred i_carriers_notes i_columns_heights i_columns_weights i_carriers_judge_words i_carriers_judge_pile) (fun o => (0 ≤ o.2.2.2.1 ∧ o.2.2.2.1 ≤ 32) ∧ (0 ≤ o.2.2.2.2.1 ∧ o.2.2.2.2.1 ≤ 2147483647) ∧ (0 ≤ o.2.2.2.2.2.1 ∧ o.2.2.2.2.2.1 ≤ 1) ∧ zR o.2.1 (-1) 11 ∧ zR o.2.2.1 (-1) 11 ∧ zR o.2.2.2.2.2.2.1 (-2147483648) 2147483647 ∧ zR o.2.2.2.2.2.2.2.1 0 10 ∧ zR o.2.2.2.2.2.2.2.2.1 0 30 ∧ zR o.2.2.2.2.2.2.2.2.2.1 0 99)) (x1 : Int) (x2 : Int) (i_hill_children : Int) (i_hill_parishes : Int) (i_hill_laws : Int) (i_hill_inForce : Int) (i_hill_changes : Int) (i_columns_many : Int) (i_hill_strengths : Nat → Int) (i_hill_expelled : Nat → Int) (i_hill_places : Nat → Int) (i_hill_terms : Nat → Int) (i_hill_orders : Nat → Int) (i_hill_ordered : Nat → Int) (i_from : Nat → Int) (i_to : Nat → Int) (i_carriers_judge_piled : Int) (i_carriers_judge_tiring : Int) (i_carriers_judge_barred : Int) (i_carriers_notes : Nat → Int) (i_columns_heights : Nat → Int) (i_columns_weights : Nat → Int) (i_carriers_judge_words : Nat → Int) (i_carriers_judge_pile : Nat → Int) (b_x1 : 0 ≤ x1 ∧ x1 ≤ 4) (b_x2 : 0 ≤ x2 ∧ x2 ≤ 1) (b_i_hill_children : 0 ≤ i_hill_children ∧ i_hill_children ≤ 6) (b_i_hill_parishes : 0 ≤ i_hill_parishes ∧ i_hill_parishes ≤ 6) (b_i_hill_laws : 0 ≤ i_hill_laws ∧ i_hill_laws ≤ 6) (b_i_hill_inForce : (-1) ≤ i_hill_inForce ∧ i_hill_inForce ≤ 5) (b_i_columns_many : 0 ≤ i_columns_many ∧ i_columns_many ≤ 12) (h_i_hill_strengths : zR i_hill_strengths 0 60) (h_i_hill_expelled : zR i_hill_expelled 0 1) (h_i_hill_places : zR i_hill_places 0 11) (h_i_hill_terms : zR i_hill_terms 0 99) (h_i_hill_orders : zR i_hill_orders (-2147483648) 2147483647) (h_i_hill_ordered : zR i_hill_ordered 0 424) (h_i_from : zR i_from (-1) 11) (h_i_to : zR i_to (-1) 11) (b_i_carriers_judge_piled : 0 ≤ i_carriers_judge_piled ∧ i_carriers_judge_piled ≤ 32) (b_i_carriers_judge_tiring : 0 ≤ i_carriers_judge_tiring ∧ i_carriers_judge_tiring ≤ 2147483647) (b_i_carriers_judge_barred : 0 ≤ i_carriers_judge_barred ∧ i_carriers_judge_barred ≤ 1) (h_i_carriers_notes : zR i_carriers_notes (-2147483648) 2147483647) (h_i_columns_heights : zR i_columns_heights 0 10) (h_i_columns_weights : zR i_columns_weights 0 30) (h_i_carriers_judge_words : zR i_carriers_judge_words 0 99) (hd : (2 * x1 + 1) < (Nr : Int) + 1) : zok (fb_Schools_shadesBehind r_Schools_shadesBehind r_Schools_shadesCarried x1 x2 i_hill_children i_hill_parishes i_hill_laws i_hill_inForce i_hill_changes i_columns_many i_hill_strengths i_hill_expelled i_hill_places i_hill_terms i_hill_orders i_hill_ordered i_from i_to i_carriers_judge_piled i_carriers_judge_tiring i_carriers_judge_barred i_carriers_notes i_columns_heights i_columns_weights i_carriers_judge_words i_carriers_judge_pile) (fun o => (0 ≤ o.2.2.2.1 ∧ o.2.2.2.1 ≤ 32) ∧ (0 ≤ o.2.2.2.2.1 ∧ o.2.2.2.2.1 ≤ 2147483647) ∧ (0 ≤ o.2.2.2.2.2.1 ∧ o.2.2.2.2.2.1 ≤ 1) ∧ zR o.2.1 (-1) 11 ∧ zR o.2.2.1 (-1) 11 ∧ zR o.2.2.2.2.2.2.1 (-2147483648) 2147483647 ∧ zR o.2.2.2.2.2.2.2.1 0 10 ∧ zR o.2.2.2.2.2.2.2.2.1 0 30 ∧ zR o.2.2.2.2.2.2.2.2.2.1 0 99) := by
  unfold fb_Schools_shadesBehind
  refine zk_ifc (zci_ler (by omega)) (fun hc => ?_) (fun hc => ?_)
  · unfold f_Schools_shadesBehind_9
    refine zk_d1 (s_Hill_shades _ _ _ _ _ (by omega) (by omega) h_i_hill_places h_i_hill_terms h_i_columns_heights) (fun v1 hp => ?_)
    refine zk_ret ?_
    try dsimp only
    exact ⟨by omega, by omega, by omega, h_i_from, h_i_to, h_i_carriers_notes, h_i_columns_heights, h_i_columns_weights, h_i_carriers_judge_words⟩
  · refine zk_ifc (zci_le (by omega) (by omega)) (fun hc_2 => ?_) (fun hc_2 => ?_)
    · refine zk_sv (by omega) (by decide) (fun a1 h_a1 => ?_)
      have i_a1 : zR a1 (-1) 11 := by rw [h_a1]; exact zR_zu h_i_from (by decide) (by decide) (by omega)
      refine zk_sv (by omega) (by decide) (fun a2 h_a2 => ?_)
      have i_a2 : zR a2 (-1) 11 := by rw [h_a2]; exact zR_zu h_i_to (by decide) (by decide) (by omega)
      exact s_Schools_shadesBehind_40 _ _ Nr hr_Schools_shadesBehind hr_Schools_shadesCarried _ _ _ _ _ _ _ _ _ _ _ _ (by omega) (by omega) (by omega) (by omega) (by omega) h_i_hill_strengths h_i_hill_expelled h_i_hill_places h_i_hill_terms h_i_hill_orders h_i_hill_ordered zfu _ _ _ _ _ _ _ _ _ _ _ _ _ _ (by omega) (by omega) (by omega) i_a1 i_a2 (by omega) (by omega) (by omega) h_i_carriers_notes h_i_columns_heights h_i_columns_weights h_i_carriers_judge_words (by omega) (by unfold zfu; omega)
    · exfalso; omega
set_option maxHeartbeats 4000000 in
theorem sb_Schools_shadesCarried (r_Schools_shadesBehind : Int → Int → Int → Int → Int → Int → Int → Int → (Nat → Int) → (Nat → Int) → (Nat → Int) → (Nat → Int) → (Nat → Int) → (Nat → Int) → (Nat → Int) → (Nat → Int) → Int → Int → Int → (Nat → Int) → (Nat → Int) → (Nat → Int) → (Nat → Int) → (Nat → Int) → Option (Int × (Nat → Int) × (Nat → Int) × Int × Int × Int × (Nat → Int) × (Nat → Int) × (Nat → Int) × (Nat → Int) × (Nat → Int))) (r_Schools_shadesCarried : Int → Int → Int → Int → Int → Int → Int → Int → Int → Int → (Nat → Int) → (Nat → Int) → (Nat → Int) → (Nat → Int) → (Nat → Int) → (Nat → Int) → (Nat → Int) → (Nat → Int) → Int → Int → Int → (Nat → Int) → (Nat → Int) → (Nat → Int) → (Nat → Int) → (Nat → Int) → Option (Int × (Nat → Int) × (Nat → Int) × Int × Int × Int × (Nat → Int) × (Nat → Int) × (Nat → Int) × (Nat → Int) × (Nat → Int))) (Nr : Nat) (hr_Schools_shadesBehind : ∀ (x1 : Int) (x2 : Int) (i_hill_children : Int) (i_hill_parishes : Int) (i_hill_laws : Int) (i_hill_inForce : Int) (i_hill_changes : Int) (i_columns_many : Int) (i_hill_strengths : Nat → Int) (i_hill_expelled : Nat → Int) (i_hill_places : Nat → Int) (i_hill_terms : Nat → Int) (i_hill_orders : Nat → Int) (i_hill_ordered : Nat → Int) (i_from : Nat → Int) (i_to : Nat → Int) (i_carriers_judge_piled : Int) (i_carriers_judge_tiring : Int) (i_carriers_judge_barred : Int) (i_carriers_notes : Nat → Int) (i_columns_heights : Nat → Int) (i_columns_weights : Nat → Int) (i_carriers_judge_words : Nat → Int) (i_carriers_judge_pile : Nat → Int), (0 ≤ x1 ∧ x1 ≤ 4) → (0 ≤ x2 ∧ x2 ≤ 1) → (0 ≤ i_hill_children ∧ i_hill_children ≤ 6) → (0 ≤ i_hill_parishes ∧ i_hill_parishes ≤ 6) → (0 ≤ i_hill_laws ∧ i_hill_laws ≤ 6) → ((-1) ≤ i_hill_inForce ∧ i_hill_inForce ≤ 5) → (0 ≤ i_columns_many ∧ i_columns_many ≤ 12) → (zR i_hill_strengths 0 60) → (zR i_hill_expelled 0 1) → (zR i_hill_places 0 11) → (zR i_hill_terms 0 99) → (zR i_hill_orders (-2147483648) 2147483647) → (zR i_hill_ordered 0 424) → (zR i_from (-1) 11) → (zR i_to (-1) 11) → (0 ≤ i_carriers_judge_piled ∧ i_carriers_judge_piled ≤ 32) → (0 ≤ i_carriers_judge_tiring ∧ i_carriers_judge_tiring ≤ 2147483647) → (0 ≤ i_carriers_judge_barred ∧ i_carriers_judge_barred ≤ 1) → (zR i_carriers_notes (-2147483648) 2147483647) → (zR i_columns_heights 0 10) → (zR i_columns_weights 0 30) → (zR i_carriers_judge_words 0 99) → (2 * x1 + 1) < (Nr : Int) → zok (r_Schools_shadesBehind x1 x2 i_hill_children i_hill_parishes i_hill_laws i_hill_inForce i_hill_changes i_columns_many i_hill_strengths i_hill_expelled i_hill_places i_hill_terms i_hill_orders i_hill_ordered i_from i_to i_carriers_judge_piled i_carriers_judge_tiring i_carriers_judge_barred i_carriers_notes i_columns_heights i_columns_weights i_carriers_judge_words i_carriers_judge_pile) (fun o => (0 ≤ o.2.2.2.1 ∧ o.2.2.2.1 ≤ 32) ∧ (0 ≤ o.2.2.2.2.1 ∧ o.2.2.2.2.1 ≤ 2147483647) ∧ (0 ≤ o.2.2.2.2.2.1 ∧ o.2.2.2.2.2.1 ≤ 1) ∧ zR o.2.1 (-1) 11 ∧ zR o.2.2.1 (-1) 11 ∧ zR o.2.2.2.2.2.2.1 (-2147483648) 2147483647 ∧ zR o.2.2.2.2.2.2.2.1 0 10 ∧ zR o.2.2.2.2.2.2.2.2.1 0 30 ∧ zR o.2.2.2.2.2.2.2.2.2.1 0 99)) (hr_Schools_shadesCarried : ∀ (x1 : Int) (x2 : Int) (x3 : Int) (x4 : Int) (i_hill_children : Int) (i_hill_parishes : Int) (i_hill_laws : Int) (i_hill_inForce : Int) (i_hill_changes : Int) (i_columns_many : Int) (i_hill_strengths : Nat → Int) (i_hill_expelled : Nat → Int) (i_hill_places : Nat → Int) (i_hill_terms : Nat → Int) (i_hill_orders : Nat → Int) (i_hill_ordered : Nat → Int) (i_from : Nat → Int) (i_to : Nat → Int) (i_carriers_judge_piled : Int) (i_carriers_judge_tiring : Int) (i_carriers_judge_barred : Int) (i_carriers_notes : Nat → Int) (i_columns_heights : Nat → Int) (i_columns_weights : Nat → Int) (i_carriers_judge_words : Nat → Int) (i_carriers_judge_pile : Nat → Int), (1 ≤ x1 ∧ x1 ≤ 4) → (0 ≤ x2 ∧ x2 ≤ 1) → (0 ≤ x3 ∧ x3 ≤ 11) → (0 ≤ x4 ∧ x4 ≤ 11) → (0 ≤ i_hill_children ∧ i_hill_children ≤ 6) → (0 ≤ i_hill_parishes ∧ i_hill_parishes ≤ 6) → (0 ≤ i_hill_laws ∧ i_hill_laws ≤ 6) → ((-1) ≤ i_hill_inForce ∧ i_hill_inForce ≤ 5) → (1 ≤ i_columns_many ∧ i_columns_many ≤ 12) → (zR i_hill_strengths 0 60) → (zR i_hill_expelled 0 1) → (zR i_hill_places 0 11) → (zR i_hill_terms 0 99) → (zR i_hill_orders (-2147483648) 2147483647) → (zR i_hill_ordered 0 424) → (zR i_from (-1) 11) → (zR i_to (-1) 11) → (0 ≤ i_carriers_judge_piled ∧ i_carriers_judge_piled ≤ 32) → (0 ≤ i_carriers_judge_tiring ∧ i_carriers_judge_tiring ≤ 2147483647) → (0 ≤ i_carriers_judge_barred ∧ i_carriers_judge_barred ≤ 1) → (zR i_carriers_notes (-2147483648) 2147483647) → (zR i_columns_heights 0 10) → (zR i_columns_weights 0 30) → (zR i_carriers_judge_words 0 99) → (2 * x1) < (Nr : Int) → zok (r_Schools_shadesCarried x1 x2 x3 x4 i_hill_children i_hill_parishes i_hill_laws i_hill_inForce i_hill_changes i_columns_many i_hill_strengths i_hill_expelled i_hill_places i_hill_terms i_hill_orders i_hill_ordered i_from i_to i_carriers_judge_piled i_carriers_judge_tiring i_carriers_judge_barred i_carriers_notes i_columns_heights i_columns_weights i_carriers_judge_words i_carriers_judge_pile) (fun o => (0 ≤ o.2.2.2.1 ∧ o.2.2.2.1 ≤ 32) ∧ (0 ≤ o.2.2.2.2.1 ∧ o.2.2.2.2.1 ≤ 2147483647) ∧ (0 ≤ o.2.2.2.2.2.1 ∧ o.2.2.2.2.2.1 ≤ 1) ∧ zR o.2.1 (-1) 11 ∧ zR o.2.2.1 (-1) 11 ∧ zR o.2.2.2.2.2.2.1 (-2147483648) 2147483647 ∧ zR o.2.2.2.2.2.2.2.1 0 10 ∧ zR o.2.2.2.2.2.2.2.2.1 0 30 ∧ zR o.2.2.2.2.2.2.2.2.2.1 0 99)) (x1 : Int) (x2 : Int) (x3 : Int) (x4 : Int) (i_hill_children : Int) (i_hill_parishes : Int) (i_hill_laws : Int) (i_hill_inForce : Int) (i_hill_changes : Int) (i_columns_many : Int) (i_hill_strengths : Nat → Int) (i_hill_expelled : Nat → Int) (i_hill_places : Nat → Int) (i_hill_terms : Nat → Int) (i_hill_orders : Nat → Int) (i_hill_ordered : Nat → Int) (i_from : Nat → Int) (i_to : Nat → Int) (i_carriers_judge_piled : Int) (i_carriers_judge_tiring : Int) (i_carriers_judge_barred : Int) (i_carriers_notes : Nat → Int) (i_columns_heights : Nat → Int) (i_columns_weights : Nat → Int) (i_carriers_judge_words : Nat → Int) (i_carriers_judge_pile : Nat → Int) (b_x1 : 1 ≤ x1 ∧ x1 ≤ 4) (b_x2 : 0 ≤ x2 ∧ x2 ≤ 1) (b_x3 : 0 ≤ x3 ∧ x3 ≤ 11) (b_x4 : 0 ≤ x4 ∧ x4 ≤ 11) (b_i_hill_children : 0 ≤ i_hill_children ∧ i_hill_children ≤ 6) (b_i_hill_parishes : 0 ≤ i_hill_parishes ∧ i_hill_parishes ≤ 6) (b_i_hill_laws : 0 ≤ i_hill_laws ∧ i_hill_laws ≤ 6) (b_i_hill_inForce : (-1) ≤ i_hill_inForce ∧ i_hill_inForce ≤ 5) (b_i_columns_many : 1 ≤ i_columns_many ∧ i_columns_many ≤ 12) (h_i_hill_strengths : zR i_hill_strengths 0 60) (h_i_hill_expelled : zR i_hill_expelled 0 1) (h_i_hill_places : zR i_hill_places 0 11) (h_i_hill_terms : zR i_hill_terms 0 99) (h_i_hill_orders : zR i_hill_orders (-2147483648) 2147483647) (h_i_hill_ordered : zR i_hill_ordered 0 424) (h_i_from : zR i_from (-1) 11) (h_i_to : zR i_to (-1) 11) (b_i_carriers_judge_piled : 0 ≤ i_carriers_judge_piled ∧ i_carriers_judge_piled ≤ 32) (b_i_carriers_judge_tiring : 0 ≤ i_carriers_judge_tiring ∧ i_carriers_judge_tiring ≤ 2147483647) (b_i_carriers_judge_barred : 0 ≤ i_carriers_judge_barred ∧ i_carriers_judge_barred ≤ 1) (h_i_carriers_notes : zR i_carriers_notes (-2147483648) 2147483647) (h_i_columns_heights : zR i_columns_heights 0 10) (h_i_columns_weights : zR i_columns_weights 0 30) (h_i_carriers_judge_words : zR i_carriers_judge_words 0 99) (hd : (2 * x1) < (Nr : Int) + 1) : zok (fb_Schools_shadesCarried r_Schools_shadesBehind r_Schools_shadesCarried x1 x2 x3 x4 i_hill_children i_hill_parishes i_hill_laws i_hill_inForce i_hill_changes i_columns_many i_hill_strengths i_hill_expelled i_hill_places i_hill_terms i_hill_orders i_hill_ordered i_from i_to i_carriers_judge_piled i_carriers_judge_tiring i_carriers_judge_barred i_carriers_notes i_columns_heights i_columns_weights i_carriers_judge_words i_carriers_judge_pile) (fun o => (0 ≤ o.2.2.2.1 ∧ o.2.2.2.1 ≤ 32) ∧ (0 ≤ o.2.2.2.2.1 ∧ o.2.2.2.2.1 ≤ 2147483647) ∧ (0 ≤ o.2.2.2.2.2.1 ∧ o.2.2.2.2.2.1 ≤ 1) ∧ zR o.2.1 (-1) 11 ∧ zR o.2.2.1 (-1) 11 ∧ zR o.2.2.2.2.2.2.1 (-2147483648) 2147483647 ∧ zR o.2.2.2.2.2.2.2.1 0 10 ∧ zR o.2.2.2.2.2.2.2.2.1 0 30 ∧ zR o.2.2.2.2.2.2.2.2.2.1 0 99) := by
  unfold fb_Schools_shadesCarried
  refine zk_d2 (s_Columns_move _ _ _ _ _ (by omega) (by omega) (by omega) h_i_columns_heights h_i_columns_weights) (fun a1 a2 hp => ?_)
  try dsimp only at hp
  obtain ⟨hpp0, hpp1⟩ := hp
  refine zk_n ?_
  refine zk_n ?_
  refine zk_d11 (hr_Schools_shadesBehind _ _ _ _ _ _ _ _ _ _ _ _ _ _ _ _ _ _ _ _ _ _ _ _ (by omega) (by omega) (by omega) (by omega) (by omega) (by omega) (by omega) h_i_hill_strengths h_i_hill_expelled h_i_hill_places h_i_hill_terms h_i_hill_orders h_i_hill_ordered h_i_from h_i_to (by omega) (by omega) (by omega) h_i_carriers_notes hpp0 hpp1 h_i_carriers_judge_words (by omega)) (fun v5 a6 a7 v8 v9 v10 a11 a12 a13 a14 a15 hp_2 => ?_)
  try dsimp only at hp_2
  obtain ⟨hp_2p0, hp_2p1, hp_2p2, hp_2p3, hp_2p4, hp_2p5, hp_2p6, hp_2p7, hp_2p8⟩ := hp_2
  refine zk_d2 (s_Columns_move _ _ _ _ _ (by omega) (by omega) (by omega) hp_2p6 hp_2p7) (fun a16 a17 hp_3 => ?_)
  try dsimp only at hp_3
  obtain ⟨hp_3p0, hp_3p1⟩ := hp_3
  refine zk_ret ?_
  try dsimp only
  exact ⟨by omega, by omega, by omega, hp_2p3, hp_2p4, hp_2p5, hp_3p0, hp_3p1, hp_2p8⟩
theorem sg_Schools_shadesBehind : ∀ n : Nat, (∀ (x1 : Int) (x2 : Int) (i_hill_children : Int) (i_hill_parishes : Int) (i_hill_laws : Int) (i_hill_inForce : Int) (i_hill_changes : Int) (i_columns_many : Int) (i_hill_strengths : Nat → Int) (i_hill_expelled : Nat → Int) (i_hill_places : Nat → Int) (i_hill_terms : Nat → Int) (i_hill_orders : Nat → Int) (i_hill_ordered : Nat → Int) (i_from : Nat → Int) (i_to : Nat → Int) (i_carriers_judge_piled : Int) (i_carriers_judge_tiring : Int) (i_carriers_judge_barred : Int) (i_carriers_notes : Nat → Int) (i_columns_heights : Nat → Int) (i_columns_weights : Nat → Int) (i_carriers_judge_words : Nat → Int) (i_carriers_judge_pile : Nat → Int), (0 ≤ x1 ∧ x1 ≤ 4) → (0 ≤ x2 ∧ x2 ≤ 1) → (0 ≤ i_hill_children ∧ i_hill_children ≤ 6) → (0 ≤ i_hill_parishes ∧ i_hill_parishes ≤ 6) → (0 ≤ i_hill_laws ∧ i_hill_laws ≤ 6) → ((-1) ≤ i_hill_inForce ∧ i_hill_inForce ≤ 5) → (0 ≤ i_columns_many ∧ i_columns_many ≤ 12) → (zR i_hill_strengths 0 60) → (zR i_hill_expelled 0 1) → (zR i_hill_places 0 11) → (zR i_hill_terms 0 99) → (zR i_hill_orders (-2147483648) 2147483647) → (zR i_hill_ordered 0 424) → (zR i_from (-1) 11) → (zR i_to (-1) 11) → (0 ≤ i_carriers_judge_piled ∧ i_carriers_judge_piled ≤ 32) → (0 ≤ i_carriers_judge_tiring ∧ i_carriers_judge_tiring ≤ 2147483647) → (0 ≤ i_carriers_judge_barred ∧ i_carriers_judge_barred ≤ 1) → (zR i_carriers_notes (-2147483648) 2147483647) → (zR i_columns_heights 0 10) → (zR i_columns_weights 0 30) → (zR i_carriers_judge_words 0 99) → (2 * x1 + 1) < (n : Int) → zok ((g_Schools_shadesBehind n).1 x1 x2 i_hill_children i_hill_parishes i_hill_laws i_hill_inForce i_hill_changes i_columns_many i_hill_strengths i_hill_expelled i_hill_places i_hill_terms i_hill_orders i_hill_ordered i_from i_to i_carriers_judge_piled i_carriers_judge_tiring i_carriers_judge_barred i_carriers_notes i_columns_heights i_columns_weights i_carriers_judge_words i_carriers_judge_pile) (fun o => (0 ≤ o.2.2.2.1 ∧ o.2.2.2.1 ≤ 32) ∧ (0 ≤ o.2.2.2.2.1 ∧ o.2.2.2.2.1 ≤ 2147483647) ∧ (0 ≤ o.2.2.2.2.2.1 ∧ o.2.2.2.2.2.1 ≤ 1) ∧ zR o.2.1 (-1) 11 ∧ zR o.2.2.1 (-1) 11 ∧ zR o.2.2.2.2.2.2.1 (-2147483648) 2147483647 ∧ zR o.2.2.2.2.2.2.2.1 0 10 ∧ zR o.2.2.2.2.2.2.2.2.1 0 30 ∧ zR o.2.2.2.2.2.2.2.2.2.1 0 99)) ∧ (∀ (x1 : Int) (x2 : Int) (x3 : Int) (x4 : Int) (i_hill_children : Int) (i_hill_parishes : Int) (i_hill_laws : Int) (i_hill_inForce : Int) (i_hill_changes : Int) (i_columns_many : Int) (i_hill_strengths : Nat → Int) (i_hill_expelled : Nat → Int) (i_hill_places : Nat → Int) (i_hill_terms : Nat → Int) (i_hill_orders : Nat → Int) (i_hill_ordered : Nat → Int) (i_from : Nat → Int) (i_to : Nat → Int) (i_carriers_judge_piled : Int) (i_carriers_judge_tiring : Int) (i_carriers_judge_barred : Int) (i_carriers_notes : Nat → Int) (i_columns_heights : Nat → Int) (i_columns_weights : Nat → Int) (i_carriers_judge_words : Nat → Int) (i_carriers_judge_pile : Nat → Int), (1 ≤ x1 ∧ x1 ≤ 4) → (0 ≤ x2 ∧ x2 ≤ 1) → (0 ≤ x3 ∧ x3 ≤ 11) → (0 ≤ x4 ∧ x4 ≤ 11) → (0 ≤ i_hill_children ∧ i_hill_children ≤ 6) → (0 ≤ i_hill_parishes ∧ i_hill_parishes ≤ 6) → (0 ≤ i_hill_laws ∧ i_hill_laws ≤ 6) → ((-1) ≤ i_hill_inForce ∧ i_hill_inForce ≤ 5) → (1 ≤ i_columns_many ∧ i_columns_many ≤ 12) → (zR i_hill_strengths 0 60) → (zR i_hill_expelled 0 1) → (zR i_hill_places 0 11) → (zR i_hill_terms 0 99) → (zR i_hill_orders (-2147483648) 2147483647) → (zR i_hill_ordered 0 424) → (zR i_from (-1) 11) → (zR i_to (-1) 11) → (0 ≤ i_carriers_judge_piled ∧ i_carriers_judge_piled ≤ 32) → (0 ≤ i_carriers_judge_tiring ∧ i_carriers_judge_tiring ≤ 2147483647) → (0 ≤ i_carriers_judge_barred ∧ i_carriers_judge_barred ≤ 1) → (zR i_carriers_notes (-2147483648) 2147483647) → (zR i_columns_heights 0 10) → (zR i_columns_weights 0 30) → (zR i_carriers_judge_words 0 99) → (2 * x1) < (n : Int) → zok ((g_Schools_shadesBehind n).2 x1 x2 x3 x4 i_hill_children i_hill_parishes i_hill_laws i_hill_inForce i_hill_changes i_columns_many i_hill_strengths i_hill_expelled i_hill_places i_hill_terms i_hill_orders i_hill_ordered i_from i_to i_carriers_judge_piled i_carriers_judge_tiring i_carriers_judge_barred i_carriers_notes i_columns_heights i_columns_weights i_carriers_judge_words i_carriers_judge_pile) (fun o => (0 ≤ o.2.2.2.1 ∧ o.2.2.2.1 ≤ 32) ∧ (0 ≤ o.2.2.2.2.1 ∧ o.2.2.2.2.1 ≤ 2147483647) ∧ (0 ≤ o.2.2.2.2.2.1 ∧ o.2.2.2.2.2.1 ≤ 1) ∧ zR o.2.1 (-1) 11 ∧ zR o.2.2.1 (-1) 11 ∧ zR o.2.2.2.2.2.2.1 (-2147483648) 2147483647 ∧ zR o.2.2.2.2.2.2.2.1 0 10 ∧ zR o.2.2.2.2.2.2.2.2.1 0 30 ∧ zR o.2.2.2.2.2.2.2.2.2.1 0 99)) := by
  intro n
  induction n with
  | zero => exact ⟨fun x0 x1 x2 x3 x4 x5 x6 x7 x8 x9 x10 x11 x12 x13 x14 x15 x16 x17 x18 x19 x20 x21 x22 x23 p0 p1 p2 p3 p4 p5 p6 p7 p8 p9 p10 p11 p12 p13 p14 p15 p16 p17 p18 p19 p20 p21 hd => absurd hd (by omega), fun x0 x1 x2 x3 x4 x5 x6 x7 x8 x9 x10 x11 x12 x13 x14 x15 x16 x17 x18 x19 x20 x21 x22 x23 x24 x25 p0 p1 p2 p3 p4 p5 p6 p7 p8 p9 p10 p11 p12 p13 p14 p15 p16 p17 p18 p19 p20 p21 p22 p23 hd => absurd hd (by omega)⟩
  | succ n ih => exact ⟨fun x0 x1 x2 x3 x4 x5 x6 x7 x8 x9 x10 x11 x12 x13 x14 x15 x16 x17 x18 x19 x20 x21 x22 x23 p0 p1 p2 p3 p4 p5 p6 p7 p8 p9 p10 p11 p12 p13 p14 p15 p16 p17 p18 p19 p20 p21 hd => sb_Schools_shadesBehind _ _ n (ih.1) (ih.2) x0 x1 x2 x3 x4 x5 x6 x7 x8 x9 x10 x11 x12 x13 x14 x15 x16 x17 x18 x19 x20 x21 x22 x23 p0 p1 p2 p3 p4 p5 p6 p7 p8 p9 p10 p11 p12 p13 p14 p15 p16 p17 p18 p19 p20 p21 (by omega), fun x0 x1 x2 x3 x4 x5 x6 x7 x8 x9 x10 x11 x12 x13 x14 x15 x16 x17 x18 x19 x20 x21 x22 x23 x24 x25 p0 p1 p2 p3 p4 p5 p6 p7 p8 p9 p10 p11 p12 p13 p14 p15 p16 p17 p18 p19 p20 p21 p22 p23 hd => sb_Schools_shadesCarried _ _ n (ih.1) (ih.2) x0 x1 x2 x3 x4 x5 x6 x7 x8 x9 x10 x11 x12 x13 x14 x15 x16 x17 x18 x19 x20 x21 x22 x23 x24 x25 p0 p1 p2 p3 p4 p5 p6 p7 p8 p9 p10 p11 p12 p13 p14 p15 p16 p17 p18 p19 p20 p21 p22 p23 (by omega)⟩
theorem s_Schools_shadesBehind (x1 : Int) (x2 : Int) (i_hill_children : Int) (i_hill_parishes : Int) (i_hill_laws : Int) (i_hill_inForce : Int) (i_hill_changes : Int) (i_columns_many : Int) (i_hill_strengths : Nat → Int) (i_hill_expelled : Nat → Int) (i_hill_places : Nat → Int) (i_hill_terms : Nat → Int) (i_hill_orders : Nat → Int) (i_hill_ordered : Nat → Int) (i_from : Nat → Int) (i_to : Nat → Int) (i_carriers_judge_piled : Int) (i_carriers_judge_tiring : Int) (i_carriers_judge_barred : Int) (i_carriers_notes : Nat → Int) (i_columns_heights : Nat → Int) (i_columns_weights : Nat → Int) (i_carriers_judge_words : Nat → Int) (i_carriers_judge_pile : Nat → Int) (b_x1 : 0 ≤ x1 ∧ x1 ≤ 4) (b_x2 : 0 ≤ x2 ∧ x2 ≤ 1) (b_i_hill_children : 0 ≤ i_hill_children ∧ i_hill_children ≤ 6) (b_i_hill_parishes : 0 ≤ i_hill_parishes ∧ i_hill_parishes ≤ 6) (b_i_hill_laws : 0 ≤ i_hill_laws ∧ i_hill_laws ≤ 6) (b_i_hill_inForce : (-1) ≤ i_hill_inForce ∧ i_hill_inForce ≤ 5) (b_i_columns_many : 0 ≤ i_columns_many ∧ i_columns_many ≤ 12) (h_i_hill_strengths : zR i_hill_strengths 0 60) (h_i_hill_expelled : zR i_hill_expelled 0 1) (h_i_hill_places : zR i_hill_places 0 11) (h_i_hill_terms : zR i_hill_terms 0 99) (h_i_hill_orders : zR i_hill_orders (-2147483648) 2147483647) (h_i_hill_ordered : zR i_hill_ordered 0 424) (h_i_from : zR i_from (-1) 11) (h_i_to : zR i_to (-1) 11) (b_i_carriers_judge_piled : 0 ≤ i_carriers_judge_piled ∧ i_carriers_judge_piled ≤ 32) (b_i_carriers_judge_tiring : 0 ≤ i_carriers_judge_tiring ∧ i_carriers_judge_tiring ≤ 2147483647) (b_i_carriers_judge_barred : 0 ≤ i_carriers_judge_barred ∧ i_carriers_judge_barred ≤ 1) (h_i_carriers_notes : zR i_carriers_notes (-2147483648) 2147483647) (h_i_columns_heights : zR i_columns_heights 0 10) (h_i_columns_weights : zR i_columns_weights 0 30) (h_i_carriers_judge_words : zR i_carriers_judge_words 0 99) : zok (f_Schools_shadesBehind x1 x2 i_hill_children i_hill_parishes i_hill_laws i_hill_inForce i_hill_changes i_columns_many i_hill_strengths i_hill_expelled i_hill_places i_hill_terms i_hill_orders i_hill_ordered i_from i_to i_carriers_judge_piled i_carriers_judge_tiring i_carriers_judge_barred i_carriers_notes i_columns_heights i_columns_weights i_carriers_judge_words i_carriers_judge_pile) (fun o => (0 ≤ o.2.2.2.1 ∧ o.2.2.2.1 ≤ 32) ∧ (0 ≤ o.2.2.2.2.1 ∧ o.2.2.2.2.1 ≤ 2147483647) ∧ (0 ≤ o.2.2.2.2.2.1 ∧ o.2.2.2.2.2.1 ≤ 1) ∧ zR o.2.1 (-1) 11 ∧ zR o.2.2.1 (-1) 11 ∧ zR o.2.2.2.2.2.2.1 (-2147483648) 2147483647 ∧ zR o.2.2.2.2.2.2.2.1 0 10 ∧ zR o.2.2.2.2.2.2.2.2.1 0 30 ∧ zR o.2.2.2.2.2.2.2.2.2.1 0 99) :=
  (sg_Schools_shadesBehind zdp).1 x1 x2 i_hill_children i_hill_parishes i_hill_laws i_hill_inForce i_hill_changes i_columns_many i_hill_strengths i_hill_expelled i_hill_places i_hill_terms i_hill_orders i_hill_ordered i_from i_to i_carriers_judge_piled i_carriers_judge_tiring i_carriers_judge_barred i_carriers_notes i_columns_heights i_columns_weights i_carriers_judge_words i_carriers_judge_pile b_x1 b_x2 b_i_hill_children b_i_hill_parishes b_i_hill_laws b_i_hill_inForce b_i_columns_many h_i_hill_strengths h_i_hill_expelled h_i_hill_places h_i_hill_terms h_i_hill_orders h_i_hill_ordered h_i_from h_i_to b_i_carriers_judge_piled b_i_carriers_judge_tiring b_i_carriers_judge_barred h_i_carriers_notes h_i_columns_heights h_i_columns_weights h_i_carriers_judge_words (by unfold zdp; omega)
theorem s_Schools_shadesCarried (x1 : Int) (x2 : Int) (x3 : Int) (x4 : Int) (i_hill_children : Int) (i_hill_parishes : Int) (i_hill_laws : Int) (i_hill_inForce : Int) (i_hill_changes : Int) (i_columns_many : Int) (i_hill_strengths : Nat → Int) (i_hill_expelled : Nat → Int) (i_hill_places : Nat → Int) (i_hill_terms : Nat → Int) (i_hill_orders : Nat → Int) (i_hill_ordered : Nat → Int) (i_from : Nat → Int) (i_to : Nat → Int) (i_carriers_judge_piled : Int) (i_carriers_judge_tiring : Int) (i_carriers_judge_barred : Int) (i_carriers_notes : Nat → Int) (i_columns_heights : Nat → Int) (i_columns_weights : Nat → Int) (i_carriers_judge_words : Nat → Int) (i_carriers_judge_pile : Nat → Int) (b_x1 : 1 ≤ x1 ∧ x1 ≤ 4) (b_x2 : 0 ≤ x2 ∧ x2 ≤ 1) (b_x3 : 0 ≤ x3 ∧ x3 ≤ 11) (b_x4 : 0 ≤ x4 ∧ x4 ≤ 11) (b_i_hill_children : 0 ≤ i_hill_children ∧ i_hill_children ≤ 6) (b_i_hill_parishes : 0 ≤ i_hill_parishes ∧ i_hill_parishes ≤ 6) (b_i_hill_laws : 0 ≤ i_hill_laws ∧ i_hill_laws ≤ 6) (b_i_hill_inForce : (-1) ≤ i_hill_inForce ∧ i_hill_inForce ≤ 5) (b_i_columns_many : 1 ≤ i_columns_many ∧ i_columns_many ≤ 12) (h_i_hill_strengths : zR i_hill_strengths 0 60) (h_i_hill_expelled : zR i_hill_expelled 0 1) (h_i_hill_places : zR i_hill_places 0 11) (h_i_hill_terms : zR i_hill_terms 0 99) (h_i_hill_orders : zR i_hill_orders (-2147483648) 2147483647) (h_i_hill_ordered : zR i_hill_ordered 0 424) (h_i_from : zR i_from (-1) 11) (h_i_to : zR i_to (-1) 11) (b_i_carriers_judge_piled : 0 ≤ i_carriers_judge_piled ∧ i_carriers_judge_piled ≤ 32) (b_i_carriers_judge_tiring : 0 ≤ i_carriers_judge_tiring ∧ i_carriers_judge_tiring ≤ 2147483647) (b_i_carriers_judge_barred : 0 ≤ i_carriers_judge_barred ∧ i_carriers_judge_barred ≤ 1) (h_i_carriers_notes : zR i_carriers_notes (-2147483648) 2147483647) (h_i_columns_heights : zR i_columns_heights 0 10) (h_i_columns_weights : zR i_columns_weights 0 30) (h_i_carriers_judge_words : zR i_carriers_judge_words 0 99) : zok (f_Schools_shadesCarried x1 x2 x3 x4 i_hill_children i_hill_parishes i_hill_laws i_hill_inForce i_hill_changes i_columns_many i_hill_strengths i_hill_expelled i_hill_places i_hill_terms i_hill_orders i_hill_ordered i_from i_to i_carriers_judge_piled i_carriers_judge_tiring i_carriers_judge_barred i_carriers_notes i_columns_heights i_columns_weights i_carriers_judge_words i_carriers_judge_pile) (fun o => (0 ≤ o.2.2.2.1 ∧ o.2.2.2.1 ≤ 32) ∧ (0 ≤ o.2.2.2.2.1 ∧ o.2.2.2.2.1 ≤ 2147483647) ∧ (0 ≤ o.2.2.2.2.2.1 ∧ o.2.2.2.2.2.1 ≤ 1) ∧ zR o.2.1 (-1) 11 ∧ zR o.2.2.1 (-1) 11 ∧ zR o.2.2.2.2.2.2.1 (-2147483648) 2147483647 ∧ zR o.2.2.2.2.2.2.2.1 0 10 ∧ zR o.2.2.2.2.2.2.2.2.1 0 30 ∧ zR o.2.2.2.2.2.2.2.2.2.1 0 99) :=
  (sg_Schools_shadesBehind zdp).2 x1 x2 x3 x4 i_hill_children i_hill_parishes i_hill_laws i_hill_inForce i_hill_changes i_columns_many i_hill_strengths i_hill_expelled i_hill_places i_hill_terms i_hill_orders i_hill_ordered i_from i_to i_carriers_judge_piled i_carriers_judge_tiring i_carriers_judge_barred i_carriers_notes i_columns_heights i_columns_weights i_carriers_judge_words i_carriers_judge_pile b_x1 b_x2 b_x3 b_x4 b_i_hill_children b_i_hill_parishes b_i_hill_laws b_i_hill_inForce b_i_columns_many h_i_hill_strengths h_i_hill_expelled h_i_hill_places h_i_hill_terms h_i_hill_orders h_i_hill_ordered h_i_from h_i_to b_i_carriers_judge_piled b_i_carriers_judge_tiring b_i_carriers_judge_barred h_i_carriers_notes h_i_columns_heights h_i_columns_weights h_i_carriers_judge_words (by unfold zdp; omega)
set_option maxHeartbeats 4000000 in
theorem s_Schools_outcome (x1 : Int) (x2 : Int) (x3 : Int) (i_hill_children : Int) (i_hill_parishes : Int) (i_hill_laws : Int) (i_hill_inForce : Int) (i_hill_changes : Int) (i_hill_columns_many : Int) (i_hill_strengths : Nat → Int) (i_hill_expelled : Nat → Int) (i_hill_places : Nat → Int) (i_hill_terms : Nat → Int) (i_hill_orders : Nat → Int) (i_hill_ordered : Nat → Int) (i_hill_columns_heights : Nat → Int) (i_hill_columns_weights : Nat → Int) (i_version : Int) (i_latestTurns : Int) (i_latestFirst : Int) (i_shades : Int) (i_columns_many : Int) (i_from : Nat → Int) (i_to : Nat → Int) (i_carriers_judge_piled : Int) (i_carriers_judge_tiring : Int) (i_carriers_judge_barred : Int) (i_carriers_notes : Nat → Int) (i_columns_heights : Nat → Int) (i_columns_weights : Nat → Int) (i_carriers_judge_words : Nat → Int) (i_carriers_judge_pile : Nat → Int) (b_x1 : 1 ≤ x1 ∧ x1 ≤ 4) (b_x2 : 0 ≤ x2 ∧ x2 ≤ 1) (b_x3 : (-2147483648) ≤ x3 ∧ x3 ≤ 2147483647) (b_i_hill_children : 0 ≤ i_hill_children ∧ i_hill_children ≤ 6) (b_i_hill_parishes : 0 ≤ i_hill_parishes ∧ i_hill_parishes ≤ 6) (b_i_hill_laws : 0 ≤ i_hill_laws ∧ i_hill_laws ≤ 6) (b_i_hill_inForce : (-1) ≤ i_hill_inForce ∧ i_hill_inForce ≤ 5) (b_i_hill_columns_many : 0 ≤ i_hill_columns_many ∧ i_hill_columns_many ≤ 4) (h_i_hill_strengths : zR i_hill_strengths 0 60) (h_i_hill_expelled : zR i_hill_expelled 0 1) (h_i_hill_places : zR i_hill_places 0 11) (h_i_hill_terms : zR i_hill_terms 0 99) (h_i_hill_orders : zR i_hill_orders (-2147483648) 2147483647) (h_i_hill_ordered : zR i_hill_ordered 0 424) (h_i_hill_columns_heights : zR i_hill_columns_heights 0 10) (h_i_hill_columns_weights : zR i_hill_columns_weights 0 30) (b_i_latestTurns : 0 ≤ i_latestTurns ∧ i_latestTurns ≤ 4) (b_i_latestFirst : 0 ≤ i_latestFirst ∧ i_latestFirst ≤ 1) (b_i_columns_many : 0 ≤ i_columns_many ∧ i_columns_many ≤ 12) (h_i_from : zR i_from (-1) 11) (h_i_to : zR i_to (-1) 11) (b_i_carriers_judge_piled : 0 ≤ i_carriers_judge_piled ∧ i_carriers_judge_piled ≤ 32) (b_i_carriers_judge_tiring : 0 ≤ i_carriers_judge_tiring ∧ i_carriers_judge_tiring ≤ 2147483647) (b_i_carriers_judge_barred : 0 ≤ i_carriers_judge_barred ∧ i_carriers_judge_barred ≤ 1) (h_i_carriers_notes : zR i_carriers_notes (-2147483648) 2147483647) (h_i_columns_heights : zR i_columns_heights 0 10) (h_i_columns_weights : zR i_columns_weights 0 30) (h_i_carriers_judge_words : zR i_carriers_judge_words 0 99) : zok (f_Schools_outcome x1 x2 x3 i_hill_children i_hill_parishes i_hill_laws i_hill_inForce i_hill_changes i_hill_columns_many i_hill_strengths i_hill_expelled i_hill_places i_hill_terms i_hill_orders i_hill_ordered i_hill_columns_heights i_hill_columns_weights i_version i_latestTurns i_latestFirst i_shades i_columns_many i_from i_to i_carriers_judge_piled i_carriers_judge_tiring i_carriers_judge_barred i_carriers_notes i_columns_heights i_columns_weights i_carriers_judge_words i_carriers_judge_pile) (fun o => (1 ≤ o.2.2.1 ∧ o.2.2.1 ≤ 4) ∧ (0 ≤ o.2.2.2.1 ∧ o.2.2.2.1 ≤ 1) ∧ (0 ≤ o.2.2.2.2.2.1 ∧ o.2.2.2.2.2.1 ≤ 12) ∧ (0 ≤ o.2.2.2.2.2.2.2.2.1 ∧ o.2.2.2.2.2.2.2.2.1 ≤ 32) ∧ (0 ≤ o.2.2.2.2.2.2.2.2.2.1 ∧ o.2.2.2.2.2.2.2.2.2.1 ≤ 2147483647) ∧ (0 ≤ o.2.2.2.2.2.2.2.2.2.2.1 ∧ o.2.2.2.2.2.2.2.2.2.2.1 ≤ 1) ∧ zR o.2.2.2.2.2.2.1 (-1) 11 ∧ zR o.2.2.2.2.2.2.2.1 (-1) 11 ∧ zR o.2.2.2.2.2.2.2.2.2.2.2.1 (-2147483648) 2147483647 ∧ zR o.2.2.2.2.2.2.2.2.2.2.2.2.1 0 10 ∧ zR o.2.2.2.2.2.2.2.2.2.2.2.2.2.1 0 30 ∧ zR o.2.2.2.2.2.2.2.2.2.2.2.2.2.2.1 0 99) := by
  unfold f_Schools_outcome
  refine zk_ifc (zci_lt (by omega) (by omega)) (fun hc => ?_) (fun hc => ?_)
  · exfalso; omega
  · refine zk_ifc (zci_le (by omega) (by omega)) (fun hc_2 => ?_) (fun hc_2 => ?_)
    · refine zk_if (fun hc_3 => ?_) (fun hc_3 => ?_)
      · unfold f_Schools_outcome_42
        refine zk_d3 (s_Columns_become _ _ _ _ _ _ (by omega) h_i_hill_columns_heights h_i_hill_columns_weights (by omega) h_i_columns_heights h_i_columns_weights) (fun v1 a2 a3 hp => ?_)
        try dsimp only at hp
        obtain ⟨hpp0, hpp1, hpp2⟩ := hp
        refine zk_d11 (s_Schools_shadesBehind _ _ _ _ _ _ _ _ _ _ _ _ _ _ _ _ _ _ _ _ _ _ _ _ (by omega) (by omega) (by omega) (by omega) (by omega) (by omega) (by omega) h_i_hill_strengths h_i_hill_expelled h_i_hill_places h_i_hill_terms h_i_hill_orders h_i_hill_ordered h_i_from h_i_to (by omega) (by omega) (by omega) h_i_carriers_notes hpp1 hpp2 h_i_carriers_judge_words) (fun v4 a5 a6 v7 v8 v9 a10 a11 a12 a13 a14 hp_2 => ?_)
        try dsimp only at hp_2
        obtain ⟨hp_2p0, hp_2p1, hp_2p2, hp_2p3, hp_2p4, hp_2p5, hp_2p6, hp_2p7, hp_2p8⟩ := hp_2
        unfold f_Schools_outcome_87
        refine zk_ifc (zci_eqr (by omega)) (fun hc_4 => ?_) (fun hc_4 => ?_)
        · refine zk_ret ?_
          try dsimp only
          exact ⟨by omega, by omega, by omega, by omega, by omega, by omega, hp_2p3, hp_2p4, hp_2p5, hp_2p6, hp_2p7, hp_2p8⟩
        · refine zk_ifc (zci_eqr (by omega)) (fun hc_5 => ?_) (fun hc_5 => ?_)
          · refine zk_gv (by omega) (by decide) (fun v1_2 h_v1_2 => ?_)
            have r_v1_2 := hp_2p3 (x1.toNat)
            refine zk_ret ?_
            try dsimp only
            exact ⟨by omega, by omega, by omega, by omega, by omega, by omega, hp_2p3, hp_2p4, hp_2p5, hp_2p6, hp_2p7, hp_2p8⟩
          · refine zk_ifc (zci_eqr (by omega)) (fun hc_6 => ?_) (fun hc_6 => ?_)
            · refine zk_gv (by omega) (by decide) (fun v2 h_v2 => ?_)
              have r_v2 := hp_2p4 (x1.toNat)
              refine zk_ret ?_
              try dsimp only
              exact ⟨by omega, by omega, by omega, by omega, by omega, by omega, hp_2p3, hp_2p4, hp_2p5, hp_2p6, hp_2p7, hp_2p8⟩
            · refine zk_ret ?_
              try dsimp only
              exact ⟨by omega, by omega, by omega, by omega, by omega, by omega, hp_2p3, hp_2p4, hp_2p5, hp_2p6, hp_2p7, hp_2p8⟩
      · refine zk_ifc (zci_ne (by omega) (by omega)) (fun hc_7 => ?_) (fun hc_7 => ?_)
        · unfold f_Schools_outcome_42
          refine zk_d3 (s_Columns_become _ _ _ _ _ _ (by omega) h_i_hill_columns_heights h_i_hill_columns_weights (by omega) h_i_columns_heights h_i_columns_weights) (fun v1_3 a2_2 a3_2 hp_3 => ?_)
          try dsimp only at hp_3
          obtain ⟨hp_3p0, hp_3p1, hp_3p2⟩ := hp_3
          refine zk_d11 (s_Schools_shadesBehind _ _ _ _ _ _ _ _ _ _ _ _ _ _ _ _ _ _ _ _ _ _ _ _ (by omega) (by omega) (by omega) (by omega) (by omega) (by omega) (by omega) h_i_hill_strengths h_i_hill_expelled h_i_hill_places h_i_hill_terms h_i_hill_orders h_i_hill_ordered h_i_from h_i_to (by omega) (by omega) (by omega) h_i_carriers_notes hp_3p1 hp_3p2 h_i_carriers_judge_words) (fun v4_2 a5_2 a6_2 v7_2 v8_2 v9_2 a10_2 a11_2 a12_2 a13_2 a14_2 hp_4 => ?_)
          try dsimp only at hp_4
          obtain ⟨hp_4p0, hp_4p1, hp_4p2, hp_4p3, hp_4p4, hp_4p5, hp_4p6, hp_4p7, hp_4p8⟩ := hp_4
          unfold f_Schools_outcome_87
          refine zk_ifc (zci_eqr (by omega)) (fun hc_8 => ?_) (fun hc_8 => ?_)
          · refine zk_ret ?_
            try dsimp only
            exact ⟨by omega, by omega, by omega, by omega, by omega, by omega, hp_4p3, hp_4p4, hp_4p5, hp_4p6, hp_4p7, hp_4p8⟩
          · refine zk_ifc (zci_eqr (by omega)) (fun hc_9 => ?_) (fun hc_9 => ?_)
            · refine zk_gv (by omega) (by decide) (fun v1_4 h_v1_4 => ?_)
              have r_v1_4 := hp_4p3 (x1.toNat)
              refine zk_ret ?_
              try dsimp only
              exact ⟨by omega, by omega, by omega, by omega, by omega, by omega, hp_4p3, hp_4p4, hp_4p5, hp_4p6, hp_4p7, hp_4p8⟩
            · refine zk_ifc (zci_eqr (by omega)) (fun hc_10 => ?_) (fun hc_10 => ?_)
              · refine zk_gv (by omega) (by decide) (fun v2_2 h_v2_2 => ?_)
                have r_v2_2 := hp_4p4 (x1.toNat)
                refine zk_ret ?_
                try dsimp only
                exact ⟨by omega, by omega, by omega, by omega, by omega, by omega, hp_4p3, hp_4p4, hp_4p5, hp_4p6, hp_4p7, hp_4p8⟩
              · refine zk_ret ?_
                try dsimp only
                exact ⟨by omega, by omega, by omega, by omega, by omega, by omega, hp_4p3, hp_4p4, hp_4p5, hp_4p6, hp_4p7, hp_4p8⟩
        · refine zk_ifc (zci_eq (by omega) (by omega)) (fun hc_11 => ?_) (fun hc_11 => ?_)
          · unfold f_Schools_outcome_87
            refine zk_ifc (zci_eqr (by omega)) (fun hc_12 => ?_) (fun hc_12 => ?_)
            · refine zk_ret ?_
              try dsimp only
              exact ⟨by omega, by omega, by omega, by omega, by omega, by omega, h_i_from, h_i_to, h_i_carriers_notes, h_i_columns_heights, h_i_columns_weights, h_i_carriers_judge_words⟩
            · refine zk_ifc (zci_eqr (by omega)) (fun hc_13 => ?_) (fun hc_13 => ?_)
              · refine zk_gv (by omega) (by decide) (fun v1_5 h_v1_5 => ?_)
                have r_v1_5 := h_i_from (x1.toNat)
                refine zk_ret ?_
                try dsimp only
                exact ⟨by omega, by omega, by omega, by omega, by omega, by omega, h_i_from, h_i_to, h_i_carriers_notes, h_i_columns_heights, h_i_columns_weights, h_i_carriers_judge_words⟩
              · refine zk_ifc (zci_eqr (by omega)) (fun hc_14 => ?_) (fun hc_14 => ?_)
                · refine zk_gv (by omega) (by decide) (fun v2_3 h_v2_3 => ?_)
                  have r_v2_3 := h_i_to (x1.toNat)
                  refine zk_ret ?_
                  try dsimp only
                  exact ⟨by omega, by omega, by omega, by omega, by omega, by omega, h_i_from, h_i_to, h_i_carriers_notes, h_i_columns_heights, h_i_columns_weights, h_i_carriers_judge_words⟩
                · refine zk_ret ?_
                  try dsimp only
                  exact ⟨by omega, by omega, by omega, by omega, by omega, by omega, h_i_from, h_i_to, h_i_carriers_notes, h_i_columns_heights, h_i_columns_weights, h_i_carriers_judge_words⟩
          · unfold f_Schools_outcome_42
            refine zk_d3 (s_Columns_become _ _ _ _ _ _ (by omega) h_i_hill_columns_heights h_i_hill_columns_weights (by omega) h_i_columns_heights h_i_columns_weights) (fun v1_6 a2_3 a3_3 hp_5 => ?_)
            try dsimp only at hp_5
            obtain ⟨hp_5p0, hp_5p1, hp_5p2⟩ := hp_5
            refine zk_d11 (s_Schools_shadesBehind _ _ _ _ _ _ _ _ _ _ _ _ _ _ _ _ _ _ _ _ _ _ _ _ (by omega) (by omega) (by omega) (by omega) (by omega) (by omega) (by omega) h_i_hill_strengths h_i_hill_expelled h_i_hill_places h_i_hill_terms h_i_hill_orders h_i_hill_ordered h_i_from h_i_to (by omega) (by omega) (by omega) h_i_carriers_notes hp_5p1 hp_5p2 h_i_carriers_judge_words) (fun v4_3 a5_3 a6_3 v7_3 v8_3 v9_3 a10_3 a11_3 a12_3 a13_3 a14_3 hp_6 => ?_)
            try dsimp only at hp_6
            obtain ⟨hp_6p0, hp_6p1, hp_6p2, hp_6p3, hp_6p4, hp_6p5, hp_6p6, hp_6p7, hp_6p8⟩ := hp_6
            unfold f_Schools_outcome_87
            refine zk_ifc (zci_eqr (by omega)) (fun hc_15 => ?_) (fun hc_15 => ?_)
            · refine zk_ret ?_
              try dsimp only
              exact ⟨by omega, by omega, by omega, by omega, by omega, by omega, hp_6p3, hp_6p4, hp_6p5, hp_6p6, hp_6p7, hp_6p8⟩
            · refine zk_ifc (zci_eqr (by omega)) (fun hc_16 => ?_) (fun hc_16 => ?_)
              · refine zk_gv (by omega) (by decide) (fun v1_7 h_v1_7 => ?_)
                have r_v1_7 := hp_6p3 (x1.toNat)
                refine zk_ret ?_
                try dsimp only
                exact ⟨by omega, by omega, by omega, by omega, by omega, by omega, hp_6p3, hp_6p4, hp_6p5, hp_6p6, hp_6p7, hp_6p8⟩
              · refine zk_ifc (zci_eqr (by omega)) (fun hc_17 => ?_) (fun hc_17 => ?_)
                · refine zk_gv (by omega) (by decide) (fun v2_4 h_v2_4 => ?_)
                  have r_v2_4 := hp_6p4 (x1.toNat)
                  refine zk_ret ?_
                  try dsimp only
                  exact ⟨by omega, by omega, by omega, by omega, by omega, by omega, hp_6p3, hp_6p4, hp_6p5, hp_6p6, hp_6p7, hp_6p8⟩
                · refine zk_ret ?_
                  try dsimp only
                  exact ⟨by omega, by omega, by omega, by omega, by omega, by omega, hp_6p3, hp_6p4, hp_6p5, hp_6p6, hp_6p7, hp_6p8⟩
    · exfalso; omega
set_option maxHeartbeats 4000000 in
theorem s_HS_duel (x1 : Int) (x2 : Int) (x3 : Int) (i_hill_children : Int) (i_hill_parishes : Int) (i_hill_laws : Int) (i_hill_inForce : Int) (i_hill_changes : Int) (i_hill_columns_many : Int) (i_hill_strengths : Nat → Int) (i_hill_expelled : Nat → Int) (i_hill_places : Nat → Int) (i_hill_terms : Nat → Int) (i_hill_orders : Nat → Int) (i_hill_ordered : Nat → Int) (i_hill_columns_heights : Nat → Int) (i_hill_columns_weights : Nat → Int) (i_judge_piled : Int) (i_judge_tiring : Int) (i_judge_barred : Int) (i_schools_version : Int) (i_schools_latestTurns : Int) (i_schools_latestFirst : Int) (i_schools_shades : Int) (i_judge_words : Nat → Int) (i_judge_pile : Nat → Int) (i_carriers_notes : Nat → Int) (i_schools_columns_many : Int) (i_schools_from : Nat → Int) (i_schools_to : Nat → Int) (i_schools_columns_heights : Nat → Int) (i_schools_columns_weights : Nat → Int) (b_x1 : (-2147483648) ≤ x1 ∧ x1 ≤ 2147483647) (b_x2 : (-2147483648) ≤ x2 ∧ x2 ≤ 2147483647) (b_x3 : (-2147483648) ≤ x3 ∧ x3 ≤ 2147483647) (b_i_hill_children : 0 ≤ i_hill_children ∧ i_hill_children ≤ 6) (b_i_hill_parishes : 0 ≤ i_hill_parishes ∧ i_hill_parishes ≤ 6) (b_i_hill_laws : 0 ≤ i_hill_laws ∧ i_hill_laws ≤ 6) (b_i_hill_inForce : (-1) ≤ i_hill_inForce ∧ i_hill_inForce ≤ 5) (b_i_hill_columns_many : 0 ≤ i_hill_columns_many ∧ i_hill_columns_many ≤ 12) (h_i_hill_strengths : zR i_hill_strengths 0 60) (h_i_hill_expelled : zR i_hill_expelled 0 1) (h_i_hill_places : zR i_hill_places 0 11) (h_i_hill_terms : zR i_hill_terms 0 99) (h_i_hill_orders : zR i_hill_orders (-2147483648) 2147483647) (h_i_hill_ordered : zR i_hill_ordered 0 424) (h_i_hill_columns_heights : zR i_hill_columns_heights 0 10) (h_i_hill_columns_weights : zR i_hill_columns_weights 0 30) (b_i_judge_piled : 0 ≤ i_judge_piled ∧ i_judge_piled ≤ 32) (b_i_judge_tiring : 0 ≤ i_judge_tiring ∧ i_judge_tiring ≤ 2147483647) (b_i_judge_barred : 0 ≤ i_judge_barred ∧ i_judge_barred ≤ 1) (b_i_schools_latestTurns : 0 ≤ i_schools_latestTurns ∧ i_schools_latestTurns ≤ 4) (b_i_schools_latestFirst : 0 ≤ i_schools_latestFirst ∧ i_schools_latestFirst ≤ 1) (h_i_judge_words : zR i_judge_words 0 99) (h_i_carriers_notes : zR i_carriers_notes (-2147483648) 2147483647) (b_i_schools_columns_many : 0 ≤ i_schools_columns_many ∧ i_schools_columns_many ≤ 12) (h_i_schools_from : zR i_schools_from (-1) 11) (h_i_schools_to : zR i_schools_to (-1) 11) (h_i_schools_columns_heights : zR i_schools_columns_heights 0 10) (h_i_schools_columns_weights : zR i_schools_columns_weights 0 30) : zok (f_HS_duel x1 x2 x3 i_hill_children i_hill_parishes i_hill_laws i_hill_inForce i_hill_changes i_hill_columns_many i_hill_strengths i_hill_expelled i_hill_places i_hill_terms i_hill_orders i_hill_ordered i_hill_columns_heights i_hill_columns_weights i_judge_piled i_judge_tiring i_judge_barred i_schools_version i_schools_latestTurns i_schools_latestFirst i_schools_shades i_judge_words i_judge_pile i_carriers_notes i_schools_columns_many i_schools_from i_schools_to i_schools_columns_heights i_schools_columns_weights) (fun o => (0 ≤ o.2.1 ∧ o.2.1 ≤ 32) ∧ (0 ≤ o.2.2.1 ∧ o.2.2.1 ≤ 2147483647) ∧ (0 ≤ o.2.2.2.1 ∧ o.2.2.2.1 ≤ 1) ∧ (0 ≤ o.2.2.2.2.2.1 ∧ o.2.2.2.2.2.1 ≤ 4) ∧ (0 ≤ o.2.2.2.2.2.2.1 ∧ o.2.2.2.2.2.2.1 ≤ 1) ∧ (0 ≤ o.2.2.2.2.2.2.2.2.2.2.2.1 ∧ o.2.2.2.2.2.2.2.2.2.2.2.1 ≤ 12) ∧ zR o.2.2.2.2.2.2.2.2.1 0 99 ∧ zR o.2.2.2.2.2.2.2.2.2.2.1 (-2147483648) 2147483647 ∧ zR o.2.2.2.2.2.2.2.2.2.2.2.2.1 (-1) 11 ∧ zR o.2.2.2.2.2.2.2.2.2.2.2.2.2.1 (-1) 11 ∧ zR o.2.2.2.2.2.2.2.2.2.2.2.2.2.2.1 0 10 ∧ zR o.2.2.2.2.2.2.2.2.2.2.2.2.2.2.2 0 30) := by
  unfold f_HS_duel
  refine zk_ifc (zci_lt (by omega) (by omega)) (fun hc => ?_) (fun hc => ?_)
  · refine zk_ret ?_
    try dsimp only
    exact ⟨by omega, by omega, by omega, by omega, by omega, by omega, h_i_judge_words, h_i_carriers_notes, h_i_schools_from, h_i_schools_to, h_i_schools_columns_heights, h_i_schools_columns_weights⟩
  · refine zk_ifc (zci_lt (by omega) (by omega)) (fun hc_2 => ?_) (fun hc_2 => ?_)
    · refine zk_ret ?_
      try dsimp only
      exact ⟨by omega, by omega, by omega, by omega, by omega, by omega, h_i_judge_words, h_i_carriers_notes, h_i_schools_from, h_i_schools_to, h_i_schools_columns_heights, h_i_schools_columns_weights⟩
    · refine zk_ifc (zci_ltr (by omega)) (fun hc_3 => ?_) (fun hc_3 => ?_)
      · refine zk_ret ?_
        try dsimp only
        exact ⟨by omega, by omega, by omega, by omega, by omega, by omega, h_i_judge_words, h_i_carriers_notes, h_i_schools_from, h_i_schools_to, h_i_schools_columns_heights, h_i_schools_columns_weights⟩
      · refine zk_ifc (zci_lt (by omega) (by omega)) (fun hc_4 => ?_) (fun hc_4 => ?_)
        · refine zk_ret ?_
          try dsimp only
          exact ⟨by omega, by omega, by omega, by omega, by omega, by omega, h_i_judge_words, h_i_carriers_notes, h_i_schools_from, h_i_schools_to, h_i_schools_columns_heights, h_i_schools_columns_weights⟩
        · refine zk_ifc (zci_le (by omega) (by omega)) (fun hc_5 => ?_) (fun hc_5 => ?_)
          · refine zk_d16 (s_Schools_outcome _ _ _ _ _ _ _ _ _ _ _ _ _ _ _ _ _ _ _ _ _ _ _ _ _ _ _ _ _ _ _ _ (by omega) (by omega) (by omega) (by omega) (by omega) (by omega) (by omega) (by omega) h_i_hill_strengths h_i_hill_expelled h_i_hill_places h_i_hill_terms h_i_hill_orders h_i_hill_ordered h_i_hill_columns_heights h_i_hill_columns_weights (by omega) (by omega) (by omega) h_i_schools_from h_i_schools_to (by omega) (by omega) (by omega) h_i_carriers_notes h_i_schools_columns_heights h_i_schools_columns_weights h_i_judge_words) (fun v1 v2 v3 v4 v5 v6 a7 a8 v9 v10 v11 a12 a13 a14 a15 a16 hp => ?_)
            try dsimp only at hp
            obtain ⟨hpp0, hpp1, hpp2, hpp3, hpp4, hpp5, hpp6, hpp7, hpp8, hpp9, hpp10, hpp11⟩ := hp
            refine zk_ret ?_
            try dsimp only
            exact ⟨by omega, by omega, by omega, by omega, by omega, by omega, hpp11, hpp8, hpp6, hpp7, hpp9, hpp10⟩
          · refine zk_ret ?_
            try dsimp only
            exact ⟨by omega, by omega, by omega, by omega, by omega, by omega, h_i_judge_words, h_i_carriers_notes, h_i_schools_from, h_i_schools_to, h_i_schools_columns_heights, h_i_schools_columns_weights⟩
set_option maxHeartbeats 4000000 in
theorem s_Scales_layersOf_18 (i_hill_columns_many : Int) (i_hill_columns_heights : Nat → Int) (i_hill_columns_weights : Nat → Int) (b_i_hill_columns_many : 1 ≤ i_hill_columns_many ∧ i_hill_columns_many ≤ 12) (h_i_hill_columns_heights : zR i_hill_columns_heights 0 10) (h_i_hill_columns_weights : zR i_hill_columns_weights 0 30) : ∀ (n : Nat) (x1 : Int) (x2 : Int) (x3 : Int), (0 ≤ x1 ∧ x1 ≤ 11) → (1 ≤ x3 ∧ x3 ≤ 10) → (11 - x3) < (n : Int) → zok (f_Scales_layersOf_18 i_hill_columns_many i_hill_columns_heights i_hill_columns_weights n x1 x2 x3) (fun o => True) := by
  intro n
  induction n with
  | zero => intro x1 x2 x3 b_x1 b_x3 hm; exfalso; omega
  | succ n ih =>
    intro x1 x2 x3 b_x1 b_x3 hm
    show zok (f_Scales_layersOf_18_b i_hill_columns_many i_hill_columns_heights i_hill_columns_weights (f_Scales_layersOf_18 i_hill_columns_many i_hill_columns_heights i_hill_columns_weights n) x1 x2 x3) _
    unfold f_Scales_layersOf_18_b
    refine zk_d1 (s_Columns_high _ _ _ (by omega) (by omega) h_i_hill_columns_heights) (fun v1 hp => ?_)
    try dsimp only at hp
    obtain ⟨hpp0, hpp1⟩ := hp
    refine zk_ifc (zci_le (by omega) (by omega)) (fun hc => ?_) (fun hc => ?_)
    · exact zk_ret trivial
    · refine zk_d1 (s_Columns_heft _ _ _ _ _ (by omega) (by omega) (by omega) h_i_hill_columns_heights h_i_hill_columns_weights) (fun v2 hp_2 => ?_)
      try dsimp only at hp_2
      have hp_2p0 := hp_2
      refine zk_n ?_
      refine zk_d1 (s_Columns_heft _ _ _ _ _ (by omega) (by omega) (by omega) h_i_hill_columns_heights h_i_hill_columns_weights) (fun v4 hp_3 => ?_)
      try dsimp only at hp_3
      have hp_3p0 := hp_3
      refine zk_ifc (zci_le (by omega) (by omega)) (fun hc_2 => ?_) (fun hc_2 => ?_)
      · unfold f_Scales_layersOf_68
        refine zk_n ?_
        refine zk_n ?_
        exact ih _ _ _ (by omega) (by omega) (by omega)
      · unfold f_Scales_layersOf_68
        refine zk_n ?_
        refine zk_n ?_
        exact ih _ _ _ (by omega) (by omega) (by omega)
set_option maxHeartbeats 4000000 in
theorem s_Scales_layersOf (x1 : Int) (i_hill_columns_many : Int) (i_hill_columns_heights : Nat → Int) (i_hill_columns_weights : Nat → Int) (b_x1 : 0 ≤ x1 ∧ x1 ≤ 11) (b_i_hill_columns_many : 1 ≤ i_hill_columns_many ∧ i_hill_columns_many ≤ 12) (h_i_hill_columns_heights : zR i_hill_columns_heights 0 10) (h_i_hill_columns_weights : zR i_hill_columns_weights 0 30) : zok (f_Scales_layersOf x1 i_hill_columns_many i_hill_columns_heights i_hill_columns_weights) (fun o => True) := by
  unfold f_Scales_layersOf
  refine zk_d1 (s_Columns_high _ _ _ (by omega) (by omega) h_i_hill_columns_heights) (fun v1 hp => ?_)
  try dsimp only at hp
  obtain ⟨hpp0, hpp1⟩ := hp
  refine zk_nE (fun v2 h_v2 => ?_)
  have r_v2 := zi_min_f (1) (by omega) (v1) (by omega); rw [← h_v2] at r_v2
  exact s_Scales_layersOf_18 _ _ _ (by omega) h_i_hill_columns_heights h_i_hill_columns_weights zfu _ _ _ (by omega) (by omega) (by unfold zfu; omega)
set_option maxHeartbeats 4000000 in
theorem s_HS_layers (x1 : Int) (i_hill_columns_many : Int) (i_hill_columns_heights : Nat → Int) (i_hill_columns_weights : Nat → Int) (b_x1 : (-2147483648) ≤ x1 ∧ x1 ≤ 2147483647) (b_i_hill_columns_many : 0 ≤ i_hill_columns_many ∧ i_hill_columns_many ≤ 12) (h_i_hill_columns_heights : zR i_hill_columns_heights 0 10) (h_i_hill_columns_weights : zR i_hill_columns_weights 0 30) : zok (f_HS_layers x1 i_hill_columns_many i_hill_columns_heights i_hill_columns_weights) (fun o => True) := by
  unfold f_HS_layers
  refine zk_d1 (s_Columns_has _ _ (by omega) (by omega)) (fun v1 hp => ?_)
  try dsimp only at hp
  obtain ⟨hpp0, hpp1⟩ := hp
  refine zk_ifc (zci_eqr (by omega)) (fun hc => ?_) (fun hc => ?_)
  · exact zk_ret trivial
  · refine zk_d1 (s_Scales_layersOf _ _ _ _ (by omega) (by omega) h_i_hill_columns_heights h_i_hill_columns_weights) (fun v2 hp_2 => ?_)
    exact zk_ret trivial
end
section
set_option maxHeartbeats 4000000 in
theorem s_Paper_wash (x1 : Int) (i_columns_many : Int) (i_columns_heights : Nat → Int) (i_columns_weights : Nat → Int) (b_x1 : 0 ≤ x1 ∧ x1 ≤ 11) (b_i_columns_many : 1 ≤ i_columns_many ∧ i_columns_many ≤ 12) (h_i_columns_heights : zR i_columns_heights 0 10) (h_i_columns_weights : zR i_columns_weights 0 30) : zok (f_Paper_wash x1 i_columns_many i_columns_heights i_columns_weights) (fun o => (0 ≤ o.1 ∧ o.1 ≤ 1) ∧ zR o.2.1 0 10 ∧ zR o.2.2 0 30) := by
  unfold f_Paper_wash
  refine zk_d1 (s_Columns_high _ _ _ (by omega) (by omega) h_i_columns_heights) (fun v1 hp => ?_)
  try dsimp only at hp
  obtain ⟨hpp0, hpp1⟩ := hp
  refine zk_ifc (zci_ner (by omega)) (fun hc => ?_) (fun hc => ?_)
  · refine zk_d2 (s_Columns_take _ _ _ _ (by omega) (by omega) h_i_columns_weights h_i_columns_heights) (fun v2 a3 hp_2 => ?_)
    try dsimp only at hp_2
    obtain ⟨hp_2p0, hp_2p1⟩ := hp_2
    refine zk_n ?_
    refine zk_d3 (s_Columns_put _ _ _ _ _ (by omega) (by omega) (by omega) hp_2p1 h_i_columns_weights) (fun v5 a6 a7 hp_3 => ?_)
    try dsimp only at hp_3
    obtain ⟨hp_3p0, hp_3p1, hp_3p2, hp_3p3⟩ := hp_3
    refine zk_ifc (zci_eqr (by omega)) (fun hc_2 => ?_) (fun hc_2 => ?_)
    · refine zk_ret ?_
      try dsimp only
      exact ⟨by omega, hp_3p1, hp_3p2⟩
    · refine zk_ret ?_
      try dsimp only
      exact ⟨by omega, hp_3p1, hp_3p2⟩
  · refine zk_ret ?_
    try dsimp only
    exact ⟨by omega, h_i_columns_heights, h_i_columns_weights⟩
set_option maxHeartbeats 4000000 in
theorem s_Paper_pour_29 (i_a1_many : Int) (i_a1_heights : Nat → Int) (i_a1_weights : Nat → Int) (b_i_a1_many : 0 ≤ i_a1_many ∧ i_a1_many ≤ 12) (h_i_a1_heights : zR i_a1_heights 0 10) (h_i_a1_weights : zR i_a1_weights 0 30) : ∀ (n : Nat) (x2 : Int) (x4 : Int) (x5 : Int) (x6 : Int) (x7 : Int) (i_columns_many : Int) (i_columns_heights : Nat → Int) (i_columns_weights : Nat → Int), (0 ≤ x2 ∧ x2 ≤ 99) → (1 ≤ x4 ∧ x4 ≤ 40) → (0 ≤ x6 ∧ x6 ≤ 1000002) → (0 ≤ x7 ∧ x7 ≤ 40) → (1 ≤ i_columns_many ∧ i_columns_many ≤ 12) → (zR i_columns_heights 0 10) → (zR i_columns_weights 0 30) → (41 - x7) < (n : Int) → zok (f_Paper_pour_29 i_a1_many i_a1_heights i_a1_weights n x2 x4 x5 x6 x7 i_columns_many i_columns_heights i_columns_weights) (fun o => (0 ≤ o.2.1 ∧ o.2.1 ≤ 12) ∧ zR o.2.2.1 0 10 ∧ zR o.2.2.2 0 30) := by
  intro n
  induction n with
  | zero => intro x2 x4 x5 x6 x7 i_columns_many i_columns_heights i_columns_weights b_x2 b_x4 b_x6 b_x7 b_i_columns_many h_i_columns_heights h_i_columns_weights hm; exfalso; omega
  | succ n ih =>
    intro x2 x4 x5 x6 x7 i_columns_many i_columns_heights i_columns_weights b_x2 b_x4 b_x6 b_x7 b_i_columns_many h_i_columns_heights h_i_columns_weights hm
    show zok (f_Paper_pour_29_b i_a1_many i_a1_heights i_a1_weights (f_Paper_pour_29 i_a1_many i_a1_heights i_a1_weights n) x2 x4 x5 x6 x7 i_columns_many i_columns_heights i_columns_weights) _
    unfold f_Paper_pour_29_b
    refine zk_ifc (zci_le (by omega) (by omega)) (fun hc => ?_) (fun hc => ?_)
    · refine zk_ret ?_
      try dsimp only
      exact ⟨by omega, h_i_columns_heights, h_i_columns_weights⟩
    · refine zk_n ?_
      refine zk_n ?_
      refine zk_g0zi_w (by omega) ?_
      refine zk_nE (fun v3 h_v3 => ?_)
      rw [zi_rem_n (by omega) (by omega)] at h_v3
      refine zk_g0zi_w (by omega) ?_
      refine zk_nE (fun v4 h_v4 => ?_)
      rw [zi_rem_n (by omega) (by omega)] at h_v4
      have r2_v4 := zemod v3 (w := i_columns_many) (by omega)
      refine zk_d3 (s_Paper_wash _ _ _ _ (by omega) (by omega) h_i_columns_heights h_i_columns_weights) (fun v5 a6 a7 hp => ?_)
      try dsimp only at hp
      obtain ⟨hpp0, hpp1, hpp2⟩ := hp
      refine zk_n ?_
      refine zk_d3 (s_Columns_settle _ _ _ _ (by omega) (by omega) hpp1 hpp2) (fun v9 a10 a11 hp_2 => ?_)
      try dsimp only at hp_2
      obtain ⟨hp_2p0, hp_2p1, hp_2p2⟩ := hp_2
      refine zk_n ?_
      exact ih _ _ _ _ _ _ _ _ (by omega) (by omega) (by omega) (by omega) (by omega) hp_2p1 hp_2p2 (by omega)
set_option maxHeartbeats 4000000 in
theorem s_Paper_pour (x2 : Int) (x3 : Int) (x4 : Int) (i_a1_many : Int) (i_a1_heights : Nat → Int) (i_a1_weights : Nat → Int) (i_columns_many : Int) (i_columns_heights : Nat → Int) (i_columns_weights : Nat → Int) (b_x2 : 0 ≤ x2 ∧ x2 ≤ 99) (b_x3 : 0 ≤ x3 ∧ x3 ≤ 1000000) (b_x4 : 1 ≤ x4 ∧ x4 ≤ 40) (b_i_a1_many : 0 ≤ i_a1_many ∧ i_a1_many ≤ 12) (h_i_a1_heights : zR i_a1_heights 0 10) (h_i_a1_weights : zR i_a1_weights 0 30) (b_i_columns_many : 0 ≤ i_columns_many ∧ i_columns_many ≤ 12) (h_i_columns_heights : zR i_columns_heights 0 10) (h_i_columns_weights : zR i_columns_weights 0 30) : zok (f_Paper_pour x2 x3 x4 i_a1_many i_a1_heights i_a1_weights i_columns_many i_columns_heights i_columns_weights) (fun o => (0 ≤ o.2.1 ∧ o.2.1 ≤ 12) ∧ zR o.2.2.1 0 10 ∧ zR o.2.2.2 0 30) := by
  unfold f_Paper_pour
  refine zk_d3 (s_Columns_become _ _ _ _ _ _ (by omega) h_i_a1_heights h_i_a1_weights (by omega) h_i_columns_heights h_i_columns_weights) (fun v1 a2 a3 hp => ?_)
  try dsimp only at hp
  obtain ⟨hpp0, hpp1, hpp2⟩ := hp
  refine zk_ifc (zci_ner (by omega)) (fun hc => ?_) (fun hc => ?_)
  · exact s_Paper_pour_29 _ _ _ (by omega) h_i_a1_heights h_i_a1_weights zfu _ _ _ _ _ _ _ _ (by omega) (by omega) (by omega) (by omega) (by omega) hpp1 hpp2 (by unfold zfu; omega)
  · refine zk_ret ?_
    try dsimp only
    exact ⟨by omega, hpp1, hpp2⟩
set_option maxHeartbeats 4000000 in
theorem s_HS_rain (x1 : Int) (x2 : Int) (i_hill_columns_many : Int) (i_hill_terms : Nat → Int) (i_hill_columns_heights : Nat → Int) (i_hill_columns_weights : Nat → Int) (i_latestStatus : Int) (i_hill_changes : Int) (i_refusals : Nat → Int) (i_paper_columns_many : Int) (i_paper_columns_heights : Nat → Int) (i_paper_columns_weights : Nat → Int) (b_x1 : (-2147483648) ≤ x1 ∧ x1 ≤ 2147483647) (b_x2 : (-2147483648) ≤ x2 ∧ x2 ≤ 2147483647) (b_i_hill_columns_many : 0 ≤ i_hill_columns_many ∧ i_hill_columns_many ≤ 12) (h_i_hill_terms : zR i_hill_terms 0 99) (h_i_hill_columns_heights : zR i_hill_columns_heights 0 10) (h_i_hill_columns_weights : zR i_hill_columns_weights 0 30) (b_i_latestStatus : (-6) ≤ i_latestStatus ∧ i_latestStatus ≤ 0) (b_i_paper_columns_many : 0 ≤ i_paper_columns_many ∧ i_paper_columns_many ≤ 12) (h_i_paper_columns_heights : zR i_paper_columns_heights 0 10) (h_i_paper_columns_weights : zR i_paper_columns_weights 0 30) : zok (f_HS_rain x1 x2 i_hill_columns_many i_hill_terms i_hill_columns_heights i_hill_columns_weights i_latestStatus i_hill_changes i_refusals i_paper_columns_many i_paper_columns_heights i_paper_columns_weights) (fun o => ((-6) ≤ o.2.1 ∧ o.2.1 ≤ 0) ∧ (0 ≤ o.2.2.2.2.1 ∧ o.2.2.2.2.1 ≤ 12) ∧ zR o.2.2.2.2.2.1 0 10 ∧ zR o.2.2.2.2.2.2 0 30) := by
  unfold f_HS_rain
  refine zk_ifc (zci_ltr (by omega)) (fun hc => ?_) (fun hc => ?_)
  · unfold f_HS_rain_22
    refine zk_d3 (s_HS_refuse _ _ _ (by omega) (by omega)) (fun v1 v2 a3 hp => ?_)
    try dsimp only at hp
    obtain ⟨hpp0, hpp1, hpp2, hpp3⟩ := hp
    refine zk_ret ?_
    try dsimp only
    exact ⟨by omega, by omega, h_i_paper_columns_heights, h_i_paper_columns_weights⟩
  · refine zk_ifc (zci_lt (by omega) (by omega)) (fun hc_2 => ?_) (fun hc_2 => ?_)
    · unfold f_HS_rain_22
      refine zk_d3 (s_HS_refuse _ _ _ (by omega) (by omega)) (fun v1_2 v2_2 a3_2 hp_2 => ?_)
      try dsimp only at hp_2
      obtain ⟨hp_2p0, hp_2p1, hp_2p2, hp_2p3⟩ := hp_2
      refine zk_ret ?_
      try dsimp only
      exact ⟨by omega, by omega, h_i_paper_columns_heights, h_i_paper_columns_weights⟩
    · refine zk_ifc (zci_lt (by omega) (by omega)) (fun hc_3 => ?_) (fun hc_3 => ?_)
      · unfold f_HS_rain_22
        refine zk_d3 (s_HS_refuse _ _ _ (by omega) (by omega)) (fun v1_3 v2_3 a3_3 hp_3 => ?_)
        try dsimp only at hp_3
        obtain ⟨hp_3p0, hp_3p1, hp_3p2, hp_3p3⟩ := hp_3
        refine zk_ret ?_
        try dsimp only
        exact ⟨by omega, by omega, h_i_paper_columns_heights, h_i_paper_columns_weights⟩
      · refine zk_ifc (zci_le (by omega) (by omega)) (fun hc_4 => ?_) (fun hc_4 => ?_)
        · refine zk_gl 2 rfl (by decide) (by decide) (fun v1_4 h_v1_4 => ?_)
          have r_v1_4 := h_i_hill_terms (2)
          refine zk_d4 (s_Paper_pour _ _ _ _ _ _ _ _ _ (by omega) (by omega) (by omega) (by omega) h_i_hill_columns_heights h_i_hill_columns_weights (by omega) h_i_paper_columns_heights h_i_paper_columns_weights) (fun v2_4 v3 a4 a5 hp_4 => ?_)
          try dsimp only at hp_4
          obtain ⟨hp_4p0, hp_4p1, hp_4p2⟩ := hp_4
          refine zk_d3 (s_HS_accept _ _ _ (by omega)) (fun v6 v7 v8 hp_5 => ?_)
          try dsimp only at hp_5
          obtain ⟨hp_5p0, hp_5p1, hp_5p2, hp_5p3⟩ := hp_5
          refine zk_ret ?_
          try dsimp only
          exact ⟨by omega, by omega, hp_4p1, hp_4p2⟩
        · unfold f_HS_rain_22
          refine zk_d3 (s_HS_refuse _ _ _ (by omega) (by omega)) (fun v1_5 v2_5 a3_4 hp_6 => ?_)
          try dsimp only at hp_6
          obtain ⟨hp_6p0, hp_6p1, hp_6p2, hp_6p3⟩ := hp_6
          refine zk_ret ?_
          try dsimp only
          exact ⟨by omega, by omega, h_i_paper_columns_heights, h_i_paper_columns_weights⟩
set_option maxHeartbeats 4000000 in
theorem s_HS_rained (x1 : Int) (x2 : Int) (i_paper_columns_many : Int) (i_paper_columns_heights : Nat → Int) (i_paper_columns_weights : Nat → Int) (b_x1 : (-2147483648) ≤ x1 ∧ x1 ≤ 2147483647) (b_x2 : (-2147483648) ≤ x2 ∧ x2 ≤ 2147483647) (b_i_paper_columns_many : 0 ≤ i_paper_columns_many ∧ i_paper_columns_many ≤ 12) (h_i_paper_columns_heights : zR i_paper_columns_heights 0 10) (h_i_paper_columns_weights : zR i_paper_columns_weights 0 30) : zok (f_HS_rained x1 x2 i_paper_columns_many i_paper_columns_heights i_paper_columns_weights) (fun o => True) := by
  unfold f_HS_rained
  refine zk_d1 (s_Columns_has _ _ (by omega) (by omega)) (fun v1 hp => ?_)
  try dsimp only at hp
  obtain ⟨hpp0, hpp1⟩ := hp
  refine zk_ifc (zci_eqr (by omega)) (fun hc => ?_) (fun hc => ?_)
  · exact zk_ret trivial
  · refine zk_ifc (zci_ltr (by omega)) (fun hc_2 => ?_) (fun hc_2 => ?_)
    · exact zk_ret trivial
    · refine zk_ifc (zci_le (by omega) (by omega)) (fun hc_3 => ?_) (fun hc_3 => ?_)
      · refine zk_ifc (zci_ner (by omega)) (fun hc_4 => ?_) (fun hc_4 => ?_)
        · refine zk_d1 (s_Columns_load _ _ _ _ (by omega) (by omega) h_i_paper_columns_heights h_i_paper_columns_weights) (fun v2 hp_2 => ?_)
          exact zk_ret trivial
        · refine zk_d1 (s_Columns_high _ _ _ (by omega) (by omega) h_i_paper_columns_heights) (fun v3 hp_3 => ?_)
          try dsimp only at hp_3
          obtain ⟨hp_3p0, hp_3p1⟩ := hp_3
          exact zk_ret trivial
      · exact zk_ret trivial
set_option maxHeartbeats 4000000 in
theorem s_Hill_become (i_a1_children : Int) (i_a1_parishes : Int) (i_a1_laws : Int) (i_a1_inForce : Int) (i_a1_columns_many : Int) (i_a1_strengths : Nat → Int) (i_a1_expelled : Nat → Int) (i_a1_trips : Nat → Int) (i_a1_places : Nat → Int) (i_a1_terms : Nat → Int) (i_a1_goals : Nat → Int) (i_a1_orders : Nat → Int) (i_a1_ordered : Nat → Int) (i_a1_columns_heights : Nat → Int) (i_a1_columns_weights : Nat → Int) (i_children : Int) (i_parishes : Int) (i_laws : Int) (i_inForce : Int) (i_columns_many : Int) (i_strengths : Nat → Int) (i_expelled : Nat → Int) (i_trips : Nat → Int) (i_places : Nat → Int) (i_terms : Nat → Int) (i_goals : Nat → Int) (i_orders : Nat → Int) (i_ordered : Nat → Int) (i_columns_heights : Nat → Int) (i_columns_weights : Nat → Int) (b_i_a1_children : 0 ≤ i_a1_children ∧ i_a1_children ≤ 6) (b_i_a1_parishes : 0 ≤ i_a1_parishes ∧ i_a1_parishes ≤ 6) (b_i_a1_laws : 0 ≤ i_a1_laws ∧ i_a1_laws ≤ 6) (b_i_a1_inForce : (-1) ≤ i_a1_inForce ∧ i_a1_inForce ≤ 5) (b_i_a1_columns_many : 0 ≤ i_a1_columns_many ∧ i_a1_columns_many ≤ 12) (h_i_a1_strengths : zR i_a1_strengths 0 60) (h_i_a1_expelled : zR i_a1_expelled 0 1) (h_i_a1_trips : zR i_a1_trips 0 20) (h_i_a1_places : zR i_a1_places 0 11) (h_i_a1_terms : zR i_a1_terms 0 99) (h_i_a1_goals : zR i_a1_goals (-1) 10) (h_i_a1_orders : zR i_a1_orders (-2147483648) 2147483647) (h_i_a1_ordered : zR i_a1_ordered 0 424) (h_i_a1_columns_heights : zR i_a1_columns_heights 0 10) (h_i_a1_columns_weights : zR i_a1_columns_weights 0 30) (b_i_children : 0 ≤ i_children ∧ i_children ≤ 6) (b_i_parishes : 0 ≤ i_parishes ∧ i_parishes ≤ 6) (b_i_laws : 0 ≤ i_laws ∧ i_laws ≤ 6) (b_i_inForce : (-1) ≤ i_inForce ∧ i_inForce ≤ 5) (b_i_columns_many : 0 ≤ i_columns_many ∧ i_columns_many ≤ 12) (h_i_strengths : zR i_strengths 0 60) (h_i_expelled : zR i_expelled 0 1) (h_i_trips : zR i_trips 0 20) (h_i_places : zR i_places 0 11) (h_i_terms : zR i_terms 0 99) (h_i_goals : zR i_goals (-1) 10) (h_i_orders : zR i_orders (-2147483648) 2147483647) (h_i_ordered : zR i_ordered 0 424) (h_i_columns_heights : zR i_columns_heights 0 10) (h_i_columns_weights : zR i_columns_weights 0 30) : zok (f_Hill_become i_a1_children i_a1_parishes i_a1_laws i_a1_inForce i_a1_columns_many i_a1_strengths i_a1_expelled i_a1_trips i_a1_places i_a1_terms i_a1_goals i_a1_orders i_a1_ordered i_a1_columns_heights i_a1_columns_weights i_children i_parishes i_laws i_inForce i_columns_many i_strengths i_expelled i_trips i_places i_terms i_goals i_orders i_ordered i_columns_heights i_columns_weights) (fun o => (0 ≤ o.1 ∧ o.1 ≤ 6) ∧ (0 ≤ o.2.1 ∧ o.2.1 ≤ 6) ∧ (0 ≤ o.2.2.1 ∧ o.2.2.1 ≤ 6) ∧ ((-1) ≤ o.2.2.2.1 ∧ o.2.2.2.1 ≤ 5) ∧ (0 ≤ o.2.2.2.2.1 ∧ o.2.2.2.2.1 ≤ 12) ∧ zR o.2.2.2.2.2.1 0 60 ∧ zR o.2.2.2.2.2.2.1 0 1 ∧ zR o.2.2.2.2.2.2.2.1 0 20 ∧ zR o.2.2.2.2.2.2.2.2.1 0 11 ∧ zR o.2.2.2.2.2.2.2.2.2.1 0 99 ∧ zR o.2.2.2.2.2.2.2.2.2.2.1 (-1) 10 ∧ zR o.2.2.2.2.2.2.2.2.2.2.2.1 (-2147483648) 2147483647 ∧ zR o.2.2.2.2.2.2.2.2.2.2.2.2.1 0 424 ∧ zR o.2.2.2.2.2.2.2.2.2.2.2.2.2.1 0 10 ∧ zR o.2.2.2.2.2.2.2.2.2.2.2.2.2.2 0 30) := by
  unfold f_Hill_become
  refine zk_d3 (s_Columns_become _ _ _ _ _ _ (by omega) h_i_a1_columns_heights h_i_a1_columns_weights (by omega) h_i_columns_heights h_i_columns_weights) (fun v1 a2 a3 hp => ?_)
  try dsimp only at hp
  obtain ⟨hpp0, hpp1, hpp2⟩ := hp
  refine zk_cp (by omega) (fun a4 h_a4 => ?_)
  have i_a4 : zR a4 0 60 := by rw [h_a4]; exact zR_cp h_i_a1_strengths h_i_strengths
  refine zk_cp (by omega) (fun a5 h_a5 => ?_)
  have i_a5 : zR a5 0 1 := by rw [h_a5]; exact zR_cp h_i_a1_expelled h_i_expelled
  refine zk_cp (by omega) (fun a6 h_a6 => ?_)
  have i_a6 : zR a6 0 20 := by rw [h_a6]; exact zR_cp h_i_a1_trips h_i_trips
  refine zk_cp (by omega) (fun a7 h_a7 => ?_)
  have i_a7 : zR a7 0 11 := by rw [h_a7]; exact zR_cp h_i_a1_places h_i_places
  refine zk_cp (by omega) (fun a8 h_a8 => ?_)
  have i_a8 : zR a8 0 99 := by rw [h_a8]; exact zR_cp h_i_a1_terms h_i_terms
  refine zk_cp (by omega) (fun a9 h_a9 => ?_)
  have i_a9 : zR a9 (-1) 10 := by rw [h_a9]; exact zR_cp h_i_a1_goals h_i_goals
  refine zk_cp (by omega) (fun a10 h_a10 => ?_)
  have i_a10 : zR a10 (-2147483648) 2147483647 := by rw [h_a10]; exact zR_cp h_i_a1_orders h_i_orders
  refine zk_cp (by omega) (fun a11 h_a11 => ?_)
  have i_a11 : zR a11 0 424 := by rw [h_a11]; exact zR_cp h_i_a1_ordered h_i_ordered
  refine zk_ret ?_
  try dsimp only
  exact ⟨by omega, by omega, by omega, by omega, by omega, i_a4, i_a5, i_a6, i_a7, i_a8, i_a9, i_a10, i_a11, hpp1, hpp2⟩
set_option maxHeartbeats 4000000 in
theorem s_HS_image (x1 : Int) (i_hill_children : Int) (i_hill_parishes : Int) (i_hill_laws : Int) (i_hill_inForce : Int) (i_hill_columns_many : Int) (i_hill_strengths : Nat → Int) (i_hill_expelled : Nat → Int) (i_hill_trips : Nat → Int) (i_hill_places : Nat → Int) (i_hill_terms : Nat → Int) (i_hill_goals : Nat → Int) (i_hill_orders : Nat → Int) (i_hill_ordered : Nat → Int) (i_hill_columns_heights : Nat → Int) (i_hill_columns_weights : Nat → Int) (i_latestStatus : Int) (i_hill_changes : Int) (i_kept : Nat → Int) (i_refusals : Nat → Int) (i_images_0_children : Int) (i_images_0_parishes : Int) (i_images_0_laws : Int) (i_images_0_inForce : Int) (i_images_1_children : Int) (i_images_1_parishes : Int) (i_images_1_laws : Int) (i_images_1_inForce : Int) (i_images_0_columns_many : Int) (i_images_0_strengths : Nat → Int) (i_images_0_expelled : Nat → Int) (i_images_0_trips : Nat → Int) (i_images_0_places : Nat → Int) (i_images_0_terms : Nat → Int) (i_images_0_goals : Nat → Int) (i_images_0_orders : Nat → Int) (i_images_0_ordered : Nat → Int) (i_images_1_columns_many : Int) (i_images_1_strengths : Nat → Int) (i_images_1_expelled : Nat → Int) (i_images_1_trips : Nat → Int) (i_images_1_places : Nat → Int) (i_images_1_terms : Nat → Int) (i_images_1_goals : Nat → Int) (i_images_1_orders : Nat → Int) (i_images_1_ordered : Nat → Int) (i_images_0_columns_heights : Nat → Int) (i_images_0_columns_weights : Nat → Int) (i_images_1_columns_heights : Nat → Int) (i_images_1_columns_weights : Nat → Int) (b_x1 : (-2147483648) ≤ x1 ∧ x1 ≤ 2147483647) (b_i_hill_children : 0 ≤ i_hill_children ∧ i_hill_children ≤ 6) (b_i_hill_parishes : 0 ≤ i_hill_parishes ∧ i_hill_parishes ≤ 6) (b_i_hill_laws : 0 ≤ i_hill_laws ∧ i_hill_laws ≤ 6) (b_i_hill_inForce : (-1) ≤ i_hill_inForce ∧ i_hill_inForce ≤ 5) (b_i_hill_columns_many : 0 ≤ i_hill_columns_many ∧ i_hill_columns_many ≤ 12) (h_i_hill_strengths : zR i_hill_strengths 0 60) (h_i_hill_expelled : zR i_hill_expelled 0 1) (h_i_hill_trips : zR i_hill_trips 0 20) (h_i_hill_places : zR i_hill_places 0 11) (h_i_hill_terms : zR i_hill_terms 0 99) (h_i_hill_goals : zR i_hill_goals (-1) 10) (h_i_hill_orders : zR i_hill_orders (-2147483648) 2147483647) (h_i_hill_ordered : zR i_hill_ordered 0 424) (h_i_hill_columns_heights : zR i_hill_columns_heights 0 10) (h_i_hill_columns_weights : zR i_hill_columns_weights 0 30) (b_i_latestStatus : (-6) ≤ i_latestStatus ∧ i_latestStatus ≤ 0) (h_i_kept : zR i_kept 0 1) (b_i_images_0_children : 0 ≤ i_images_0_children ∧ i_images_0_children ≤ 6) (b_i_images_0_parishes : 0 ≤ i_images_0_parishes ∧ i_images_0_parishes ≤ 6) (b_i_images_0_laws : 0 ≤ i_images_0_laws ∧ i_images_0_laws ≤ 6) (b_i_images_0_inForce : (-1) ≤ i_images_0_inForce ∧ i_images_0_inForce ≤ 5) (b_i_images_1_children : 0 ≤ i_images_1_children ∧ i_images_1_children ≤ 6) (b_i_images_1_parishes : 0 ≤ i_images_1_parishes ∧ i_images_1_parishes ≤ 6) (b_i_images_1_laws : 0 ≤ i_images_1_laws ∧ i_images_1_laws ≤ 6) (b_i_images_1_inForce : (-1) ≤ i_images_1_inForce ∧ i_images_1_inForce ≤ 5) (b_i_images_0_columns_many : 0 ≤ i_images_0_columns_many ∧ i_images_0_columns_many ≤ 12) (h_i_images_0_strengths : zR i_images_0_strengths 0 60) (h_i_images_0_expelled : zR i_images_0_expelled 0 1) (h_i_images_0_trips : zR i_images_0_trips 0 20) (h_i_images_0_places : zR i_images_0_places 0 11) (h_i_images_0_terms : zR i_images_0_terms 0 99) (h_i_images_0_goals : zR i_images_0_goals (-1) 10) (h_i_images_0_orders : zR i_images_0_orders (-2147483648) 2147483647) (h_i_images_0_ordered : zR i_images_0_ordered 0 424) (b_i_images_1_columns_many : 0 ≤ i_images_1_columns_many ∧ i_images_1_columns_many ≤ 12) (h_i_images_1_strengths : zR i_images_1_strengths 0 60) (h_i_images_1_expelled : zR i_images_1_expelled 0 1) (h_i_images_1_trips : zR i_images_1_trips 0 20) (h_i_images_1_places : zR i_images_1_places 0 11) (h_i_images_1_terms : zR i_images_1_terms 0 99) (h_i_images_1_goals : zR i_images_1_goals (-1) 10) (h_i_images_1_orders : zR i_images_1_orders (-2147483648) 2147483647) (h_i_images_1_ordered : zR i_images_1_ordered 0 424) (h_i_images_0_columns_heights : zR i_images_0_columns_heights 0 10) (h_i_images_0_columns_weights : zR i_images_0_columns_weights 0 30) (h_i_images_1_columns_heights : zR i_images_1_columns_heights 0 10) (h_i_images_1_columns_weights : zR i_images_1_columns_weights 0 30) : zok (f_HS_image x1 i_hill_children i_hill_parishes i_hill_laws i_hill_inForce i_hill_columns_many i_hill_strengths i_hill_expelled i_hill_trips i_hill_places i_hill_terms i_hill_goals i_hill_orders i_hill_ordered i_hill_columns_heights i_hill_columns_weights i_latestStatus i_hill_changes i_kept i_refusals i_images_0_children i_images_0_parishes i_images_0_laws i_images_0_inForce i_images_1_children i_images_1_parishes i_images_1_laws i_images_1_inForce i_images_0_columns_many i_images_0_strengths i_images_0_expelled i_images_0_trips i_images_0_places i_images_0_terms i_images_0_goals i_images_0_orders i_images_0_ordered i_images_1_columns_many i_images_1_strengths i_images_1_expelled i_images_1_trips i_images_1_places i_images_1_terms i_images_1_goals i_images_1_orders i_images_1_ordered i_images_0_columns_heights i_images_0_columns_weights i_images_1_columns_heights i_images_1_columns_weights) (fun o => ((-6) ≤ o.2.1 ∧ o.2.1 ≤ 0) ∧ (0 ≤ o.2.2.2.2.2.1 ∧ o.2.2.2.2.2.1 ≤ 6) ∧ (0 ≤ o.2.2.2.2.2.2.1 ∧ o.2.2.2.2.2.2.1 ≤ 6) ∧ (0 ≤ o.2.2.2.2.2.2.2.1 ∧ o.2.2.2.2.2.2.2.1 ≤ 6) ∧ ((-1) ≤ o.2.2.2.2.2.2.2.2.1 ∧ o.2.2.2.2.2.2.2.2.1 ≤ 5) ∧ (0 ≤ o.2.2.2.2.2.2.2.2.2.1 ∧ o.2.2.2.2.2.2.2.2.2.1 ≤ 6) ∧ (0 ≤ o.2.2.2.2.2.2.2.2.2.2.1 ∧ o.2.2.2.2.2.2.2.2.2.2.1 ≤ 6) ∧ (0 ≤ o.2.2.2.2.2.2.2.2.2.2.2.1 ∧ o.2.2.2.2.2.2.2.2.2.2.2.1 ≤ 6) ∧ ((-1) ≤ o.2.2.2.2.2.2.2.2.2.2.2.2.1 ∧ o.2.2.2.2.2.2.2.2.2.2.2.2.1 ≤ 5) ∧ (0 ≤ o.2.2.2.2.2.2.2.2.2.2.2.2.2.1 ∧ o.2.2.2.2.2.2.2.2.2.2.2.2.2.1 ≤ 12) ∧ (0 ≤ o.2.2.2.2.2.2.2.2.2.2.2.2.2.2.2.2.2.2.2.2.2.2.1 ∧ o.2.2.2.2.2.2.2.2.2.2.2.2.2.2.2.2.2.2.2.2.2.2.1 ≤ 12) ∧ zR o.2.2.2.1 0 1 ∧ zR o.2.2.2.2.2.2.2.2.2.2.2.2.2.2.1 0 60 ∧ zR o.2.2.2.2.2.2.2.2.2.2.2.2.2.2.2.1 0 1 ∧ zR o.2.2.2.2.2.2.2.2.2.2.2.2.2.2.2.2.1 0 20 ∧ zR o.2.2.2.2.2.2.2.2.2.2.2.2.2.2.2.2.2.1 0 11 ∧ zR o.2.2.2.2.2.2.2.2.2.2.2.2.2.2.2.2.2.2.1 0 99 ∧ zR o.2.2.2.2.2.2.2.2.2.2.2.2.2.2.2.2.2.2.2.1 (-1) 10 ∧ zR o.2.2.2.2.2.2.2.2.2.2.2.2.2.2.2.2.2.2.2.2.1 (-2147483648) 2147483647 ∧ zR o.2.2.2.2.2.2.2.2.2.2.2.2.2.2.2.2.2.2.2.2.2.1 0 424 ∧ zR o.2.2.2.2.2.2.2.2.2.2.2.2.2.2.2.2.2.2.2.2.2.2.2.1 0 60 ∧ zR o.2.2.2.2.2.2.2.2.2.2.2.2.2.2.2.2.2.2.2.2.2.2.2.2.1 0 1 ∧ zR o.2.2.2.2.2.2.2.2.2.2.2.2.2.2.2.2.2.2.2.2.2.2.2.2.2.1 0 20 ∧ zR o.2.2.2.2.2.2.2.2.2.2.2.2.2.2.2.2.2.2.2.2.2.2.2.2.2.2.1 0 11 ∧ zR o.2.2.2.2.2.2.2.2.2.2.2.2.2.2.2.2.2.2.2.2.2.2.2.2.2.2.2.1 0 99 ∧ zR o.2.2.2.2.2.2.2.2.2.2.2.2.2.2.2.2.2.2.2.2.2.2.2.2.2.2.2.2.1 (-1) 10 ∧ zR o.2.2.2.2.2.2.2.2.2.2.2.2.2.2.2.2.2.2.2.2.2.2.2.2.2.2.2.2.2.1 (-2147483648) 2147483647 ∧ zR o.2.2.2.2.2.2.2.2.2.2.2.2.2.2.2.2.2.2.2.2.2.2.2.2.2.2.2.2.2.2.1 0 424 ∧ zR o.2.2.2.2.2.2.2.2.2.2.2.2.2.2.2.2.2.2.2.2.2.2.2.2.2.2.2.2.2.2.2.1 0 10 ∧ zR o.2.2.2.2.2.2.2.2.2.2.2.2.2.2.2.2.2.2.2.2.2.2.2.2.2.2.2.2.2.2.2.2.1 0 30 ∧ zR o.2.2.2.2.2.2.2.2.2.2.2.2.2.2.2.2.2.2.2.2.2.2.2.2.2.2.2.2.2.2.2.2.2.1 0 10 ∧ zR o.2.2.2.2.2.2.2.2.2.2.2.2.2.2.2.2.2.2.2.2.2.2.2.2.2.2.2.2.2.2.2.2.2.2 0 30) := by
  unfold f_HS_image
  refine zk_ifc (zci_ltr (by omega)) (fun hc => ?_) (fun hc => ?_)
  · unfold f_HS_image_9
    refine zk_d3 (s_HS_refuse _ _ _ (by omega) (by omega)) (fun v1 v2 a3 hp => ?_)
    try dsimp only at hp
    obtain ⟨hpp0, hpp1, hpp2, hpp3⟩ := hp
    refine zk_ret ?_
    try dsimp only
    exact ⟨by omega, by omega, by omega, by omega, by omega, by omega, by omega, by omega, by omega, by omega, by omega, h_i_kept, h_i_images_0_strengths, h_i_images_0_expelled, h_i_images_0_trips, h_i_images_0_places, h_i_images_0_terms, h_i_images_0_goals, h_i_images_0_orders, h_i_images_0_ordered, h_i_images_1_strengths, h_i_images_1_expelled, h_i_images_1_trips, h_i_images_1_places, h_i_images_1_terms, h_i_images_1_goals, h_i_images_1_orders, h_i_images_1_ordered, h_i_images_0_columns_heights, h_i_images_0_columns_weights, h_i_images_1_columns_heights, h_i_images_1_columns_weights⟩
  · refine zk_ifc (zci_lt (by omega) (by omega)) (fun hc_2 => ?_) (fun hc_2 => ?_)
    · refine zk_ifc (zci_eqr (by omega)) (fun hc_3 => ?_) (fun hc_3 => ?_)
      · refine zk_d15 (s_Hill_become _ _ _ _ _ _ _ _ _ _ _ _ _ _ _ _ _ _ _ _ _ _ _ _ _ _ _ _ _ _ (by omega) (by omega) (by omega) (by omega) (by omega) h_i_hill_strengths h_i_hill_expelled h_i_hill_trips h_i_hill_places h_i_hill_terms h_i_hill_goals h_i_hill_orders h_i_hill_ordered h_i_hill_columns_heights h_i_hill_columns_weights (by omega) (by omega) (by omega) (by omega) (by omega) h_i_images_0_strengths h_i_images_0_expelled h_i_images_0_trips h_i_images_0_places h_i_images_0_terms h_i_images_0_goals h_i_images_0_orders h_i_images_0_ordered h_i_images_0_columns_heights h_i_images_0_columns_weights) (fun v1_2 v2_2 v3 v4 v5 a6 a7 a8 a9 a10 a11 a12 a13 a14 a15 hp_2 => ?_)
        try dsimp only at hp_2
        obtain ⟨hp_2p0, hp_2p1, hp_2p2, hp_2p3, hp_2p4, hp_2p5, hp_2p6, hp_2p7, hp_2p8, hp_2p9, hp_2p10, hp_2p11, hp_2p12, hp_2p13, hp_2p14⟩ := hp_2
        unfold f_HS_image_28
        refine zk_gb (by omega) ?_
        refine zk_sv (by omega) (by decide) (fun a1 h_a1 => ?_)
        have i_a1 : zR a1 0 1 := by rw [h_a1]; exact zR_zu h_i_kept (by decide) (by decide) (by omega)
        refine zk_d3 (s_HS_accept _ _ _ (by omega)) (fun v2_3 v3_2 v4_2 hp_3 => ?_)
        try dsimp only at hp_3
        obtain ⟨hp_3p0, hp_3p1, hp_3p2, hp_3p3⟩ := hp_3
        refine zk_ret ?_
        try dsimp only
        exact ⟨by omega, by omega, by omega, by omega, by omega, by omega, by omega, by omega, by omega, by omega, by omega, i_a1, hp_2p5, hp_2p6, hp_2p7, hp_2p8, hp_2p9, hp_2p10, hp_2p11, hp_2p12, h_i_images_1_strengths, h_i_images_1_expelled, h_i_images_1_trips, h_i_images_1_places, h_i_images_1_terms, h_i_images_1_goals, h_i_images_1_orders, h_i_images_1_ordered, hp_2p13, hp_2p14, h_i_images_1_columns_heights, h_i_images_1_columns_weights⟩
      · refine zk_ifc (zci_eqr (by omega)) (fun hc_4 => ?_) (fun hc_4 => ?_)
        · refine zk_d15 (s_Hill_become _ _ _ _ _ _ _ _ _ _ _ _ _ _ _ _ _ _ _ _ _ _ _ _ _ _ _ _ _ _ (by omega) (by omega) (by omega) (by omega) (by omega) h_i_hill_strengths h_i_hill_expelled h_i_hill_trips h_i_hill_places h_i_hill_terms h_i_hill_goals h_i_hill_orders h_i_hill_ordered h_i_hill_columns_heights h_i_hill_columns_weights (by omega) (by omega) (by omega) (by omega) (by omega) h_i_images_1_strengths h_i_images_1_expelled h_i_images_1_trips h_i_images_1_places h_i_images_1_terms h_i_images_1_goals h_i_images_1_orders h_i_images_1_ordered h_i_images_1_columns_heights h_i_images_1_columns_weights) (fun v16 v17 v18 v19 v20 a21 a22 a23 a24 a25 a26 a27 a28 a29 a30 hp_4 => ?_)
          try dsimp only at hp_4
          obtain ⟨hp_4p0, hp_4p1, hp_4p2, hp_4p3, hp_4p4, hp_4p5, hp_4p6, hp_4p7, hp_4p8, hp_4p9, hp_4p10, hp_4p11, hp_4p12, hp_4p13, hp_4p14⟩ := hp_4
          unfold f_HS_image_28
          refine zk_gb (by omega) ?_
          refine zk_sv (by omega) (by decide) (fun a1_2 h_a1_2 => ?_)
          have i_a1_2 : zR a1_2 0 1 := by rw [h_a1_2]; exact zR_zu h_i_kept (by decide) (by decide) (by omega)
          refine zk_d3 (s_HS_accept _ _ _ (by omega)) (fun v2_4 v3_3 v4_3 hp_5 => ?_)
          try dsimp only at hp_5
          obtain ⟨hp_5p0, hp_5p1, hp_5p2, hp_5p3⟩ := hp_5
          refine zk_ret ?_
          try dsimp only
          exact ⟨by omega, by omega, by omega, by omega, by omega, by omega, by omega, by omega, by omega, by omega, by omega, i_a1_2, h_i_images_0_strengths, h_i_images_0_expelled, h_i_images_0_trips, h_i_images_0_places, h_i_images_0_terms, h_i_images_0_goals, h_i_images_0_orders, h_i_images_0_ordered, hp_4p5, hp_4p6, hp_4p7, hp_4p8, hp_4p9, hp_4p10, hp_4p11, hp_4p12, h_i_images_0_columns_heights, h_i_images_0_columns_weights, hp_4p13, hp_4p14⟩
        · exfalso; omega
    · unfold f_HS_image_9
      refine zk_d3 (s_HS_refuse _ _ _ (by omega) (by omega)) (fun v1_3 v2_5 a3_2 hp_6 => ?_)
      try dsimp only at hp_6
      obtain ⟨hp_6p0, hp_6p1, hp_6p2, hp_6p3⟩ := hp_6
      refine zk_ret ?_
      try dsimp only
      exact ⟨by omega, by omega, by omega, by omega, by omega, by omega, by omega, by omega, by omega, by omega, by omega, h_i_kept, h_i_images_0_strengths, h_i_images_0_expelled, h_i_images_0_trips, h_i_images_0_places, h_i_images_0_terms, h_i_images_0_goals, h_i_images_0_orders, h_i_images_0_ordered, h_i_images_1_strengths, h_i_images_1_expelled, h_i_images_1_trips, h_i_images_1_places, h_i_images_1_terms, h_i_images_1_goals, h_i_images_1_orders, h_i_images_1_ordered, h_i_images_0_columns_heights, h_i_images_0_columns_weights, h_i_images_1_columns_heights, h_i_images_1_columns_weights⟩
set_option maxHeartbeats 4000000 in
theorem s_HS_back (x1 : Int) (i_kept : Nat → Int) (i_images_0_children : Int) (i_images_0_parishes : Int) (i_images_0_laws : Int) (i_images_0_inForce : Int) (i_images_1_children : Int) (i_images_1_parishes : Int) (i_images_1_laws : Int) (i_images_1_inForce : Int) (i_images_0_columns_many : Int) (i_images_0_strengths : Nat → Int) (i_images_0_expelled : Nat → Int) (i_images_0_trips : Nat → Int) (i_images_0_places : Nat → Int) (i_images_0_terms : Nat → Int) (i_images_0_goals : Nat → Int) (i_images_0_orders : Nat → Int) (i_images_0_ordered : Nat → Int) (i_images_1_columns_many : Int) (i_images_1_strengths : Nat → Int) (i_images_1_expelled : Nat → Int) (i_images_1_trips : Nat → Int) (i_images_1_places : Nat → Int) (i_images_1_terms : Nat → Int) (i_images_1_goals : Nat → Int) (i_images_1_orders : Nat → Int) (i_images_1_ordered : Nat → Int) (i_images_0_columns_heights : Nat → Int) (i_images_0_columns_weights : Nat → Int) (i_images_1_columns_heights : Nat → Int) (i_images_1_columns_weights : Nat → Int) (i_latestStatus : Int) (i_hill_children : Int) (i_hill_parishes : Int) (i_hill_laws : Int) (i_hill_inForce : Int) (i_hill_changes : Int) (i_refusals : Nat → Int) (i_hill_columns_many : Int) (i_hill_strengths : Nat → Int) (i_hill_expelled : Nat → Int) (i_hill_trips : Nat → Int) (i_hill_places : Nat → Int) (i_hill_terms : Nat → Int) (i_hill_goals : Nat → Int) (i_hill_orders : Nat → Int) (i_hill_ordered : Nat → Int) (i_hill_columns_heights : Nat → Int) (i_hill_columns_weights : Nat → Int) (b_x1 : (-2147483648) ≤ x1 ∧ x1 ≤ 2147483647) (h_i_kept : zR i_kept 0 1) (b_i_images_0_children : 0 ≤ i_images_0_children ∧ i_images_0_children ≤ 6) (b_i_images_0_parishes : 0 ≤ i_images_0_parishes ∧ i_images_0_parishes ≤ 6) (b_i_images_0_laws : 0 ≤ i_images_0_laws ∧ i_images_0_laws ≤ 6) (b_i_images_0_inForce : (-1) ≤ i_images_0_inForce ∧ i_images_0_inForce ≤ 5) (b_i_images_1_children : 0 ≤ i_images_1_children ∧ i_images_1_children ≤ 6) (b_i_images_1_parishes : 0 ≤ i_images_1_parishes ∧ i_images_1_parishes ≤ 6) (b_i_images_1_laws : 0 ≤ i_images_1_laws ∧ i_images_1_laws ≤ 6) (b_i_images_1_inForce : (-1) ≤ i_images_1_inForce ∧ i_images_1_inForce ≤ 5) (b_i_images_0_columns_many : 0 ≤ i_images_0_columns_many ∧ i_images_0_columns_many ≤ 12) (h_i_images_0_strengths : zR i_images_0_strengths 0 60) (h_i_images_0_expelled : zR i_images_0_expelled 0 1) (h_i_images_0_trips : zR i_images_0_trips 0 20) (h_i_images_0_places : zR i_images_0_places 0 11) (h_i_images_0_terms : zR i_images_0_terms 0 99) (h_i_images_0_goals : zR i_images_0_goals (-1) 10) (h_i_images_0_orders : zR i_images_0_orders (-2147483648) 2147483647) (h_i_images_0_ordered : zR i_images_0_ordered 0 424) (b_i_images_1_columns_many : 0 ≤ i_images_1_columns_many ∧ i_images_1_columns_many ≤ 12) (h_i_images_1_strengths : zR i_images_1_strengths 0 60) (h_i_images_1_expelled : zR i_images_1_expelled 0 1) (h_i_images_1_trips : zR i_images_1_trips 0 20) (h_i_images_1_places : zR i_images_1_places 0 11) (h_i_images_1_terms : zR i_images_1_terms 0 99) (h_i_images_1_goals : zR i_images_1_goals (-1) 10) (h_i_images_1_orders : zR i_images_1_orders (-2147483648) 2147483647) (h_i_images_1_ordered : zR i_images_1_ordered 0 424) (h_i_images_0_columns_heights : zR i_images_0_columns_heights 0 10) (h_i_images_0_columns_weights : zR i_images_0_columns_weights 0 30) (h_i_images_1_columns_heights : zR i_images_1_columns_heights 0 10) (h_i_images_1_columns_weights : zR i_images_1_columns_weights 0 30) (b_i_latestStatus : (-6) ≤ i_latestStatus ∧ i_latestStatus ≤ 0) (b_i_hill_children : 0 ≤ i_hill_children ∧ i_hill_children ≤ 6) (b_i_hill_parishes : 0 ≤ i_hill_parishes ∧ i_hill_parishes ≤ 6) (b_i_hill_laws : 0 ≤ i_hill_laws ∧ i_hill_laws ≤ 6) (b_i_hill_inForce : (-1) ≤ i_hill_inForce ∧ i_hill_inForce ≤ 5) (b_i_hill_columns_many : 0 ≤ i_hill_columns_many ∧ i_hill_columns_many ≤ 12) (h_i_hill_strengths : zR i_hill_strengths 0 60) (h_i_hill_expelled : zR i_hill_expelled 0 1) (h_i_hill_trips : zR i_hill_trips 0 20) (h_i_hill_places : zR i_hill_places 0 11) (h_i_hill_terms : zR i_hill_terms 0 99) (h_i_hill_goals : zR i_hill_goals (-1) 10) (h_i_hill_orders : zR i_hill_orders (-2147483648) 2147483647) (h_i_hill_ordered : zR i_hill_ordered 0 424) (h_i_hill_columns_heights : zR i_hill_columns_heights 0 10) (h_i_hill_columns_weights : zR i_hill_columns_weights 0 30) : zok (f_HS_back x1 i_kept i_images_0_children i_images_0_parishes i_images_0_laws i_images_0_inForce i_images_1_children i_images_1_parishes i_images_1_laws i_images_1_inForce i_images_0_columns_many i_images_0_strengths i_images_0_expelled i_images_0_trips i_images_0_places i_images_0_terms i_images_0_goals i_images_0_orders i_images_0_ordered i_images_1_columns_many i_images_1_strengths i_images_1_expelled i_images_1_trips i_images_1_places i_images_1_terms i_images_1_goals i_images_1_orders i_images_1_ordered i_images_0_columns_heights i_images_0_columns_weights i_images_1_columns_heights i_images_1_columns_weights i_latestStatus i_hill_children i_hill_parishes i_hill_laws i_hill_inForce i_hill_changes i_refusals i_hill_columns_many i_hill_strengths i_hill_expelled i_hill_trips i_hill_places i_hill_terms i_hill_goals i_hill_orders i_hill_ordered i_hill_columns_heights i_hill_columns_weights) (fun o => ((-6) ≤ o.2.1 ∧ o.2.1 ≤ 0) ∧ (0 ≤ o.2.2.1 ∧ o.2.2.1 ≤ 6) ∧ (0 ≤ o.2.2.2.1 ∧ o.2.2.2.1 ≤ 6) ∧ (0 ≤ o.2.2.2.2.1 ∧ o.2.2.2.2.1 ≤ 6) ∧ ((-1) ≤ o.2.2.2.2.2.1 ∧ o.2.2.2.2.2.1 ≤ 5) ∧ (0 ≤ o.2.2.2.2.2.2.2.2.1 ∧ o.2.2.2.2.2.2.2.2.1 ≤ 12) ∧ zR o.2.2.2.2.2.2.2.2.2.1 0 60 ∧ zR o.2.2.2.2.2.2.2.2.2.2.1 0 1 ∧ zR o.2.2.2.2.2.2.2.2.2.2.2.1 0 20 ∧ zR o.2.2.2.2.2.2.2.2.2.2.2.2.1 0 11 ∧ zR o.2.2.2.2.2.2.2.2.2.2.2.2.2.1 0 99 ∧ zR o.2.2.2.2.2.2.2.2.2.2.2.2.2.2.1 (-1) 10 ∧ zR o.2.2.2.2.2.2.2.2.2.2.2.2.2.2.2.1 (-2147483648) 2147483647 ∧ zR o.2.2.2.2.2.2.2.2.2.2.2.2.2.2.2.2.1 0 424 ∧ zR o.2.2.2.2.2.2.2.2.2.2.2.2.2.2.2.2.2.1 0 10 ∧ zR o.2.2.2.2.2.2.2.2.2.2.2.2.2.2.2.2.2.2 0 30) := by
  unfold f_HS_back
  refine zk_ifc (zci_ltr (by omega)) (fun hc => ?_) (fun hc => ?_)
  · unfold f_HS_back_9
    refine zk_d3 (s_HS_refuse _ _ _ (by omega) (by omega)) (fun v1 v2 a3 hp => ?_)
    try dsimp only at hp
    obtain ⟨hpp0, hpp1, hpp2, hpp3⟩ := hp
    refine zk_ret ?_
    try dsimp only
    exact ⟨by omega, by omega, by omega, by omega, by omega, by omega, h_i_hill_strengths, h_i_hill_expelled, h_i_hill_trips, h_i_hill_places, h_i_hill_terms, h_i_hill_goals, h_i_hill_orders, h_i_hill_ordered, h_i_hill_columns_heights, h_i_hill_columns_weights⟩
  · refine zk_ifc (zci_lt (by omega) (by omega)) (fun hc_2 => ?_) (fun hc_2 => ?_)
    · refine zk_gv (by omega) (by decide) (fun v1_2 h_v1_2 => ?_)
      have r_v1_2 := h_i_kept (x1.toNat)
      refine zk_ifc (zci_ner (by omega)) (fun hc_3 => ?_) (fun hc_3 => ?_)
      · refine zk_ifc (zci_eqr (by omega)) (fun hc_4 => ?_) (fun hc_4 => ?_)
        · refine zk_d15 (s_Hill_become _ _ _ _ _ _ _ _ _ _ _ _ _ _ _ _ _ _ _ _ _ _ _ _ _ _ _ _ _ _ (by omega) (by omega) (by omega) (by omega) (by omega) h_i_images_0_strengths h_i_images_0_expelled h_i_images_0_trips h_i_images_0_places h_i_images_0_terms h_i_images_0_goals h_i_images_0_orders h_i_images_0_ordered h_i_images_0_columns_heights h_i_images_0_columns_weights (by omega) (by omega) (by omega) (by omega) (by omega) h_i_hill_strengths h_i_hill_expelled h_i_hill_trips h_i_hill_places h_i_hill_terms h_i_hill_goals h_i_hill_orders h_i_hill_ordered h_i_hill_columns_heights h_i_hill_columns_weights) (fun v2_2 v3 v4 v5 v6 a7 a8 a9 a10 a11 a12 a13 a14 a15 a16 hp_2 => ?_)
          try dsimp only at hp_2
          obtain ⟨hp_2p0, hp_2p1, hp_2p2, hp_2p3, hp_2p4, hp_2p5, hp_2p6, hp_2p7, hp_2p8, hp_2p9, hp_2p10, hp_2p11, hp_2p12, hp_2p13, hp_2p14⟩ := hp_2
          unfold f_HS_back_44
          refine zk_d3 (s_HS_accept _ _ _ (by omega)) (fun v1_3 v2_3 v3_2 hp_3 => ?_)
          try dsimp only at hp_3
          obtain ⟨hp_3p0, hp_3p1, hp_3p2, hp_3p3⟩ := hp_3
          refine zk_ret ?_
          try dsimp only
          exact ⟨by omega, by omega, by omega, by omega, by omega, by omega, hp_2p5, hp_2p6, hp_2p7, hp_2p8, hp_2p9, hp_2p10, hp_2p11, hp_2p12, hp_2p13, hp_2p14⟩
        · refine zk_ifc (zci_eqr (by omega)) (fun hc_5 => ?_) (fun hc_5 => ?_)
          · refine zk_d15 (s_Hill_become _ _ _ _ _ _ _ _ _ _ _ _ _ _ _ _ _ _ _ _ _ _ _ _ _ _ _ _ _ _ (by omega) (by omega) (by omega) (by omega) (by omega) h_i_images_1_strengths h_i_images_1_expelled h_i_images_1_trips h_i_images_1_places h_i_images_1_terms h_i_images_1_goals h_i_images_1_orders h_i_images_1_ordered h_i_images_1_columns_heights h_i_images_1_columns_weights (by omega) (by omega) (by omega) (by omega) (by omega) h_i_hill_strengths h_i_hill_expelled h_i_hill_trips h_i_hill_places h_i_hill_terms h_i_hill_goals h_i_hill_orders h_i_hill_ordered h_i_hill_columns_heights h_i_hill_columns_weights) (fun v17 v18 v19 v20 v21 a22 a23 a24 a25 a26 a27 a28 a29 a30 a31 hp_4 => ?_)
            try dsimp only at hp_4
            obtain ⟨hp_4p0, hp_4p1, hp_4p2, hp_4p3, hp_4p4, hp_4p5, hp_4p6, hp_4p7, hp_4p8, hp_4p9, hp_4p10, hp_4p11, hp_4p12, hp_4p13, hp_4p14⟩ := hp_4
            unfold f_HS_back_44
            refine zk_d3 (s_HS_accept _ _ _ (by omega)) (fun v1_4 v2_4 v3_3 hp_5 => ?_)
            try dsimp only at hp_5
            obtain ⟨hp_5p0, hp_5p1, hp_5p2, hp_5p3⟩ := hp_5
            refine zk_ret ?_
            try dsimp only
            exact ⟨by omega, by omega, by omega, by omega, by omega, by omega, hp_4p5, hp_4p6, hp_4p7, hp_4p8, hp_4p9, hp_4p10, hp_4p11, hp_4p12, hp_4p13, hp_4p14⟩
          · exfalso; omega
      · refine zk_d3 (s_HS_refuse _ _ _ (by omega) (by omega)) (fun v32 v33 a34 hp_6 => ?_)
        try dsimp only at hp_6
        obtain ⟨hp_6p0, hp_6p1, hp_6p2, hp_6p3⟩ := hp_6
        refine zk_ret ?_
        try dsimp only
        exact ⟨by omega, by omega, by omega, by omega, by omega, by omega, h_i_hill_strengths, h_i_hill_expelled, h_i_hill_trips, h_i_hill_places, h_i_hill_terms, h_i_hill_goals, h_i_hill_orders, h_i_hill_ordered, h_i_hill_columns_heights, h_i_hill_columns_weights⟩
    · unfold f_HS_back_9
      refine zk_d3 (s_HS_refuse _ _ _ (by omega) (by omega)) (fun v1_5 v2_5 a3_2 hp_7 => ?_)
      try dsimp only at hp_7
      obtain ⟨hp_7p0, hp_7p1, hp_7p2, hp_7p3⟩ := hp_7
      refine zk_ret ?_
      try dsimp only
      exact ⟨by omega, by omega, by omega, by omega, by omega, by omega, h_i_hill_strengths, h_i_hill_expelled, h_i_hill_trips, h_i_hill_places, h_i_hill_terms, h_i_hill_goals, h_i_hill_orders, h_i_hill_ordered, h_i_hill_columns_heights, h_i_hill_columns_weights⟩
set_option maxHeartbeats 4000000 in
theorem s_HS_count (x1 : Int) (i_taped : Int) (i_hill_children : Int) (i_hill_parishes : Int) (i_hill_laws : Int) (i_hill_inForce : Int) (i_refusals : Nat → Int) (i_hill_columns_many : Int) (i_hill_terms : Nat → Int) (i_hill_columns_heights : Nat → Int) (b_x1 : (-2147483648) ≤ x1 ∧ x1 ≤ 2147483647) (b_i_taped : 0 ≤ i_taped ∧ i_taped ≤ 400) (b_i_hill_children : 0 ≤ i_hill_children ∧ i_hill_children ≤ 6) (b_i_hill_parishes : 0 ≤ i_hill_parishes ∧ i_hill_parishes ≤ 6) (b_i_hill_laws : 0 ≤ i_hill_laws ∧ i_hill_laws ≤ 6) (b_i_hill_inForce : (-1) ≤ i_hill_inForce ∧ i_hill_inForce ≤ 5) (b_i_hill_columns_many : 0 ≤ i_hill_columns_many ∧ i_hill_columns_many ≤ 12) (h_i_hill_terms : zR i_hill_terms 0 99) (h_i_hill_columns_heights : zR i_hill_columns_heights 0 10) : zok (f_HS_count x1 i_taped i_hill_children i_hill_parishes i_hill_laws i_hill_inForce i_refusals i_hill_columns_many i_hill_terms i_hill_columns_heights) (fun o => True) := by
  unfold f_HS_count
  refine zk_ifc (zci_eqr (by omega)) (fun hc => ?_) (fun hc => ?_)
  · exact zk_ret trivial
  · refine zk_ifc (zci_eqr (by omega)) (fun hc_2 => ?_) (fun hc_2 => ?_)
    · refine zk_d1 (s_Columns_stones _ _ (by omega) h_i_hill_columns_heights) (fun v1 hp => ?_)
      exact zk_ret trivial
    · refine zk_ifc (zci_eqr (by omega)) (fun hc_3 => ?_) (fun hc_3 => ?_)
      · exact zk_ret trivial
      · refine zk_ifc (zci_eqr (by omega)) (fun hc_4 => ?_) (fun hc_4 => ?_)
        · exact zk_ret trivial
        · refine zk_ifc (zci_eqr (by omega)) (fun hc_5 => ?_) (fun hc_5 => ?_)
          · exact zk_ret trivial
          · refine zk_ifc (zci_eqr (by omega)) (fun hc_6 => ?_) (fun hc_6 => ?_)
            · exact zk_ret trivial
            · refine zk_ifc (zci_eqr (by omega)) (fun hc_7 => ?_) (fun hc_7 => ?_)
              · refine zk_gl 1 rfl (by decide) (by decide) (fun v2 h_v2 => ?_)
                exact zk_ret trivial
              · refine zk_ifc (zci_eqr (by omega)) (fun hc_8 => ?_) (fun hc_8 => ?_)
                · refine zk_gl 2 rfl (by decide) (by decide) (fun v3 h_v3 => ?_)
                  exact zk_ret trivial
                · refine zk_ifc (zci_eqr (by omega)) (fun hc_9 => ?_) (fun hc_9 => ?_)
                  · refine zk_gl 3 rfl (by decide) (by decide) (fun v4 h_v4 => ?_)
                    exact zk_ret trivial
                  · refine zk_ifc (zci_eqr (by omega)) (fun hc_10 => ?_) (fun hc_10 => ?_)
                    · refine zk_gl 5 rfl (by decide) (by decide) (fun v5 h_v5 => ?_)
                      exact zk_ret trivial
                    · refine zk_ifc (zci_eqr (by omega)) (fun hc_11 => ?_) (fun hc_11 => ?_)
                      · refine zk_gl 6 rfl (by decide) (by decide) (fun v6 h_v6 => ?_)
                        exact zk_ret trivial
                      · refine zk_ifc (zci_eqr (by omega)) (fun hc_12 => ?_) (fun hc_12 => ?_)
                        · exact zk_ret trivial
                        · refine zk_ifc (zci_eqr (by omega)) (fun hc_13 => ?_) (fun hc_13 => ?_)
                          · refine zk_gl 0 rfl (by decide) (by decide) (fun v7 h_v7 => ?_)
                            have r_v7 := h_i_hill_terms (0)
                            exact zk_ret trivial
                          · refine zk_ifc (zci_eqr (by omega)) (fun hc_14 => ?_) (fun hc_14 => ?_)
                            · refine zk_gl 1 rfl (by decide) (by decide) (fun v8 h_v8 => ?_)
                              have r_v8 := h_i_hill_terms (1)
                              exact zk_ret trivial
                            · refine zk_ifc (zci_eqr (by omega)) (fun hc_15 => ?_) (fun hc_15 => ?_)
                              · refine zk_gl 2 rfl (by decide) (by decide) (fun v9 h_v9 => ?_)
                                have r_v9 := h_i_hill_terms (2)
                                exact zk_ret trivial
                              · refine zk_ifc (zci_eqr (by omega)) (fun hc_16 => ?_) (fun hc_16 => ?_)
                                · refine zk_gl 3 rfl (by decide) (by decide) (fun v10 h_v10 => ?_)
                                  have r_v10 := h_i_hill_terms (3)
                                  exact zk_ret trivial
                                · exact zk_ret trivial
set_option maxHeartbeats 4000000 in
theorem s_HS_status (i_latestStatus : Int) (b_i_latestStatus : (-6) ≤ i_latestStatus ∧ i_latestStatus ≤ 0) : zok (f_HS_status i_latestStatus) (fun o => ((-6) ≤ o ∧ o ≤ 0)) := by
  unfold f_HS_status
  exact zk_ret (by omega)
end
