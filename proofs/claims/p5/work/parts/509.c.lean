set_option maxHeartbeats 4000000 in
theorem s_Planner_firstState (i_hill_columns_many : Int) (i_hill_columns_heights : Nat → Int) (i_hill_columns_weights : Nat → Int) (i_kinds : Int) (i_weights : Nat → Int) (b_i_hill_columns_many : 0 ≤ i_hill_columns_many ∧ i_hill_columns_many ≤ 12) (h_i_hill_columns_heights : zR i_hill_columns_heights 0 10) (h_i_hill_columns_weights : zR i_hill_columns_weights 0 30) (b_i_kinds : 0 ≤ i_kinds ∧ i_kinds ≤ 5) (h_i_weights : zR i_weights 0 30) : zok (f_Planner_firstState i_hill_columns_many i_hill_columns_heights i_hill_columns_weights i_kinds i_weights) (fun o => ((-9223372036854775808) ≤ o.1 ∧ o.1 ≤ 9223372036854775807) ∧ (0 ≤ o.2.1 ∧ o.2.1 ≤ 5) ∧ zR o.2.2 0 30) := by
  unfold f_Planner_firstState
  exact s_Planner_firstState_9 _ _ _ (by omega) h_i_hill_columns_heights h_i_hill_columns_weights zfu _ _ _ _ (by omega) (by omega) (by omega) h_i_weights (by unfold zfu; omega)
set_option maxHeartbeats 4000000 in
theorem s_Planner_look_37  (k2 : Int → Int → (Nat → Int) → (Nat → Int) → Option ((Nat → Int) × (Nat → Int))) (Nk2 : Nat) (hk2 : ∀ (x1 : Int) (x3 : Int) (i_heights : Nat → Int) (i_tops : Nat → Int), ((-9223372036854775808) ≤ x1 ∧ x1 ≤ 9223372036854775807) → (0 ≤ x3 ∧ x3 ≤ 4) → (zR i_heights 0 5) → (zR i_tops 0 7) → (5 - x3) < (Nk2 : Int) → zok (k2 x1 x3 i_heights i_tops) (fun o => zR o.1 0 5 ∧ zR o.2 0 7))  : ∀ (n : Nat) (x1 : Int) (x3 : Int) (x4 : Int) (x5 : Int) (i_heights : Nat → Int) (i_tops : Nat → Int), ((-9223372036854775808) ≤ x1 ∧ x1 ≤ 9223372036854775807) → (0 ≤ x3 ∧ x3 ≤ 3) → (0 ≤ x4 ∧ x4 ≤ 32767) → (0 ≤ x5 ∧ x5 ≤ 5) → (zR i_heights 0 5) → (zR i_tops 0 7) → (i_heights x3.toNat ≤ x5) → (5 - x3) < (Nk2 : Int) + 1 → (6 - x5) < (n : Int) → zok (f_Planner_look_37 k2 n x1 x3 x4 x5 i_heights i_tops) (fun o => zR o.1 0 5 ∧ zR o.2 0 7) := by
  intro n
  induction n with
  | zero => intro x1 x3 x4 x5 i_heights i_tops b_x1 b_x3 b_x4 b_x5 h_i_heights h_i_tops p_0 mk2 hm; exfalso; omega
  | succ n ih =>
    intro x1 x3 x4 x5 i_heights i_tops b_x1 b_x3 b_x4 b_x5 h_i_heights h_i_tops p_0 mk2 hm
    show zok (f_Planner_look_37_b k2 (f_Planner_look_37 k2 n) x1 x3 x4 x5 i_heights i_tops) _
    unfold f_Planner_look_37_b
    refine zk_ifc (zci_le (by omega) (by omega)) (fun hc => ?_) (fun hc => ?_)
    · unfold f_Planner_look_81
      refine zk_n ?_
      exact hk2 _ _ _ _ (by omega) (by omega) h_i_heights h_i_tops (by omega)
    · refine zk_ifc (zci_eqr (by omega)) (fun hc_2 => ?_) (fun hc_2 => ?_)
      · unfold f_Planner_look_81
        refine zk_n ?_
        exact hk2 _ _ _ _ (by omega) (by omega) h_i_heights h_i_tops (by omega)
      · refine zk_gv (by omega) (by decide) (fun v1_3 h_v1_3 => ?_)
        have r_v1_3 := h_i_heights (x3.toNat)
        refine zk_n ?_
        refine zk_sv (by omega) (by decide) (fun a3 h_a3 => ?_)
        have i_a3 : zR a3 0 5 := by rw [h_a3]; exact zR_zu h_i_heights (by decide) (by decide) (by omega)
        have m_a3 := zu_rd h_a3 x3.toNat
        refine zk_nE (fun v4 h_v4 => ?_)
        have r_v4 := zi_and_m x4 (m := 7) (by decide); rw [← h_v4] at r_v4
        refine zk_sv (by omega) (by decide) (fun a5 h_a5 => ?_)
        have i_a5 : zR a5 0 7 := by rw [h_a5]; exact zR_zu h_i_tops (by decide) (by decide) (by omega)
        refine zk_nE (fun v6 h_v6 => ?_)
        rw [show (3 : Int) = ((3 : Nat) : Int) from rfl, zi_shr_k 3 8 (by decide) (by decide) (by omega)] at h_v6
        refine zk_n ?_
        exact ih _ _ _ _ _ _ (by omega) (by omega) (by omega) (by omega) i_a3 i_a5 (by omega) (by omega) (by omega)
set_option maxHeartbeats 4000000 in
theorem s_Planner_look_2   : ∀ (n : Nat) (x1 : Int) (x3 : Int) (i_heights : Nat → Int) (i_tops : Nat → Int), ((-9223372036854775808) ≤ x1 ∧ x1 ≤ 9223372036854775807) → (0 ≤ x3 ∧ x3 ≤ 4) → (zR i_heights 0 5) → (zR i_tops 0 7) → (5 - x3) < (n : Int) → zok (f_Planner_look_2  n x1 x3 i_heights i_tops) (fun o => zR o.1 0 5 ∧ zR o.2 0 7) := by
  intro n
  induction n with
  | zero => intro x1 x3 i_heights i_tops b_x1 b_x3 h_i_heights h_i_tops hm; exfalso; omega
  | succ n ih =>
    intro x1 x3 i_heights i_tops b_x1 b_x3 h_i_heights h_i_tops hm
    show zok (f_Planner_look_2_b  (f_Planner_look_2  n) x1 x3 i_heights i_tops) _
    unfold f_Planner_look_2_b
    refine zk_ifc (zci_le (by omega) (by omega)) (fun hc => ?_) (fun hc => ?_)
    · refine zk_ret ?_
      try dsimp only
      exact ⟨h_i_heights, h_i_tops⟩
    · refine zk_n ?_
      refine zk_nE (fun v2 h_v2 => ?_)
      have r_v2 := zl_ushr_f x1 (15 * x3); rw [← h_v2] at r_v2
      refine zk_nE (fun v3 h_v3 => ?_)
      have r_v3 := zi_and_m v2 (m := 32767) (by decide); rw [← h_v3] at r_v3
      refine zk_sv (by omega) (by decide) (fun a4 h_a4 => ?_)
      have i_a4 : zR a4 0 5 := by rw [h_a4]; exact zR_zu h_i_heights (by decide) (by decide) (by omega)
      have m_a4 := zu_rd h_a4 x3.toNat
      refine zk_sv (by omega) (by decide) (fun a5 h_a5 => ?_)
      have i_a5 : zR a5 0 7 := by rw [h_a5]; exact zR_zu h_i_tops (by decide) (by decide) (by omega)
      exact s_Planner_look_37 _ n ih zfu _ _ _ _ _ _ (by omega) (by omega) (by omega) (by omega) i_a4 i_a5 (by omega) (by omega) (by unfold zfu; omega)
set_option maxHeartbeats 4000000 in
theorem s_Planner_look (x1 : Int) (i_heights : Nat → Int) (i_tops : Nat → Int) (b_x1 : (-9223372036854775808) ≤ x1 ∧ x1 ≤ 9223372036854775807) (h_i_heights : zR i_heights 0 5) (h_i_tops : zR i_tops 0 7) : zok (f_Planner_look x1 i_heights i_tops) (fun o => zR o.1 0 5 ∧ zR o.2 0 7) := by
  unfold f_Planner_look
  exact s_Planner_look_2 zfu _ _ _ _ (by omega) (by omega) h_i_heights h_i_tops (by unfold zfu; omega)
set_option maxHeartbeats 4000000 in
theorem s_Planner_isSafe_26 (i_hill_terms : Nat → Int) (h_i_hill_terms : zR i_hill_terms 0 99) : ∀ (n : Nat) (x1 : Int) (x2 : Int) (x3 : Int) (x4 : Int) (x5 : Int) (i_heights : Nat → Int), (0 ≤ x1 ∧ x1 ≤ 3) → (0 ≤ x2 ∧ x2 ≤ 3) → (1 ≤ x3 ∧ x3 ≤ 4) → (0 ≤ x4 ∧ x4 ≤ 1) → (1 ≤ x5 ∧ x5 ≤ 4) → (zR i_heights (-1) 6) → (5 - x5) < (n : Int) → zok (f_Planner_isSafe_26 i_hill_terms n x1 x2 x3 x4 x5 i_heights) (fun o => (0 ≤ o.1 ∧ o.1 ≤ 1) ∧ (o.2 = zu (zu i_heights x1.toNat (i_heights x1.toNat + 1)) x2.toNat (zu i_heights x1.toNat (i_heights x1.toNat + 1) x2.toNat - 1))) := by
  intro n
  induction n with
  | zero => intro x1 x2 x3 x4 x5 i_heights b_x1 b_x2 b_x3 b_x4 b_x5 h_i_heights hm; exfalso; omega
  | succ n ih =>
    intro x1 x2 x3 x4 x5 i_heights b_x1 b_x2 b_x3 b_x4 b_x5 h_i_heights hm
    show zok (f_Planner_isSafe_26_b i_hill_terms (f_Planner_isSafe_26 i_hill_terms n) x1 x2 x3 x4 x5 i_heights) _
    unfold f_Planner_isSafe_26_b
    refine zk_ifc (zci_le (by omega) (by omega)) (fun hc => ?_) (fun hc => ?_)
    · refine zk_gv (by omega) (by decide) (fun v1 h_v1 => ?_)
      have r_v1 := h_i_heights (x1.toNat)
      refine zk_n ?_
      refine zk_sv (by omega) (by decide) (fun a3 h_a3 => ?_)
      have i_a3 : zR a3 (-1) 7 := by rw [h_a3]; exact zR_zu h_i_heights (by decide) (by decide) (by omega)
      refine zk_gv (by omega) (by decide) (fun v4 h_v4 => ?_)
      have r_v4 := i_a3 (x2.toNat)
      refine zk_n ?_
      refine zk_sv (by omega) (by decide) (fun a6 h_a6 => ?_)
      have i_a6 : zR a6 (-2) 7 := by rw [h_a6]; exact zR_zu i_a3 (by decide) (by decide) (by omega)
      refine zk_gb (by omega) ?_
      refine zk_ret ?_
      try dsimp only
      exact ⟨by omega, by simp only [h_a6, h_v4, h_a3, h_v1]⟩
    · refine zk_ifc (zci_eqr (by omega)) (fun hc_2 => ?_) (fun hc_2 => ?_)
      · unfold f_Planner_isSafe_73
        unfold f_Planner_isSafe_74
        refine zk_n ?_
        refine zok_mono (ih _ _ _ _ _ _ (by omega) (by omega) (by omega) (by omega) (by omega) h_i_heights (by omega)) (fun o ho => ?_)
        try dsimp only at ho
        obtain ⟨ho_0, ho_1⟩ := ho
        exact ⟨by omega, by first | assumption | omega | simp_all⟩
      · refine zk_gv (by omega) (by decide) (fun v7 h_v7 => ?_)
        have r_v7 := h_i_heights (x5.toNat)
        refine zk_n ?_
        refine zk_gv (by omega) (by decide) (fun v9 h_v9 => ?_)
        have r_v9 := h_i_heights ((x5 - 1).toNat)
        refine zk_n ?_
        refine zk_nE (fun v11 h_v11 => ?_)
        have r_v11 := zi_abs_f ((v7 - v9)) (by omega); rw [← h_v11] at r_v11
        refine zk_gl 2 rfl (by decide) (by decide) (fun v12 h_v12 => ?_)
        have r_v12 := h_i_hill_terms (2)
        refine zk_ifc (zci_lt (by omega) (by omega)) (fun hc_3 => ?_) (fun hc_3 => ?_)
        · unfold f_Planner_isSafe_73
          unfold f_Planner_isSafe_74
          refine zk_n ?_
          refine zok_mono (ih _ _ _ _ _ _ (by omega) (by omega) (by omega) (by omega) (by omega) h_i_heights (by omega)) (fun o ho => ?_)
          try dsimp only at ho
          obtain ⟨ho_0, ho_1⟩ := ho
          exact ⟨by omega, by first | assumption | omega | simp_all⟩
        · unfold f_Planner_isSafe_74
          refine zk_n ?_
          refine zok_mono (ih _ _ _ _ _ _ (by omega) (by omega) (by omega) (by omega) (by omega) h_i_heights (by omega)) (fun o ho => ?_)
          try dsimp only at ho
          obtain ⟨ho_0, ho_1⟩ := ho
          exact ⟨by omega, by first | assumption | omega | simp_all⟩
set_option maxHeartbeats 4000000 in
theorem s_Planner_isSafe (x1 : Int) (x2 : Int) (x3 : Int) (i_hill_terms : Nat → Int) (i_heights : Nat → Int) (b_x1 : 0 ≤ x1 ∧ x1 ≤ 3) (b_x2 : 0 ≤ x2 ∧ x2 ≤ 3) (b_x3 : 1 ≤ x3 ∧ x3 ≤ 4) (h_i_hill_terms : zR i_hill_terms 0 99) (h_i_heights : zR i_heights 0 5) : zok (f_Planner_isSafe x1 x2 x3 i_hill_terms i_heights) (fun o => (0 ≤ o.1 ∧ o.1 ≤ 1) ∧ zR o.2 0 5) := by
  obtain ⟨o, e, p0, p1⟩ : zok (f_Planner_isSafe x1 x2 x3 i_hill_terms i_heights) (fun o => (0 ≤ o.1 ∧ o.1 ≤ 1) ∧ o.2 = i_heights) := by
    unfold f_Planner_isSafe
    refine zk_gv (by omega) (by decide) (fun v1 h_v1 => ?_)
    have r_v1 := h_i_heights x1.toNat
    refine zk_n ?_
    refine zk_sv (by omega) (by decide) (fun a3 h_a3 => ?_)
    have i_a3 : zR a3 (-1) 5 := by rw [h_a3]; exact zR_zu h_i_heights (by decide) (by decide) (by omega)
    refine zk_gv (by omega) (by decide) (fun v4 h_v4 => ?_)
    have r_v4 := i_a3 x2.toNat
    refine zk_n ?_
    refine zk_sv (by omega) (by decide) (fun a6 h_a6 => ?_)
    have i_a6 : zR a6 (-1) 6 := by rw [h_a6]; exact zR_zu i_a3 (by decide) (by decide) (by omega)
    refine zok_mono (s_Planner_isSafe_26 _ h_i_hill_terms zfu _ _ _ _ _ _ (by omega) (by omega) (by omega) (by omega) (by omega) i_a6 (by unfold zfu; omega)) (fun o ho => ?_)
    obtain ⟨h0, h1⟩ := ho
    refine ⟨h0, ?_⟩
    rw [h1, h_a6, h_v4, h_a3, h_v1]
    exact zu_back i_heights x1.toNat x2.toNat
  exact ⟨o, e, p0, by rw [p1]; exact h_i_heights⟩
set_option maxHeartbeats 4000000 in
theorem s_Carriers_lowest (x0 : Int) (b_x0 : (-2147483648) ≤ x0 ∧ x0 ≤ 2147483647) : zok (f_Carriers_lowest x0) (fun o => (0 ≤ o ∧ o ≤ 7) ∧ ((True))) := by
  unfold f_Carriers_lowest
  refine zk_nE (fun v1 h_v1 => ?_)
  have r_v1 := zi_and_m x0 (m := 7) (by decide); rw [← h_v1] at r_v1
  exact zk_ret ⟨by omega, trivial⟩
set_option maxHeartbeats 4000000 in
theorem s_Carriers_note_166 (i_hill_children : Int) (i_hill_laws : Int) (i_hill_inForce : Int) (i_hill_changes : Int) (i_hill_strengths : Nat → Int) (i_hill_expelled : Nat → Int) (i_hill_terms : Nat → Int) (i_hill_orders : Nat → Int) (i_hill_ordered : Nat → Int) (b_i_hill_children : 0 ≤ i_hill_children ∧ i_hill_children ≤ 6) (b_i_hill_laws : 0 ≤ i_hill_laws ∧ i_hill_laws ≤ 6) (b_i_hill_inForce : (-1) ≤ i_hill_inForce ∧ i_hill_inForce ≤ 5) (h_i_hill_strengths : zR i_hill_strengths 0 60) (h_i_hill_expelled : zR i_hill_expelled 0 1) (h_i_hill_terms : zR i_hill_terms 0 99) (h_i_hill_orders : zR i_hill_orders (-2147483648) 2147483647) (h_i_hill_ordered : zR i_hill_ordered 0 424) : ∀ (n : Nat) (x1 : Int) (x2 : Int) (x3 : Int) (x4 : Int) (x5 : Int) (x7 : Int) (x8 : Int) (x9 : Int) (x10 : Int) (x11 : Int) (x12 : Int) (i_judge_piled : Int) (i_judge_tiring : Int) (i_judge_barred : Int) (i_notes : Nat → Int) (i_judge_words : Nat → Int) (i_judge_pile : Nat → Int), (0 ≤ x1 ∧ x1 ≤ 3) → (0 ≤ x2 ∧ x2 ≤ 3) → (1 ≤ x3 ∧ x3 ≤ 30) → (1 ≤ x4 ∧ x4 ≤ 10) → (0 ≤ x5 ∧ x5 ≤ 9) → (0 ≤ x7 ∧ x7 ≤ 47999) → ((-524285) ≤ x8 ∧ x8 ≤ 524287) → (0 ≤ x9 ∧ x9 ≤ 7) → (0 ≤ x10 ∧ x10 ≤ 7) → (0 ≤ x11 ∧ x11 ≤ 2147483647) → (0 ≤ x12 ∧ x12 ≤ 6) → (0 ≤ i_judge_piled ∧ i_judge_piled ≤ 32) → (0 ≤ i_judge_tiring ∧ i_judge_tiring ≤ 2147483647) → (0 ≤ i_judge_barred ∧ i_judge_barred ≤ 1) → (zR i_notes (-2147483648) 2147483647) → (zR i_judge_words 0 99) → (7 - x12) < (n : Int) → zok (f_Carriers_note_166 i_hill_children i_hill_laws i_hill_inForce i_hill_changes i_hill_strengths i_hill_expelled i_hill_terms i_hill_orders i_hill_ordered n x1 x2 x3 x4 x5 x7 x8 x9 x10 x11 x12 i_judge_piled i_judge_tiring i_judge_barred i_notes i_judge_words i_judge_pile) (fun o => ((-2147483648) ≤ o.1 ∧ o.1 ≤ 2147483647) ∧ (0 ≤ o.2.1 ∧ o.2.1 ≤ 32) ∧ (0 ≤ o.2.2.1 ∧ o.2.2.1 ≤ 2147483647) ∧ (0 ≤ o.2.2.2.1 ∧ o.2.2.2.1 ≤ 1) ∧ zR o.2.2.2.2.1 (-2147483648) 2147483647 ∧ zR o.2.2.2.2.2.1 0 99) := by
  intro n
  induction n with
  | zero => intro x1 x2 x3 x4 x5 x7 x8 x9 x10 x11 x12 i_judge_piled i_judge_tiring i_judge_barred i_notes i_judge_words i_judge_pile b_x1 b_x2 b_x3 b_x4 b_x5 b_x7 b_x8 b_x9 b_x10 b_x11 b_x12 b_i_judge_piled b_i_judge_tiring b_i_judge_barred h_i_notes h_i_judge_words hm; exfalso; omega
  | succ n ih =>
    intro x1 x2 x3 x4 x5 x7 x8 x9 x10 x11 x12 i_judge_piled i_judge_tiring i_judge_barred i_notes i_judge_words i_judge_pile b_x1 b_x2 b_x3 b_x4 b_x5 b_x7 b_x8 b_x9 b_x10 b_x11 b_x12 b_i_judge_piled b_i_judge_tiring b_i_judge_barred h_i_notes h_i_judge_words hm
    show zok (f_Carriers_note_166_b i_hill_children i_hill_laws i_hill_inForce i_hill_changes i_hill_strengths i_hill_expelled i_hill_terms i_hill_orders i_hill_ordered (f_Carriers_note_166 i_hill_children i_hill_laws i_hill_inForce i_hill_changes i_hill_strengths i_hill_expelled i_hill_terms i_hill_orders i_hill_ordered n) x1 x2 x3 x4 x5 x7 x8 x9 x10 x11 x12 i_judge_piled i_judge_tiring i_judge_barred i_notes i_judge_words i_judge_pile) _
    unfold f_Carriers_note_166_b
    refine zk_ifc (zci_le (by omega) (by omega)) (fun hc => ?_) (fun hc => ?_)
    · refine zk_nE (fun v1 h_v1 => ?_)
      have r_v1 := zi_shl_f x11 3; rw [← h_v1] at r_v1
      refine zk_nE (fun v2 h_v2 => ?_)
      have r_v2 := zi_or_f v1 x10; rw [← h_v2] at r_v2
      refine zk_nE (fun v3 h_v3 => ?_)
      have r_v3 := zi_shl_f v2 3; rw [← h_v3] at r_v3
      refine zk_nE (fun v4 h_v4 => ?_)
      have r_v4 := zi_or_f v3 x9; rw [← h_v4] at r_v4
      refine zk_nE (fun v5 h_v5 => ?_)
      have r_v5 := zi_shl_f x8 13; rw [← h_v5] at r_v5
      refine zk_nE (fun v6 h_v6 => ?_)
      have r_v6 := zi_or_f v5 v4; rw [← h_v6] at r_v6
      refine zk_sv (by omega) (by decide) (fun a7 h_a7 => ?_)
      have i_a7 : zR a7 (-2147483648) 2147483647 := by rw [h_a7]; exact zR_zu h_i_notes (by decide) (by decide) (by omega)
      refine zk_ifc (zci_ne (by omega) (by omega)) (fun hc_2 => ?_) (fun hc_2 => ?_)
      · refine zk_ret ?_
        try dsimp only
        exact ⟨by omega, by omega, by omega, by omega, i_a7, h_i_judge_words⟩
      · refine zk_ret ?_
        try dsimp only
        exact ⟨by omega, by omega, by omega, by omega, i_a7, h_i_judge_words⟩
    · refine zk_d6 (s_Judge_effort _ _ _ _ _ _ _ _ _ _ _ _ _ _ _ _ _ _ _ (by omega) (by omega) (by omega) (by omega) (by omega) (by omega) (by omega) (by omega) (by omega) h_i_hill_strengths h_i_hill_expelled h_i_hill_terms h_i_hill_orders h_i_hill_ordered (by omega) (by omega) (by omega) h_i_judge_words) (fun v8 v9 v10 v11 a12 a13 hp => ?_)
      try dsimp only at hp
      obtain ⟨hpp0, hpp1, hpp2, hpp3, hpp4⟩ := hp
      refine zk_ifc (zci_ne (by omega) (by omega)) (fun hc_3 => ?_) (fun hc_3 => ?_)
      · refine zk_ifc (zci_ne (by omega) (by omega)) (fun hc_4 => ?_) (fun hc_4 => ?_)
        · unfold f_Carriers_note_216
          refine zk_ifc (zci_eq (by omega) (by omega)) (fun hc_5 => ?_) (fun hc_5 => ?_)
          · unfold f_Carriers_note_230
            unfold f_Carriers_note_238
            refine zk_n ?_
            exact ih _ _ _ _ _ _ _ _ _ _ _ _ _ _ _ _ _ (by omega) (by omega) (by omega) (by omega) (by omega) (by omega) (by omega) (by omega) (by omega) (by omega) (by omega) (by omega) (by omega) (by omega) h_i_notes hpp4 (by omega)
          · refine zk_ifc (zci_le (by omega) (by omega)) (fun hc_6 => ?_) (fun hc_6 => ?_)
            · unfold f_Carriers_note_238
              refine zk_n ?_
              exact ih _ _ _ _ _ _ _ _ _ _ _ _ _ _ _ _ _ (by omega) (by omega) (by omega) (by omega) (by omega) (by omega) (by omega) (by omega) (by omega) (by omega) (by omega) (by omega) (by omega) (by omega) h_i_notes hpp4 (by omega)
            · unfold f_Carriers_note_230
              unfold f_Carriers_note_238
              refine zk_n ?_
              exact ih _ _ _ _ _ _ _ _ _ _ _ _ _ _ _ _ _ (by omega) (by omega) (by omega) (by omega) (by omega) (by omega) (by omega) (by omega) (by omega) (by omega) (by omega) (by omega) (by omega) (by omega) h_i_notes hpp4 (by omega)
        · unfold f_Carriers_note_216
          refine zk_ifc (zci_eq (by omega) (by omega)) (fun hc_7 => ?_) (fun hc_7 => ?_)
          · unfold f_Carriers_note_230
            unfold f_Carriers_note_238
            refine zk_n ?_
            exact ih _ _ _ _ _ _ _ _ _ _ _ _ _ _ _ _ _ (by omega) (by omega) (by omega) (by omega) (by omega) (by omega) (by omega) (by omega) (by omega) (by omega) (by omega) (by omega) (by omega) (by omega) h_i_notes hpp4 (by omega)
          · refine zk_ifc (zci_le (by omega) (by omega)) (fun hc_8 => ?_) (fun hc_8 => ?_)
            · unfold f_Carriers_note_238
              refine zk_n ?_
              exact ih _ _ _ _ _ _ _ _ _ _ _ _ _ _ _ _ _ (by omega) (by omega) (by omega) (by omega) (by omega) (by omega) (by omega) (by omega) (by omega) (by omega) (by omega) (by omega) (by omega) (by omega) h_i_notes hpp4 (by omega)
            · unfold f_Carriers_note_230
              unfold f_Carriers_note_238
              refine zk_n ?_
              exact ih _ _ _ _ _ _ _ _ _ _ _ _ _ _ _ _ _ (by omega) (by omega) (by omega) (by omega) (by omega) (by omega) (by omega) (by omega) (by omega) (by omega) (by omega) (by omega) (by omega) (by omega) h_i_notes hpp4 (by omega)
      · unfold f_Carriers_note_238
        refine zk_n ?_
        exact ih _ _ _ _ _ _ _ _ _ _ _ _ _ _ _ _ _ (by omega) (by omega) (by omega) (by omega) (by omega) (by omega) (by omega) (by omega) (by omega) (by omega) (by omega) (by omega) (by omega) (by omega) h_i_notes hpp4 (by omega)
set_option maxHeartbeats 4000000 in
theorem s_Carriers_note (x1 : Int) (x2 : Int) (x3 : Int) (x4 : Int) (x5 : Int) (i_hill_children : Int) (i_hill_laws : Int) (i_hill_inForce : Int) (i_hill_changes : Int) (i_hill_strengths : Nat → Int) (i_hill_expelled : Nat → Int) (i_hill_terms : Nat → Int) (i_hill_orders : Nat → Int) (i_hill_ordered : Nat → Int) (i_judge_piled : Int) (i_judge_tiring : Int) (i_judge_barred : Int) (i_notes : Nat → Int) (i_judge_words : Nat → Int) (i_judge_pile : Nat → Int) (b_x1 : 0 ≤ x1 ∧ x1 ≤ 11) (b_x2 : 0 ≤ x2 ∧ x2 ≤ 11) (b_x3 : 0 ≤ x3 ∧ x3 ≤ 30) (b_x4 : 0 ≤ x4 ∧ x4 ≤ 10) (b_x5 : 0 ≤ x5 ∧ x5 ≤ 10) (b_i_hill_children : 0 ≤ i_hill_children ∧ i_hill_children ≤ 6) (b_i_hill_laws : 0 ≤ i_hill_laws ∧ i_hill_laws ≤ 6) (b_i_hill_inForce : (-1) ≤ i_hill_inForce ∧ i_hill_inForce ≤ 5) (h_i_hill_strengths : zR i_hill_strengths 0 60) (h_i_hill_expelled : zR i_hill_expelled 0 1) (h_i_hill_terms : zR i_hill_terms 0 99) (h_i_hill_orders : zR i_hill_orders (-2147483648) 2147483647) (h_i_hill_ordered : zR i_hill_ordered 0 424) (b_i_judge_piled : 0 ≤ i_judge_piled ∧ i_judge_piled ≤ 32) (b_i_judge_tiring : 0 ≤ i_judge_tiring ∧ i_judge_tiring ≤ 2147483647) (b_i_judge_barred : 0 ≤ i_judge_barred ∧ i_judge_barred ≤ 1) (h_i_notes : zR i_notes (-2147483648) 2147483647) (h_i_judge_words : zR i_judge_words 0 99) : zok (f_Carriers_note x1 x2 x3 x4 x5 i_hill_children i_hill_laws i_hill_inForce i_hill_changes i_hill_strengths i_hill_expelled i_hill_terms i_hill_orders i_hill_ordered i_judge_piled i_judge_tiring i_judge_barred i_notes i_judge_words i_judge_pile) (fun o => ((-2147483648) ≤ o.1 ∧ o.1 ≤ 2147483647) ∧ (0 ≤ o.2.1 ∧ o.2.1 ≤ 32) ∧ (0 ≤ o.2.2.1 ∧ o.2.2.1 ≤ 2147483647) ∧ (0 ≤ o.2.2.2.1 ∧ o.2.2.2.1 ≤ 1) ∧ zR o.2.2.2.2.1 (-2147483648) 2147483647 ∧ zR o.2.2.2.2.2.1 0 99) := by
  unfold f_Carriers_note
  refine zk_ifc (zci_ltr (by omega)) (fun hc => ?_) (fun hc => ?_)
  · exfalso; omega
  · refine zk_ifc (zci_le (by omega) (by omega)) (fun hc_2 => ?_) (fun hc_2 => ?_)
    · refine zk_ret ?_
      try dsimp only
      exact ⟨by omega, by omega, by omega, by omega, h_i_notes, h_i_judge_words⟩
    · refine zk_ifc (zci_ltr (by omega)) (fun hc_3 => ?_) (fun hc_3 => ?_)
      · exfalso; omega
      · refine zk_ifc (zci_le (by omega) (by omega)) (fun hc_4 => ?_) (fun hc_4 => ?_)
        · refine zk_ret ?_
          try dsimp only
          exact ⟨by omega, by omega, by omega, by omega, h_i_notes, h_i_judge_words⟩
        · refine zk_ifc (zci_eq (by omega) (by omega)) (fun hc_5 => ?_) (fun hc_5 => ?_)
          · refine zk_ret ?_
            try dsimp only
            exact ⟨by omega, by omega, by omega, by omega, h_i_notes, h_i_judge_words⟩
          · refine zk_ifc (zci_lt (by omega) (by omega)) (fun hc_6 => ?_) (fun hc_6 => ?_)
            · refine zk_ret ?_
              try dsimp only
              exact ⟨by omega, by omega, by omega, by omega, h_i_notes, h_i_judge_words⟩
            · refine zk_ifc (zci_lt (by omega) (by omega)) (fun hc_7 => ?_) (fun hc_7 => ?_)
              · exfalso; omega
              · refine zk_ifc (zci_lt (by omega) (by omega)) (fun hc_8 => ?_) (fun hc_8 => ?_)
                · refine zk_ret ?_
                  try dsimp only
                  exact ⟨by omega, by omega, by omega, by omega, h_i_notes, h_i_judge_words⟩
                · refine zk_ifc (zci_lt (by omega) (by omega)) (fun hc_9 => ?_) (fun hc_9 => ?_)
                  · exfalso; omega
                  · refine zk_ifc (zci_ltr (by omega)) (fun hc_10 => ?_) (fun hc_10 => ?_)
                    · exfalso; omega
                    · refine zk_ifc (zci_lt (by omega) (by omega)) (fun hc_11 => ?_) (fun hc_11 => ?_)
                      · refine zk_n ?_
                        refine zk_n ?_
                        refine zk_n ?_
                        refine zk_n ?_
                        refine zk_n ?_
                        refine zk_n ?_
                        refine zk_n ?_
                        refine zk_n ?_
                        refine zk_n ?_
                        refine zk_n ?_
                        refine zk_g0zi_w (by omega) ?_
                        refine zk_nE (fun v11 h_v11 => ?_)
                        have r_v11 := zi_rem_g i_hill_changes (y := 524287) (by omega); rw [← h_v11] at r_v11
                        refine zk_n ?_
                        refine zk_gv (by omega) (by decide) (fun v13 h_v13 => ?_)
                        have r_v13 := h_i_notes (((((((((((x1 * 4) + x2) * 30) + x3) - 1) * 10) + x4) - 1) * 10) + x5).toNat)
                        refine zk_nE (fun v14 h_v14 => ?_)
                        have r_v14 := zi_ushr_f v13 13; rw [← h_v14] at r_v14
                        refine zk_ifc (zci_ne (by omega) (by omega)) (fun hc_12 => ?_) (fun hc_12 => ?_)
                        · exact s_Carriers_note_166 _ _ _ _ _ _ _ _ _ (by omega) (by omega) (by omega) h_i_hill_strengths h_i_hill_expelled h_i_hill_terms h_i_hill_orders h_i_hill_ordered zfu _ _ _ _ _ _ _ _ _ _ _ _ _ _ _ _ _ (by omega) (by omega) (by omega) (by omega) (by omega) (by omega) (by omega) (by omega) (by omega) (by omega) (by omega) (by omega) (by omega) (by omega) h_i_notes h_i_judge_words (by unfold zfu; omega)
                        · refine zk_gv (by omega) (by decide) (fun v15 h_v15 => ?_)
                          have r_v15 := h_i_notes (((((((((((x1 * 4) + x2) * 30) + x3) - 1) * 10) + x4) - 1) * 10) + x5).toNat)
                          refine zk_nE (fun v16 h_v16 => ?_)
                          have r_v16 := zi_and_m v15 (m := 8191) (by decide); rw [← h_v16] at r_v16
                          refine zk_d1 (s_Carriers_lowest _ (by omega)) (fun v17 hp => ?_)
                          try dsimp only at hp
                          obtain ⟨hpp0, hpp1⟩ := hp
                          refine zk_ifc (zci_ne (by omega) (by omega)) (fun hc_13 => ?_) (fun hc_13 => ?_)
                          · refine zk_ret ?_
                            try dsimp only
                            exact ⟨by omega, by omega, by omega, by omega, h_i_notes, h_i_judge_words⟩
                          · refine zk_ret ?_
                            try dsimp only
                            exact ⟨by omega, by omega, by omega, by omega, h_i_notes, h_i_judge_words⟩
                      · refine zk_ret ?_
                        try dsimp only
                        exact ⟨by omega, by omega, by omega, by omega, h_i_notes, h_i_judge_words⟩
set_option maxHeartbeats 4000000 in
theorem s_Carriers_leastTired (x0 : Int) (b_x0 : (-2147483648) ≤ x0 ∧ x0 ≤ 2147483647) : zok (f_Carriers_leastTired x0) (fun o => (0 ≤ o ∧ o ≤ 7) ∧ ((True))) := by
  unfold f_Carriers_leastTired
  refine zk_nE (fun v1 h_v1 => ?_)
  rw [show (3 : Int) = ((3 : Nat) : Int) from rfl, zi_shr_k 3 8 (by decide) (by decide) (by omega)] at h_v1
  refine zk_nE (fun v2 h_v2 => ?_)
  have r_v2 := zi_and_m v1 (m := 7) (by decide); rw [← h_v2] at r_v2
  exact zk_ret ⟨by omega, trivial⟩
set_option maxHeartbeats 4000000 in
theorem s_Carriers_tiring (x0 : Int) (b_x0 : (-2147483648) ≤ x0 ∧ x0 ≤ 2147483647) : zok (f_Carriers_tiring x0) (fun o => ((-33554432) ≤ o ∧ o ≤ 33554431) ∧ ((True))) := by
  unfold f_Carriers_tiring
  refine zk_nE (fun v1 h_v1 => ?_)
  rw [show (6 : Int) = ((6 : Nat) : Int) from rfl, zi_shr_k 6 64 (by decide) (by decide) (by omega)] at h_v1
  exact zk_ret ⟨by omega, trivial⟩
set_option maxHeartbeats 4000000 in
theorem s_Planner_carried (x1 : Int) (x3 : Int) (x4 : Int) (i_heights : Nat → Int) (i_tops : Nat → Int) (b_x1 : (-9223372036854775808) ≤ x1 ∧ x1 ≤ 9223372036854775807) (b_x3 : 0 ≤ x3 ∧ x3 ≤ 3) (b_x4 : 0 ≤ x4 ∧ x4 ≤ 3) (h_i_heights : zR i_heights 0 5) (h_i_tops : zR i_tops 0 7) : zok (f_Planner_carried x1 x3 x4 i_heights i_tops) (fun o => ((-9223372036854775808) ≤ o ∧ o ≤ 9223372036854775807)) := by
  unfold f_Planner_carried
  refine zk_gv (by omega) (by decide) (fun v1 h_v1 => ?_)
  have r_v1 := h_i_tops (x3.toNat)
  refine zk_nE (fun v2 h_v2 => ?_)
  rw [zwi (by omega)] at h_v2
  replace h_v2 := h_v2.symm
  subst h_v2
  refine zk_n ?_
  refine zk_gv (by omega) (by decide) (fun v4 h_v4 => ?_)
  have r_v4 := h_i_heights (x3.toNat)
  refine zk_n ?_
  refine zk_n ?_
  refine zk_n ?_
  refine zk_nE (fun v8 h_v8 => ?_)
  have r_v8 := zl_shl_f v1 ((15 * x3) + (3 * (v4 - 1))); rw [← h_v8] at r_v8
  refine zk_nE (fun v9 h_v9 => ?_)
  have r_v9 := zl_xor_f x1 v8; rw [← h_v9] at r_v9
  refine zk_n ?_
  refine zk_gv (by omega) (by decide) (fun v11 h_v11 => ?_)
  have r_v11 := h_i_heights (x4.toNat)
  refine zk_n ?_
  refine zk_n ?_
  refine zk_nE (fun v14 h_v14 => ?_)
  have r_v14 := zl_shl_f v1 ((15 * x4) + (3 * v11)); rw [← h_v14] at r_v14
  refine zk_nE (fun v15 h_v15 => ?_)
  have r_v15 := zl_or_f v9 v14; rw [← h_v15] at r_v15
  exact zk_ret (by omega)
