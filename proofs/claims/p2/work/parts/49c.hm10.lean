section
theorem s_HM_isCarried_14 (i_row : Nat → Int) (i_high : Nat → Int) (i_heaps : Nat → Int) (h_i_row : RI i_row) (h_i_high : zR i_high 0 10) (h_i_heaps : zR i_heaps 0 30) : ∀ (n : Nat) (x2 : Int) (x3 : Int) (x4 : Int) (x5 : Int) (i_law : Int) (i_broken : Int) (i_value : Int) (i_sum : Int) (i_set : Nat → Int) (i_rest : Nat → Int), (0 ≤ x2 ∧ x2 ≤ 3) → (0 ≤ x3 ∧ x3 ≤ 3) → (0 ≤ x4 ∧ x4 ≤ 1) → (0 ≤ x5 ∧ x5 ≤ 6) → (x4 = 0 ∨ (x4 = 1 ∧ 1 ≤ i_high (x2).toNat ∧ i_high (x3).toNat ≤ 9 ∧ x2 ≠ x3)) → (7 - x5) < (n : Int) → zok (f_HM_isCarried_14 i_row i_high i_heaps n x2 x3 x4 x5 i_law i_broken i_value i_sum i_set i_rest) (fun o => (o.1 = 0 ∨ (o.1 = 1 ∧ 1 ≤ i_high (x2).toNat ∧ i_high (x3).toNat ≤ 9 ∧ x2 ≠ x3))) := by
  intro n
  induction n with
  | zero => intro x2 x3 x4 x5 i_law i_broken i_value i_sum i_set i_rest b_x2 b_x3 b_x4 b_x5 p_0 hm; exfalso; omega
  | succ n ih =>
    intro x2 x3 x4 x5 i_law i_broken i_value i_sum i_set i_rest b_x2 b_x3 b_x4 b_x5 p_0 hm
    show zok (f_HM_isCarried_14_b i_row i_high i_heaps (f_HM_isCarried_14 i_row i_high i_heaps n) x2 x3 x4 x5 i_law i_broken i_value i_sum i_set i_rest) _
    unfold f_HM_isCarried_14_b
    refine zk_gl 1 rfl (by decide) (by decide) (fun v1 h_v1 => ?_)
    have r_v1 := RI_1 h_i_row
    refine zk_ifc (zci_le (by omega) (by omega)) (fun hc => ?_) (fun hc => ?_)
    · refine zk_gb (by omega) ?_
      refine zk_ret ?_
      try dsimp only
      all_goals exact (by omega)
    · refine zk_d1 (s_HM_columns _ h_i_row) (fun v2 hp => ?_)
      try dsimp only at hp
      obtain ⟨hpp0, hpp1⟩ := hp
      refine zk_ifc (zci_le (by omega) (by omega)) (fun hc_2 => ?_) (fun hc_2 => ?_)
      · refine zk_gb (by omega) ?_
        refine zk_ret ?_
        try dsimp only
        all_goals exact (by omega)
      · refine zk_d1 (s_HM_columns _ h_i_row) (fun v3 hp_2 => ?_)
        try dsimp only at hp_2
        obtain ⟨hp_2p0, hp_2p1⟩ := hp_2
        refine zk_ifc (zci_le (by omega) (by omega)) (fun hc_3 => ?_) (fun hc_3 => ?_)
        · refine zk_gb (by omega) ?_
          refine zk_ret ?_
          try dsimp only
          all_goals exact (by omega)
        · refine zk_ifc (zci_ner (by omega)) (fun hc_4 => ?_) (fun hc_4 => ?_)
          · unfold f_HM_isCarried_58
            unfold f_HM_isCarried_63
            refine zk_n ?_
            refine zok_mono (ih _ _ _ _ _ _ _ _ _ _ (by omega) (by omega) (by omega) (by omega) (by omega) (by omega)) (fun o ho => ?_)
            try dsimp only at ho
            have ho_0 := ho
            exact (by omega)
          · refine zk_d7 (s_HM_carrying _ _ _ _ _ _ _ _ _ _ _ _ (by omega) (by omega) (by omega) h_i_row h_i_high h_i_heaps) (fun v4 v5 v6 v7 v8 a9 a10 hp_3 => ?_)
            try dsimp only at hp_3
            have hp_3p0 := hp_3
            refine zk_ifc (zci_eq (by omega) (by omega)) (fun hc_5 => ?_) (fun hc_5 => ?_)
            · unfold f_HM_isCarried_63
              refine zk_n ?_
              refine zok_mono (ih _ _ _ _ _ _ _ _ _ _ (by omega) (by omega) (by omega) (by omega) (by omega) (by omega)) (fun o ho => ?_)
              try dsimp only at ho
              have ho_0 := ho
              exact (by omega)
            · unfold f_HM_isCarried_58
              unfold f_HM_isCarried_63
              refine zk_n ?_
              refine zok_mono (ih _ _ _ _ _ _ _ _ _ _ (by omega) (by omega) (by omega) (by omega) (by omega) (by omega)) (fun o ho => ?_)
              try dsimp only at ho
              have ho_0 := ho
              exact (by omega)
theorem s_HM_isCarried (x1 : Int) (i_row : Nat → Int) (i_high : Nat → Int) (i_heaps : Nat → Int) (i_law : Int) (i_broken : Int) (i_value : Int) (i_sum : Int) (i_set : Nat → Int) (i_rest : Nat → Int) (b_x1 : 0 ≤ x1 ∧ x1 ≤ 15) (h_i_row : RI i_row) (h_i_high : zR i_high 0 10) (h_i_heaps : zR i_heaps 0 30) : zok (f_HM_isCarried x1 i_row i_high i_heaps i_law i_broken i_value i_sum i_set i_rest) (fun o => (o.1 = 0 ∨ (o.1 = 1 ∧ 1 ≤ i_high (x1 / 4).toNat ∧ i_high (x1 % 4).toNat ≤ 9 ∧ x1 / 4 ≠ x1 % 4))) := by
  unfold f_HM_isCarried
  refine zk_g0zi_w (by omega) ?_
  refine zk_nE (fun v1 h_v1 => ?_)
  rw [zi_div_n (by omega) (by omega)] at h_v1
  subst h_v1
  refine zk_g0zi_w (by omega) ?_
  refine zk_nE (fun v2 h_v2 => ?_)
  rw [zi_rem_n (by omega) (by omega)] at h_v2
  subst h_v2
  refine zok_mono (s_HM_isCarried_14 _ _ _ h_i_row h_i_high h_i_heaps zfu _ _ _ _ _ _ _ _ _ _ (by omega) (by omega) (by omega) (by omega) (by omega) (by unfold zfu; omega)) (fun o ho => ?_)
  try dsimp only at ho
  have ho_0 := ho
  exact (by omega)
theorem s_HM_nextMove_9 (i_row : Nat → Int) (i_high : Nat → Int) (i_heaps : Nat → Int) (i_tried : Nat → Int) (i_bests : Nat → Int) (h_i_row : RI i_row) (h_i_high : zR i_high 0 10) (h_i_heaps : zR i_heaps 0 30) (h_i_tried : zR i_tried (-1) 17) (h_i_bests : zR i_bests (-1000) 60) : ∀ (n : Nat) (x1 : Int) (x2 : Int) (i_law : Int) (i_broken : Int) (i_value : Int) (i_sum : Int) (i_set : Nat → Int) (i_rest : Nat → Int), (0 ≤ x1 ∧ x1 ≤ 3) → (0 ≤ x2 ∧ x2 ≤ 18) → (i_tried x1.toNat + 1 ≤ x2) → (19 - x2) < (n : Int) → zok (f_HM_nextMove_9 i_row i_high i_heaps i_tried i_bests n x1 x2 i_law i_broken i_value i_sum i_set i_rest) (fun o => (i_tried x1.toNat + 1 ≤ o.1 ∧ o.1 ≤ 18) ∧ (16 ≤ o.1 ∨ (0 ≤ o.1 ∧ 1 ≤ i_high (o.1 / 4).toNat ∧ i_high (o.1 % 4).toNat ≤ 9 ∧ o.1 / 4 ≠ o.1 % 4))) := by
  intro n
  induction n with
  | zero => intro x1 x2 i_law i_broken i_value i_sum i_set i_rest b_x1 b_x2 p_0 hm; exfalso; omega
  | succ n ih =>
    intro x1 x2 i_law i_broken i_value i_sum i_set i_rest b_x1 b_x2 p_0 hm
    show zok (f_HM_nextMove_9_b i_row i_high i_heaps i_tried i_bests (f_HM_nextMove_9 i_row i_high i_heaps i_tried i_bests n) x1 x2 i_law i_broken i_value i_sum i_set i_rest) _
    unfold f_HM_nextMove_9_b
    refine zk_ifc (zci_le (by omega) (by omega)) (fun hc => ?_) (fun hc => ?_)
    · unfold f_HM_nextMove_29
      refine zk_ifc (zci_lt (by omega) (by omega)) (fun hc_2 => ?_) (fun hc_2 => ?_)
      · refine zk_ret ?_
        try dsimp only
        exact ⟨by omega, by omega⟩
      · refine zk_gv (by omega) (by decide) (fun v1 h_v1 => ?_)
        have r_v1 := h_i_bests (x1.toNat)
        refine zk_ifc (zci_ne (by omega) (by omega)) (fun hc_3 => ?_) (fun hc_3 => ?_)
        · refine zk_ret ?_
          try dsimp only
          exact ⟨by omega, by omega⟩
        · refine zk_gv (by omega) (by decide) (fun v2 h_v2 => ?_)
          have r_v2 := h_i_tried (x1.toNat)
          refine zk_ifc (zci_le (by omega) (by omega)) (fun hc_4 => ?_) (fun hc_4 => ?_)
          · refine zk_ret ?_
            try dsimp only
            exact ⟨by omega, by omega⟩
          · refine zk_ret ?_
            try dsimp only
            exact ⟨by omega, by omega⟩
    · refine zk_d7 (s_HM_isCarried _ _ _ _ _ _ _ _ _ _ (by omega) h_i_row h_i_high h_i_heaps) (fun v1_2 v2_2 v3 v4 v5 a6 a7 hp => ?_)
      try dsimp only at hp
      have hpp0 := hp
      refine zk_ifc (zci_ner (by omega)) (fun hc_5 => ?_) (fun hc_5 => ?_)
      · unfold f_HM_nextMove_29
        refine zk_ifc (zci_lt (by omega) (by omega)) (fun hc_6 => ?_) (fun hc_6 => ?_)
        · refine zk_ret ?_
          try dsimp only
          exact ⟨by omega, by omega⟩
        · refine zk_gv (by omega) (by decide) (fun v1_3 h_v1_3 => ?_)
          have r_v1_3 := h_i_bests (x1.toNat)
          refine zk_ifc (zci_ne (by omega) (by omega)) (fun hc_7 => ?_) (fun hc_7 => ?_)
          · refine zk_ret ?_
            try dsimp only
            exact ⟨by omega, by omega⟩
          · refine zk_gv (by omega) (by decide) (fun v2_3 h_v2_3 => ?_)
            have r_v2_3 := h_i_tried (x1.toNat)
            refine zk_ifc (zci_le (by omega) (by omega)) (fun hc_8 => ?_) (fun hc_8 => ?_)
            · refine zk_ret ?_
              try dsimp only
              exact ⟨by omega, by omega⟩
            · refine zk_ret ?_
              try dsimp only
              exact ⟨by omega, by omega⟩
      · refine zk_n ?_
        refine zok_mono (ih _ _ _ _ _ _ _ _ (by omega) (by omega) (by omega) (by omega)) (fun o ho => ?_)
        try dsimp only at ho
        obtain ⟨ho_0, ho_1⟩ := ho
        exact ⟨by omega, by omega⟩
theorem s_HM_nextMove (x1 : Int) (i_row : Nat → Int) (i_high : Nat → Int) (i_heaps : Nat → Int) (i_tried : Nat → Int) (i_bests : Nat → Int) (i_law : Int) (i_broken : Int) (i_value : Int) (i_sum : Int) (i_set : Nat → Int) (i_rest : Nat → Int) (b_x1 : 0 ≤ x1 ∧ x1 ≤ 3) (h_i_row : RI i_row) (h_i_high : zR i_high 0 10) (h_i_heaps : zR i_heaps 0 30) (h_i_tried : zR i_tried (-1) 17) (h_i_bests : zR i_bests (-1000) 60) : zok (f_HM_nextMove x1 i_row i_high i_heaps i_tried i_bests i_law i_broken i_value i_sum i_set i_rest) (fun o => (i_tried x1.toNat + 1 ≤ o.1 ∧ o.1 ≤ 18) ∧ (16 ≤ o.1 ∨ (0 ≤ o.1 ∧ 1 ≤ i_high (o.1 / 4).toNat ∧ i_high (o.1 % 4).toNat ≤ 9 ∧ o.1 / 4 ≠ o.1 % 4))) := by
  unfold f_HM_nextMove
  refine zk_gv (by omega) (by decide) (fun v1 h_v1 => ?_)
  have r_v1 := h_i_tried (x1.toNat)
  refine zk_n ?_
  refine zok_mono (s_HM_nextMove_9 _ _ _ _ _ h_i_row h_i_high h_i_heaps h_i_tried h_i_bests zfu _ _ _ _ _ _ _ _ (by omega) (by omega) (by omega) (by unfold zfu; omega)) (fun o ho => ?_)
  try dsimp only at ho
  obtain ⟨ho_0, ho_1⟩ := ho
  exact ⟨by omega, by omega⟩
theorem s_HM_unmove (x1 : Int) (i_high : Nat → Int) (i_heaps : Nat → Int) (b_x1 : 0 ≤ x1 ∧ x1 ≤ 17) (h_i_high : zR i_high 0 10) (h_i_heaps : zR i_heaps 0 30) (p_0 : 16 ≤ x1 ∨ (x1 / 4 ≠ x1 % 4 ∧ 1 ≤ i_high (x1 % 4).toNat ∧ i_high (x1 / 4).toNat ≤ 9)) : zok (f_HM_unmove x1 i_high i_heaps) (fun o => zR o.1 0 10 ∧ zR o.2 0 30 ∧ ((16 ≤ x1 → o.1 = i_high) ∧ (x1 < 16 → o.1 = zu (zu i_high (x1 % 4).toNat (i_high (x1 % 4).toNat - 1)) (x1 / 4).toNat (i_high (x1 / 4).toNat + 1)))) := by
  unfold f_HM_unmove
  refine zk_ifc (zci_le (by omega) (by omega)) (fun hc => ?_) (fun hc => ?_)
  · refine zk_ret ?_
    try dsimp only
    exact ⟨h_i_high, h_i_heaps, by first | exact ⟨fun _ => rfl, fun h => absurd h (by omega)⟩ | exact ⟨fun h => absurd h (by omega), fun _ => hpp2⟩⟩
  · refine zk_g0zi_w (by omega) ?_
    refine zk_nE (fun v1 h_v1 => ?_)
    rw [zi_rem_n (by omega) (by omega)] at h_v1
    subst h_v1
    refine zk_g0zi_w (by omega) ?_
    refine zk_nE (fun v2 h_v2 => ?_)
    rw [zi_div_n (by omega) (by omega)] at h_v2
    subst h_v2
    refine zk_d2 (s_HM_shift _ _ _ _ (by omega) (by omega) h_i_high h_i_heaps (by omega) (by omega) (by omega)) (fun a3 a4 hp => ?_)
    try dsimp only at hp
    obtain ⟨hpp0, hpp1, hpp2⟩ := hp
    refine zk_ret ?_
    try dsimp only
    exact ⟨hpp0, hpp1, by first | exact ⟨fun _ => rfl, fun h => absurd h (by omega)⟩ | exact ⟨fun h => absurd h (by omega), fun _ => hpp2⟩⟩
theorem s_HM_settlex (x1 : Int) (x2 : Int) (x3 : Int) (i_tried : Nat → Int) (i_bests : Nat → Int) (i_firsts : Nat → Int) (b_x1 : 0 ≤ x1 ∧ x1 ≤ 3) (b_x2 : 0 ≤ x2 ∧ x2 ≤ 1) (b_x3 : (-1000) ≤ x3 ∧ x3 ≤ 60) (h_i_tried : zR i_tried (-1) 17) (h_i_bests : zR i_bests (-1000) 60) (h_i_firsts : zR i_firsts (-1) 17) : zok (f_HM_settlex x1 x2 x3 i_tried i_bests i_firsts) (fun o => zR o.1 (-1000) 60 ∧ zR o.2 (-1) 17) := by
  unfold f_HM_settlex
  refine zk_n ?_
  refine zk_g0zi_w (by omega) ?_
  refine zk_nE (fun v2 h_v2 => ?_)
  rw [zi_rem_n (by omega) (by omega)] at h_v2
  refine zk_ifc (zci_ner (by omega)) (fun hc => ?_) (fun hc => ?_)
  · unfold f_HM_settlex_13
    refine zk_gv (by omega) (by decide) (fun v1_2 h_v1_2 => ?_)
    have r_v1_2 := h_i_bests (x1.toNat)
    refine zk_ifc (zci_eq (by omega) (by omega)) (fun hc_2 => ?_) (fun hc_2 => ?_)
    · unfold f_HM_settlex_55
      refine zk_sv (by omega) (by decide) (fun a1 h_a1 => ?_)
      have i_a1 : zR a1 (-1000) 60 := by rw [h_a1]; exact zR_zu h_i_bests (by decide) (by decide) (by omega)
      refine zk_gv (by omega) (by decide) (fun v2_2 h_v2_2 => ?_)
      have r_v2_2 := h_i_tried (x1.toNat)
      refine zk_sv (by omega) (by decide) (fun a3 h_a3 => ?_)
      have i_a3 : zR a3 (-1) 17 := by rw [h_a3]; exact zR_zu h_i_firsts (by decide) (by decide) (by omega)
      refine zk_ret ?_
      try dsimp only
      exact ⟨i_a1, i_a3⟩
    · refine zk_ifc (zci_eqr (by omega)) (fun hc_3 => ?_) (fun hc_3 => ?_)
      · refine zk_gv (by omega) (by decide) (fun v2_3 h_v2_3 => ?_)
        have r_v2_3 := h_i_bests (x1.toNat)
        refine zk_ifc (zci_le (by omega) (by omega)) (fun hc_4 => ?_) (fun hc_4 => ?_)
        · refine zk_ret ?_
          try dsimp only
          exact ⟨h_i_bests, h_i_firsts⟩
        · unfold f_HM_settlex_55
          refine zk_sv (by omega) (by decide) (fun a1_2 h_a1_2 => ?_)
          have i_a1_2 : zR a1_2 (-1000) 60 := by rw [h_a1_2]; exact zR_zu h_i_bests (by decide) (by decide) (by omega)
          refine zk_gv (by omega) (by decide) (fun v2_4 h_v2_4 => ?_)
          have r_v2_4 := h_i_tried (x1.toNat)
          refine zk_sv (by omega) (by decide) (fun a3_2 h_a3_2 => ?_)
          have i_a3_2 : zR a3_2 (-1) 17 := by rw [h_a3_2]; exact zR_zu h_i_firsts (by decide) (by decide) (by omega)
          refine zk_ret ?_
          try dsimp only
          exact ⟨i_a1_2, i_a3_2⟩
      · refine zk_gv (by omega) (by decide) (fun v3 h_v3 => ?_)
        have r_v3 := h_i_bests (x1.toNat)
        refine zk_ifc (zci_le (by omega) (by omega)) (fun hc_5 => ?_) (fun hc_5 => ?_)
        · refine zk_ret ?_
          try dsimp only
          exact ⟨h_i_bests, h_i_firsts⟩
        · unfold f_HM_settlex_55
          refine zk_sv (by omega) (by decide) (fun a1_3 h_a1_3 => ?_)
          have i_a1_3 : zR a1_3 (-1000) 60 := by rw [h_a1_3]; exact zR_zu h_i_bests (by decide) (by decide) (by omega)
          refine zk_gv (by omega) (by decide) (fun v2_5 h_v2_5 => ?_)
          have r_v2_5 := h_i_tried (x1.toNat)
          refine zk_sv (by omega) (by decide) (fun a3_3 h_a3_3 => ?_)
          have i_a3_3 : zR a3_3 (-1) 17 := by rw [h_a3_3]; exact zR_zu h_i_firsts (by decide) (by decide) (by omega)
          refine zk_ret ?_
          try dsimp only
          exact ⟨i_a1_3, i_a3_3⟩
  · unfold f_HM_settlex_13
    refine zk_gv (by omega) (by decide) (fun v1_3 h_v1_3 => ?_)
    have r_v1_3 := h_i_bests (x1.toNat)
    refine zk_ifc (zci_eq (by omega) (by omega)) (fun hc_6 => ?_) (fun hc_6 => ?_)
    · unfold f_HM_settlex_55
      refine zk_sv (by omega) (by decide) (fun a1_4 h_a1_4 => ?_)
      have i_a1_4 : zR a1_4 (-1000) 60 := by rw [h_a1_4]; exact zR_zu h_i_bests (by decide) (by decide) (by omega)
      refine zk_gv (by omega) (by decide) (fun v2_6 h_v2_6 => ?_)
      have r_v2_6 := h_i_tried (x1.toNat)
      refine zk_sv (by omega) (by decide) (fun a3_4 h_a3_4 => ?_)
      have i_a3_4 : zR a3_4 (-1) 17 := by rw [h_a3_4]; exact zR_zu h_i_firsts (by decide) (by decide) (by omega)
      refine zk_ret ?_
      try dsimp only
      exact ⟨i_a1_4, i_a3_4⟩
    · refine zk_ifc (zci_eqr (by omega)) (fun hc_7 => ?_) (fun hc_7 => ?_)
      · refine zk_gv (by omega) (by decide) (fun v2_7 h_v2_7 => ?_)
        have r_v2_7 := h_i_bests (x1.toNat)
        refine zk_ifc (zci_le (by omega) (by omega)) (fun hc_8 => ?_) (fun hc_8 => ?_)
        · refine zk_ret ?_
          try dsimp only
          exact ⟨h_i_bests, h_i_firsts⟩
        · unfold f_HM_settlex_55
          refine zk_sv (by omega) (by decide) (fun a1_5 h_a1_5 => ?_)
          have i_a1_5 : zR a1_5 (-1000) 60 := by rw [h_a1_5]; exact zR_zu h_i_bests (by decide) (by decide) (by omega)
          refine zk_gv (by omega) (by decide) (fun v2_8 h_v2_8 => ?_)
          have r_v2_8 := h_i_tried (x1.toNat)
          refine zk_sv (by omega) (by decide) (fun a3_5 h_a3_5 => ?_)
          have i_a3_5 : zR a3_5 (-1) 17 := by rw [h_a3_5]; exact zR_zu h_i_firsts (by decide) (by decide) (by omega)
          refine zk_ret ?_
          try dsimp only
          exact ⟨i_a1_5, i_a3_5⟩
      · refine zk_gv (by omega) (by decide) (fun v3_2 h_v3_2 => ?_)
        have r_v3_2 := h_i_bests (x1.toNat)
        refine zk_ifc (zci_le (by omega) (by omega)) (fun hc_9 => ?_) (fun hc_9 => ?_)
        · refine zk_ret ?_
          try dsimp only
          exact ⟨h_i_bests, h_i_firsts⟩
        · unfold f_HM_settlex_55
          refine zk_sv (by omega) (by decide) (fun a1_6 h_a1_6 => ?_)
          have i_a1_6 : zR a1_6 (-1000) 60 := by rw [h_a1_6]; exact zR_zu h_i_bests (by decide) (by decide) (by omega)
          refine zk_gv (by omega) (by decide) (fun v2_9 h_v2_9 => ?_)
          have r_v2_9 := h_i_tried (x1.toNat)
          refine zk_sv (by omega) (by decide) (fun a3_6 h_a3_6 => ?_)
          have i_a3_6 : zR a3_6 (-1) 17 := by rw [h_a3_6]; exact zR_zu h_i_firsts (by decide) (by decide) (by omega)
          refine zk_ret ?_
          try dsimp only
          exact ⟨i_a1_6, i_a3_6⟩
end
section
theorem zu_undo (h g1 g2 g3 g4 : Nat → Int) (i j : Nat) (hij : i ≠ j) (e1 : g1 = zu h i (h i - 1)) (e2 : g2 = zu g1 j (h j + 1)) (e3 : g3 = zu g2 j (g2 j - 1)) (e4 : g4 = zu g3 i (g2 i + 1)) : g4 = h := by
  funext k
  have a1 := zu_rd e1 i
  have a2 := zu_rd e2 i
  have c2 := zu_rd e2 j
  have b1 := zu_rd e1 k
  have b2 := zu_rd e2 k
  have b3 := zu_rd e3 k
  have b4 := zu_rd e4 k
  by_cases q : k = i
  · subst q; omega
  · by_cases q2 : k = j
    · subst q2; omega
    · omega
noncomputable def zW : Nat → Int
  | 0 => 32000
  | 1 => 1600
  | 2 => 80
  | _ => 2
noncomputable def zM (tr : Nat → Int) : Nat → Int
  | 0 => 0
  | k + 1 => zM tr k + (18 - tr k) * zW k
theorem zM_ge {tr : Nat → Int} {i k : Nat} {v : Int} (h : k ≤ i) : zM (zu tr i v) k = zM tr k := by
  induction k with
  | zero => rfl
  | succ k ih => show zM (zu tr i v) k + _ = zM tr k + _; rw [ih (by omega), zu_ne _ _ (by omega)]
theorem zW_p (k : Nat) : 2 ≤ zW k := by
  match k with
  | 0 => decide
  | 1 => decide
  | 2 => decide
  | (n + 3) => exact Int.le_refl 2
theorem zM_s {tr : Nat → Int} {k : Nat} (h : tr k ≤ 17) : zM tr k + 2 ≤ zM tr (k + 1) := by
  have w := zW_p k
  have h2 : 1 * zW k ≤ (18 - tr k) * zW k := Int.mul_le_mul_of_nonneg_right (by omega) (by omega)
  show zM tr k + 2 ≤ zM tr k + (18 - tr k) * zW k
  omega
theorem zM_nn {tr : Nat → Int} (h : zR tr (-1) 17) (k : Nat) : 0 ≤ zM tr k := by
  induction k with
  | zero => exact Int.le_refl 0
  | succ k ih => have := zM_s (h k).2; omega
theorem zM_up {tr : Nat → Int} (h : zR tr (-1) 17) (k : Nat) : zM tr k ≤ 640000 * (k : Int) := by
  induction k with
  | zero => exact Int.le_refl 0
  | succ k ih =>
    have hk := h k
    have w2 : zW k ≤ 32000 := by
      match k with
      | 0 => exact (by decide)
      | 1 => exact (by decide)
      | 2 => exact (by decide)
      | (n + 3) => exact (show (2 : Int) ≤ 32000 by decide)
    have w := zW_p k
    have h2 := zmulb (a := 18 - tr k) (b := zW k) 19 32000 (by omega) (by omega)
    show zM tr k + (18 - tr k) * zW k ≤ 640000 * ((k + 1 : Nat) : Int)
    omega
theorem zM_adv {tr : Nat → Int} {k : Nat} {v : Int} (hv : tr k + 1 ≤ v) : zM (zu tr k v) (k + 1) + 2 ≤ zM tr (k + 1) := by
  have w := zW_p k
  have h2 : (18 - v) * zW k ≤ (18 - tr k - 1) * zW k := Int.mul_le_mul_of_nonneg_right (by omega) (by omega)
  have h3 : (18 - tr k - 1) * zW k = (18 - tr k) * zW k - zW k := by rw [Int.sub_mul]; omega
  show zM (zu tr k v) k + (18 - zu tr k v k) * zW k + 2 ≤ zM tr k + (18 - tr k) * zW k
  rw [zM_ge (Nat.le_refl _), zu_eq]
  omega
theorem zM_adv2 {tr : Nat → Int} {k : Nat} {v : Int} (hv : tr k + 1 ≤ v) (hk : k ≤ 2) : zM (zu (zu tr k v) (k + 1) (-1)) (k + 1 + 1) + 2 ≤ zM tr (k + 1) := by
  have w : 19 * zW (k + 1) + 2 ≤ zW k := by
    have : k = 0 ∨ k = 1 ∨ k = 2 := by omega
    rcases this with h | h | h <;> (subst h; decide)
  have h2 : (18 - v) * zW k ≤ (18 - tr k - 1) * zW k := Int.mul_le_mul_of_nonneg_right (by omega) (by have := zW_p k; omega)
  have h3 : (18 - tr k - 1) * zW k = (18 - tr k) * zW k - zW k := by rw [Int.sub_mul]; omega
  show zM (zu (zu tr k v) (k + 1) (-1)) k + (18 - zu (zu tr k v) (k + 1) (-1) k) * zW k + (18 - zu (zu tr k v) (k + 1) (-1) (k + 1)) * zW (k + 1) + 2 ≤ zM tr k + (18 - tr k) * zW k
  rw [zM_ge (by omega), zM_ge (Nat.le_refl _), zu_eq, zu_ne _ _ (by omega), zu_eq]
  omega
noncomputable def DI (turn : Nat) (high tried : Nat → Int) : Prop := ∃ Hs : Nat → Nat → Int, Hs turn = high ∧ ∀ t, t < turn → zR (Hs t) 0 10 ∧ (0 ≤ tried t ∧ tried t ≤ 17) ∧ ((16 ≤ tried t ∧ Hs (t + 1) = Hs t) ∨ (tried t < 16 ∧ tried t / 4 ≠ tried t % 4 ∧ 1 ≤ Hs t (tried t / 4).toNat ∧ Hs t (tried t % 4).toNat ≤ 9 ∧ Hs (t + 1) = zu (zu (Hs t) (tried t / 4).toNat (Hs t (tried t / 4).toNat - 1)) (tried t % 4).toNat (Hs t (tried t % 4).toNat + 1)))
theorem DI_0 (high tried : Nat → Int) : DI 0 high tried := ⟨fun _ => high, rfl, fun t ht => absurd ht (Nat.not_lt_zero t)⟩
theorem DI_ext {turn i : Nat} {high tried : Nat → Int} {v : Int} (h : DI turn high tried) (hi : turn ≤ i) : DI turn high (zu tried i v) := by
  obtain ⟨Hs, h1, h2⟩ := h
  refine ⟨Hs, h1, fun t ht => ?_⟩
  rw [zu_ne _ _ (by omega)]
  exact h2 t ht
theorem DI_push {turn : Nat} {high high' tried : Nat → Int} {m : Int} (h : DI turn high tried) (hz : zR high 0 10) (hm : 0 ≤ m ∧ m ≤ 17) (hc : (16 ≤ m ∧ high' = high) ∨ (m < 16 ∧ m / 4 ≠ m % 4 ∧ 1 ≤ high (m / 4).toNat ∧ high (m % 4).toNat ≤ 9 ∧ high' = zu (zu high (m / 4).toNat (high (m / 4).toNat - 1)) (m % 4).toNat (high (m % 4).toNat + 1))) : DI (turn + 1) high' (zu tried turn m) := by
  obtain ⟨Hs, h1, h2⟩ := h
  refine ⟨fun t => if t = turn + 1 then high' else Hs t, by dsimp only; rw [if_pos rfl], fun t ht => ?_⟩
  dsimp only
  rw [if_neg (show t ≠ turn + 1 by omega)]
  by_cases e : t = turn
  · subst e
    rw [if_pos rfl, zu_eq, h1]
    exact ⟨hz, hm, hc⟩
  · rw [if_neg (show t + 1 ≠ turn + 1 by omega), zu_ne _ _ e]
    exact h2 t (by omega)
theorem DI_top {turn : Nat} {high tried : Nat → Int} (h : DI (turn + 1) high tried) : ∃ h0 : Nat → Int, DI turn h0 tried ∧ zR h0 0 10 ∧ (0 ≤ tried turn ∧ tried turn ≤ 17) ∧ ((16 ≤ tried turn ∧ high = h0) ∨ (tried turn < 16 ∧ tried turn / 4 ≠ tried turn % 4 ∧ 1 ≤ h0 (tried turn / 4).toNat ∧ h0 (tried turn % 4).toNat ≤ 9 ∧ high = zu (zu h0 (tried turn / 4).toNat (h0 (tried turn / 4).toNat - 1)) (tried turn % 4).toNat (h0 (tried turn % 4).toNat + 1))) := by
  obtain ⟨Hs, h1, h2⟩ := h
  have k := h2 turn (by omega)
  rw [h1] at k
  exact ⟨Hs turn, ⟨Hs, rfl, fun t ht => h2 t (by omega)⟩, k.1, k.2.1, k.2.2⟩
theorem z_duel (row : Nat → Int) (h0 : RI row) (x1 x2 x3 : Int) (b1 : 1 ≤ x1 ∧ x1 ≤ 4) (b2 : 0 ≤ x2 ∧ x2 ≤ 1) (b3 : 0 ≤ x3 ∧ x3 ≤ 2) : ∀ (n : Nat) (x4 th lw br va su : Int) (set rest high heaps tried bests firsts : Nat → Int), (-1 ≤ x4 ∧ x4 ≤ x1) → (0 ≤ x4 → DI x4.toNat high tried) → zR high 0 10 → zR heaps 0 30 → zR tried (-1) 17 → zR bests (-1000) 60 → zR firsts (-1) 17 → (1 ≤ n ∧ (0 ≤ x4 → x4 < x1 → zM tried (x4.toNat + 1) + 2 ≤ (n : Int)) ∧ (x4 = x1 → zM tried x4.toNat + 3 ≤ (n : Int))) → zok (f_HM_duel_72 row n x1 x2 x3 x4 th lw br va su set rest high heaps tried bests firsts) (fun o => zR o.2.2.2.2.2.2.2.2.1 0 10 ∧ zR o.2.2.2.2.2.2.2.2.2.1 0 30 ∧ zR o.2.2.2.2.2.2.2.2.2.2.1 (-1) 17 ∧ zR o.2.2.2.2.2.2.2.2.2.2.2.1 (-1000) 60 ∧ zR o.2.2.2.2.2.2.2.2.2.2.2.2 (-1) 17) := by
  intro n
  induction n with
  | zero => intro x4 th lw br va su set rest high heaps tried bests firsts b4 hd hh hp ht hb hf hm; exact absurd hm.1 (by decide)
  | succ n ih =>
    intro x4 th lw br va su set rest high heaps tried bests firsts b4 hd hh hp ht hb hf hm
    show zok (f_HM_duel_72_b row (f_HM_duel_72 row n) x1 x2 x3 x4 th lw br va su set rest high heaps tried bests firsts) _
    obtain ⟨m1, m2, m3⟩ := hm
    have all : zR high 0 10 ∧ zR heaps 0 30 ∧ zR tried (-1) 17 ∧ zR bests (-1000) 60 ∧ zR firsts (-1) 17 := ⟨hh, hp, ht, hb, hf⟩
    unfold f_HM_duel_72_b
    refine zk_ifc (zci_ltr (by omega)) (fun hc => ?_) (fun hc => ?_)
    · refine zk_ifc (zci_ner (by omega)) (fun hc1 => ?_) (fun hc1 => ?_)
      · refine zk_gl 0 rfl (by decide) (by decide) (fun v1 h_v1 => ?_)
        have r1 := hf 0
        refine zk_ifc (zci_le (by omega) (by omega)) (fun hc2 => ?_) (fun hc2 => ?_)
        · refine zk_ifc (zci_ne (by omega) (by omega)) (fun hc3 => ?_) (fun hc3 => ?_)
          · refine zk_gl 0 rfl (by decide) (by decide) (fun v2 h_v2 => ?_)
            refine zk_g0zi_w (by omega) ?_
            refine zk_nE (fun v3 h_v3 => ?_)
            exact zk_ret all
          · refine zk_gl 0 rfl (by decide) (by decide) (fun v2 h_v2 => ?_)
            refine zk_g0zi_w (by omega) ?_
            refine zk_nE (fun v3 h_v3 => ?_)
            exact zk_ret all
        · exact zk_ret all
      · refine zk_gl 0 rfl (by decide) (by decide) (fun v1 h_v1 => ?_)
        exact zk_ret all
    · have hD := hd (by omega)
      have p136 : ∀ (s0 lw br va su : Int) (set rest : Nat → Int), (-1000 ≤ s0 ∧ s0 ≤ 60) → zok (f_HM_duel_136 row (f_HM_duel_72 row n) x1 x2 x3 x4 s0 th lw br va su set rest high heaps tried bests firsts) (fun o => zR o.2.2.2.2.2.2.2.2.1 0 10 ∧ zR o.2.2.2.2.2.2.2.2.2.1 0 30 ∧ zR o.2.2.2.2.2.2.2.2.2.2.1 (-1) 17 ∧ zR o.2.2.2.2.2.2.2.2.2.2.2.1 (-1000) 60 ∧ zR o.2.2.2.2.2.2.2.2.2.2.2.2 (-1) 17) := by
        intro s0 lw br va su set rest hs
        unfold f_HM_duel_136
        refine zk_n ?_
        refine zk_ifc (zci_ltr (by omega)) (fun hc1 => ?_) (fun hc1 => ?_)
        · unfold f_HM_duel_166 f_HM_duel_224
          refine ih _ _ _ _ _ _ _ _ _ _ _ _ _ (by omega) (fun h => absurd h (by omega)) hh hp ht hb hf ⟨?_, fun h => absurd h (by omega), fun h => absurd h (by omega)⟩
          have e : x4 = 0 := by omega
          subst e
          have k := m2 (by omega) (by omega)
          have k2 := zM_nn ht ((0 : Int).toNat + 1)
          omega
        · obtain ⟨h9, d1, d2, d3, d4⟩ := DI_top (turn := x4.toNat - 1) (by rw [show x4.toNat - 1 + 1 = x4.toNat by omega]; exact hD)
          rw [show x4.toNat - 1 = (x4 + -1).toNat by omega] at d1 d3 d4
          refine zk_gv (by omega) (by decide) (fun v2 h_v2 => ?_)
          rw [← h_v2] at d3 d4
          have g1 := d2 (v2 / 4).toNat
          have g2 := d2 (v2 % 4).toNat
          have hpre : 16 ≤ v2 ∨ (v2 / 4 ≠ v2 % 4 ∧ 1 ≤ high (v2 % 4).toNat ∧ high (v2 / 4).toNat ≤ 9) := by
            rcases d4 with ⟨e, _⟩ | ⟨e1, e2, e3, e4, e5⟩
            · exact Or.inl e
            · refine Or.inr ⟨e2, ?_, ?_⟩
              · rw [e5, zu_eq]; omega
              · rw [e5, zu_ne _ _ (by omega), zu_eq]; omega
          refine zk_d2 (s_HM_unmove v2 high heaps (by omega) hh hp hpre) (fun a3 a4 hq => ?_)
          try dsimp only at hq
          obtain ⟨q1, q2, q3, q4⟩ := hq
          have e9 : a3 = h9 := by
            rcases d4 with ⟨e, e5⟩ | ⟨e1, e2, e3, e4, e5⟩
            · rw [q3 e, e5]
            · rw [q4 e1]
              exact zu_undo h9 _ high _ _ (v2 / 4).toNat (v2 % 4).toNat (by omega) rfl e5 rfl rfl
          refine zk_d2 (s_HM_settlex (x4 + -1) x2 s0 tried bests firsts (by omega) (by omega) (by omega) ht hb hf) (fun a5 a6 hq => ?_)
          try dsimp only at hq
          obtain ⟨q5, q6⟩ := hq
          unfold f_HM_duel_166 f_HM_duel_224
          refine ih _ _ _ _ _ _ _ _ _ _ _ _ _ (by omega) (fun _ => by rw [e9]; exact d1) q1 q2 ht q5 q6 ?_
          have n1 := zM_nn ht x4.toNat
          by_cases e : x4 = x1
          · have k := m3 e
            rw [show (x4 + -1).toNat + 1 = x4.toNat by omega]
            omega
          · have k := m2 (by omega) (by omega)
            have k2 := zM_s (tr := tried) (k := x4.toNat) (ht x4.toNat).2
            rw [show (x4 + -1).toNat + 1 = x4.toNat by omega]
            omega
      have p116 : ∀ (lw br va su : Int) (set rest : Nat → Int), zok (f_HM_duel_116 row (f_HM_duel_72 row n) x1 x2 x3 x4 th lw br va su set rest high heaps tried bests firsts) (fun o => zR o.2.2.2.2.2.2.2.2.1 0 10 ∧ zR o.2.2.2.2.2.2.2.2.2.1 0 30 ∧ zR o.2.2.2.2.2.2.2.2.2.2.1 (-1) 17 ∧ zR o.2.2.2.2.2.2.2.2.2.2.2.1 (-1000) 60 ∧ zR o.2.2.2.2.2.2.2.2.2.2.2.2 (-1) 17) := by
        intro lw br va su set rest
        unfold f_HM_duel_116
        refine zk_ifc (zci_ne (by omega) (by omega)) (fun hc1 => ?_) (fun hc1 => ?_)
        · refine zk_gv (by omega) (by decide) (fun v1 h_v1 => ?_)
          have r1 := hb x4.toNat
          exact p136 _ _ _ _ _ _ _ (by omega)
        · refine zk_d1 (s_HM_allShades _ _ h0 hh) (fun v2 hq => ?_)
          try dsimp only at hq
          exact p136 _ _ _ _ _ _ _ (by omega)
      have p94 : ∀ (s0 lw br va su : Int) (set rest : Nat → Int), (0 ≤ s0 ∧ s0 ≤ 18) → (x4 < x1 → tried x4.toNat + 1 ≤ s0 ∧ (16 ≤ s0 ∨ (1 ≤ high (s0 / 4).toNat ∧ high (s0 % 4).toNat ≤ 9 ∧ s0 / 4 ≠ s0 % 4))) → zok (f_HM_duel_94 row (f_HM_duel_72 row n) x1 x2 x3 x4 s0 th lw br va su set rest high heaps tried bests firsts) (fun o => zR o.2.2.2.2.2.2.2.2.1 0 10 ∧ zR o.2.2.2.2.2.2.2.2.2.1 0 30 ∧ zR o.2.2.2.2.2.2.2.2.2.2.1 (-1) 17 ∧ zR o.2.2.2.2.2.2.2.2.2.2.2.1 (-1000) 60 ∧ zR o.2.2.2.2.2.2.2.2.2.2.2.2 (-1) 17) := by
        intro s0 lw br va su set rest b0 hs
        unfold f_HM_duel_94
        refine zk_ifc (zci_eq (by omega) (by omega)) (fun hc1 => ?_) (fun hc1 => ?_)
        · exact p116 _ _ _ _ _ _
        · obtain ⟨s1, s2⟩ := hs (by omega)
          refine zk_ifc (zci_eq (by omega) (by omega)) (fun hc2 => ?_) (fun hc2 => ?_)
          · exact p116 _ _ _ _ _ _
          · refine zk_ifc (zci_ne (by omega) (by omega)) (fun hc3 => ?_) (fun hc3 => ?_)
            · refine zk_sv (by omega) (by decide) (fun a1 h_a1 => ?_)
              have i1 : zR a1 (-1) 17 := by rw [h_a1]; exact zR_zu ht (by decide) (by decide) (by omega)
              have k := m2 (by omega) (by omega)
              have p197 : ∀ hi he : Nat → Int, zR hi 0 10 → zR he 0 30 → DI (x4.toNat + 1) hi (zu tried x4.toNat s0) → zok (f_HM_duel_197 row (f_HM_duel_72 row n) x1 x2 x3 x4 th lw br va su set rest hi he a1 bests firsts) (fun o => zR o.2.2.2.2.2.2.2.2.1 0 10 ∧ zR o.2.2.2.2.2.2.2.2.2.1 0 30 ∧ zR o.2.2.2.2.2.2.2.2.2.2.1 (-1) 17 ∧ zR o.2.2.2.2.2.2.2.2.2.2.2.1 (-1000) 60 ∧ zR o.2.2.2.2.2.2.2.2.2.2.2.2 (-1) 17) := by
                intro hi he g1 g2 g3
                unfold f_HM_duel_197
                refine zk_n ?_
                refine zk_ifc (zci_le (by omega) (by omega)) (fun hc4 => ?_) (fun hc4 => ?_)
                · unfold f_HM_duel_224
                  refine ih _ _ _ _ _ _ _ _ _ _ _ _ _ (by omega) (fun _ => by rw [show (x4 + 1).toNat = x4.toNat + 1 by omega, h_a1]; exact g3) g1 g2 i1 hb hf ?_
                  have k2 := zM_adv (tr := tried) (k := x4.toNat) (v := s0) s1
                  have k3 := zM_nn i1 (x4.toNat + 1)
                  rw [h_a1] at k3
                  rw [show (x4 + 1).toNat = x4.toNat + 1 by omega, h_a1]
                  omega
                · refine zk_sv (by omega) (by decide) (fun a2 h_a2 => ?_)
                  refine zk_sv (by omega) (by decide) (fun a3 h_a3 => ?_)
                  have i2 : zR a2 (-1) 17 := by rw [h_a2]; exact zR_zu i1 (by decide) (by decide) (by omega)
                  have i3 : zR a3 (-1000) 60 := by rw [h_a3]; exact zR_zu hb (by decide) (by decide) (by omega)
                  unfold f_HM_duel_224
                  refine ih _ _ _ _ _ _ _ _ _ _ _ _ _ (by omega) (fun _ => by rw [show (x4 + 1).toNat = x4.toNat + 1 by omega, h_a2, h_a1]; exact DI_ext g3 (by omega)) g1 g2 i2 i3 hf ?_
                  have k2 := zM_adv2 (tr := tried) (k := x4.toNat) (v := s0) s1 (by omega)
                  have k3 := zM_nn i2 (x4.toNat + 1 + 1)
                  rw [h_a2, h_a1, show (x4 + 1).toNat = x4.toNat + 1 by omega] at k3
                  rw [show (x4 + 1).toNat = x4.toNat + 1 by omega, h_a2, h_a1, show (x4 + 1).toNat = x4.toNat + 1 by omega]
                  omega
              refine zk_ifc (zci_le (by omega) (by omega)) (fun hc4 => ?_) (fun hc4 => ?_)
              · exact p197 _ _ hh hp (DI_push hD hh (by omega) (Or.inl ⟨by omega, rfl⟩))
              · refine zk_g0zi_w (by omega) ?_
                refine zk_nE (fun v2 h_v2 => ?_)
                rw [zi_div_n (by omega) (by omega)] at h_v2
                subst h_v2
                refine zk_g0zi_w (by omega) ?_
                refine zk_nE (fun v3 h_v3 => ?_)
                rw [zi_rem_n (by omega) (by omega)] at h_v3
                subst h_v3
                refine zk_d2 (s_HM_shift _ _ _ _ (by omega) (by omega) hh hp (by omega) (by omega) (by omega)) (fun a4 a5 hq => ?_)
                try dsimp only at hq
                obtain ⟨q1, q2, q3⟩ := hq
                exact p197 _ _ q1 q2 (DI_push hD hh (by omega) (Or.inr ⟨by omega, by omega, by omega, by omega, q3⟩))
            · exact p116 _ _ _ _ _ _
      refine zk_ifc (zci_le (by omega) (by omega)) (fun hc1 => ?_) (fun hc1 => ?_)
      · exact p94 16 _ _ _ _ _ _ (by omega) (fun h => absurd h (by omega))
      · refine zk_d7 (s_HM_nextMove _ _ _ _ _ _ _ _ _ _ _ _ (by omega) h0 hh hp ht hb) (fun v7 v8 v9 v10 v11 a12 a13 hq => ?_)
        try dsimp only at hq
        obtain ⟨q1, q2⟩ := hq
        have r1 := ht x4.toNat
        exact p94 _ _ _ _ _ _ _ (by omega) (fun _ => ⟨q1.1, by omega⟩)
theorem s_HM_duel (x1 x2 x3 : Int) (row : Nat → Int) (th lw br va su : Int) (set rest high heaps tried bests firsts : Nat → Int) (b1 : -2147483648 ≤ x1 ∧ x1 ≤ 2147483647) (b2 : -2147483648 ≤ x2 ∧ x2 ≤ 2147483647) (b3 : -2147483648 ≤ x3 ∧ x3 ≤ 2147483647) (h0 : RI row) (hh : zR high 0 10) (hp : zR heaps 0 30) (ht : zR tried (-1) 17) (hb : zR bests (-1000) 60) (hf : zR firsts (-1) 17) : zok (f_HM_duel x1 x2 x3 row th lw br va su set rest high heaps tried bests firsts) (fun o => zR o.2.2.2.2.2.2.2.2.1 0 10 ∧ zR o.2.2.2.2.2.2.2.2.2.1 0 30 ∧ zR o.2.2.2.2.2.2.2.2.2.2.1 (-1) 17 ∧ zR o.2.2.2.2.2.2.2.2.2.2.2.1 (-1000) 60 ∧ zR o.2.2.2.2.2.2.2.2.2.2.2.2 (-1) 17) := by
  have all : zR high 0 10 ∧ zR heaps 0 30 ∧ zR tried (-1) 17 ∧ zR bests (-1000) 60 ∧ zR firsts (-1) 17 := ⟨hh, hp, ht, hb, hf⟩
  unfold f_HM_duel
  refine zk_nE (fun v1 h_v1 => ?_)
  rw [zwi (by omega)] at h_v1
  refine zk_d1 (s_HM_in _ _ _ (by omega) (by omega) (by omega)) (fun v2 p2 => ?_)
  try dsimp only at p2
  refine zk_ifc (zci_eqr (by omega)) (fun hc => ?_) (fun hc => ?_)
  · exact zk_ret all
  · refine zk_nE (fun v3 h_v3 => ?_)
    rw [zwi (by omega)] at h_v3
    refine zk_d1 (s_HM_in _ _ _ (by omega) (by omega) (by omega)) (fun v4 p4 => ?_)
    try dsimp only at p4
    refine zk_ifc (zci_eqr (by omega)) (fun hc1 => ?_) (fun hc1 => ?_)
    · exact zk_ret all
    · refine zk_nE (fun v5 h_v5 => ?_)
      rw [zwi (by omega)] at h_v5
      refine zk_d1 (s_HM_in _ _ _ (by omega) (by omega) (by omega)) (fun v6 p6 => ?_)
      try dsimp only at p6
      refine zk_ifc (zci_eqr (by omega)) (fun hc2 => ?_) (fun hc2 => ?_)
      · exact zk_ret all
      · refine zk_d1 (s_HM_columns _ h0) (fun v7 p7 => ?_)
        try dsimp only at p7
        refine zk_ifc (zci_le (by omega) (by omega)) (fun hc3 => ?_) (fun hc3 => ?_)
        · refine zk_d2 (s_HM_load _ _ _ h0 hh hp) (fun a8 a9 p8 => ?_)
          try dsimp only at p8
          obtain ⟨p8, p9⟩ := p8
          refine zk_sl 0 rfl (by decide) (by decide) (fun a10 h_a10 => ?_)
          refine zk_sl 0 rfl (by decide) (by decide) (fun a11 h_a11 => ?_)
          have i10 : zR a10 (-1) 17 := by rw [h_a10]; exact zR_zu ht (by decide) (by decide) (by omega)
          have i11 : zR a11 (-1000) 60 := by rw [h_a11]; exact zR_zu hb (by decide) (by decide) (by omega)
          have u := zM_up i10 1
          exact z_duel row h0 x1 x2 x3 (by omega) (by omega) (by omega) zfu 0 _ _ _ _ _ _ _ _ _ _ _ _ (by omega) (fun _ => DI_0 _ _) p8 p9 i10 i11 hf ⟨by unfold zfu; omega, fun _ _ => by show zM a10 1 + 2 ≤ _; unfold zfu; omega, fun h => absurd h (by omega)⟩
        · exact zk_ret all
end
section
noncomputable def zbase : Nat → List Int
  | 0 => [0, 0, 0]
  | n + 1 => ((n : Int) + 1) :: zbase n
noncomputable def zins (a : Int) : List Int → List (List Int)
  | [] => [[a]]
  | b :: l => (a :: b :: l) :: (zins a l).map (fun m => b :: m)
noncomputable def zVL : Nat → List (List Int)
  | 0 => [[0, 0, 0]]
  | n + 1 => (zVL n).flatMap (zins ((n : Int) + 1))
theorem zins_mem (a : Int) (s t : List Int) : s ++ a :: t ∈ zins a (s ++ t) := by
  induction s with
  | nil =>
    match t with
    | [] => exact List.mem_singleton.mpr rfl
    | b :: l => exact List.mem_cons_self
  | cons c s ih =>
    show c :: (s ++ a :: t) ∈ (a :: c :: (s ++ t)) :: (zins a (s ++ t)).map (fun m => c :: m)
    exact List.mem_cons_of_mem _ (List.mem_map_of_mem ih)
theorem zVL_mem : ∀ (n : Nat) (l : List Int), l.Perm (zbase n) → l ∈ zVL n := by
  intro n
  induction n with
  | zero =>
    intro l h
    have : l = [0, 0, 0] := by
      have h2 : l.Perm (List.replicate 3 (0 : Int)) := h
      exact List.perm_replicate.mp h2
    rw [this]
    exact List.mem_singleton.mpr rfl
  | succ n ih =>
    intro l h
    have hm : ((n : Int) + 1) ∈ l := h.mem_iff.mpr List.mem_cons_self
    obtain ⟨s, t, e⟩ := List.append_of_mem hm
    rw [e] at h ⊢
    have h2 := (List.perm_middle.symm.trans h).cons_inv
    exact List.mem_flatMap.mpr ⟨_, ih _ h2, zins_mem _ s t⟩
theorem zins_len (a : Int) (l : List Int) : (zins a l).length = l.length + 1 := by
  induction l with
  | nil => rfl
  | cons b l ih =>
    show ((a :: b :: l) :: (zins a l).map (fun m => b :: m)).length = (b :: l).length + 1
    simp only [List.length_cons, List.length_map, ih]
theorem zins_mlen (a : Int) (l : List Int) : ∀ m, m ∈ zins a l → m.length = l.length + 1 := by
  induction l with
  | nil => intro m h; rw [List.mem_singleton.mp h]; rfl
  | cons b l ih =>
    intro m h
    rcases List.mem_cons.mp h with h | h
    · rw [h]; rfl
    · obtain ⟨k, hk, rfl⟩ := List.mem_map.mp h
      show (b :: k).length = (b :: l).length + 1
      simp only [List.length_cons, ih k hk]
theorem zfl_len {f : List Int → List (List Int)} {k : Nat} : ∀ (l : List (List Int)), (∀ m, m ∈ l → (f m).length = k) → (l.flatMap f).length = l.length * k := by
  intro l
  induction l with
  | nil => intro _; rw [List.flatMap_nil, List.length_nil, Nat.zero_mul]
  | cons a l ih =>
    intro h
    rw [List.flatMap_cons, List.length_append, ih (fun m hm => h m (List.mem_cons_of_mem _ hm)), h a List.mem_cons_self, List.length_cons, Nat.add_mul, Nat.one_mul, Nat.add_comm]
theorem zVL_mlen : ∀ (n : Nat) (m : List Int), m ∈ zVL n → m.length = n + 3 := by
  intro n
  induction n with
  | zero => intro m h; rw [List.mem_singleton.mp h]; rfl
  | succ n ih =>
    intro m h
    obtain ⟨l, hl, hm⟩ := List.mem_flatMap.mp h
    have h1 := zins_mlen _ l m hm
    have h2 := ih l hl
    omega
theorem zVL_s {n m k : Nat} (hm : m = n + 1) (hk : k = n + 4) : (zVL m).length = (zVL n).length * k := by
  subst hm; subst hk
  show ((zVL n).flatMap (zins ((n : Int) + 1))).length = _
  exact zfl_len _ (fun m hm => by rw [zins_len, zVL_mlen n m hm])
theorem zVL_len' (n : Nat) (h : n ≤ 5) : (zVL n).length ≤ 6720 := by
  have h0 : (zVL 0).length = 1 := rfl
  have h1 : (zVL 1).length = (zVL 0).length * 4 := zVL_s rfl rfl
  have h2 : (zVL 2).length = (zVL 1).length * 5 := zVL_s rfl rfl
  have h3 : (zVL 3).length = (zVL 2).length * 6 := zVL_s rfl rfl
  have h4 : (zVL 4).length = (zVL 3).length * 7 := zVL_s rfl rfl
  have h5 : (zVL 5).length = (zVL 4).length * 8 := zVL_s rfl rfl
  have : n = 0 ∨ n = 1 ∨ n = 2 ∨ n = 3 ∨ n = 4 ∨ n = 5 := by omega
  rcases this with h | h | h | h | h | h <;> subst h <;> omega
theorem zpig {α : Type} (st : Nat → α) : ∀ (n : Nat) (m : List α), (∀ i, i < n → st i ∈ m) → (∀ i j, i < j → j < n → st i ≠ st j) → n ≤ m.length := by
  intro n
  induction n with
  | zero => intro m _ _; exact Nat.zero_le _
  | succ n ih =>
    intro m h1 h2
    obtain ⟨s, t, e⟩ := List.append_of_mem (h1 n (by omega))
    have h3 := ih (s ++ t) (fun i hi => by
      have k := h1 i (by omega)
      rw [e] at k
      rcases List.mem_append.mp k with k | k
      · exact List.mem_append.mpr (Or.inl k)
      · rcases List.mem_cons.mp k with k | k
        · exact absurd k (h2 i n hi (by omega))
        · exact List.mem_append.mpr (Or.inr k)) (fun i j hi hj => h2 i j hi (by omega))
    rw [e]
    simp only [List.length_append, List.length_cons] at h3 ⊢
    omega
noncomputable def zcode (l : List Int) : Int := l.foldl (fun c d => 6 * c + d) 0
theorem zcode_snoc (l : List Int) (d : Int) : zcode (l ++ [d]) = 6 * zcode l + d := by
  unfold zcode
  rw [List.foldl_append]
  rfl
noncomputable def zD (n : Nat) (l : List Int) : Prop := l.Perm (zbase n)
theorem zbase_len (n : Nat) : (zbase n).length = n + 3 := by
  induction n with
  | zero => rfl
  | succ n ih => show (zbase n).length + 1 = _; omega
theorem zbase_r (n : Nat) : ∀ d, d ∈ zbase n → 0 ≤ d ∧ d ≤ (n : Int) := by
  induction n with
  | zero => intro d h; have h2 : d ∈ List.replicate 3 (0 : Int) := h; rw [List.eq_of_mem_replicate h2]; decide
  | succ n ih =>
    intro d h
    rcases List.mem_cons.mp h with h | h
    · omega
    · have := ih d h; omega
theorem zbase_c (n : Nat) : (zbase n).count 0 = 3 := by
  induction n with
  | zero => decide
  | succ n ih =>
    show (((n : Int) + 1) :: zbase n).count 0 = 3
    rw [List.count_cons_of_ne (by omega)]
    exact ih
theorem zD_len {n : Nat} {l : List Int} (h : zD n l) : l.length = n + 3 := h.length_eq.trans (zbase_len n)
theorem zD_r {n : Nat} {l : List Int} (h : zD n l) : ∀ d, d ∈ l → 0 ≤ d ∧ d ≤ (n : Int) := fun d hd => zbase_r n d (h.mem_iff.mp hd)
theorem zD_c {n : Nat} {l : List Int} (h : zD n l) : l.count 0 = 3 := (h.count_eq 0).trans (zbase_c n)
theorem zcode_r : ∀ (k : Nat) (l : List Int), l.length = k → (∀ d, d ∈ l → 0 ≤ d ∧ d ≤ 5) → 0 ≤ zcode l ∧ zcode l + 1 ≤ (6 : Int) ^ k := by
  intro k
  induction k with
  | zero =>
    intro l h _
    have : l = [] := List.length_eq_zero_iff.mp h
    subst this
    decide
  | succ k ih =>
    intro l h hd
    rcases List.eq_nil_or_concat l with e | ⟨p, d, e⟩
    · subst e; exact absurd h (by simp)
    · have e2 : l = p ++ [d] := by rw [e]; simp
      subst e2
      rw [List.length_append, List.length_singleton] at h
      have h1 := ih p (by omega) (fun x hx => hd x (List.mem_append.mpr (Or.inl hx)))
      have h2 := hd d (List.mem_append.mpr (Or.inr (List.mem_singleton.mpr rfl)))
      rw [zcode_snoc, Int.pow_succ]
      omega
theorem zcode_b {n : Nat} {l : List Int} (hn : n ≤ 5) (h : zD n l) : 0 ≤ zcode l ∧ zcode l ≤ 1679615 := by
  have h1 := zcode_r (n + 3) l (zD_len h) (fun d hd => by have := zD_r h d hd; omega)
  have : n = 0 ∨ n = 1 ∨ n = 2 ∨ n = 3 ∨ n = 4 ∨ n = 5 := by omega
  rcases this with q | q | q | q | q | q <;> (subst q; have e : ∀ k : Int, k + 1 ≤ (6 : Int) ^ 8 → k ≤ 1679615 := (by intro k hk; have : (6 : Int) ^ 8 = 1679616 := (by decide); omega); skip)
  all_goals first | exact ⟨h1.1, e _ h1.2⟩ | (refine ⟨h1.1, e _ (Int.le_trans h1.2 (by decide))⟩)
noncomputable def zcol (sm : Nat → Int) (c t : Nat) : List Int := (List.range t).map (fun i => sm (5 * c + i) + 1)
noncomputable def zdig (sm ta : Nat → Int) : List Int := zcol sm 0 (ta 0).toNat ++ 0 :: (zcol sm 1 (ta 1).toNat ++ 0 :: (zcol sm 2 (ta 2).toNat ++ 0 :: zcol sm 3 (ta 3).toNat))
theorem zcol_s (sm : Nat → Int) (c t : Nat) : zcol sm c (t + 1) = zcol sm c t ++ [sm (5 * c + t) + 1] := by
  unfold zcol
  rw [List.range_succ, List.map_append]
  rfl
theorem zcol_len (sm : Nat → Int) (c t : Nat) : (zcol sm c t).length = t := by
  unfold zcol
  rw [List.length_map, List.length_range]
theorem zcol_ext {sm sm' : Nat → Int} {c t : Nat} (h : ∀ i, i < t → sm' (5 * c + i) = sm (5 * c + i)) : zcol sm' c t = zcol sm c t := by
  unfold zcol
  apply List.map_congr_left
  intro i hi
  rw [h i (List.mem_range.mp hi)]
theorem zcol_mem {sm : Nat → Int} {c t i : Nat} (h : i < t) : sm (5 * c + i) + 1 ∈ zcol sm c t := by
  unfold zcol
  exact List.mem_map.mpr ⟨i, List.mem_range.mpr h, rfl⟩

theorem zcode_p {l : List Int} (h : l.length ≤ 8) (hd : ∀ d, d ∈ l → 0 ≤ d ∧ d ≤ 5) : 0 ≤ zcode l ∧ zcode l ≤ 1679615 := by
  have h1 := zcode_r l.length l rfl hd
  generalize l.length = k at h h1
  have e : ∀ v : Int, v + 1 ≤ (6 : Int) ^ k → v ≤ 1679615 := by
    intro v hv
    have : (6 : Int) ^ k ≤ 1679616 := by
      have : k = 0 ∨ k = 1 ∨ k = 2 ∨ k = 3 ∨ k = 4 ∨ k = 5 ∨ k = 6 ∨ k = 7 ∨ k = 8 := by omega
      rcases this with q | q | q | q | q | q | q | q | q <;> (subst q; decide)
    omega
  exact ⟨h1.1, e _ h1.2⟩
noncomputable def zSm (n : Nat) (sm ta : Nat → Int) : Prop := n ≤ 5 ∧ (0 ≤ ta 0 ∧ 0 ≤ ta 1 ∧ 0 ≤ ta 2 ∧ 0 ≤ ta 3) ∧ zD n (zdig sm ta)
theorem zdig_len (sm ta : Nat → Int) : (zdig sm ta).length = (ta 0).toNat + (ta 1).toNat + (ta 2).toNat + (ta 3).toNat + 3 := by
  unfold zdig
  simp only [List.length_append, List.length_cons, zcol_len]
  omega
theorem zSm_t {n : Nat} {sm ta : Nat → Int} (h : zSm n sm ta) : ta 0 + ta 1 + ta 2 + ta 3 = (n : Int) := by
  have h1 := zD_len h.2.2
  rw [zdig_len] at h1
  have := h.2.1
  omega
theorem zdig_in {sm ta : Nat → Int} {c i : Nat} (hc : c < 4) (hi : i < (ta c).toNat) : sm (5 * c + i) + 1 ∈ zdig sm ta := by
  have h := zcol_mem (sm := sm) (c := c) hi
  unfold zdig
  have : c = 0 ∨ c = 1 ∨ c = 2 ∨ c = 3 := by omega
  rcases this with q | q | q | q <;> subst q
  · exact List.mem_append.mpr (Or.inl h)
  · exact List.mem_append.mpr (Or.inr (List.mem_cons_of_mem _ (List.mem_append.mpr (Or.inl h))))
  · exact List.mem_append.mpr (Or.inr (List.mem_cons_of_mem _ (List.mem_append.mpr (Or.inr (List.mem_cons_of_mem _ (List.mem_append.mpr (Or.inl h)))))))
  · exact List.mem_append.mpr (Or.inr (List.mem_cons_of_mem _ (List.mem_append.mpr (Or.inr (List.mem_cons_of_mem _ (List.mem_append.mpr (Or.inr (List.mem_cons_of_mem _ h))))))))
noncomputable def zpre (sm ta : Nat → Int) : Nat → List Int
  | 0 => []
  | c + 1 => zpre sm ta c ++ zcol sm c (ta c).toNat ++ (if c < 3 then [0] else [])
theorem zpre_4 (sm ta : Nat → Int) : zpre sm ta 4 = zdig sm ta := by
  unfold zdig
  show ((((([] ++ zcol sm 0 (ta 0).toNat) ++ [0]) ++ zcol sm 1 (ta 1).toNat) ++ [0] ++ zcol sm 2 (ta 2).toNat) ++ [0] ++ zcol sm 3 (ta 3).toNat) ++ [] = _
  simp only [List.nil_append, List.append_nil, List.append_assoc, List.cons_append]
theorem zcol_r {n : Nat} {sm ta : Nat → Int} (h : zSm n sm ta) {c i : Nat} (hc : c < 4) (hi : i ≤ (ta c).toNat) : ∀ d, d ∈ zcol sm c i → 0 ≤ d ∧ d ≤ 5 := by
  intro d hd
  unfold zcol at hd
  obtain ⟨k, hk, e⟩ := List.mem_map.mp hd
  have hk2 := List.mem_range.mp hk
  have h1 := zD_r h.2.2 _ (zdig_in (sm := sm) (ta := ta) hc (Nat.lt_of_lt_of_le hk2 hi))
  have := h.1
  try dsimp only at e
  omega
theorem zpre_r {n : Nat} {sm ta : Nat → Int} (h : zSm n sm ta) : ∀ c, c ≤ 4 → ∀ d, d ∈ zpre sm ta c → 0 ≤ d ∧ d ≤ 5 := by
  intro c
  induction c with
  | zero => intro _ d hd; exact absurd hd List.not_mem_nil
  | succ c ih =>
    intro hc d hd
    rcases List.mem_append.mp hd with hd | hd
    · rcases List.mem_append.mp hd with hd | hd
      · exact ih (by omega) d hd
      · exact zcol_r h (by omega) (Nat.le_refl _) d hd
    · by_cases q : c < 3
      · rw [if_pos q] at hd
        rw [List.mem_singleton.mp hd]
        decide
      · rw [if_neg q] at hd
        exact absurd hd List.not_mem_nil
theorem zpre_l {n : Nat} {sm ta : Nat → Int} (h : zSm n sm ta) : ∀ c, c < 4 → (zpre sm ta c).length + (ta c).toNat ≤ 8 := by
  intro c hc
  have h1 := zSm_t h
  have h2 := h.2.1
  have h3 := h.1
  have : c = 0 ∨ c = 1 ∨ c = 2 ∨ c = 3 := by omega
  rcases this with q | q | q | q <;> subst q
  · show 0 + _ ≤ 8
    omega
  · show (([] ++ zcol sm 0 (ta 0).toNat) ++ [0]).length + _ ≤ 8
    simp only [List.length_append, List.length_cons, List.length_nil, zcol_len]
    omega
  · show ((([] ++ zcol sm 0 (ta 0).toNat) ++ [0]) ++ zcol sm 1 (ta 1).toNat ++ [0]).length + _ ≤ 8
    simp only [List.length_append, List.length_cons, List.length_nil, zcol_len]
    omega
  · show ((((([] ++ zcol sm 0 (ta 0).toNat) ++ [0]) ++ zcol sm 1 (ta 1).toNat) ++ [0] ++ zcol sm 2 (ta 2).toNat) ++ [0]).length + _ ≤ 8
    simp only [List.length_append, List.length_cons, List.length_nil, zcol_len]
    omega
theorem zpre_b {n : Nat} {sm ta : Nat → Int} (h : zSm n sm ta) {c i : Nat} (hc : c < 4) (hi : i ≤ (ta c).toNat) : 0 ≤ zcode (zpre sm ta c ++ zcol sm c i) ∧ zcode (zpre sm ta c ++ zcol sm c i) ≤ 1679615 := by
  apply zcode_p
  · have := zpre_l h c hc
    rw [List.length_append, zcol_len]
    omega
  · intro d hd
    rcases List.mem_append.mp hd with hd | hd
    · exact zpre_r h c (by omega) d hd
    · exact zcol_r h hc hi d hd
theorem zSm_i {n : Nat} {sm ta : Nat → Int} (h : zSm n sm ta) {c i : Nat} (hc : c < 4) (hi : (i : Int) < ta c) : 0 ≤ sm (5 * c + i) + 1 ∧ sm (5 * c + i) + 1 ≤ 5 := by
  have h1 := zD_r h.2.2 _ (zdig_in (sm := sm) (ta := ta) (i := i) hc (by omega))
  have := h.1
  omega
theorem zSm_c {n : Nat} {sm ta : Nat → Int} (h : zSm n sm ta) {c : Nat} (hc : c < 4) : 0 ≤ ta c ∧ ta c ≤ 5 := by
  have h1 := zSm_t h
  have h2 := h.2.1
  have h3 := h.1
  have : c = 0 ∨ c = 1 ∨ c = 2 ∨ c = 3 := by omega
  rcases this with q | q | q | q <;> subst q <;> omega
theorem z_cs11 (n : Nat) (sm ta : Nat → Int) (h : zSm n sm ta) (k4 : Int → Int → Option Int) (P : Int → Prop) (c : Nat) (hc : c < 4) (hk : ∀ v : Int, v = zcode (zpre sm ta (c + 1)) → zok (k4 v ((c : Int) + 1)) P) : ∀ (m i : Nat) (x1 x2 x3 : Int), x2 = (c : Int) → x3 = (i : Int) → (i : Int) ≤ ta c → x1 = zcode (zpre sm ta c ++ zcol sm c i) → ta c - (i : Int) + 1 ≤ (m : Int) → zok (f_HM_codeOfSmall_11 sm ta k4 m x1 x2 x3) P := by
  intro m
  induction m with
  | zero => intro i x1 x2 x3 e2 e3 hi e1 hm; exact absurd hm (by omega)
  | succ m ih =>
    intro i x1 x2 x3 e2 e3 hi e1 hm
    have ht := zSm_c h hc
    have hb := zpre_b h (c := c) (i := i) hc (by omega)
    show zok (f_HM_codeOfSmall_11_b sm ta k4 (f_HM_codeOfSmall_11 sm ta k4 m) x1 x2 x3) P
    unfold f_HM_codeOfSmall_11_b
    refine zk_gl c (by omega) (by omega) (by decide) (fun v1 h1 => ?_)
    refine zk_ifc (zci_le (by omega) (by omega)) (fun hc1 => ?_) (fun hc1 => ?_)
    · have ei : i = (ta c).toNat := by omega
      refine zk_ifc (zci_le (by omega) (by omega)) (fun hc2 => ?_) (fun hc2 => ?_)
      · unfold f_HM_codeOfSmall_58
        refine zk_nE (fun w hw => ?_)
        rw [hw, e2]
        refine hk x1 ?_
        show _ = zcode (zpre sm ta c ++ zcol sm c (ta c).toNat ++ (if c < 3 then [0] else []))
        rw [if_neg (by omega), List.append_nil, e1, ei]
      · refine zk_nE (fun v2 h2 => ?_)
        unfold f_HM_codeOfSmall_58
        refine zk_nE (fun w hw => ?_)
        rw [hw, e2]
        refine hk v2 ?_
        show _ = zcode (zpre sm ta c ++ zcol sm c (ta c).toNat ++ (if c < 3 then [0] else []))
        rw [if_pos (by omega), zcode_snoc, h2, e1, ei]
        omega
    · refine zk_nE (fun v3 h3 => ?_)
      refine zk_nE (fun v4 h4 => ?_)
      refine zk_nE (fun v5 h5 => ?_)
      refine zk_gl (5 * c + i) (by omega) (by omega) (by decide) (fun v6 h6 => ?_)
      refine zk_nE (fun v7 h7 => ?_)
      refine zk_nE (fun v8 h8 => ?_)
      refine zk_nE (fun v9 h9 => ?_)
      refine ih (i + 1) v8 x2 v9 e2 (by omega) (by omega) ?_ (by omega)
      rw [zcol_s, ← List.append_assoc, zcode_snoc, ← e1]
      omega
theorem z_cs4 (n : Nat) (sm ta : Nat → Int) (h : zSm n sm ta) : ∀ (m c : Nat) (x1 x2 : Int), x2 = (c : Int) → c ≤ 4 → x1 = zcode (zpre sm ta c) → 5 - c ≤ m → zok (f_HM_codeOfSmall_4 sm ta m x1 x2) (fun o => o = zcode (zdig sm ta)) := by
  intro m
  induction m with
  | zero => intro c x1 x2 e2 hc e1 hm; exact absurd hm (by omega)
  | succ m ih =>
    intro c x1 x2 e2 hc e1 hm
    show zok (f_HM_codeOfSmall_4_b sm ta (f_HM_codeOfSmall_4 sm ta m) x1 x2) _
    unfold f_HM_codeOfSmall_4_b
    refine zk_ifc (zci_le (by omega) (by omega)) (fun hc1 => ?_) (fun hc1 => ?_)
    · have : c = 4 := by omega
      subst this
      refine zk_ret ?_
      rw [e1, zpre_4]
    · have hc2 : c < 4 := by omega
      have ht := zSm_c h hc2
      refine z_cs11 n sm ta h _ _ c hc2 (fun v hv => ih (c + 1) v _ (by omega) (by omega) hv (by omega)) zfu 0 x1 x2 0 e2 rfl (by omega) ?_ (by unfold zfu; omega)
      rw [e1]
      show zcode _ = zcode (zpre sm ta c ++ [])
      rw [List.append_nil]
theorem z_codeOfSmall {n : Nat} {sm ta : Nat → Int} (h : zSm n sm ta) : zok (f_HM_codeOfSmall sm ta) (fun o => o = zcode (zdig sm ta)) := by
  unfold f_HM_codeOfSmall
  exact z_cs4 n sm ta h zfu 0 0 0 rfl (by decide) rfl (by unfold zfu; omega)

noncomputable def zrv (sm ta : Nat → Int) : Nat → List Int
  | 0 => []
  | z + 1 => zrv sm ta z ++ zcol sm (3 - z) (ta (3 - z)).toNat ++ [0]
theorem zcol_get (sm : Nat → Int) (c t i : Nat) (h : i < (zcol sm c t).length) : (zcol sm c t)[i] = sm (5 * c + i) + 1 := by
  simp [zcol]
theorem zcol_rev {sm s0 : Nat → Int} {c t : Nat} (h : ∀ j, j < t → sm (5 * c + j) = s0 (5 * c + (t - 1 - j))) : zcol sm c t = (zcol s0 c t).reverse := by
  apply List.ext_getElem
  · rw [List.length_reverse, zcol_len, zcol_len]
  · intro i h1 h2
    have h3 := h1
    rw [zcol_len] at h3
    rw [List.getElem_reverse, zcol_get, zcol_get, zcol_len, h i h3]
theorem zrv_dig {sm s0 ta : Nat → Int} (h : ∀ c, c < 4 → ∀ j : Nat, (j : Int) < ta c → sm (5 * c + j) = s0 (5 * c + ((ta c).toNat - 1 - j))) : zdig sm ta = (zrv s0 ta 3 ++ zcol s0 0 (ta 0).toNat).reverse := by
  have r : ∀ c, c < 4 → zcol sm c (ta c).toNat = (zcol s0 c (ta c).toNat).reverse := fun c hc => zcol_rev (fun j hj => h c hc j (by omega))
  unfold zdig
  rw [r 0 (by decide), r 1 (by decide), r 2 (by decide), r 3 (by decide)]
  show _ = (((((([] ++ zcol s0 3 (ta 3).toNat) ++ [0]) ++ zcol s0 2 (ta 2).toNat) ++ [0]) ++ zcol s0 1 (ta 1).toNat) ++ [0] ++ zcol s0 0 (ta 0).toNat).reverse
  simp only [List.reverse_append, List.nil_append, List.append_nil, List.append_assoc, List.cons_append, List.reverse_cons, List.reverse_nil, List.singleton_append]
theorem zrv_ext {sm sm' ta ta' : Nat → Int} : ∀ z, z ≤ 3 → (∀ c, 3 - z < c → c ≤ 3 → ta' c = ta c ∧ ∀ i, i < (ta c).toNat → sm' (5 * c + i) = sm (5 * c + i)) → zrv sm' ta' z = zrv sm ta z := by
  intro z
  induction z with
  | zero => intro _ _; rfl
  | succ z ih =>
    intro hz h
    have h1 := h (3 - z) (by omega) (by omega)
    show zrv sm' ta' z ++ zcol sm' (3 - z) (ta' (3 - z)).toNat ++ [0] = zrv sm ta z ++ zcol sm (3 - z) (ta (3 - z)).toNat ++ [0]
    rw [ih (by omega) (fun c h2 h3 => h c (by omega) h3), h1.1, zcol_ext h1.2]
theorem zrv_len (sm ta : Nat → Int) (z : Nat) : z ≤ (zrv sm ta z).length := by
  induction z with
  | zero => exact Nat.zero_le _
  | succ z ih =>
    show z + 1 ≤ (zrv sm ta z ++ zcol sm (3 - z) (ta (3 - z)).toNat ++ [0]).length
    simp only [List.length_append, List.length_cons, List.length_nil]
    omega
theorem z_os111 (k102 : Int → (Nat → Int) → (Nat → Int) → Option ((Nat → Int) × (Nat → Int))) (P : (Nat → Int) × (Nat → Int) → Prop) (s0 ta : Nat → Int) (c : Nat) (hc : c < 4) (ht : 0 ≤ ta c ∧ ta c ≤ 5) (hk : ∀ sm : Nat → Int, (∀ j : Nat, (j : Int) < ta c → sm (5 * c + j) = s0 (5 * c + ((ta c).toNat - 1 - j))) → (∀ i, (i < 5 * c ∨ 5 * c + 5 ≤ i) → sm i = s0 i) → zok (k102 ((c : Int) + 1) sm ta) P) : ∀ (m a : Nat) (x5 x6 : Int) (sm : Nat → Int), x5 = (c : Int) → x6 = (a : Int) → 2 * (a : Int) ≤ ta c → (∀ j, j < (ta c).toNat → (j < a ∨ (ta c).toNat ≤ j + a) → sm (5 * c + j) = s0 (5 * c + ((ta c).toNat - 1 - j))) → (∀ j, j < (ta c).toNat → a ≤ j → j + a < (ta c).toNat → sm (5 * c + j) = s0 (5 * c + j)) → (∀ i, (i < 5 * c ∨ 5 * c + 5 ≤ i) → sm i = s0 i) → 4 - (a : Int) ≤ (m : Int) → zok (f_HM_openSmall_111 k102 m x5 x6 sm ta) P := by
  intro m
  induction m with
  | zero => intro a x5 x6 sm e5 e6 ha h1 h2 h3 hm; exact absurd hm (by omega)
  | succ m ih =>
    intro a x5 x6 sm e5 e6 ha h1 h2 h3 hm
    show zok (f_HM_openSmall_111_b k102 (f_HM_openSmall_111 k102 m) x5 x6 sm ta) P
    unfold f_HM_openSmall_111_b
    refine zk_gl c (by omega) (by omega) (by decide) (fun v1 e1 => ?_)
    refine zk_g0zi_w (by omega) ?_
    refine zk_nE (fun v2 e2 => ?_)
    rw [zi_div_n (by omega) (by omega)] at e2
    refine zk_ifc (zci_le (by omega) (by omega)) (fun hc1 => ?_) (fun hc1 => ?_)
    · refine zk_nE (fun v3 e3 => ?_)
      rw [e3, e5]
      refine hk sm (fun j hj => ?_) h3
      by_cases q : j < a ∨ (ta c).toNat ≤ j + a
      · exact h1 j (by omega) q
      · have := h2 j (by omega) (by omega) (by omega)
        rw [this]
        have e : (ta c).toNat - 1 - j = j := by omega
        rw [e]
    · refine zk_gl c (by omega) (by omega) (by decide) (fun v4 e4 => ?_)
      refine zk_nE (fun v5 e5' => ?_)
      refine zk_nE (fun v6 e6' => ?_)
      refine zk_nE (fun v7 e7 => ?_)
      refine zk_nE (fun v8 e8 => ?_)
      refine zk_gl (5 * c + a) (by omega) (by omega) (by decide) (fun v9 e9 => ?_)
      refine zk_nE (fun v10 e10 => ?_)
      refine zk_nE (fun v11 e11 => ?_)
      refine zk_nE (fun v12 e12 => ?_)
      refine zk_nE (fun v13 e13 => ?_)
      refine zk_gl (5 * c + ((ta c).toNat - 1 - a)) (by omega) (by omega) (by decide) (fun v14 e14 => ?_)
      refine zk_sl (5 * c + a) (by omega) (by omega) (by decide) (fun a15 e15 => ?_)
      refine zk_nE (fun v16 e16 => ?_)
      refine zk_nE (fun v17 e17 => ?_)
      refine zk_sl (5 * c + ((ta c).toNat - 1 - a)) (by omega) (by omega) (by decide) (fun a18 e18 => ?_)
      refine zk_nE (fun v19 e19 => ?_)
      have o9 := h2 a (by omega) (by omega) (by omega)
      have hak : a < (ta c).toNat - 1 - a := by omega
      have o14 := h2 ((ta c).toNat - 1 - a) (by omega) (by omega) (by omega)
      refine ih (a + 1) x5 v19 a18 e5 (by omega) (by omega) ?_ ?_ ?_ (by omega)
      · intro j hj hq
        clear ih hk e1 e2 e4 e5 e6 e5' e6' e7 e8 e10 e11 e12 e13 e16 e17 e19 hc1 hm
        by_cases q1 : j = a
        · have r3 : a18 (5 * c + j) = v14 := by
            rcases zu_rd e18 (5 * c + j) with ⟨q, _⟩ | ⟨_, r1⟩
            · exact absurd q (by omega)
            · rcases zu_rd e15 (5 * c + j) with ⟨_, r2⟩ | ⟨q, _⟩
              · exact r1.trans r2
              · exact absurd (by rw [q1]) q
          rw [r3, e14, o14, q1]
        · by_cases q2 : j = (ta c).toNat - 1 - a
          · have r3 : a18 (5 * c + j) = v9 := by
              rcases zu_rd e18 (5 * c + j) with ⟨_, r1⟩ | ⟨q, _⟩
              · exact r1
              · exact absurd (by rw [q2]) q
            rw [r3, e9, o9, q2]
            have e : (ta c).toNat - 1 - ((ta c).toNat - 1 - a) = a := by omega
            rw [e]
          · have r3 : a18 (5 * c + j) = sm (5 * c + j) := by
              rcases zu_rd e18 (5 * c + j) with ⟨q, _⟩ | ⟨_, r1⟩
              · exact absurd q (by omega)
              · rcases zu_rd e15 (5 * c + j) with ⟨q, _⟩ | ⟨_, r2⟩
                · exact absurd q (by omega)
                · exact r1.trans r2
            rw [r3]
            exact h1 j hj (by omega)
      · intro j hj hq1 hq2
        clear ih hk e1 e2 e4 e5 e6 e5' e6' e7 e8 e10 e11 e12 e13 e16 e17 e19 hc1 hm
        have r3 : a18 (5 * c + j) = sm (5 * c + j) := by
          rcases zu_rd e18 (5 * c + j) with ⟨q, _⟩ | ⟨_, r1⟩
          · exact absurd q (by omega)
          · rcases zu_rd e15 (5 * c + j) with ⟨q, _⟩ | ⟨_, r2⟩
            · exact absurd q (by omega)
            · exact r1.trans r2
        rw [r3]
        exact h2 j hj (by omega) (by omega)
      · intro i hi
        clear ih hk e1 e2 e4 e5 e6 e5' e6' e7 e8 e10 e11 e12 e13 e16 e17 e19 hc1 hm
        have r3 : a18 i = sm i := by
          rcases zu_rd e18 i with ⟨q, _⟩ | ⟨_, r1⟩
          · exact absurd q (by omega)
          · rcases zu_rd e15 i with ⟨q, _⟩ | ⟨_, r2⟩
            · exact absurd q (by omega)
            · exact r1.trans r2
        rw [r3]
        exact h3 i hi
theorem z_os102 (s0 ta : Nat → Int) (ht : ∀ c, c < 4 → 0 ≤ ta c ∧ ta c ≤ 5) : ∀ (m c : Nat) (x5 : Int) (sm : Nat → Int), x5 = (c : Int) → c ≤ 4 → (∀ c', c' < c → ∀ j : Nat, (j : Int) < ta c' → sm (5 * c' + j) = s0 (5 * c' + ((ta c').toNat - 1 - j))) → (∀ i, 5 * c ≤ i → sm i = s0 i) → 5 - c ≤ m → zok (f_HM_openSmall_102 m x5 sm ta) (fun o => zdig o.1 o.2 = (zrv s0 ta 3 ++ zcol s0 0 (ta 0).toNat).reverse ∧ o.2 = ta) := by
  intro m
  induction m with
  | zero => intro c x5 sm e5 hc h1 h2 hm; exact absurd hm (by omega)
  | succ m ih =>
    intro c x5 sm e5 hc h1 h2 hm
    show zok (f_HM_openSmall_102_b (f_HM_openSmall_102 m) x5 sm ta) _
    unfold f_HM_openSmall_102_b
    refine zk_ifc (zci_le (by omega) (by omega)) (fun hc1 => ?_) (fun hc1 => ?_)
    · refine zk_ret ⟨zrv_dig (fun c' hc' j hj => h1 c' (by omega) j hj), rfl⟩
    · have hc2 : c < 4 := by omega
      refine z_os111 _ _ sm ta c hc2 (ht c hc2) (fun sm' g1 g2 => ?_) zfu 0 x5 0 sm e5 rfl (by have := ht c hc2; omega) (fun j hj hq => absurd hq (by omega)) (fun j _ _ _ => rfl) (fun i _ => rfl) (by unfold zfu; omega)
      refine ih (c + 1) _ sm' (by omega) (by omega) (fun c' hc' j hj => ?_) (fun i hi => ?_) (by omega)
      · by_cases q : c' = c
        · subst q
          have tt := ht c' hc2
          rw [g1 j hj, h2 _ (by omega)]
        · have tt := ht c' (by omega)
          rw [g2 _ (by omega)]
          exact h1 c' (by omega) j hj
      · rw [g2 i (by omega)]
        exact h2 i (by omega)
end
section
noncomputable def zOI (l : List Int) (z k : Nat) (x3 : Int) (sm ta : Nat → Int) : Prop := ∃ p q : List Int, l = p ++ q ∧ q.length = k ∧ x3 = zcode p ∧ q.count 0 = z ∧ q.reverse = zrv sm ta z ++ zcol sm (3 - z) (ta (3 - z)).toNat ∧ (∀ c, c < 4 → 0 ≤ ta c ∧ ta c ≤ 5) ∧ (∀ c, c < 3 - z → ta c = 0)
theorem zcount_le (l : List Int) : l.count 0 ≤ l.length := List.count_le_length
theorem zcode_n (l : List Int) (h : ∀ d, d ∈ l → 0 ≤ d) : 0 ≤ zcode l := by
  induction hk : l.length generalizing l with
  | zero =>
    have : l = [] := List.length_eq_zero_iff.mp hk
    subst this
    decide
  | succ k ih =>
    rcases List.eq_nil_or_concat l with e | ⟨p, d, e⟩
    · subst e; exact absurd hk (by simp)
    · have e2 : l = p ++ [d] := by rw [e]; simp
      subst e2
      rw [List.length_append, List.length_singleton] at hk
      have h1 := ih p (fun x hx => h x (List.mem_append.mpr (Or.inl hx))) (by omega)
      have h2 := h d (List.mem_append.mpr (Or.inr (List.mem_singleton.mpr rfl)))
      rw [zcode_snoc]
      omega
theorem zOI_step {n : Nat} {l : List Int} {z k : Nat} {x3 : Int} {sm ta : Nat → Int} (hn : n ≤ 5) (hl : zD n l) (h : zOI l z k x3 sm ta) (hk : k < n + 3) : z ≤ 3 ∧ (0 ≤ x3 ∧ x3 ≤ 1679615) ∧ ((x3 % 6 = 0 → z ≤ 2 ∧ zOI l (z + 1) (k + 1) (x3 / 6) sm ta) ∧ (x3 % 6 ≠ 0 → ta (3 - z) ≤ 4 ∧ ∀ (sm' ta' : Nat → Int), sm' = zu sm (5 * (3 - z) + (ta (3 - z)).toNat) (x3 % 6 - 1) → ta' = zu ta (3 - z) (ta (3 - z) + 1) → zOI l z (k + 1) (x3 / 6) sm' ta')) := by
  obtain ⟨p, q, e1, e2, e3, e4, e5, e6, e7⟩ := h
  have hlen := zD_len hl
  have hcnt := zD_c hl
  have hr := zD_r hl
  rw [e1, List.length_append] at hlen
  rw [e1, List.count_append] at hcnt
  rcases List.eq_nil_or_concat p with ep | ⟨p', d, ep⟩
  · subst ep
    simp only [List.length_nil] at hlen
    omega
  · have ep2 : p = p' ++ [d] := by rw [ep]; simp
    subst ep2
    have hd := hr d (by rw [e1]; exact List.mem_append.mpr (Or.inl (List.mem_append.mpr (Or.inr (List.mem_singleton.mpr rfl)))))
    have hb : 0 ≤ zcode (p' ++ [d]) ∧ zcode (p' ++ [d]) ≤ 1679615 := zcode_p (by omega) (fun x hx => by
      have := hr x (by rw [e1]; exact List.mem_append.mpr (Or.inl hx))
      omega)
    have hb2 : 0 ≤ zcode p' := zcode_n p' (fun x hx => (hr x (by rw [e1]; exact List.mem_append.mpr (Or.inl (List.mem_append.mpr (Or.inl hx))))).1)
    have hx : x3 % 6 = d ∧ x3 / 6 = zcode p' := by
      rw [e3, zcode_snoc]
      omega
    have el : l = p' ++ (d :: q) := by rw [e1, List.append_assoc]; rfl
    have hc1 : (p' ++ [d]).count 0 = p'.count 0 + [d].count 0 := List.count_append
    have hp := zcount_le p'
    have hz : z ≤ 3 := by omega
    have c3 := e6 (3 - z) (by omega)
    rw [List.length_append, List.length_singleton] at hlen
    refine ⟨hz, by rw [e3]; exact hb, fun h0 => ?_, fun h0 => ?_⟩
    · have d0 : d = 0 := by omega
      have hc2 : [d].count 0 = 1 := by rw [d0]; decide
      have hz2 : z ≤ 2 := by omega
      refine ⟨hz2, p', d :: q, el, by rw [List.length_cons]; omega, hx.2, ?_, ?_, e6, fun c hc => e7 c (by omega)⟩
      · rw [d0, List.count_cons_self, e4]
      · rw [List.reverse_cons, e5, e7 (3 - (z + 1)) (by omega), d0]
        show _ = (zrv sm ta z ++ zcol sm (3 - z) (ta (3 - z)).toNat ++ [0]) ++ []
        rw [List.append_nil]
    · have d0 : d ≠ 0 := by omega
      have hc2 : [d].count 0 = 0 := by
        rw [List.count_cons_of_ne d0]
        rfl
      have hq : q.length = (zrv sm ta z).length + (ta (3 - z)).toNat := by
        have := congrArg List.length e5
        rw [List.length_reverse, List.length_append, zcol_len] at this
        exact this
      have hzl := zrv_len sm ta z
      refine ⟨by omega, fun sm' ta' es et => ?_⟩
      have t1 := zu_rd et
      have t2 := zu_rd es
      have tc : ta' (3 - z) = ta (3 - z) + 1 := by have := t1 (3 - z); omega
      refine ⟨p', d :: q, el, by rw [List.length_cons]; omega, hx.2, ?_, ?_, fun c hc => ?_, fun c hc => ?_⟩
      · rw [List.count_cons_of_ne d0, e4]
      · rw [List.reverse_cons, e5]
        have g1 : zrv sm' ta' z = zrv sm ta z := zrv_ext z hz (fun c h1 h2 => ⟨by have := t1 c; omega, fun i hi => by
          have := t2 (5 * c + i)
          have := e6 c (by omega)
          omega⟩)
        have g2 : (ta' (3 - z)).toNat = (ta (3 - z)).toNat + 1 := by omega
        have g3 : zcol sm' (3 - z) (ta (3 - z)).toNat = zcol sm (3 - z) (ta (3 - z)).toNat := zcol_ext (fun i hi => by
          have := t2 (5 * (3 - z) + i)
          omega)
        have g4 : sm' (5 * (3 - z) + (ta (3 - z)).toNat) + 1 = d := by
          have := t2 (5 * (3 - z) + (ta (3 - z)).toNat)
          omega
        rw [g1, g2, zcol_s, g3, g4, List.append_assoc]
      · have := t1 c
        have := e6 c hc
        omega
      · have := t1 c
        have := e7 c hc
        omega
noncomputable def zOP (n : Nat) (l : List Int) (o : (Nat → Int) × (Nat → Int)) : Prop := zdig o.1 o.2 = l ∧ zSm n o.1 o.2
theorem z_os31 (n : Nat) (l : List Int) (hn : n ≤ 5) (hl : zD n l) (x2 : Int) (h2 : x2 = (n : Int)) : ∀ (m z k : Nat) (x3 x4 x5 : Int) (sm ta : Nat → Int), x4 = 3 - (z : Int) → x5 = (k : Int) → k ≤ n + 3 → zOI l z k x3 sm ta → n + 4 - k ≤ m → zok (f_HM_openSmall_31 m x2 x3 x4 x5 sm ta) (zOP n l) := by
  intro m
  induction m with
  | zero => intro z k x3 x4 x5 sm ta e4 e5 hk h hm; exact absurd hm (by omega)
  | succ m ih =>
    intro z k x3 x4 x5 sm ta e4 e5 hk h hm
    show zok (f_HM_openSmall_31_b (f_HM_openSmall_31 m) x2 x3 x4 x5 sm ta) _
    unfold f_HM_openSmall_31_b
    refine zk_nE (fun v1 e1 => ?_)
    refine zk_ifc (zci_le (by omega) (by omega)) (fun hc1 => ?_) (fun hc1 => ?_)
    · obtain ⟨p, q, g1, g2, g3, g4, g5, g6, g7⟩ := h
      have hlen := zD_len hl
      rw [g1, List.length_append] at hlen
      have hp : p = [] := List.length_eq_zero_iff.mp (by omega)
      rw [hp, List.nil_append] at g1
      have hcnt := zD_c hl
      rw [g1, g4] at hcnt
      subst hcnt
      refine zok_mono (z_os102 sm ta g6 zfu 0 0 sm rfl (by omega) (fun c' hc' => absurd hc' (by omega)) (fun i _ => rfl) (by unfold zfu; omega)) ?_
      intro o ho
      obtain ⟨o1, o2⟩ := ho
      have o3 : zdig o.1 o.2 = l := by
        rw [o1, ← g5, List.reverse_reverse, g1]
      refine ⟨o3, hn, ?_, by rw [o3]; exact hl⟩
      rw [o2]
      exact ⟨(g6 0 (by decide)).1, (g6 1 (by decide)).1, (g6 2 (by decide)).1, (g6 3 (by decide)).1⟩
    · have hs := zOI_step hn hl h (by omega)
      obtain ⟨hz, hb, hA, hB⟩ := hs
      have ht : 0 ≤ ta (3 - z) := by
        obtain ⟨p, q, g1, g2, g3, g4, g5, g6, g7⟩ := h
        exact (g6 (3 - z) (by omega)).1
      refine zk_g0zi_w (by omega) ?_
      refine zk_nE (fun v2 e2 => ?_)
      rw [zi_rem_n (by omega) (by omega)] at e2
      refine zk_g0zi_w (by omega) ?_
      refine zk_nE (fun v3 e3 => ?_)
      rw [zi_div_n (by omega) (by omega)] at e3
      refine zk_ifc (zci_ner (by omega)) (fun hc2 => ?_) (fun hc2 => ?_)
      · obtain ⟨hB1, hB2⟩ := hB (by omega)
        refine zk_nE (fun v4 e4' => ?_)
        refine zk_gl (3 - z) (by omega) (by omega) (by decide) (fun v5 e5' => ?_)
        refine zk_nE (fun v6 e6 => ?_)
        refine zk_nE (fun v7 e7 => ?_)
        refine zk_sl (5 * (3 - z) + (ta (3 - z)).toNat) (by omega) (by omega) (by decide) (fun a8 e8 => ?_)
        refine zk_gl (3 - z) (by omega) (by omega) (by decide) (fun v9 e9 => ?_)
        refine zk_nE (fun v10 e10 => ?_)
        refine zk_sl (3 - z) (by omega) (by omega) (by decide) (fun a11 e11 => ?_)
        unfold f_HM_openSmall_93
        refine zk_nE (fun w hw => ?_)
        refine ih z (k + 1) _ x4 _ _ _ e4 (by omega) (by omega) ?_ (by omega)
        rw [e3]
        refine hB2 a8 a11 ?_ ?_
        · rw [e8, e7, e2]
        · rw [e11, e10, e9]
      · obtain ⟨hA1, hA2⟩ := hA (by omega)
        refine zk_nE (fun v12 e12 => ?_)
        unfold f_HM_openSmall_93
        refine zk_nE (fun w hw => ?_)
        refine ih (z + 1) (k + 1) _ _ _ _ _ (by omega) (by omega) (by omega) ?_ (by omega)
        rw [e3]
        exact hA2
theorem z_os8 (n : Nat) (l : List Int) (hn : n ≤ 5) (hl : zD n l) (x2 x3 : Int) (h2 : x2 = (n : Int)) (h3 : x3 = zcode l) : ∀ (m k : Nat) (x5 : Int) (sm ta : Nat → Int), x5 = (k : Int) → k ≤ 4 → (∀ c, c < k → ta c = 0) → 5 - k ≤ m → zok (f_HM_openSmall_8 m x2 x3 3 x5 sm ta) (zOP n l) := by
  intro m
  induction m with
  | zero => intro k x5 sm ta e5 hk h hm; exact absurd hm (by omega)
  | succ m ih =>
    intro k x5 sm ta e5 hk h hm
    show zok (f_HM_openSmall_8_b (f_HM_openSmall_8 m) x2 x3 3 x5 sm ta) _
    unfold f_HM_openSmall_8_b
    refine zk_ifc (zci_le (by omega) (by omega)) (fun hc1 => ?_) (fun hc1 => ?_)
    · refine z_os31 n l hn hl x2 h2 zfu 0 0 x3 3 0 sm ta rfl rfl (by omega) ?_ (by unfold zfu; omega)
      refine ⟨l, [], (List.append_nil l).symm, rfl, h3, rfl, ?_, fun c hc => by have := h c (by omega); omega, fun c hc => h c (by omega)⟩
      show [] = [] ++ zcol sm 3 (ta 3).toNat
      rw [h 3 (by omega)]
      rfl
    · refine zk_sl k (by omega) (by omega) (by decide) (fun a1 e1 => ?_)
      refine zk_nE (fun v2 e2 => ?_)
      refine ih (k + 1) v2 sm a1 (by omega) (by omega) (fun c hc => ?_) (by omega)
      have := zu_rd e1 c
      have : c < k → ta c = 0 := h c
      omega
theorem z_openSmall {n : Nat} {l : List Int} (hn : n ≤ 5) (hl : zD n l) (x1 x2 : Int) (h1 : x1 = zcode l) (h2 : x2 = (n : Int)) (sm ta : Nat → Int) : zok (f_HM_openSmall x1 x2 sm ta) (zOP n l) := by
  unfold f_HM_openSmall
  exact z_os8 n l hn hl x2 x1 h2 h1 zfu 0 0 sm ta rfl (by decide) (fun c hc => absurd hc (by omega)) (by unfold zfu; omega)
end
section
noncomputable def zpr (c : Int) (d : Nat) : Nat := ((c * 31 + (d : Int)) % 16384).toNat
noncomputable def TI (n N : Nat) (st tb : Nat → Int) : Prop := (∀ i, i < N → ∃ l, zD n l ∧ st i = zcode l) ∧ (∀ i j, i < j → j < N → st i ≠ st j) ∧ (∀ p, p < 16384 → -1 ≤ tb p ∧ tb p < (N : Int)) ∧ (∀ p q, p < q → q < 16384 → tb p ≠ -1 → tb p ≠ tb q) ∧ (∀ i : Nat, i < N → ∃ d, tb (zpr (st i) d) = (i : Int) ∧ ∀ e, e < d → tb (zpr (st i) e) ≠ -1)
theorem TI_0 (n : Nat) (st tb : Nat → Int) (h : ∀ p, p < 16384 → tb p = -1) : TI n 0 st tb :=
  ⟨fun i hi => absurd hi (Nat.not_lt_zero i), fun i j _ hj => absurd hj (Nat.not_lt_zero j), fun p hp => by rw [h p hp]; decide, fun p q hpq hq hp => absurd (h p (by omega)) hp, fun i hi => absurd hi (Nat.not_lt_zero i)⟩
theorem zcodes_le {n N : Nat} {st : Nat → Int} (hn : n ≤ 5) (h1 : ∀ i, i < N → ∃ l, zD n l ∧ st i = zcode l) (h2 : ∀ i j, i < j → j < N → st i ≠ st j) : N ≤ 6720 := by
  have h := zpig st N ((zVL n).map zcode) (fun i hi => by
    obtain ⟨l, hl, e⟩ := h1 i hi
    rw [e]
    exact List.mem_map_of_mem (zVL_mem n l hl)) h2
  rw [List.length_map] at h
  exact Nat.le_trans h (zVL_len' n hn)
theorem TI_N {n N : Nat} {st tb : Nat → Int} (hn : n ≤ 5) (h : TI n N st tb) : N ≤ 6720 := zcodes_le hn h.1 h.2.1
theorem TI_r {n N : Nat} {st tb : Nat → Int} (hn : n ≤ 5) (h : TI n N st tb) (i : Nat) (hi : i < N) : 0 ≤ st i ∧ st i ≤ 1679615 := by
  obtain ⟨l, hl, e⟩ := h.1 i hi
  rw [e]
  exact zcode_b hn hl
theorem TI_free {n N : Nat} {st tb : Nat → Int} (hn : n ≤ 5) (h : TI n N st tb) (c : Int) : ∃ d, tb (zpr c d) = -1 := by
  have hN := TI_N hn h
  by_cases q : ∃ p, p < 16384 ∧ tb p = -1
  · obtain ⟨p, hp, e⟩ := q
    refine ⟨(((p : Int) - c * 31) % 16384).toNat, ?_⟩
    have : zpr c (((p : Int) - c * 31) % 16384).toNat = p := by
      unfold zpr
      omega
    rw [this, e]
  · have g := zpig tb 16384 ((List.range N).map (fun i : Nat => (i : Int))) (fun p hp => by
      have h3 := h.2.2.1 p hp
      have : tb p ≠ -1 := fun e => q ⟨p, hp, e⟩
      refine List.mem_map.mpr ⟨(tb p).toNat, List.mem_range.mpr ?_, ?_⟩
      · clear q; omega
      · clear q; omega) (fun p r hpr hr => h.2.2.2.1 p r hpr hr (fun e => q ⟨p, by clear q; omega, e⟩))
    rw [List.length_map, List.length_range] at g
    clear q
    omega
noncomputable def zFP (c : Int) (st tb : Nat → Int) (o : Int) : Prop := ∃ d, o = (zpr c d : Int) ∧ (∀ e, e < d → tb (zpr c e) ≠ -1 ∧ st (tb (zpr c e)).toNat ≠ c) ∧ (tb (zpr c d) = -1 ∨ (tb (zpr c d) ≠ -1 ∧ st (tb (zpr c d)).toNat = c))
theorem zpr_r (c : Int) (d : Nat) : zpr c d < 16384 := by
  unfold zpr
  omega
theorem z_po9 (n N : Nat) (st tb : Nat → Int) (hn : n ≤ 5) (h : TI n N st tb) (c : Int) (hc : 0 ≤ c ∧ c ≤ 1679615) (D : Nat) (hD : tb (zpr c D) = -1) : ∀ (m d : Nat) (x2 : Int), x2 = (zpr c d : Int) → d ≤ D → (∀ e, e < d → tb (zpr c e) ≠ -1 ∧ st (tb (zpr c e)).toNat ≠ c) → D + 1 - d ≤ m → zok (f_HM_placeOf_9 st tb m c x2) (zFP c st tb) := by
  have hN := TI_N hn h
  intro m
  induction m with
  | zero => intro d x2 e2 hd h1 hm; exact absurd hm (by omega)
  | succ m ih =>
    intro d x2 e2 hd h1 hm
    have hp := zpr_r c d
    have ht := h.2.2.1 (zpr c d) hp
    show zok (f_HM_placeOf_9_b st tb (f_HM_placeOf_9 st tb m) c x2) _
    unfold f_HM_placeOf_9_b
    refine zk_gl (zpr c d) (by omega) hp (by decide) (fun v1 e1 => ?_)
    refine zk_ifc (zci_eq (by omega) (by omega)) (fun hc1 => ?_) (fun hc1 => ?_)
    · exact zk_ret ⟨d, e2, h1, Or.inl (by omega)⟩
    · refine zk_gl (zpr c d) (by omega) hp (by decide) (fun v2 e2' => ?_)
      refine zk_gl (tb (zpr c d)).toNat (by omega) (by omega) (by decide) (fun v3 e3 => ?_)
      have hr := TI_r hn h (tb (zpr c d)).toNat (by omega)
      refine zk_ifc (zci_eq (by omega) (by omega)) (fun hc2 => ?_) (fun hc2 => ?_)
      · exact zk_ret ⟨d, e2, h1, Or.inr ⟨by omega, by omega⟩⟩
      · refine zk_nE (fun v4 e4 => ?_)
        refine zk_g0zi_w (by omega) ?_
        refine zk_nE (fun v5 e5 => ?_)
        rw [zi_rem_n (by omega) (by omega)] at e5
        have hdD : d ≠ D := by
          intro q
          subst q
          omega
        refine ih (d + 1) v5 ?_ (by omega) (fun e he => ?_) (by omega)
        · rw [e5, e4, e2]
          unfold zpr
          omega
        · by_cases q : e = d
          · rw [q]
            exact ⟨by omega, by omega⟩
          · exact h1 e (by omega)
theorem z_placeOf {n N : Nat} {st tb : Nat → Int} (hn : n ≤ 5) (h : TI n N st tb) (c : Int) (hc : 0 ≤ c ∧ c ≤ 1679615) : zok (f_HM_placeOf c st tb) (zFP c st tb) := by
  obtain ⟨D, hD⟩ := TI_free hn h c
  have hDs : ∃ D', D' < 16384 ∧ tb (zpr c D') = -1 := by
    refine ⟨D % 16384, by omega, ?_⟩
    have : zpr c (D % 16384) = zpr c D := by unfold zpr; omega
    rw [this, hD]
  obtain ⟨D', hD1, hD2⟩ := hDs
  unfold f_HM_placeOf
  refine zk_nE (fun v1 e1 => ?_)
  refine zk_g0zi_w (by omega) ?_
  refine zk_nE (fun v2 e2 => ?_)
  rw [zi_rem_n (by omega) (by omega)] at e2
  exact z_po9 n N st tb hn h c hc D' hD2 zfu 0 v2 (by rw [e2, e1]; unfold zpr; omega) (Nat.zero_le _) (fun e he => absurd he (Nat.not_lt_zero e)) (by unfold zfu; omega)
noncomputable def zNP (n N : Nat) (st : Nat → Int) (c : Int) (o : Int × Int × (Nat → Int) × (Nat → Int)) : Prop := ∃ N' : Nat, o.2.1 = (N' : Int) ∧ TI n N' o.2.2.1 o.2.2.2 ∧ (0 ≤ o.1 ∧ o.1 < (N' : Int)) ∧ N ≤ N' ∧ (∀ i, i < N → o.2.2.1 i = st i) ∧ o.2.2.1 o.1.toNat = c
theorem TI_add {n N : Nat} {st tb st' tb' : Nat → Int} (h : TI n N st tb) {l : List Int} (hl : zD n l) {d : Nat} (h1 : ∀ e, e < d → tb (zpr (zcode l) e) ≠ -1 ∧ st (tb (zpr (zcode l) e)).toNat ≠ zcode l) (h2 : tb (zpr (zcode l) d) = -1) (es : st' = zu st N (zcode l)) (et : tb' = zu tb (zpr (zcode l) d) (N : Int)) : TI n (N + 1) st' tb' ∧ (∀ i, i < N → st i ≠ zcode l) := by
  have fresh : ∀ i, i < N → st i ≠ zcode l := by
    intro i hi e
    obtain ⟨d', g1, g2⟩ := h.2.2.2.2 i hi
    rw [e] at g1 g2
    by_cases q : d' < d
    · have := (h1 d' q).2
      rw [g1] at this
      exact this (by rw [Int.toNat_natCast]; exact e)
    · by_cases q2 : d' = d
      · rw [q2] at g1
        omega
      · exact g2 d (by omega) h2
  have s1 := zu_rd es
  have t1 := zu_rd et
  refine ⟨⟨fun i hi => ?_, fun i j hij hj => ?_, fun p hp => ?_, fun p q hpq hq hp => ?_, fun i hi => ?_⟩, fresh⟩
  · have := s1 i
    by_cases q : i = N
    · exact ⟨l, hl, by omega⟩
    · obtain ⟨l', g1, g2⟩ := h.1 i (by omega)
      exact ⟨l', g1, by omega⟩
  · have a1 := s1 i
    have a2 := s1 j
    by_cases q : j = N
    · have := fresh i (by omega)
      omega
    · have := h.2.1 i j hij (by omega)
      omega
  · have := t1 p
    have := h.2.2.1 p hp
    omega
  · have a1 := t1 p
    have a2 := t1 q
    have b1 := h.2.2.1 p (by omega)
    have b2 := h.2.2.1 q hq
    by_cases u1 : p = zpr (zcode l) d
    · omega
    · by_cases u2 : q = zpr (zcode l) d
      · omega
      · have := h.2.2.2.1 p q hpq hq (by omega)
        omega
  · by_cases q : i = N
    · subst q
      have e : st' i = zcode l := by have := s1 i; omega
      refine ⟨d, ?_, fun e' he => ?_⟩
      · rw [e]
        have := t1 (zpr (zcode l) d)
        omega
      · rw [e]
        have := t1 (zpr (zcode l) e')
        have := (h1 e' he).1
        omega
    · obtain ⟨d', g1, g2⟩ := h.2.2.2.2 i (by omega)
      have e : st' i = st i := by have := s1 i; omega
      rw [e]
      refine ⟨d', ?_, fun e' he => ?_⟩
      · have a1 := t1 (zpr (st i) d')
        by_cases u : zpr (st i) d' = zpr (zcode l) d
        · rw [u] at g1
          omega
        · omega
      · have a1 := t1 (zpr (st i) e')
        have a2 := g2 e' he
        omega
theorem z_numberOf {n N : Nat} {st tb : Nat → Int} (hn : n ≤ 5) (h : TI n N st tb) {l : List Int} (hl : zD n l) (x1 x2 : Int) (e1 : x1 = zcode l) (e2 : x2 = (N : Int)) : zok (f_HM_numberOf x1 x2 st tb) (zNP n N st x1) := by
  have hb := zcode_b hn hl
  rw [← e1] at hb
  have hN := TI_N hn h
  unfold f_HM_numberOf
  refine zk_d1 (z_placeOf hn h x1 hb) (fun v1 hp => ?_)
  obtain ⟨d, g1, g2, g3⟩ := hp
  have hpr := zpr_r x1 d
  have ht := h.2.2.1 (zpr x1 d) hpr
  refine zk_gl (zpr x1 d) (by omega) hpr (by decide) (fun v2 e3 => ?_)
  refine zk_ifc (zci_ne (by omega) (by omega)) (fun hc1 => ?_) (fun hc1 => ?_)
  · refine zk_gl (zpr x1 d) (by omega) hpr (by decide) (fun v3 e4 => ?_)
    refine zk_ret ⟨N, e2, h, by dsimp only; omega, Nat.le_refl _, fun i _ => rfl, ?_⟩
    show st v3.toNat = x1
    rw [e4]
    rcases g3 with g3 | g3
    · omega
    · exact g3.2
  · have g4 : tb (zpr x1 d) = -1 := by omega
    have fresh := (TI_add h hl (d := d) (st' := zu st N (zcode l)) (tb' := zu tb (zpr (zcode l) d) (N : Int)) (by rw [← e1]; exact g2) (by rw [← e1]; exact g4) rfl rfl)
    have hN2 := TI_N hn fresh.1
    refine zk_sl (zpr x1 d) (by omega) hpr (by decide) (fun a4 e4 => ?_)
    refine zk_sl N (by omega) (by omega) (by decide) (fun a5 e5 => ?_)
    refine zk_nE (fun v6 e6 => ?_)
    refine zk_gl (zpr x1 d) (by omega) hpr (by decide) (fun v7 e7 => ?_)
    have r7 := zu_rd e4 (zpr x1 d)
    have hv7 : v7 = (N : Int) := by omega
    have s5 := zu_rd e5
    have fin : TI n (N + 1) a5 a4 := by
      rw [e5, e4, e1, e2]
      exact fresh.1
    refine zk_ret ⟨N + 1, by dsimp only; omega, fin, by dsimp only; omega, by omega, fun i hi => ?_, ?_⟩
    · have := s5 i
      dsimp only
      omega
    · show a5 v7.toNat = x1
      have := s5 v7.toNat
      omega
end
section
theorem zinj {n : Nat} {l l' : List Int} (hn : n ≤ 5) (hl : zD n l) (hl' : zD n l') (e : zcode l = zcode l') : l = l' := by
  obtain ⟨o, h1, h2⟩ := z_openSmall hn hl (zcode l) (n : Int) rfl rfl (fun _ => 0) (fun _ => 0)
  obtain ⟨o', h1', h2'⟩ := z_openSmall hn hl' (zcode l) (n : Int) e rfl (fun _ => 0) (fun _ => 0)
  rw [h1] at h1'
  have : o = o' := Option.some.inj h1'
  rw [← h2.1, ← h2'.1, this]
theorem zdig_count (sm ta : Nat → Int) (a : Int) : (zdig sm ta).count a = (zcol sm 0 (ta 0).toNat).count a + (zcol sm 1 (ta 1).toNat).count a + (zcol sm 2 (ta 2).toNat).count a + (zcol sm 3 (ta 3).toNat).count a + ([0, 0, 0] : List Int).count a := by
  unfold zdig
  simp only [List.count_append, List.count_cons, List.count_nil]
  omega
theorem zSm_cc {n : Nat} {sm ta : Nat → Int} (h : zSm n sm ta) {c : Nat} (hc : c < 4) : (zcol sm c (ta c).toNat).count 0 = 0 := by
  have h1 := zD_c h.2.2
  rw [zdig_count] at h1
  have h2 : ([0, 0, 0] : List Int).count 0 = 3 := by decide
  have : c = 0 ∨ c = 1 ∨ c = 2 ∨ c = 3 := by omega
  rcases this with q | q | q | q <;> subst q <;> omega
theorem zSm_z {n : Nat} {sm ta : Nat → Int} (h : zSm n sm ta) {c : Nat} (hc : c < 4) : (0 : Int) ∉ zcol sm c (ta c).toNat := List.count_eq_zero.mp (zSm_cc h hc)
theorem zSm_s {n : Nat} {sm ta : Nat → Int} (h : zSm n sm ta) {c i : Nat} (hc : c < 4) (hi : (i : Int) < ta c) : 0 ≤ sm (5 * c + i) ∧ sm (5 * c + i) < (n : Int) := by
  have h1 := zD_r h.2.2 _ (zdig_in (sm := sm) (ta := ta) (i := i) hc (by omega))
  have h2 : sm (5 * c + i) + 1 ≠ 0 := fun e => zSm_z h hc (by
    rw [← e]
    exact zcol_mem (by omega))
  omega
theorem zsplit : ∀ (a a' b b' : List Int), (0 : Int) ∉ a → (0 : Int) ∉ a' → a ++ 0 :: b = a' ++ 0 :: b' → a = a' ∧ b = b' := by
  intro a
  induction a with
  | nil =>
    intro a' b b' h1 h2 e
    match a' with
    | [] => exact ⟨rfl, (List.cons.inj e).2⟩
    | x :: y => exact absurd (List.cons.inj e).1 (fun q => h2 (q ▸ List.mem_cons_self))
  | cons x y ih =>
    intro a' b b' h1 h2 e
    match a' with
    | [] => exact absurd (List.cons.inj e).1 (fun q => h1 (q ▸ List.mem_cons_self))
    | u :: v =>
      have e1 := List.cons.inj e
      have g := ih v b b' (fun q => h1 (List.mem_cons_of_mem _ q)) (fun q => h2 (List.mem_cons_of_mem _ q)) e1.2
      exact ⟨by rw [e1.1, g.1], g.2⟩
theorem zcol_uq {sm sm' : Nat → Int} {c t t' : Nat} (e : zcol sm c t = zcol sm' c t') : t = t' ∧ ∀ i, i < t → sm (5 * c + i) = sm' (5 * c + i) := by
  have hl := congrArg List.length e
  rw [zcol_len, zcol_len] at hl
  refine ⟨hl, fun i hi => ?_⟩
  have h1 : (zcol sm c t)[i]? = (zcol sm' c t')[i]? := by rw [e]
  rw [List.getElem?_eq_getElem (by rw [zcol_len]; exact hi), List.getElem?_eq_getElem (by rw [zcol_len]; omega), zcol_get, zcol_get] at h1
  have := Option.some.inj h1
  omega
theorem zSm_uq {n : Nat} {sm ta sm' ta' : Nat → Int} (h : zSm n sm ta) (h' : zSm n sm' ta') (e : zdig sm ta = zdig sm' ta') : ∀ c, c < 4 → ta c = ta' c ∧ ∀ i : Nat, (i : Int) < ta c → sm (5 * c + i) = sm' (5 * c + i) := by
  unfold zdig at e
  have g0 := zsplit _ _ _ _ (zSm_z h (by decide)) (zSm_z h' (by decide)) e
  have g1 := zsplit _ _ _ _ (zSm_z h (by decide)) (zSm_z h' (by decide)) g0.2
  have g2 := zsplit _ _ _ _ (zSm_z h (by decide)) (zSm_z h' (by decide)) g1.2
  have k0 := zcol_uq g0.1
  have k1 := zcol_uq g1.1
  have k2 := zcol_uq g2.1
  have k3 := zcol_uq g2.2
  intro c hc
  have b := zSm_c h hc
  have b' := zSm_c h' hc
  have : c = 0 ∨ c = 1 ∨ c = 2 ∨ c = 3 := by omega
  rcases this with q | q | q | q <;> subst q
  · exact ⟨by omega, fun i hi => k0.2 i (by omega)⟩
  · exact ⟨by omega, fun i hi => k1.2 i (by omega)⟩
  · exact ⟨by omega, fun i hi => k2.2 i (by omega)⟩
  · exact ⟨by omega, fun i hi => k3.2 i (by omega)⟩
theorem z_smallTop {n : Nat} {sm ta : Nat → Int} (h : zSm n sm ta) (x1 : Int) (c : Nat) (hc : c < 4) (e1 : x1 = (c : Int)) (ht : 1 ≤ ta c) : zok (f_HM_smallTop x1 sm ta) (fun o => o = sm (5 * c + ((ta c).toNat - 1)) ∧ 0 ≤ o ∧ o < (n : Int)) := by
  have hb := zSm_c h hc
  have hs := zSm_s h hc (i := (ta c).toNat - 1) (by omega)
  unfold f_HM_smallTop
  refine zk_nE (fun v1 q1 => ?_)
  refine zk_gl c (by omega) (by omega) (by decide) (fun v2 q2 => ?_)
  refine zk_nE (fun v3 q3 => ?_)
  refine zk_nE (fun v4 q4 => ?_)
  refine zk_gl (5 * c + ((ta c).toNat - 1)) (by omega) (by omega) (by decide) (fun v5 q5 => ?_)
  exact zk_ret ⟨q5, by omega, by omega⟩
theorem z_costAt (x1 x2 x3 x4 x5 : Int) : zok (f_HM_costAt x1 x2 x3 x4 x5) (fun o => o = ((x1 * 5 + x2) * 16 + x3) * 25 + 5 * (x4 - 1) + x5) := by
  unfold f_HM_costAt
  refine zk_nE (fun v1 q1 => ?_)
  refine zk_nE (fun v2 q2 => ?_)
  refine zk_nE (fun v3 q3 => ?_)
  refine zk_nE (fun v4 q4 => ?_)
  refine zk_nE (fun v5 q5 => ?_)
  refine zk_nE (fun v6 q6 => ?_)
  refine zk_nE (fun v7 q7 => ?_)
  refine zk_nE (fun v8 q8 => ?_)
  refine zk_nE (fun v9 q9 => ?_)
  exact zk_ret (by omega)
theorem z_im49 (n : Nat) (sm ta row costs : Nat → Int) (h : zSm n sm ta) (h0 : RI row) (hC : zR costs (-1) 99) (x1 x3 x4 : Int) (f t : Nat) (hf : f < 4) (ht : t < 4) (hft : f ≠ t) (e3 : x3 = (f : Int)) (e4 : x4 = (t : Int)) (b1 : 0 ≤ x1 ∧ x1 < 16) (hh : 1 ≤ ta f) : ∀ (m : Nat) (x5 x6 : Int), (x5 = 0 ∨ x5 = 1) → (0 ≤ x6 ∧ x6 ≤ row 1) → row 1 - x6 + 1 ≤ (m : Int) → zok (f_HM_isMove_49 row costs sm ta m x1 (-1) x3 x4 x5 x6) (fun o => o = 0 ∨ o = 1) := by
  have r1 := RI_1 h0
  have c1 := zSm_c h hf
  have c2 := zSm_c h ht
  have cs : ta f + ta t ≤ 5 := by
    have s := zSm_t h
    have s1 := h.1
    have s2 := h.2.1
    have u1 : f = 0 ∨ f = 1 ∨ f = 2 ∨ f = 3 := by omega
    have u2 : t = 0 ∨ t = 1 ∨ t = 2 ∨ t = 3 := by omega
    rcases u1 with q | q | q | q <;> subst q <;> rcases u2 with q | q | q | q <;> subst q <;> omega
  have hn := h.1
  intro m
  induction m with
  | zero => intro x5 x6 b5 b6 hm; exact absurd hm (by omega)
  | succ m ih =>
    intro x5 x6 b5 b6 hm
    show zok (f_HM_isMove_49_b row costs sm ta (f_HM_isMove_49 row costs sm ta m) x1 (-1) x3 x4 x5 x6) _
    unfold f_HM_isMove_49_b
    refine zk_gl 1 rfl (by decide) (by decide) (fun v1 q1 => ?_)
    refine zk_ifc (zci_le (by omega) (by omega)) (fun hc1 => ?_) (fun hc1 => ?_)
    · exact zk_gb b5 (zk_ret b5)
    · have go : ∀ s : Int, (s = 0 ∨ s = 1) → zok (f_HM_isMove_115 row costs sm ta (f_HM_isMove_49 row costs sm ta m) x1 (-1) x3 x4 x6 s) (fun o => o = 0 ∨ o = 1) := by
        intro s hs
        unfold f_HM_isMove_115
        refine zk_nE (fun w hw => ?_)
        exact ih s w hs (by omega) (by omega)
      refine zk_ifc (zci_ner (by omega)) (fun hc2 => ?_) (fun hc2 => ?_)
      · unfold f_HM_isMove_110
        exact go 1 (Or.inr rfl)
      · refine zk_if (fun _ => ?_) (fun hne => absurd rfl hne)
        unfold f_HM_isMove_76
        refine zk_d1 (z_smallTop h x3 f hf e3 hh) (fun w1 p1 => ?_)
        refine zk_gl f (by omega) (by omega) (by decide) (fun w2 p2 => ?_)
        refine zk_gl t (by omega) (by omega) (by decide) (fun w3 p3 => ?_)
        refine zk_d1 (z_costAt _ _ _ _ _) (fun w4 p4 => ?_)
        try dsimp only at p1 p4
        refine zk_gv (by omega) (by decide) (fun w5 p5 => ?_)
        have := hC w4.toNat
        refine zk_ifc (zci_eq (by omega) (by omega)) (fun hc3 => ?_) (fun hc3 => ?_)
        · unfold f_HM_isMove_114
          exact go 0 (Or.inl rfl)
        · unfold f_HM_isMove_110
          exact go 1 (Or.inr rfl)
noncomputable def zMv (row ta : Nat → Int) (mv : Int) : Prop := ∃ f t : Nat, mv = 4 * (f : Int) + (t : Int) ∧ f < 4 ∧ t < 4 ∧ f ≠ t ∧ (f : Int) < row 0 ∧ (t : Int) < row 0 ∧ 1 ≤ ta f
theorem z_isMove {n : Nat} {sm ta row costs : Nat → Int} (h : zSm n sm ta) (h0 : RI row) (hC : zR costs (-1) 99) (x1 : Int) (b1 : 0 ≤ x1 ∧ x1 < 16) : zok (f_HM_isMove x1 (-1) row costs sm ta) (fun o => o = 0 ∨ (o = 1 ∧ zMv row ta x1)) := by
  have r0 := RI_0 h0
  have r1 := RI_1 h0
  unfold f_HM_isMove
  refine zk_g0zi_w (by omega) ?_
  refine zk_nE (fun v1 q1 => ?_)
  rw [zi_div_n (by omega) (by omega)] at q1
  refine zk_g0zi_w (by omega) ?_
  refine zk_nE (fun v2 q2 => ?_)
  rw [zi_rem_n (by omega) (by omega)] at q2
  refine zk_ifc (zci_eq (by omega) (by omega)) (fun hc1 => ?_) (fun hc1 => ?_)
  · exact zk_ret (Or.inl rfl)
  · refine zk_d1 (s_HM_columns _ h0) (fun v3 p3 => ?_)
    try dsimp only at p3
    refine zk_ifc (zci_le (by omega) (by omega)) (fun hc2 => ?_) (fun hc2 => ?_)
    · exact zk_ret (Or.inl rfl)
    · refine zk_d1 (s_HM_columns _ h0) (fun v4 p4 => ?_)
      try dsimp only at p4
      refine zk_ifc (zci_le (by omega) (by omega)) (fun hc3 => ?_) (fun hc3 => ?_)
      · exact zk_ret (Or.inl rfl)
      · refine zk_gl v1.toNat (by omega) (by omega) (by decide) (fun v5 q5 => ?_)
        have hb := zSm_c h (c := v1.toNat) (by omega)
        refine zk_ifc (zci_ner (by omega)) (fun hc4 => ?_) (fun hc4 => ?_)
        · refine zok_mono (z_im49 n sm ta row costs h h0 hC x1 v1 v2 v1.toNat v2.toNat (by omega) (by omega) (by omega) (by omega) (by omega) b1 (by omega) zfu 0 0 (Or.inl rfl) (by omega) (by unfold zfu; omega)) ?_
          intro o ho
          rcases ho with ho | ho
          · exact Or.inl ho
          · exact Or.inr ⟨ho, v1.toNat, v2.toNat, by omega, by omega, by omega, by omega, by omega, by omega, by omega⟩
        · exact zk_ret (Or.inl rfl)
end
section
theorem zmv_perm {n : Nat} {sm ta sm' ta' : Nat → Int} (h : zSm n sm ta) {f t : Nat} (hf : f < 4) (ht : t < 4) (hft : f ≠ t) (hh : 1 ≤ ta f) (h1 : ta' f = ta f - 1) (h2 : ta' t = ta t + 1) (h3 : ∀ c, c ≠ f → c ≠ t → ta' c = ta c) (h4 : ∀ i, i ≠ 5 * t + (ta t).toNat → sm' i = sm i) (h5 : sm' (5 * t + (ta t).toNat) = sm (5 * f + ((ta f).toNat - 1))) : zSm n sm' ta' := by
  have cf := zSm_c h hf
  have ct := zSm_c h ht
  have cs : ta f + ta t ≤ 5 := by
    have s := zSm_t h
    have s1 := h.1
    have s2 := h.2.1
    have u1 : f = 0 ∨ f = 1 ∨ f = 2 ∨ f = 3 := by omega
    have u2 : t = 0 ∨ t = 1 ∨ t = 2 ∨ t = 3 := by omega
    rcases u1 with q | q | q | q <;> subst q <;> rcases u2 with q | q | q | q <;> subst q <;> omega
  obtain ⟨k, hk⟩ : ∃ k : Nat, (ta f).toNat = k + 1 := ⟨(ta f).toNat - 1, by omega⟩
  have gf : ∀ a : Int, (zcol sm f (ta f).toNat).count a = (zcol sm' f (ta' f).toNat).count a + ([sm (5 * f + k) + 1] : List Int).count a := by
    intro a
    have e : (ta' f).toNat = k := by omega
    have e2 : zcol sm' f k = zcol sm f k := zcol_ext (fun i hi => h4 _ (by omega))
    rw [hk, e, e2, zcol_s, List.count_append]
  have gt : ∀ a : Int, (zcol sm' t (ta' t).toNat).count a = (zcol sm t (ta t).toNat).count a + ([sm (5 * f + k) + 1] : List Int).count a := by
    intro a
    have e : (ta' t).toNat = (ta t).toNat + 1 := by omega
    have e2 : zcol sm' t (ta t).toNat = zcol sm t (ta t).toNat := zcol_ext (fun i hi => h4 _ (by omega))
    have e3 : (ta f).toNat - 1 = k := by omega
    rw [e, zcol_s, e2, h5, e3, List.count_append]
  have go : ∀ c, c < 4 → c ≠ f → c ≠ t → ∀ a : Int, (zcol sm' c (ta' c).toNat).count a = (zcol sm c (ta c).toNat).count a := by
    intro c hc q1 q2 a
    have cc := zSm_c h hc
    rw [h3 c q1 q2, zcol_ext (sm := sm) (sm' := sm') (fun i hi => h4 _ (by omega))]
  have hp : (zdig sm' ta').Perm (zdig sm ta) := by
    rw [List.perm_iff_count]
    intro a
    rw [zdig_count, zdig_count]
    have a1 := gf a
    have a2 := gt a
    have b0 := fun q1 q2 => go 0 (by decide) q1 q2 a
    have b1 := fun q1 q2 => go 1 (by decide) q1 q2 a
    have b2 := fun q1 q2 => go 2 (by decide) q1 q2 a
    have b3 := fun q1 q2 => go 3 (by decide) q1 q2 a
    clear gf gt go h5 hk
    have u1 : f = 0 ∨ f = 1 ∨ f = 2 ∨ f = 3 := by omega
    have u2 : t = 0 ∨ t = 1 ∨ t = 2 ∨ t = 3 := by omega
    rcases u1 with q | q | q | q <;> subst q <;> rcases u2 with q | q | q | q <;> subst q
    all_goals first
      | exact absurd rfl hft
      | (have c0 := b0 (by decide) (by decide); have c1 := b1 (by decide) (by decide); omega)
      | (have c0 := b0 (by decide) (by decide); have c2 := b2 (by decide) (by decide); omega)
      | (have c0 := b0 (by decide) (by decide); have c3 := b3 (by decide) (by decide); omega)
      | (have c1 := b1 (by decide) (by decide); have c2 := b2 (by decide) (by decide); omega)
      | (have c1 := b1 (by decide) (by decide); have c3 := b3 (by decide) (by decide); omega)
      | (have c2 := b2 (by decide) (by decide); have c3 := b3 (by decide) (by decide); omega)
  have nn : ∀ c, c < 4 → 0 ≤ ta' c := by
    intro c hc
    have cc := zSm_c h hc
    by_cases q1 : c = f
    · subst q1; omega
    · by_cases q2 : c = t
      · subst q2; omega
      · rw [h3 c q1 q2]; exact cc.1
  exact ⟨h.1, ⟨nn 0 (by decide), nn 1 (by decide), nn 2 (by decide), nn 3 (by decide)⟩, hp.trans h.2.2⟩
theorem z_moved {n N : Nat} {sm ta st tb row : Nat → Int} (h : zSm n sm ta) (hT : TI n N st tb) (h0 : RI row) (x1 x2 : Int) (e2 : x2 = (N : Int)) (hm : zMv row ta x1) : zok (f_HM_moved x1 x2 st tb sm ta) (fun o => ∃ c, zNP n N st c (o.1, o.2.1, o.2.2.1, o.2.2.2.1)) := by
  obtain ⟨f, t, m1, m2, m3, m4, m5, m6, m7⟩ := hm
  have cf := zSm_c h m2
  have ct := zSm_c h m3
  have cs : ta f + ta t ≤ 5 := by
    have s := zSm_t h
    have s1 := h.1
    have s2 := h.2.1
    have u1 : f = 0 ∨ f = 1 ∨ f = 2 ∨ f = 3 := by omega
    have u2 : t = 0 ∨ t = 1 ∨ t = 2 ∨ t = 3 := by omega
    rcases u1 with q | q | q | q <;> subst q <;> rcases u2 with q | q | q | q <;> subst q <;> omega
  unfold f_HM_moved
  refine zk_g0zi_w (by omega) ?_
  refine zk_nE (fun v1 q1 => ?_)
  rw [zi_div_n (by omega) (by omega)] at q1
  refine zk_g0zi_w (by omega) ?_
  refine zk_nE (fun v2 q2 => ?_)
  rw [zi_rem_n (by omega) (by omega)] at q2
  refine zk_d1 (z_smallTop h v1 f m2 (by omega) m7) (fun v3 p3 => ?_)
  refine zk_gl f (by omega) m2 (by decide) (fun v4 q4 => ?_)
  refine zk_nE (fun v5 q5 => ?_)
  refine zk_sl f (by omega) m2 (by decide) (fun a6 q6 => ?_)
  have r6 := zu_rd q6
  refine zk_nE (fun v7 q7 => ?_)
  refine zk_gl t (by omega) m3 (by decide) (fun v8 q8 => ?_)
  have r8 := r6 t
  refine zk_nE (fun v9 q9 => ?_)
  refine zk_sl (5 * t + (ta t).toNat) (by omega) (by omega) (by decide) (fun a10 q10 => ?_)
  have r10 := zu_rd q10
  refine zk_gl t (by omega) m3 (by decide) (fun v11 q11 => ?_)
  refine zk_nE (fun v12 q12 => ?_)
  refine zk_sl t (by omega) m3 (by decide) (fun a13 q13 => ?_)
  have r13 := zu_rd q13
  have hS : zSm n a10 a13 := by
    refine zmv_perm h m2 m3 m4 m7 ?_ ?_ ?_ ?_ ?_
    · have := r13 f; have := r6 f; omega
    · have := r13 t; omega
    · intro c u1 u2; have := r13 c; have := r6 c; omega
    · intro i hi; have := r10 i; omega
    · have := r10 (5 * t + (ta t).toNat); have := p3.1; omega
  refine zk_d1 (z_codeOfSmall hS) (fun v14 p14 => ?_)
  refine zk_d4 (z_numberOf h.1 hT hS.2.2 v14 x2 p14 e2) (fun v15 v16 a17 a18 p15 => ?_)
  exact zk_ret ⟨v14, p15⟩
end
section
theorem s_HM_findCosts_61 (i_row : Nat → Int) (i_weights : Nat → Int) (k2 : Int → Int → Int → Int → Int → Int → (Nat → Int) → (Nat → Int) → (Nat → Int) → Option (Int × Int × Int × Int × (Nat → Int) × (Nat → Int) × (Nat → Int))) (Nk2 : Nat) (hk2 : ∀ (x1 : Int) (x2 : Int) (i_law : Int) (i_broken : Int) (i_value : Int) (i_sum : Int) (i_set : Nat → Int) (i_rest : Nat → Int) (i_costs : Nat → Int), (0 ≤ x1 ∧ x1 ≤ 5) → (0 ≤ x2 ∧ x2 ≤ 6) → (zR i_costs (-1) 99) → (7 - x2) < (Nk2 : Int) → zok (k2 x1 x2 i_law i_broken i_value i_sum i_set i_rest i_costs) (fun o => zR o.2.2.2.2.2.2 (-1) 99)) (k14 : Int → Int → Int → Int → Int → Int → Int → (Nat → Int) → (Nat → Int) → (Nat → Int) → Option (Int × Int × Int × Int × (Nat → Int) × (Nat → Int) × (Nat → Int))) (Nk14 : Nat) (hk14 : ∀ (x1 : Int) (x2 : Int) (x3 : Int) (i_law : Int) (i_broken : Int) (i_value : Int) (i_sum : Int) (i_set : Nat → Int) (i_rest : Nat → Int) (i_costs : Nat → Int), (0 ≤ x1 ∧ x1 ≤ 5) → (0 ≤ x2 ∧ x2 ≤ 5) → (0 ≤ x3 ∧ x3 ≤ 5) → (zR i_costs (-1) 99) → (7 - x2) < (Nk2 : Int) + 1 → (6 - x3) < (Nk14 : Int) → zok (k14 x1 x2 x3 i_law i_broken i_value i_sum i_set i_rest i_costs) (fun o => zR o.2.2.2.2.2.2 (-1) 99)) (k22 : Int → Int → Int → Int → Int → Int → Int → Int → (Nat → Int) → (Nat → Int) → (Nat → Int) → Option (Int × Int × Int × Int × (Nat → Int) × (Nat → Int) × (Nat → Int))) (Nk22 : Nat) (hk22 : ∀ (x1 : Int) (x2 : Int) (x3 : Int) (x4 : Int) (i_law : Int) (i_broken : Int) (i_value : Int) (i_sum : Int) (i_set : Nat → Int) (i_rest : Nat → Int) (i_costs : Nat → Int), (0 ≤ x1 ∧ x1 ≤ 5) → (0 ≤ x2 ∧ x2 ≤ 5) → (0 ≤ x3 ∧ x3 ≤ 4) → (0 ≤ x4 ∧ x4 ≤ 16) → (zR i_costs (-1) 99) → (7 - x2) < (Nk2 : Int) + 1 → (6 - x3) < (Nk14 : Int) + 1 → (17 - x4) < (Nk22 : Int) → zok (k22 x1 x2 x3 x4 i_law i_broken i_value i_sum i_set i_rest i_costs) (fun o => zR o.2.2.2.2.2.2 (-1) 99)) (h_i_row : RI i_row) (h_i_weights : zR i_weights 0 30) : ∀ (n : Nat) (x1 : Int) (x2 : Int) (x3 : Int) (x4 : Int) (x5 : Int) (x6 : Int) (i_law : Int) (i_broken : Int) (i_value : Int) (i_sum : Int) (i_set : Nat → Int) (i_rest : Nat → Int) (i_costs : Nat → Int), (0 ≤ x1 ∧ x1 ≤ 5) → (0 ≤ x2 ∧ x2 ≤ 5) → (0 ≤ x3 ∧ x3 ≤ 4) → (0 ≤ x4 ∧ x4 ≤ 15) → (0 ≤ x5 ∧ x5 ≤ 1) → (0 ≤ x6 ∧ x6 ≤ 25) → (zR i_costs (-1) 99) → (7 - x2) < (Nk2 : Int) + 1 → (6 - x3) < (Nk14 : Int) + 1 → (17 - x4) < (Nk22 : Int) + 1 → (26 - x6) < (n : Int) → zok (f_HM_findCosts_61 i_row i_weights k2 k14 k22 n x1 x2 x3 x4 x5 x6 i_law i_broken i_value i_sum i_set i_rest i_costs) (fun o => zR o.2.2.2.2.2.2 (-1) 99) := by
  intro n
  induction n with
  | zero => intro x1 x2 x3 x4 x5 x6 i_law i_broken i_value i_sum i_set i_rest i_costs b_x1 b_x2 b_x3 b_x4 b_x5 b_x6 h_i_costs mk2 mk14 mk22 hm; exfalso; omega
  | succ n ih =>
    intro x1 x2 x3 x4 x5 x6 i_law i_broken i_value i_sum i_set i_rest i_costs b_x1 b_x2 b_x3 b_x4 b_x5 b_x6 h_i_costs mk2 mk14 mk22 hm
    show zok (f_HM_findCosts_61_b i_row i_weights k2 k14 k22 (f_HM_findCosts_61 i_row i_weights k2 k14 k22 n) x1 x2 x3 x4 x5 x6 i_law i_broken i_value i_sum i_set i_rest i_costs) _
    unfold f_HM_findCosts_61_b
    refine zk_ifc (zci_le (by omega) (by omega)) (fun hc => ?_) (fun hc => ?_)
    · refine zk_n ?_
      exact hk22 _ _ _ _ _ _ _ _ _ _ _ (by omega) (by omega) (by omega) (by omega) h_i_costs (by omega) (by omega) (by omega)
    · refine zk_n ?_
      refine zk_n ?_
      refine zk_n ?_
      refine zk_n ?_
      refine zk_n ?_
      refine zk_n ?_
      refine zk_ifc (zci_eqr (by omega)) (fun hc_2 => ?_) (fun hc_2 => ?_)
      · unfold f_HM_findCosts_127
        refine zk_sv (by omega) (by decide) (fun a1 h_a1 => ?_)
        have i_a1 : zR a1 (-1) 99 := by rw [h_a1]; exact zR_zu h_i_costs (by decide) (by decide) (by omega)
        refine zk_n ?_
        exact ih _ _ _ _ _ _ _ _ _ _ _ _ _ (by omega) (by omega) (by omega) (by omega) (by omega) (by omega) i_a1 (by omega) (by omega) (by omega) (by omega)
      · refine zk_gv (by omega) (by decide) (fun v8 h_v8 => ?_)
        have r_v8 := h_i_weights (x3.toNat)
        refine zk_g0zi_w (by omega) ?_
        refine zk_nE (fun v9 h_v9 => ?_)
        rw [zi_div_n (by omega) (by omega)] at h_v9
        refine zk_g0zi_w (by omega) ?_
        refine zk_nE (fun v10 h_v10 => ?_)
        rw [zi_rem_n (by omega) (by omega)] at h_v10
        refine zk_g0zi_w (by omega) ?_
        refine zk_nE (fun v11 h_v11 => ?_)
        rw [zi_div_n (by omega) (by omega)] at h_v11
        refine zk_n ?_
        refine zk_g0zi_w (by omega) ?_
        refine zk_nE (fun v13 h_v13 => ?_)
        rw [zi_rem_n (by omega) (by omega)] at h_v13
        refine zk_d7 (s_HM_tiring _ _ _ _ _ _ _ _ _ _ _ _ _ (by omega) (by omega) (by omega) (by omega) (by omega) (by omega) h_i_row) (fun v14 v15 v16 v17 v18 a19 a20 hp => ?_)
        try dsimp only at hp
        have hpp0 := hp
        unfold f_HM_findCosts_127
        refine zk_sv (by omega) (by decide) (fun a1_2 h_a1_2 => ?_)
        have i_a1_2 : zR a1_2 (-1) 99 := by rw [h_a1_2]; exact zR_zu h_i_costs (by decide) (by decide) (by omega)
        refine zk_n ?_
        exact ih _ _ _ _ _ _ _ _ _ _ _ _ _ (by omega) (by omega) (by omega) (by omega) (by omega) (by omega) i_a1_2 (by omega) (by omega) (by omega) (by omega)
theorem s_HM_findCosts_22 (i_row : Nat → Int) (i_weights : Nat → Int) (k2 : Int → Int → Int → Int → Int → Int → (Nat → Int) → (Nat → Int) → (Nat → Int) → Option (Int × Int × Int × Int × (Nat → Int) × (Nat → Int) × (Nat → Int))) (Nk2 : Nat) (hk2 : ∀ (x1 : Int) (x2 : Int) (i_law : Int) (i_broken : Int) (i_value : Int) (i_sum : Int) (i_set : Nat → Int) (i_rest : Nat → Int) (i_costs : Nat → Int), (0 ≤ x1 ∧ x1 ≤ 5) → (0 ≤ x2 ∧ x2 ≤ 6) → (zR i_costs (-1) 99) → (7 - x2) < (Nk2 : Int) → zok (k2 x1 x2 i_law i_broken i_value i_sum i_set i_rest i_costs) (fun o => zR o.2.2.2.2.2.2 (-1) 99)) (k14 : Int → Int → Int → Int → Int → Int → Int → (Nat → Int) → (Nat → Int) → (Nat → Int) → Option (Int × Int × Int × Int × (Nat → Int) × (Nat → Int) × (Nat → Int))) (Nk14 : Nat) (hk14 : ∀ (x1 : Int) (x2 : Int) (x3 : Int) (i_law : Int) (i_broken : Int) (i_value : Int) (i_sum : Int) (i_set : Nat → Int) (i_rest : Nat → Int) (i_costs : Nat → Int), (0 ≤ x1 ∧ x1 ≤ 5) → (0 ≤ x2 ∧ x2 ≤ 5) → (0 ≤ x3 ∧ x3 ≤ 5) → (zR i_costs (-1) 99) → (7 - x2) < (Nk2 : Int) + 1 → (6 - x3) < (Nk14 : Int) → zok (k14 x1 x2 x3 i_law i_broken i_value i_sum i_set i_rest i_costs) (fun o => zR o.2.2.2.2.2.2 (-1) 99)) (h_i_row : RI i_row) (h_i_weights : zR i_weights 0 30) : ∀ (n : Nat) (x1 : Int) (x2 : Int) (x3 : Int) (x4 : Int) (i_law : Int) (i_broken : Int) (i_value : Int) (i_sum : Int) (i_set : Nat → Int) (i_rest : Nat → Int) (i_costs : Nat → Int), (0 ≤ x1 ∧ x1 ≤ 5) → (0 ≤ x2 ∧ x2 ≤ 5) → (0 ≤ x3 ∧ x3 ≤ 4) → (0 ≤ x4 ∧ x4 ≤ 16) → (zR i_costs (-1) 99) → (7 - x2) < (Nk2 : Int) + 1 → (6 - x3) < (Nk14 : Int) + 1 → (17 - x4) < (n : Int) → zok (f_HM_findCosts_22 i_row i_weights k2 k14 n x1 x2 x3 x4 i_law i_broken i_value i_sum i_set i_rest i_costs) (fun o => zR o.2.2.2.2.2.2 (-1) 99) := by
  intro n
  induction n with
  | zero => intro x1 x2 x3 x4 i_law i_broken i_value i_sum i_set i_rest i_costs b_x1 b_x2 b_x3 b_x4 h_i_costs mk2 mk14 hm; exfalso; omega
  | succ n ih =>
    intro x1 x2 x3 x4 i_law i_broken i_value i_sum i_set i_rest i_costs b_x1 b_x2 b_x3 b_x4 h_i_costs mk2 mk14 hm
    show zok (f_HM_findCosts_22_b i_row i_weights k2 k14 (f_HM_findCosts_22 i_row i_weights k2 k14 n) x1 x2 x3 x4 i_law i_broken i_value i_sum i_set i_rest i_costs) _
    unfold f_HM_findCosts_22_b
    refine zk_ifc (zci_le (by omega) (by omega)) (fun hc => ?_) (fun hc => ?_)
    · refine zk_n ?_
      exact hk14 _ _ _ _ _ _ _ _ _ _ (by omega) (by omega) (by omega) h_i_costs (by omega) (by omega)
    · refine zk_g0zi_w (by omega) ?_
      refine zk_nE (fun v2 h_v2 => ?_)
      rw [zi_div_n (by omega) (by omega)] at h_v2
      refine zk_d1 (s_HM_columns _ h_i_row) (fun v3 hp => ?_)
      try dsimp only at hp
      obtain ⟨hpp0, hpp1⟩ := hp
      refine zk_ifc (zci_le (by omega) (by omega)) (fun hc_2 => ?_) (fun hc_2 => ?_)
      · unfold f_HM_findCosts_55
        unfold f_HM_findCosts_56
        exact s_HM_findCosts_61 _ _ _ Nk2 hk2 _ Nk14 hk14 _ n ih h_i_row h_i_weights zfu _ _ _ _ _ _ _ _ _ _ _ _ _ (by omega) (by omega) (by omega) (by omega) (by omega) (by omega) h_i_costs (by omega) (by omega) (by omega) (by unfold zfu; omega)
      · refine zk_g0zi_w (by omega) ?_
        refine zk_nE (fun v4 h_v4 => ?_)
        rw [zi_rem_n (by omega) (by omega)] at h_v4
        refine zk_d1 (s_HM_columns _ h_i_row) (fun v5 hp_2 => ?_)
        try dsimp only at hp_2
        obtain ⟨hp_2p0, hp_2p1⟩ := hp_2
        refine zk_ifc (zci_le (by omega) (by omega)) (fun hc_3 => ?_) (fun hc_3 => ?_)
        · unfold f_HM_findCosts_55
          unfold f_HM_findCosts_56
          exact s_HM_findCosts_61 _ _ _ Nk2 hk2 _ Nk14 hk14 _ n ih h_i_row h_i_weights zfu _ _ _ _ _ _ _ _ _ _ _ _ _ (by omega) (by omega) (by omega) (by omega) (by omega) (by omega) h_i_costs (by omega) (by omega) (by omega) (by unfold zfu; omega)
        · unfold f_HM_findCosts_56
          exact s_HM_findCosts_61 _ _ _ Nk2 hk2 _ Nk14 hk14 _ n ih h_i_row h_i_weights zfu _ _ _ _ _ _ _ _ _ _ _ _ _ (by omega) (by omega) (by omega) (by omega) (by omega) (by omega) h_i_costs (by omega) (by omega) (by omega) (by unfold zfu; omega)
theorem s_HM_findCosts_14 (i_row : Nat → Int) (i_weights : Nat → Int) (k2 : Int → Int → Int → Int → Int → Int → (Nat → Int) → (Nat → Int) → (Nat → Int) → Option (Int × Int × Int × Int × (Nat → Int) × (Nat → Int) × (Nat → Int))) (Nk2 : Nat) (hk2 : ∀ (x1 : Int) (x2 : Int) (i_law : Int) (i_broken : Int) (i_value : Int) (i_sum : Int) (i_set : Nat → Int) (i_rest : Nat → Int) (i_costs : Nat → Int), (0 ≤ x1 ∧ x1 ≤ 5) → (0 ≤ x2 ∧ x2 ≤ 6) → (zR i_costs (-1) 99) → (7 - x2) < (Nk2 : Int) → zok (k2 x1 x2 i_law i_broken i_value i_sum i_set i_rest i_costs) (fun o => zR o.2.2.2.2.2.2 (-1) 99)) (h_i_row : RI i_row) (h_i_weights : zR i_weights 0 30) : ∀ (n : Nat) (x1 : Int) (x2 : Int) (x3 : Int) (i_law : Int) (i_broken : Int) (i_value : Int) (i_sum : Int) (i_set : Nat → Int) (i_rest : Nat → Int) (i_costs : Nat → Int), (0 ≤ x1 ∧ x1 ≤ 5) → (0 ≤ x2 ∧ x2 ≤ 5) → (0 ≤ x3 ∧ x3 ≤ 5) → (zR i_costs (-1) 99) → (7 - x2) < (Nk2 : Int) + 1 → (6 - x3) < (n : Int) → zok (f_HM_findCosts_14 i_row i_weights k2 n x1 x2 x3 i_law i_broken i_value i_sum i_set i_rest i_costs) (fun o => zR o.2.2.2.2.2.2 (-1) 99) := by
  intro n
  induction n with
  | zero => intro x1 x2 x3 i_law i_broken i_value i_sum i_set i_rest i_costs b_x1 b_x2 b_x3 h_i_costs mk2 hm; exfalso; omega
  | succ n ih =>
    intro x1 x2 x3 i_law i_broken i_value i_sum i_set i_rest i_costs b_x1 b_x2 b_x3 h_i_costs mk2 hm
    show zok (f_HM_findCosts_14_b i_row i_weights k2 (f_HM_findCosts_14 i_row i_weights k2 n) x1 x2 x3 i_law i_broken i_value i_sum i_set i_rest i_costs) _
    unfold f_HM_findCosts_14_b
    refine zk_ifc (zci_le (by omega) (by omega)) (fun hc => ?_) (fun hc => ?_)
    · refine zk_n ?_
      exact hk2 _ _ _ _ _ _ _ _ _ (by omega) (by omega) h_i_costs (by omega)
    · exact s_HM_findCosts_22 _ _ _ Nk2 hk2 _ n ih h_i_row h_i_weights zfu _ _ _ _ _ _ _ _ _ _ _ (by omega) (by omega) (by omega) (by omega) h_i_costs (by omega) (by omega) (by unfold zfu; omega)
theorem s_HM_findCosts_2 (i_row : Nat → Int) (i_weights : Nat → Int) (h_i_row : RI i_row) (h_i_weights : zR i_weights 0 30) : ∀ (n : Nat) (x1 : Int) (x2 : Int) (i_law : Int) (i_broken : Int) (i_value : Int) (i_sum : Int) (i_set : Nat → Int) (i_rest : Nat → Int) (i_costs : Nat → Int), (0 ≤ x1 ∧ x1 ≤ 5) → (0 ≤ x2 ∧ x2 ≤ 6) → (zR i_costs (-1) 99) → (7 - x2) < (n : Int) → zok (f_HM_findCosts_2 i_row i_weights n x1 x2 i_law i_broken i_value i_sum i_set i_rest i_costs) (fun o => zR o.2.2.2.2.2.2 (-1) 99) := by
  intro n
  induction n with
  | zero => intro x1 x2 i_law i_broken i_value i_sum i_set i_rest i_costs b_x1 b_x2 h_i_costs hm; exfalso; omega
  | succ n ih =>
    intro x1 x2 i_law i_broken i_value i_sum i_set i_rest i_costs b_x1 b_x2 h_i_costs hm
    show zok (f_HM_findCosts_2_b i_row i_weights (f_HM_findCosts_2 i_row i_weights n) x1 x2 i_law i_broken i_value i_sum i_set i_rest i_costs) _
    unfold f_HM_findCosts_2_b
    refine zk_gl 1 rfl (by decide) (by decide) (fun v1 h_v1 => ?_)
    have r_v1 := RI_1 h_i_row
    refine zk_ifc (zci_le (by omega) (by omega)) (fun hc => ?_) (fun hc => ?_)
    · refine zk_ret ?_
      try dsimp only
      all_goals exact h_i_costs
    · exact s_HM_findCosts_14 _ _ _ n ih h_i_row h_i_weights zfu _ _ _ _ _ _ _ _ _ _ (by omega) (by omega) (by omega) h_i_costs (by omega) (by unfold zfu; omega)
theorem s_HM_findCosts (x1 : Int) (i_row : Nat → Int) (i_weights : Nat → Int) (i_law : Int) (i_broken : Int) (i_value : Int) (i_sum : Int) (i_set : Nat → Int) (i_rest : Nat → Int) (i_costs : Nat → Int) (b_x1 : 0 ≤ x1 ∧ x1 ≤ 5) (h_i_row : RI i_row) (h_i_weights : zR i_weights 0 30) (h_i_costs : zR i_costs (-1) 99) : zok (f_HM_findCosts x1 i_row i_weights i_law i_broken i_value i_sum i_set i_rest i_costs) (fun o => zR o.2.2.2.2.2.2 (-1) 99) := by
  unfold f_HM_findCosts
  exact s_HM_findCosts_2 _ _ h_i_row h_i_weights zfu _ _ _ _ _ _ _ _ _ (by omega) (by omega) h_i_costs (by unfold zfu; omega)
end
section
noncomputable def NX (n N : Nat) (row st nx : Nat → Int) (q : Nat) : Prop := ∀ j, j < q → nx j = -1 ∨ ((0 ≤ nx j ∧ nx j < (N : Int)) ∧ ∀ sm ta : Nat → Int, zSm n sm ta → zcode (zdig sm ta) = st (j / 16) → zMv row ta ((j % 16 : Nat) : Int))
theorem NX_mono {n N N' : Nat} {row st st' nx nx' : Nat → Int} {q : Nat} (h : NX n N row st nx q) (hN : N ≤ N') (hs : ∀ i, i < N → st' i = st i) (hx : ∀ j, j < q → nx' j = nx j) (hq : q ≤ 16 * N) : NX n N' row st' nx' q := by
  intro j hj
  rw [hx j hj, hs (j / 16) (by omega)]
  rcases h j hj with k | k
  · exact Or.inl k
  · exact Or.inr ⟨⟨k.1.1, by omega⟩, k.2⟩
noncomputable def zFS (n : Nat) (row : Nat → Int) (o : (Int × Int × Int × Int × Int × (Nat → Int) × (Nat → Int) × (Nat → Int) × (Nat → Int) × (Nat → Int) × (Nat → Int) × (Nat → Int) × (Nat → Int) × (Nat → Int))) : Prop := ∃ N : Nat, 1 ≤ N ∧ o.2.2.2.2.1 = (N : Int) ∧ TI n N o.2.2.2.2.2.2.2.2.1 o.2.2.2.2.2.2.2.2.2.1 ∧ NX n N row o.2.2.2.2.2.2.2.2.1 o.2.2.2.2.2.2.2.2.2.2.1 (16 * N) ∧ zR o.2.2.2.2.2.2.2.2.2.2.2.1 (-1) 99 ∧ zR o.2.2.2.2.2.2.2.1 0 30
theorem z_fs152 (n : Nat) (row : Nat → Int) (h0 : RI row) (hn : n ≤ 5) (k141 : Int → Int → Int → Int → Int → Int → Int → (Nat → Int) → (Nat → Int) → (Nat → Int) → (Nat → Int) → (Nat → Int) → (Nat → Int) → (Nat → Int) → (Nat → Int) → (Nat → Int) → Option (Int × Int × Int × Int × Int × (Nat → Int) × (Nat → Int) × (Nat → Int) × (Nat → Int) × (Nat → Int) × (Nat → Int) × (Nat → Int) × (Nat → Int) × (Nat → Int))) (P : (Int × Int × Int × Int × Int × (Nat → Int) × (Nat → Int) × (Nat → Int) × (Nat → Int) × (Nat → Int) × (Nat → Int) × (Nat → Int) × (Nat → Int) × (Nat → Int)) → Prop) (x1 : Int) (e1 : x1 = (n : Int)) (at_ : Nat) (law brk val sum : Int) (set rest wei costs : Nat → Int) (hC : zR costs (-1) 99)
  (hk : ∀ (N : Nat) (st tb nx sm ta : Nat → Int), at_ < N → TI n N st tb → NX n N row st nx (16 * (at_ + 1)) → zok (k141 x1 ((at_ : Int) + 1) law brk val sum (N : Int) set rest wei st tb nx costs sm ta) P) :
  ∀ (m mv N : Nat) (x3 x4 nS : Int) (st tb nx sm ta : Nat → Int), x3 = (at_ : Int) → x4 = (mv : Int) → nS = (N : Int) → mv ≤ 16 → at_ < N → TI n N st tb → NX n N row st nx (16 * at_ + mv) → 17 - mv ≤ m → zok (f_HM_findStates_152 row k141 m x1 x3 x4 law brk val sum nS set rest wei st tb nx costs sm ta) P := by
  intro m
  induction m with
  | zero => intro mv N x3 x4 nS st tb nx sm ta e3 e4 eN hm ha hT hX hme; exact absurd hme (by omega)
  | succ m ih =>
    intro mv N x3 x4 nS st tb nx sm ta e3 e4 eN hm ha hT hX hme
    have hN := TI_N hn hT
    show zok (f_HM_findStates_152_b row k141 (f_HM_findStates_152 row k141 m) x1 x3 x4 law brk val sum nS set rest wei st tb nx costs sm ta) P
    unfold f_HM_findStates_152_b
    refine zk_ifc (zci_le (by omega) (by omega)) (fun hc1 => ?_) (fun hc1 => ?_)
    · refine zk_nE (fun v1 q1 => ?_)
      rw [q1, e3, eN]
      have : mv = 16 := by omega
      subst this
      exact hk N st tb nx sm ta ha hT hX
    · refine zk_gl at_ (by omega) (by omega) (by decide) (fun v2 q2 => ?_)
      obtain ⟨l, hl, el⟩ := hT.1 at_ ha
      refine zk_d2 (z_openSmall hn hl v2 x1 (by omega) e1 sm ta) (fun a3 a4 p3 => ?_)
      obtain ⟨p31, p32⟩ := p3
      dsimp only at p31 p32
      refine zk_nE (fun v5 q5 => ?_)
      refine zk_nE (fun v6 q6 => ?_)
      refine zk_d1 (z_isMove p32 h0 hC x4 (by omega)) (fun v7 p7 => ?_)
      have step : ∀ (N' : Nat) (st' tb' sm' ta' : Nat → Int) (nS' w : Int), nS' = (N' : Int) → TI n N' st' tb' → N ≤ N' → (∀ i, i < N → st' i = st i) → (w = -1 ∨ ((0 ≤ w ∧ w < (N' : Int)) ∧ zMv row a4 x4)) → zok (f_HM_findStates_201 row k141 (f_HM_findStates_152 row k141 m) x1 x3 x4 v6 w law brk val sum nS' set rest wei st' tb' nx costs sm' ta') P := by
        intro N' st' tb' sm' ta' nS' w g1 g2 g3 g4 g5
        unfold f_HM_findStates_201
        refine zk_sl (16 * at_ + mv) (by omega) (by omega) (by decide) (fun b1 q1 => ?_)
        have r1 := zu_rd q1
        refine zk_nE (fun v2' q2' => ?_)
        refine ih (mv + 1) N' x3 v2' nS' st' tb' b1 sm' ta' e3 (by omega) g1 (by omega) (by omega) g2 ?_ (by omega)
        have base : NX n N' row st' b1 (16 * at_ + mv) := NX_mono hX g3 g4 (fun j hj => by have := r1 j; omega) (by omega)
        intro j hj
        by_cases q : j = 16 * at_ + mv
        · have e6 : b1 j = w := by have := r1 j; omega
          rw [e6]
          rcases g5 with g5 | g5
          · exact Or.inl g5
          · refine Or.inr ⟨g5.1, fun sm2 ta2 hS2 hc2 => ?_⟩
            have ej : j / 16 = at_ := by omega
            have ej2 : ((j % 16 : Nat) : Int) = x4 := by omega
            rw [ej, g4 at_ ha, el] at hc2
            have hd := zinj hn hS2.2.2 hl hc2
            have uq := zSm_uq hS2 p32 (by rw [hd, p31])
            rw [ej2]
            obtain ⟨f, t, m1, m2, m3, m4, m5, m6, m7⟩ := g5.2
            exact ⟨f, t, m1, m2, m3, m4, m5, m6, by rw [(uq f m2).1]; exact m7⟩
        · exact base j (by omega)
      refine zk_ifc (zci_eqr (by omega)) (fun hc2 => ?_) (fun hc2 => ?_)
      · exact step N st tb a3 a4 nS (-1) eN hT (Nat.le_refl _) (fun i _ => rfl) (Or.inl rfl)
      · have hmv : zMv row a4 x4 := by
          rcases p7 with p7 | p7
          · exact absurd p7 hc2
          · exact p7.2
        refine zk_d6 (z_moved p32 hT h0 x4 nS eN hmv) (fun v8 v9 a10 a11 a12 a13 p8 => ?_)
        obtain ⟨c, N', g1, g2, g3, g4, g5, g6⟩ := p8
        exact step N' a10 a11 a12 a13 v9 v8 g1 g2 g4 g5 (Or.inr ⟨g3, hmv⟩)
theorem z_fs141 (n : Nat) (row : Nat → Int) (h0 : RI row) (hn : n ≤ 5) (x1 : Int) (e1 : x1 = (n : Int)) (law brk val sum : Int) (set rest wei costs : Nat → Int) (hC : zR costs (-1) 99) (hW : zR wei 0 30) : ∀ (m at_ N : Nat) (x3 nS : Int) (st tb nx sm ta : Nat → Int), x3 = (at_ : Int) → nS = (N : Int) → at_ ≤ N → 1 ≤ N → TI n N st tb → NX n N row st nx (16 * at_) → 6721 - at_ ≤ m → zok (f_HM_findStates_141 row m x1 x3 law brk val sum nS set rest wei st tb nx costs sm ta) (zFS n row) := by
  intro m
  induction m with
  | zero => intro at_ N x3 nS st tb nx sm ta e3 eN ha h1 hT hX hme; have := TI_N hn hT; exact absurd hme (by omega)
  | succ m ih =>
    intro at_ N x3 nS st tb nx sm ta e3 eN ha h1 hT hX hme
    have hN := TI_N hn hT
    show zok (f_HM_findStates_141_b row (f_HM_findStates_141 row m) x1 x3 law brk val sum nS set rest wei st tb nx costs sm ta) _
    unfold f_HM_findStates_141_b
    refine zk_ifc (zci_le (by omega) (by omega)) (fun hc1 => ?_) (fun hc1 => ?_)
    · have : at_ = N := by omega
      subst this
      exact zk_ret ⟨at_, h1, eN, hT, hX, hC, hW⟩
    · refine z_fs152 n row h0 hn _ _ x1 e1 at_ law brk val sum set rest wei costs hC (fun N' st' tb' nx' sm' ta' g1 g2 g3 => ?_) zfu 0 N x3 0 nS st tb nx sm ta e3 rfl eN (by omega) (by omega) hT hX (by unfold zfu; omega)
      exact ih (at_ + 1) N' _ _ st' tb' nx' sm' ta' (by omega) rfl (by omega) (by omega) g2 g3 (by omega)
end
section
noncomputable def zHt (row : Nat → Int) (j : Nat) : Int := if (j : Int) < row 0 then row (9 + j) else 0
noncomputable def zHs (row : Nat → Int) : Nat → Int
  | 0 => 0
  | c + 1 => zHs row c + zHt row c
theorem zHt_r {row : Nat → Int} (h0 : RI row) (j : Nat) (hj : j < 12) : 0 ≤ zHt row j ∧ zHt row j ≤ 10 := by
  have := RI_h h0 (i := 9 + (j : Int)) (by omega)
  have e : (9 + (j : Int)).toNat = 9 + j := by omega
  rw [e] at this
  unfold zHt
  by_cases q : (j : Int) < row 0
  · rw [if_pos q]; exact this
  · rw [if_neg q]; decide
theorem zHs_m {row : Nat → Int} (h0 : RI row) {n : Nat} (hs : zHs row 4 = (n : Int)) : ∀ c, c < 4 → 0 ≤ zHs row c ∧ zHs row c + zHt row c ≤ (n : Int) := by
  have a0 := zHt_r h0 0 (by decide)
  have a1 := zHt_r h0 1 (by decide)
  have a2 := zHt_r h0 2 (by decide)
  have a3 := zHt_r h0 3 (by decide)
  have e4 : zHs row 4 = zHs row 3 + zHt row 3 := rfl
  have e3 : zHs row 3 = zHs row 2 + zHt row 2 := rfl
  have e2 : zHs row 2 = zHs row 1 + zHt row 1 := rfl
  have e1 : zHs row 1 = zHs row 0 + zHt row 0 := rfl
  have e0 : zHs row 0 = 0 := rfl
  intro c hc
  have : c = 0 ∨ c = 1 ∨ c = 2 ∨ c = 3 := by omega
  rcases this with q | q | q | q <;> subst q <;> omega
theorem zbase_count (a : Int) (s k : Nat) : (zbase (s + k)).count a = (zbase s).count a + ((List.range k).map (fun i : Nat => (s : Int) + (i : Int) + 1)).count a := by
  induction k with
  | zero => rfl
  | succ k ih =>
    show ((((s + k : Nat) : Int) + 1) :: zbase (s + k)).count a = _
    have e : ((((s + k : Nat) : Int) + 1) :: zbase (s + k)).count a = (zbase (s + k)).count a + ([((s + k : Nat) : Int) + 1] : List Int).count a := by
      simp only [List.count_cons, List.count_nil]
      omega
    rw [e, ih, List.range_succ, List.map_append, List.count_append]
    have e2 : (((s + k : Nat) : Int) + 1) = (s : Int) + (k : Int) + 1 := by omega
    rw [e2]
    show _ = _ + (_ + ([(s : Int) + (k : Int) + 1] : List Int).count a)
    omega
theorem zcol_sq {sm : Nat → Int} {c t : Nat} {s : Nat} (h : ∀ i : Nat, i < t → sm (5 * c + i) = (s : Int) + (i : Int)) : zcol sm c t = (List.range t).map (fun i : Nat => (s : Int) + (i : Int) + 1) := by
  unfold zcol
  apply List.map_congr_left
  intro i hi
  rw [h i (List.mem_range.mp hi)]
theorem zSm_start {row sm ta : Nat → Int} (h0 : RI row) {n : Nat} (hn : n ≤ 5) (hs : zHs row 4 = (n : Int)) (h : ∀ j, j < 4 → ta j = zHt row j ∧ ∀ i : Nat, (i : Int) < zHt row j → sm (5 * j + i) = zHs row j + (i : Int)) : zSm n sm ta := by
  have m := zHs_m h0 hs
  have a0 := zHt_r h0 0 (by decide)
  have a1 := zHt_r h0 1 (by decide)
  have a2 := zHt_r h0 2 (by decide)
  have a3 := zHt_r h0 3 (by decide)
  have e4 : zHs row 4 = zHs row 3 + zHt row 3 := rfl
  have e3 : zHs row 3 = zHs row 2 + zHt row 2 := rfl
  have e2 : zHs row 2 = zHs row 1 + zHt row 1 := rfl
  have e1 : zHs row 1 = zHs row 0 + zHt row 0 := rfl
  have e0 : zHs row 0 = 0 := rfl
  have h00 := h 0 (by decide)
  have h01 := h 1 (by decide)
  have h02 := h 2 (by decide)
  have h03 := h 3 (by decide)
  refine ⟨hn, ⟨by omega, by omega, by omega, by omega⟩, ?_⟩
  show (zdig sm ta).Perm (zbase n)
  rw [List.perm_iff_count]
  intro a
  have k0 := zcol_sq (sm := sm) (c := 0) (t := (zHt row 0).toNat) (s := 0) (fun i hi => by have := h00.2 i (by omega); omega)
  have k1 := zcol_sq (sm := sm) (c := 1) (t := (zHt row 1).toNat) (s := 0 + (zHt row 0).toNat) (fun i hi => by have := h01.2 i (by omega); omega)
  have k2 := zcol_sq (sm := sm) (c := 2) (t := (zHt row 2).toNat) (s := 0 + (zHt row 0).toNat + (zHt row 1).toNat) (fun i hi => by have := h02.2 i (by omega); omega)
  have k3 := zcol_sq (sm := sm) (c := 3) (t := (zHt row 3).toNat) (s := 0 + (zHt row 0).toNat + (zHt row 1).toNat + (zHt row 2).toNat) (fun i hi => by have := h03.2 i (by omega); omega)
  have en : n = 0 + (zHt row 0).toNat + (zHt row 1).toNat + (zHt row 2).toNat + (zHt row 3).toNat := by omega
  rw [zdig_count, h00.1, h01.1, h02.1, h03.1, k0, k1, k2, k3, en, zbase_count, zbase_count, zbase_count, zbase_count]
  show _ = ([0, 0, 0] : List Int).count a + _ + _ + _ + _
  omega
noncomputable def zSI (row sm ta : Nat → Int) (c : Nat) : Prop := ∀ j, j < c → ta j = zHt row j ∧ ∀ i : Nat, (i : Int) < zHt row j → sm (5 * j + i) = zHs row j + (i : Int)

theorem z_fs66 (n : Nat) (row : Nat → Int) (h0 : RI row) (hn : n ≤ 5) (hs : zHs row 4 = (n : Int)) (k31 : (Int → Int → Int → Int → Int → Int → Int → Int → (Nat → Int) → (Nat → Int) → (Nat → Int) → (Nat → Int) → (Nat → Int) → (Nat → Int) → (Nat → Int) → (Nat → Int) → (Nat → Int) → Option (Int × Int × Int × Int × Int × (Nat → Int) × (Nat → Int) × (Nat → Int) × (Nat → Int) × (Nat → Int) × (Nat → Int) × (Nat → Int) × (Nat → Int) × (Nat → Int)))) (P : (Int × Int × Int × Int × Int × (Nat → Int) × (Nat → Int) × (Nat → Int) × (Nat → Int) × (Nat → Int) × (Nat → Int) × (Nat → Int) × (Nat → Int) × (Nat → Int)) → Prop) (x1 : Int) (c : Nat) (hc : c < 4) (law brk val sum nS : Int) (set rest st tb nx costs ta : Nat → Int) (ht : ta c = zHt row c) (hk : ∀ (x2 : Int) (wei sm : Nat → Int), x2 = zHs row (c + 1) → zR wei 0 30 → zSI row sm ta (c + 1) → zok (k31 x1 x2 ((c : Int) + 1) law brk val sum nS set rest wei st tb nx costs sm ta) P) : ∀ (m i : Nat) (x2 x3 x4 : Int) (wei sm : Nat → Int), x3 = (c : Int) → x4 = (i : Int) → x2 = zHs row c + (i : Int) → (i : Int) ≤ zHt row c → zR wei 0 30 → zSI row sm ta c → (∀ i' : Nat, i' < i → sm (5 * c + i') = zHs row c + (i' : Int)) → zHt row c - (i : Int) + 1 ≤ (m : Int) → zok (f_HM_findStates_66 row k31 m x1 x2 x3 x4 law brk val sum nS set rest wei st tb nx costs sm ta) P := by
  have hm := zHs_m h0 hs c hc
  have hr := zHt_r h0 c (by omega)
  intro m
  induction m with
  | zero => intro i x2 x3 x4 wei sm e3 e4 e2 hi hW hS hS2 hme; exact absurd hme (by omega)
  | succ m ih =>
    intro i x2 x3 x4 wei sm e3 e4 e2 hi hW hS hS2 hme
    show zok (f_HM_findStates_66_b row k31 (f_HM_findStates_66 row k31 m) x1 x2 x3 x4 law brk val sum nS set rest wei st tb nx costs sm ta) P
    unfold f_HM_findStates_66_b
    refine zk_gl c (by omega) (by omega) (by decide) (fun v1 q1 => ?_)
    refine zk_ifc (zci_le (by omega) (by omega)) (fun hc1 => ?_) (fun hc1 => ?_)
    · refine zk_nE (fun v2 q2 => ?_)
      rw [q2, e3]
      refine hk x2 wei sm ?_ hW ?_
      · show _ = zHs row c + zHt row c
        omega
      · intro j hj
        by_cases q : j = c
        · subst q
          exact ⟨ht, fun i' hi' => hS2 i' (by omega)⟩
        · exact hS j (by omega)
    · refine zk_nE (fun v3 q3 => ?_)
      refine zk_nE (fun v4 q4 => ?_)
      refine zk_nE (fun v5 q5 => ?_)
      refine zk_gv (by omega) (by decide) (fun v6 q6 => ?_)
      have r6 := RI_s h0 (i := v5) (by omega)
      refine zk_sv (by omega) (by decide) (fun a7 q7 => ?_)
      refine zk_nE (fun v8 q8 => ?_)
      refine zk_nE (fun v9 q9 => ?_)
      refine zk_sl (5 * c + i) (by omega) (by omega) (by decide) (fun a10 q10 => ?_)
      have r10 := zu_rd q10
      refine zk_nE (fun v11 q11 => ?_)
      refine zk_nE (fun v12 q12 => ?_)
      refine ih (i + 1) v11 x3 v12 a7 a10 e3 (by omega) (by omega) (by omega) ?_ ?_ ?_ (by omega)
      · rw [q7]
        exact zR_zu hW (by decide) (by decide) (by omega)
      · intro j hj
        have hj1 := zHs_m h0 hs j (by omega)
        refine ⟨(hS j hj).1, fun i' hi' => ?_⟩
        have := (hS j hj).2 i' hi'
        have := r10 (5 * j + i')
        omega
      · intro i' hi'
        have := r10 (5 * c + i')
        by_cases q : i' = i
        · subst q; omega
        · have := hS2 i' (by omega); omega
theorem z_fs31 (n : Nat) (row : Nat → Int) (h0 : RI row) (hn : n ≤ 5) (hs : zHs row 4 = (n : Int)) (x1 : Int) (e1 : x1 = (n : Int)) (law brk val sum nS : Int) (set rest st tb nx costs : Nat → Int) (hC : zR costs (-1) 99) (eN : nS = 0) (hT : ∀ p, p < 16384 → tb p = -1) : ∀ (m c : Nat) (x2 x3 : Int) (wei sm ta : Nat → Int), x3 = (c : Int) → c ≤ 4 → x2 = zHs row c → zR wei 0 30 → zSI row sm ta c → 5 - c ≤ m → zok (f_HM_findStates_31 row m x1 x2 x3 law brk val sum nS set rest wei st tb nx costs sm ta) (zFS n row) := by
  have r0 := RI_0 h0
  intro m
  induction m with
  | zero => intro c x2 x3 wei sm ta e3 hc e2 hW hS hme; exact absurd hme (by omega)
  | succ m ih =>
    intro c x2 x3 wei sm ta e3 hc e2 hW hS hme
    show zok (f_HM_findStates_31_b row (f_HM_findStates_31 row m) x1 x2 x3 law brk val sum nS set rest wei st tb nx costs sm ta) _
    unfold f_HM_findStates_31_b
    refine zk_ifc (zci_le (by omega) (by omega)) (fun hc1 => ?_) (fun hc1 => ?_)
    · have : c = 4 := by omega
      subst this
      have hSm := zSm_start h0 hn hs hS
      refine zk_d7 (s_HM_findCosts x1 row wei law brk val sum set rest costs (by omega) h0 hW hC) (fun v1 v2 v3 v4 a5 a6 a7 p1 => ?_)
      refine zk_d1 (z_codeOfSmall hSm) (fun v8 p8 => ?_)
      refine zk_d4 (z_numberOf hn (TI_0 n st tb hT) hSm.2.2 v8 nS p8 eN) (fun v9 v10 a11 a12 p9 => ?_)
      obtain ⟨N', g1, g2, g3, g4, g5, g6⟩ := p9
      dsimp only at g1 g2 g3
      exact z_fs141 n row h0 hn x1 e1 v1 v2 v3 v4 a5 a6 wei a7 p1 hW zfu 0 N' 0 v10 a11 a12 nx sm ta rfl g1 (Nat.zero_le _) (by omega) g2 (fun j hj => absurd hj (Nat.not_lt_zero j)) (by unfold zfu; omega)
    · have hc2 : c < 4 := by omega
      have hr := zHt_r h0 c (by omega)
      have go : ∀ w : Int, w = zHt row c → zok (f_HM_findStates_62 row (f_HM_findStates_31 row m) x1 x2 x3 x3 w law brk val sum nS set rest wei st tb nx costs sm ta) (zFS n row) := by
        intro w hw
        unfold f_HM_findStates_62
        refine zk_sl c (by omega) (by omega) (by decide) (fun a1 q1 => ?_)
        have r1 := zu_rd q1
        have hS' : zSI row sm a1 c := fun j hj => ⟨by have := (hS j hj).1; have := r1 j; omega, (hS j hj).2⟩
        refine z_fs66 n row h0 hn hs _ _ x1 c hc2 law brk val sum nS set rest st tb nx costs a1 (by have := r1 c; omega) (fun x2' wei' sm' g1 g2 g3 => ?_) zfu 0 x2 x3 0 wei sm e3 rfl (by omega) (by omega) hW hS' (fun i' hi' => absurd hi' (Nat.not_lt_zero i')) (by unfold zfu; omega)
        exact ih (c + 1) x2' _ wei' sm' a1 (by omega) (by omega) g1 g2 g3 (by omega)
      refine zk_d1 (s_HM_columns _ h0) (fun v13 p13 => ?_)
      try dsimp only at p13
      refine zk_ifc (zci_le (by omega) (by omega)) (fun hc3 => ?_) (fun hc3 => ?_)
      · refine go 0 ?_
        unfold zHt
        rw [if_neg (by omega)]
      · refine zk_nE (fun v14 q14 => ?_)
        refine zk_gl (9 + c) (by omega) (by omega) (by decide) (fun v15 q15 => ?_)
        refine go v15 ?_
        unfold zHt
        rw [if_pos (by omega), q15]
theorem z_fs2 (n : Nat) (row : Nat → Int) (h0 : RI row) (hn : n ≤ 5) (hs : zHs row 4 = (n : Int)) (x1 : Int) (e1 : x1 = (n : Int)) (law brk val sum nS : Int) (set rest wei st nx costs sm ta : Nat → Int) (hC : zR costs (-1) 99) (hW : zR wei 0 30) : ∀ (m p : Nat) (x2 : Int) (tb : Nat → Int), x2 = (p : Int) → p ≤ 16384 → (∀ q, q < p → tb q = -1) → 16385 - p ≤ m → zok (f_HM_findStates_2 row m x1 x2 law brk val sum nS set rest wei st tb nx costs sm ta) (zFS n row) := by
  intro m
  induction m with
  | zero => intro p x2 tb e2 hp hT hme; exact absurd hme (by omega)
  | succ m ih =>
    intro p x2 tb e2 hp hT hme
    show zok (f_HM_findStates_2_b row (f_HM_findStates_2 row m) x1 x2 law brk val sum nS set rest wei st tb nx costs sm ta) _
    unfold f_HM_findStates_2_b
    refine zk_ifc (zci_le (by omega) (by omega)) (fun hc1 => ?_) (fun hc1 => ?_)
    · exact z_fs31 n row h0 hn hs x1 e1 law brk val sum 0 set rest st tb nx costs hC rfl (fun q hq => hT q (by omega)) zfu 0 0 0 wei sm ta rfl (by decide) rfl hW (fun j hj => absurd hj (Nat.not_lt_zero j)) (by unfold zfu; omega)
    · refine zk_sl p (by omega) (by omega) (by decide) (fun a1 q1 => ?_)
      have r1 := zu_rd q1
      refine zk_nE (fun v2 q2 => ?_)
      refine ih (p + 1) v2 a1 (by omega) (by omega) (fun q hq => ?_) (by omega)
      have := r1 q
      by_cases u : q = p
      · omega
      · have := hT q (by omega); omega
theorem z_findStates {n : Nat} {row : Nat → Int} (h0 : RI row) (hn : n ≤ 5) (hs : zHs row 4 = (n : Int)) (x1 : Int) (e1 : x1 = (n : Int)) (law brk val sum nS : Int) (set rest wei st tb nx costs sm ta : Nat → Int) (hC : zR costs (-1) 99) (hW : zR wei 0 30) : zok (f_HM_findStates x1 row law brk val sum nS set rest wei st tb nx costs sm ta) (zFS n row) := by
  unfold f_HM_findStates
  exact z_fs2 n row h0 hn hs x1 e1 law brk val sum nS set rest wei st nx costs sm ta hC hW zfu 0 0 tb rfl (by decide) (fun q hq => absurd hq (Nat.not_lt_zero q)) (by unfold zfu; omega)
end
section
theorem z_stones4 (row : Nat → Int) (h0 : RI row) : ∀ (m c : Nat) (x1 x2 : Int), x2 = (c : Int) → (c : Int) ≤ row 0 → x1 = zHs row c → (0 ≤ x1 ∧ x1 ≤ 10 * (c : Int)) → row 0 - (c : Int) + 1 ≤ (m : Int) → zok (f_HM_stones_4 row m x1 x2) (fun o => o = zHs row (row 0).toNat ∧ 0 ≤ o ∧ o ≤ 120) := by
  have r0 := RI_0 h0
  intro m
  induction m with
  | zero => intro c x1 x2 e2 hc e1 hb hm; exact absurd hm (by omega)
  | succ m ih =>
    intro c x1 x2 e2 hc e1 hb hm
    show zok (f_HM_stones_4_b row (f_HM_stones_4 row m) x1 x2) _
    unfold f_HM_stones_4_b
    refine zk_d1 (s_HM_columns _ h0) (fun v1 p1 => ?_)
    try dsimp only at p1
    refine zk_ifc (zci_le (by omega) (by omega)) (fun hc1 => ?_) (fun hc1 => ?_)
    · have : (row 0).toNat = c := by omega
      exact zk_ret ⟨by rw [this]; exact e1, by omega, by omega⟩
    · refine zk_nE (fun v2 q2 => ?_)
      refine zk_gl (9 + c) (by omega) (by omega) (by decide) (fun v3 q3 => ?_)
      have hr := zHt_r h0 c (by omega)
      have ht : v3 = zHt row c := by
        unfold zHt
        rw [if_pos (by omega), q3]
      refine zk_nE (fun v4 q4 => ?_)
      refine zk_nE (fun v5 q5 => ?_)
      refine ih (c + 1) v4 v5 (by omega) (by omega) ?_ (by omega) (by omega)
      show v4 = zHs row c + zHt row c
      omega
theorem z_stones {row : Nat → Int} (h0 : RI row) : zok (f_HM_stones row) (fun o => o = zHs row (row 0).toNat ∧ 0 ≤ o ∧ o ≤ 120) := by
  have r0 := RI_0 h0
  unfold f_HM_stones
  exact z_stones4 row h0 zfu 0 0 0 rfl (by omega) rfl (by omega) (by unfold zfu; omega)
theorem zHs_4 {row : Nat → Int} (h0 : RI row) (h : row 0 ≤ 4) : zHs row 4 = zHs row (row 0).toNat := by
  have r0 := RI_0 h0
  have k : ∀ d, (row 0).toNat ≤ d → zHs row d = zHs row (row 0).toNat := by
    intro d
    induction d with
    | zero => intro hd; have : (row 0).toNat = 0 := by omega
              rw [this]
    | succ d ih =>
      intro hd
      by_cases q : (row 0).toNat = d + 1
      · rw [q]
      · show zHs row d + zHt row d = _
        rw [ih (by omega)]
        have : zHt row d = 0 := by
          unfold zHt
          rw [if_neg (by omega)]
        omega
  exact k 4 (by omega)
theorem z_ig4 (row ta : Nat → Int) (h0 : RI row) (h4 : row 0 ≤ 4) (ht : ∀ c, c < 4 → 0 ≤ ta c ∧ ta c ≤ 5) : ∀ (m c : Nat) (x1 x2 : Int), x2 = (c : Int) → (x1 = 0 ∨ x1 = 1) → (c : Int) ≤ row 0 → row 0 - (c : Int) + 1 ≤ (m : Int) → zok (f_HM_isGoal_4 row ta m x1 x2) (fun o => o = 0 ∨ o = 1) := by
  have r0 := RI_0 h0
  intro m
  induction m with
  | zero => intro c x1 x2 e2 h1 hc hm; exact absurd hm (by omega)
  | succ m ih =>
    intro c x1 x2 e2 h1 hc hm
    show zok (f_HM_isGoal_4_b row ta (f_HM_isGoal_4 row ta m) x1 x2) _
    unfold f_HM_isGoal_4_b
    refine zk_d1 (s_HM_columns _ h0) (fun v1 p1 => ?_)
    try dsimp only at p1
    refine zk_ifc (zci_le (by omega) (by omega)) (fun hc1 => ?_) (fun hc1 => ?_)
    · exact zk_gb h1 (zk_ret h1)
    · have go : ∀ s : Int, (s = 0 ∨ s = 1) → zok (f_HM_isGoal_54 row ta (f_HM_isGoal_4 row ta m) x2 s) (fun o => o = 0 ∨ o = 1) := by
        intro s hs
        unfold f_HM_isGoal_54
        refine zk_nE (fun w hw => ?_)
        exact ih (c + 1) s w (by omega) hs (by omega) (by omega)
      have hg := RI_g h0 (i := 141 + x2) (by omega)
      have hc4 : c < 4 := by omega
      have htc := ht c hc4
      refine zk_ifc (zci_eqr (by omega)) (fun hc2 => ?_) (fun hc2 => ?_)
      · unfold f_HM_isGoal_53
        exact go 0 (Or.inl rfl)
      · refine zk_nE (fun v2 q2 => ?_)
        refine zk_gv (by omega) (by decide) (fun v3 q3 => ?_)
        have q3' : v3 = row (141 + x2).toNat := by rw [q3, q2]
        refine zk_ifc (zci_eq (by omega) (by omega)) (fun hc3 => ?_) (fun hc3 => ?_)
        · unfold f_HM_isGoal_49
          exact go 1 (Or.inr rfl)
        · refine zk_nE (fun v4 q4 => ?_)
          refine zk_gv (by omega) (by decide) (fun v5 q5 => ?_)
          have q5' : v5 = row (141 + x2).toNat := by rw [q5, q4]
          refine zk_gl c (by omega) hc4 (by decide) (fun v6 q6 => ?_)
          refine zk_ifc (zci_ne (by omega) (by omega)) (fun hc5 => ?_) (fun hc5 => ?_)
          · unfold f_HM_isGoal_53
            exact go 0 (Or.inl rfl)
          · unfold f_HM_isGoal_49
            exact go 1 (Or.inr rfl)
theorem z_isGoal {row ta : Nat → Int} (h0 : RI row) (h4 : row 0 ≤ 4) (ht : ∀ c, c < 4 → 0 ≤ ta c ∧ ta c ≤ 5) : zok (f_HM_isGoal row ta) (fun o => o = 0 ∨ o = 1) := by
  have r0 := RI_0 h0
  unfold f_HM_isGoal
  exact z_ig4 row ta h0 h4 ht zfu 0 1 0 rfl (Or.inr rfl) (by omega) (by unfold zfu; omega)
theorem z_is14 (row ta : Nat → Int) (h0 : RI row) (h4 : row 0 ≤ 4) (ht : ∀ c, c < 4 → 0 ≤ ta c ∧ ta c ≤ 5) (k4 : Int → Int → Option Int) (P : Int → Prop) (c : Nat) (hc : (c : Int) < row 0) (hk : ∀ s : Int, (s = 0 ∨ s = 1) → zok (k4 s ((c : Int) + 1)) P) : ∀ (m o : Nat) (x1 x2 x3 : Int), x2 = (c : Int) → x3 = (o : Int) → (x1 = 0 ∨ x1 = 1) → (o : Int) ≤ row 0 → row 0 - (o : Int) + 1 ≤ (m : Int) → zok (f_HM_isSafe_14 row ta k4 m x1 x2 x3) P := by
  have r0 := RI_0 h0
  have r7 := RI_7 h0
  have r8 := RI_8 h0
  intro m
  induction m with
  | zero => intro o x1 x2 x3 e2 e3 h1 ho hm; exact absurd hm (by omega)
  | succ m ih =>
    intro o x1 x2 x3 e2 e3 h1 ho hm
    show zok (f_HM_isSafe_14_b row ta k4 (f_HM_isSafe_14 row ta k4 m) x1 x2 x3) P
    unfold f_HM_isSafe_14_b
    refine zk_d1 (s_HM_columns _ h0) (fun v1 p1 => ?_)
    try dsimp only at p1
    refine zk_ifc (zci_le (by omega) (by omega)) (fun hc1 => ?_) (fun hc1 => ?_)
    · refine zk_nE (fun v2 q2 => ?_)
      rw [q2, e2]
      exact hk x1 h1
    · have go : ∀ s : Int, (s = 0 ∨ s = 1) → zok (f_HM_isSafe_64 row ta k4 (f_HM_isSafe_14 row ta k4 m) x2 x3 s) P := by
        intro s hs
        unfold f_HM_isSafe_64
        refine zk_nE (fun w hw => ?_)
        exact ih (o + 1) s x2 w e2 (by omega) hs (by omega) (by omega)
      have tc := ht c (by omega)
      have to_ := ht o (by omega)
      refine zk_ifc (zci_eqr (by omega)) (fun hc2 => ?_) (fun hc2 => ?_)
      · unfold f_HM_isSafe_63
        exact go 0 (Or.inl rfl)
      · refine zk_nE (fun v3 q3 => ?_)
        refine zk_d1 (s_HM_size _ (by omega)) (fun v4 p4 => ?_)
        try dsimp only at p4
        refine zk_ifc (zci_ne (by omega) (by omega)) (fun hc3 => ?_) (fun hc3 => ?_)
        · unfold f_HM_isSafe_59
          exact go 1 (Or.inr rfl)
        · refine zk_gl c (by omega) (by omega) (by decide) (fun v5 q5 => ?_)
          refine zk_gl o (by omega) (by omega) (by decide) (fun v6 q6 => ?_)
          refine zk_gl 7 rfl (by decide) (by decide) (fun v7 q7 => ?_)
          refine zk_nE (fun v8 q8 => ?_)
          refine zk_ifc (zci_lt (by omega) (by omega)) (fun hc4 => ?_) (fun hc4 => ?_)
          · unfold f_HM_isSafe_63
            exact go 0 (Or.inl rfl)
          · unfold f_HM_isSafe_59
            exact go 1 (Or.inr rfl)
theorem z_is4 (row ta : Nat → Int) (h0 : RI row) (h4 : row 0 ≤ 4) (ht : ∀ c, c < 4 → 0 ≤ ta c ∧ ta c ≤ 5) : ∀ (m c : Nat) (x1 x2 : Int), x2 = (c : Int) → (x1 = 0 ∨ x1 = 1) → (c : Int) ≤ row 0 → row 0 - (c : Int) + 1 ≤ (m : Int) → zok (f_HM_isSafe_4 row ta m x1 x2) (fun o => o = 0 ∨ o = 1) := by
  have r0 := RI_0 h0
  intro m
  induction m with
  | zero => intro c x1 x2 e2 h1 hc hm; exact absurd hm (by omega)
  | succ m ih =>
    intro c x1 x2 e2 h1 hc hm
    show zok (f_HM_isSafe_4_b row ta (f_HM_isSafe_4 row ta m) x1 x2) _
    unfold f_HM_isSafe_4_b
    refine zk_d1 (s_HM_columns _ h0) (fun v1 p1 => ?_)
    try dsimp only at p1
    refine zk_ifc (zci_le (by omega) (by omega)) (fun hc1 => ?_) (fun hc1 => ?_)
    · exact zk_gb h1 (zk_ret h1)
    · exact z_is14 row ta h0 h4 ht _ _ c (by omega) (fun s hs => ih (c + 1) s _ (by omega) hs (by omega) (by omega)) zfu 0 x1 x2 0 e2 rfl h1 (by omega) (by unfold zfu; omega)
theorem z_isSafe {row ta : Nat → Int} (h0 : RI row) (h4 : row 0 ≤ 4) (ht : ∀ c, c < 4 → 0 ≤ ta c ∧ ta c ≤ 5) : zok (f_HM_isSafe row ta) (fun o => o = 0 ∨ o = 1) := by
  have r0 := RI_0 h0
  unfold f_HM_isSafe
  exact z_is4 row ta h0 h4 ht zfu 0 1 0 rfl (Or.inr rfl) (by omega) (by unfold zfu; omega)
noncomputable def zWp (x1 x3 x4 : Int) (costs sm ta : Nat → Int) : Int := if costs (((x4 * 5 + sm (5 * (x3 / 4).toNat + ((ta (x3 / 4).toNat).toNat - 1))) * 16 + x3) * 25 + 5 * (ta (x3 / 4).toNat - 1) + ta (x3 % 4).toNat).toNat = -1 then 1000000000000000 else if x1 = 2 then 10000 * costs (((x4 * 5 + sm (5 * (x3 / 4).toNat + ((ta (x3 / 4).toNat).toNat - 1))) * 16 + x3) * 25 + 5 * (ta (x3 / 4).toNat - 1) + ta (x3 % 4).toNat).toNat + 1 else 1
theorem zWp_r (x1 x3 x4 : Int) {costs : Nat → Int} (hC : zR costs (-1) 99) (sm ta : Nat → Int) : zWp x1 x3 x4 costs sm ta = 1000000000000000 ∨ (1 ≤ zWp x1 x3 x4 costs sm ta ∧ zWp x1 x3 x4 costs sm ta ≤ 990001) := by
  unfold zWp
  have := hC (((x4 * 5 + sm (5 * (x3 / 4).toNat + ((ta (x3 / 4).toNat).toNat - 1))) * 16 + x3) * 25 + 5 * (ta (x3 / 4).toNat - 1) + ta (x3 % 4).toNat).toNat
  generalize costs (((x4 * 5 + sm (5 * (x3 / 4).toNat + ((ta (x3 / 4).toNat).toNat - 1))) * 16 + x3) * 25 + 5 * (ta (x3 / 4).toNat - 1) + ta (x3 % 4).toNat).toNat = v at this
  by_cases q : v = -1
  · rw [if_pos q]; exact Or.inl rfl
  · rw [if_neg q]
    by_cases q2 : x1 = 2
    · rw [if_pos q2]; omega
    · rw [if_neg q2]; omega
theorem z_price {n : Nat} {row st costs : Nat → Int} (h0 : RI row) (hn : n ≤ 5) (hC : zR costs (-1) 99) (x1 x2 x3 x4 x5 : Int) (b1 : 0 ≤ x1 ∧ x1 ≤ 2) (at_ : Nat) (e2 : x2 = (at_ : Int)) (ha : at_ < 6720) (b4 : 0 ≤ x4 ∧ x4 < row 1) (e5 : x5 = (n : Int)) (s0 t0 : Nat → Int) (hS : zSm n s0 t0) (hc : zcode (zdig s0 t0) = st at_) (hm : zMv row t0 x3) (sm ta : Nat → Int) : zok (f_HM_price x1 x2 x3 x4 x5 st costs sm ta) (fun o => o.1 = zWp x1 x3 x4 costs s0 t0) := by
  have r1 := RI_1 h0
  obtain ⟨f, t, m1, m2, m3, m4, m5, m6, m7⟩ := hm
  unfold f_HM_price
  refine zk_gl at_ (by omega) ha (by decide) (fun v1 q1 => ?_)
  refine zk_d2 (z_openSmall hn hS.2.2 v1 x5 (by omega) e5 sm ta) (fun a2 a3 p1 => ?_)
  obtain ⟨p11, p12⟩ := p1
  dsimp only at p11 p12
  have uq := zSm_uq p12 hS p11
  have uf := uq f m2
  have ut := uq t m3
  have cf := zSm_c p12 m2
  have ct := zSm_c p12 m3
  have cs : a3 f + a3 t ≤ 5 := by
    have s := zSm_t p12
    have s2 := p12.2.1
    have u1 : f = 0 ∨ f = 1 ∨ f = 2 ∨ f = 3 := by omega
    have u2 : t = 0 ∨ t = 1 ∨ t = 2 ∨ t = 3 := by omega
    rcases u1 with q | q | q | q <;> subst q <;> rcases u2 with q | q | q | q <;> subst q <;> omega
  have hf : (x3 / 4).toNat = f := by omega
  have ht : (x3 % 4).toNat = t := by omega
  refine zk_g0zi_w (by omega) ?_
  refine zk_nE (fun v4 q4 => ?_)
  rw [zi_div_n (by omega) (by omega)] at q4
  refine zk_d1 (z_smallTop p12 v4 f m2 (by omega) (by omega)) (fun v5 p5 => ?_)
  obtain ⟨p51, p52⟩ := p5
  refine zk_gl f (by omega) m2 (by decide) (fun v6 q6 => ?_)
  refine zk_g0zi_w (by omega) ?_
  refine zk_nE (fun v7 q7 => ?_)
  rw [zi_rem_n (by omega) (by omega)] at q7
  refine zk_gl t (by omega) m3 (by decide) (fun v8 q8 => ?_)
  refine zk_d1 (z_costAt _ _ _ _ _) (fun v9 p9 => ?_)
  have hs : v5 = s0 (5 * f + ((t0 f).toNat - 1)) := by
    rw [p51, ← uf.1]
    exact uf.2 _ (by omega)
  have e9 : v9 = ((x4 * 5 + s0 (5 * (x3 / 4).toNat + ((t0 (x3 / 4).toNat).toNat - 1))) * 16 + x3) * 25 + 5 * (t0 (x3 / 4).toNat - 1) + t0 (x3 % 4).toNat := by
    rw [hf, ht, ← hs]
    omega
  refine zk_gv (by omega) (by decide) (fun v10 q10 => ?_)
  have hv := hC v9.toNat
  rw [← q10] at hv
  have ew : zWp x1 x3 x4 costs s0 t0 = if v10 = -1 then 1000000000000000 else if x1 = 2 then 10000 * v10 + 1 else 1 := by
    unfold zWp
    rw [← e9, ← q10]
  rw [ew]
  refine zk_ifc (zci_ne (by omega) (by omega)) (fun hc1 => ?_) (fun hc1 => ?_)
  · refine zk_ifc (zci_ne (by omega) (by omega)) (fun hc2 => ?_) (fun hc2 => ?_)
    · refine zk_ret ?_
      dsimp only
      rw [if_neg hc1, if_neg hc2]
    · refine zk_nE (fun v11 q11 => ?_)
      rw [zwi (by omega)] at q11
      refine zk_nE (fun v12 q12 => ?_)
      refine zk_nE (fun v13 q13 => ?_)
      refine zk_ret ?_
      dsimp only
      rw [if_neg hc1, if_pos (by omega)]
      omega
  · refine zk_ret ?_
    dsimp only
    rw [if_pos (by omega)]
theorem z_isOpen {n N : Nat} {row st nx sf : Nat → Int} (hX : NX n N row st nx (16 * N)) (hN : N ≤ 6720) (x1 x2 x3 : Int) (b1 : 0 ≤ x1 ∧ x1 ≤ 2) (at_ : Nat) (e2 : x2 = (at_ : Int)) (ha : at_ < N) (b3 : 0 ≤ x3 ∧ x3 < 16) (hsf : ∀ i, i < N → sf i = 0 ∨ sf i = 1) : zok (f_HM_isOpen x1 x2 x3 nx sf) (fun o => o = 0 ∨ (o = 1 ∧ nx (16 * x2 + x3).toNat ≠ -1)) := by
  have hx := hX (16 * x2 + x3).toNat (by omega)
  have hr : -1 ≤ nx (16 * x2 + x3).toNat ∧ nx (16 * x2 + x3).toNat < (N : Int) := by
    rcases hx with hx | hx
    · omega
    · exact ⟨by omega, hx.1.2⟩
  clear hx
  unfold f_HM_isOpen
  refine zk_nE (fun v1 q1 => ?_)
  refine zk_nE (fun v2 q2 => ?_)
  refine zk_gv (by omega) (by decide) (fun v3 q3 => ?_)
  have q3' : v3 = nx (16 * x2 + x3).toNat := by rw [q3, q2, q1]
  refine zk_ifc (zci_eq (by omega) (by omega)) (fun hc1 => ?_) (fun hc1 => ?_)
  · exact zk_ret (Or.inl rfl)
  · refine zk_ifc (zci_ne (by omega) (by omega)) (fun hc2 => ?_) (fun hc2 => ?_)
    · exact zk_ret (Or.inr ⟨rfl, by omega⟩)
    · refine zk_gv (by omega) (by decide) (fun v4 q4 => ?_)
      have h4 := hsf v3.toNat (by omega)
      refine zk_ifc (zci_eqr (by omega)) (fun hc3 => ?_) (fun hc3 => ?_)
      · exact zk_ret (Or.inl rfl)
      · exact zk_ret (Or.inr ⟨rfl, by omega⟩)
end
section
theorem zok_self {α : Type} {o : Option α} {Q : α → Prop} (h : zok o Q) : zok o (fun x => o = some x ∧ Q x) := by
  obtain ⟨x, h1, h2⟩ := h
  exact ⟨x, h1, h1, h2⟩
noncomputable def zsum (f : Nat → Int) : Nat → Int
  | 0 => 0
  | n + 1 => zsum f n + f n
theorem zsum_zu {f : Nat → Int} {a : Nat} {v : Int} : ∀ n, zsum (zu f a v) n = zsum f n + (if a < n then v - f a else 0) := by
  intro n
  induction n with
  | zero => rfl
  | succ n ih =>
    show zsum (zu f a v) n + zu f a v n = zsum f n + f n + _
    rw [ih]
    by_cases q : a = n
    · subst q
      rw [zu_eq, if_neg (Nat.lt_irrefl _), if_pos (Nat.lt_succ_self _)]
      omega
    · rw [zu_ne _ _ (fun e => q e.symm)]
      by_cases q2 : a < n
      · rw [if_pos q2, if_pos (by omega)]; omega
      · rw [if_neg q2, if_neg (by omega)]; omega
theorem zsum_b {f : Nat → Int} {B : Int} : ∀ n : Nat, (∀ a, a < n → 0 ≤ f a ∧ f a ≤ B) → 0 ≤ zsum f n ∧ zsum f n ≤ B * (n : Int) := by
  intro n
  induction n with
  | zero => intro _; exact ⟨Int.le_refl 0, by show (0 : Int) ≤ B * 0; omega⟩
  | succ n ih =>
    intro h
    have h1 := ih (fun a ha => h a (by omega))
    have h2 := h n (by omega)
    have e : B * ((n + 1 : Nat) : Int) = B * (n : Int) + B := by
      rw [Int.natCast_add, Int.mul_add]
      omega
    show 0 ≤ zsum f n + f n ∧ zsum f n + f n ≤ _
    rw [e]
    omega
noncomputable def zOp (x1 : Int) (nx sf : Nat → Int) (a mv : Nat) : Prop := f_HM_isOpen x1 (a : Int) (mv : Int) nx sf = some 1 ∧ nx (16 * a + mv) ≠ -1
noncomputable def zCr (ch : Nat → Int) (N : Nat) : Prop := ∀ j, j < 16 * N → 1 ≤ ch j ∧ ch j ≤ 1000000000000000
noncomputable def LI (x1 : Int) (N : Nat) (nx sf ch lf : Nat → Int) : Prop := ∀ a, a < N → (0 ≤ lf a ∧ lf a ≤ 1000000000000000) ∧ (lf a = 0 ∨ lf a = 1000000000000000 ∨ ∃ mv, mv < 16 ∧ zOp x1 nx sf a mv ∧ ch (16 * a + mv) + lf (nx (16 * a + mv)).toNat ≤ lf a)
noncomputable def zSt (x1 : Int) (nx sf ch lf : Nat → Int) (a mv : Nat) : Prop := zOp x1 nx sf a mv → lf a ≤ ch (16 * a + mv) + lf (nx (16 * a + mv)).toNat
theorem LI_up {x1 : Int} {N : Nat} {nx sf ch lf lf' : Nat → Int} (h : LI x1 N nx sf ch lf) (hch : zCr ch N) {a mv : Nat} (ha : a < N) (hm : mv < 16) (ho : zOp x1 nx sf a mv) (hnx : 0 ≤ nx (16 * a + mv) ∧ nx (16 * a + mv) < (N : Int)) {v : Int} (hv : v = ch (16 * a + mv) + lf (nx (16 * a + mv)).toNat) (hlt : v < lf a) (e : lf' = zu lf a v) : LI x1 N nx sf ch lf' := by
  have r := zu_rd e
  have dn : ∀ i, lf' i ≤ lf i := by
    intro i
    have := r i
    by_cases q : i = a
    · subst q; omega
    · omega
  have c1 := hch (16 * a + mv) (by omega)
  have l1 := (h (nx (16 * a + mv)).toNat (by omega)).1
  have l2 := (h a ha).1
  intro b hb
  have rb := r b
  have hb1 := h b hb
  by_cases q : b = a
  · subst q
    have e1 : lf' b = v := by clear hb1; omega
    refine ⟨by clear hb1; omega, Or.inr (Or.inr ⟨mv, hm, ho, ?_⟩)⟩
    have := dn (nx (16 * b + mv)).toNat
    omega
  · have e1 : lf' b = lf b := by clear hb1; omega
    rw [e1]
    refine ⟨hb1.1, ?_⟩
    rcases hb1.2 with k | k | ⟨mv', k1, k2, k3⟩
    · exact Or.inl k
    · exact Or.inr (Or.inl k)
    · refine Or.inr (Or.inr ⟨mv', k1, k2, ?_⟩)
      have := dn (nx (16 * b + mv')).toNat
      omega
noncomputable def zIn (x1 : Int) (N : Nat) (nx sf ch lf0 lf : Nat → Int) (x3 : Int) (Q : Prop) : Prop := LI x1 N nx sf ch lf ∧ ((x3 = 0 ∧ lf = lf0 ∧ Q) ∨ (x3 = 1 ∧ zsum lf N < zsum lf0 N))

theorem z_fl213 (x1 : Int) (b1 : 0 ≤ x1 ∧ x1 ≤ 2) (n N : Nat) (law brk val sum nS : Int) (set rest wei st tb nx costs sm ta sf ch : Nat → Int) (row : Nat → Int) (hN : N ≤ 6720) (hX : NX n N row st nx (16 * N)) (hsf : ∀ i, i < N → sf i = 0 ∨ sf i = 1) (hch : zCr ch N) (lf0 : Nat → Int) (k191 : (Int → Int → Int → Int → Int → Int → Int → (Nat → Int) → (Nat → Int) → (Nat → Int) → (Nat → Int) → (Nat → Int) → (Nat → Int) → (Nat → Int) → (Nat → Int) → (Nat → Int) → (Nat → Int) → (Nat → Int) → (Nat → Int) → Option (Int × Int × Int × Int × Int × (Nat → Int) × (Nat → Int) × (Nat → Int) × (Nat → Int) × (Nat → Int) × (Nat → Int) × (Nat → Int) × (Nat → Int) × (Nat → Int) × (Nat → Int) × (Nat → Int) × (Nat → Int)))) (k205 : (Int → Int → Int → Int → Int → Int → Int → Int → (Nat → Int) → (Nat → Int) → (Nat → Int) → (Nat → Int) → (Nat → Int) → (Nat → Int) → (Nat → Int) → (Nat → Int) → (Nat → Int) → (Nat → Int) → (Nat → Int) → (Nat → Int) → Option (Int × Int × Int × Int × Int × (Nat → Int) × (Nat → Int) × (Nat → Int) × (Nat → Int) × (Nat → Int) × (Nat → Int) × (Nat → Int) × (Nat → Int) × (Nat → Int) × (Nat → Int) × (Nat → Int) × (Nat → Int)))) (P : (Int × Int × Int × Int × Int × (Nat → Int) × (Nat → Int) × (Nat → Int) × (Nat → Int) × (Nat → Int) × (Nat → Int) × (Nat → Int) × (Nat → Int) × (Nat → Int) × (Nat → Int) × (Nat → Int) × (Nat → Int)) → Prop) (a : Nat) (ha : a < N) (Q : Prop)
  (hk : ∀ (x3 : Int) (lf : Nat → Int), zIn x1 N nx sf ch lf0 lf x3 (Q ∧ ∀ mv, mv < 16 → zSt x1 nx sf ch lf0 a mv) → zok (k205 x1 x3 ((a : Int) + (-1)) law brk val sum nS set rest wei st tb nx lf costs sm ta sf ch) P) :
  ∀ (m mv : Nat) (x3 x4 x5 : Int) (lf : Nat → Int), x4 = (a : Int) → x5 = (mv : Int) → mv ≤ 16 → zIn x1 N nx sf ch lf0 lf x3 (Q ∧ ∀ mv', mv' < mv → zSt x1 nx sf ch lf0 a mv') → 17 - mv ≤ m → zok (f_HM_findLeft_213 row k191 k205 m x1 x3 x4 x5 law brk val sum nS set rest wei st tb nx lf costs sm ta sf ch) P := by
  intro m
  induction m with
  | zero => intro mv x3 x4 x5 lf e4 e5 hm hI hme; exact absurd hme (by omega)
  | succ m ih =>
    intro mv x3 x4 x5 lf e4 e5 hm hI hme
    show zok (f_HM_findLeft_213_b row k191 k205 (f_HM_findLeft_213 row k191 k205 m) x1 x3 x4 x5 law brk val sum nS set rest wei st tb nx lf costs sm ta sf ch) P
    unfold f_HM_findLeft_213_b
    refine zk_ifc (zci_le (by omega) (by omega)) (fun hc1 => ?_) (fun hc1 => ?_)
    · refine zk_nE (fun v1 q1 => ?_)
      have : mv = 16 := by omega
      subst this
      rw [q1, e4]
      exact hk x3 lf hI
    · have la := (hI.1 a ha).1
      have e16 : (16 * (a : Int) + (mv : Int)).toNat = 16 * a + mv := by omega
      have go : ∀ v : Int, -9223372036854775808 ≤ v ∧ v ≤ 9223372036854775807 → (v < lf a → zOp x1 nx sf a mv ∧ (0 ≤ nx (16 * a + mv) ∧ nx (16 * a + mv) < (N : Int)) ∧ v = ch (16 * a + mv) + lf (nx (16 * a + mv)).toNat) → (zOp x1 nx sf a mv → v = ch (16 * a + mv) + lf (nx (16 * a + mv)).toNat) → zok (f_HM_findLeft_270 row k191 k205 (f_HM_findLeft_213 row k191 k205 m) x1 x3 x4 x5 v law brk val sum nS set rest wei st tb nx lf costs sm ta sf ch) P := by
        intro v hv g1 g2
        unfold f_HM_findLeft_270
        refine zk_gl a (by omega) (by omega) (by decide) (fun v1 q1 => ?_)
        refine zk_ifc (zcl_le (by omega) (by omega)) (fun hc2 => ?_) (fun hc2 => ?_)
        · unfold f_HM_findLeft_296
          refine zk_nE (fun w hw => ?_)
          refine ih (mv + 1) x3 x4 w lf e4 (by omega) (by omega) ⟨hI.1, ?_⟩ (by omega)
          rcases hI.2 with ⟨k1, k2, k3, k4⟩ | k
          · refine Or.inl ⟨k1, k2, k3, fun mv' hm' => ?_⟩
            by_cases q : mv' = mv
            · subst q
              intro ho
              have := g2 ho
              rw [← k2]
              omega
            · exact k4 mv' (by omega)
          · exact Or.inr k
        · obtain ⟨o1, o2, o3⟩ := g1 (by omega)
          refine zk_sl a (by omega) (by omega) (by decide) (fun a2 q2 => ?_)
          unfold f_HM_findLeft_296
          refine zk_nE (fun w hw => ?_)
          refine ih (mv + 1) 1 x4 w a2 e4 (by omega) (by omega) ⟨LI_up hI.1 hch ha (by omega) o1 o2 o3 (by omega) q2, Or.inr ⟨rfl, ?_⟩⟩ (by omega)
          have hs := zsum_zu (f := lf) (a := a) (v := v) N
          rw [if_pos ha, ← q2] at hs
          rcases hI.2 with ⟨k1, k2, k3, k4⟩ | k
          · rw [← k2]; omega
          · have := k.2; omega
      have hx := hX (16 * a + mv) (by omega)
      refine zk_d1 (zok_self (z_isOpen hX hN x1 x4 x5 b1 a e4 ha (by omega) hsf)) (fun v2 p2 => ?_)
      obtain ⟨p21, p22⟩ := p2
      rw [e4, e5, e16] at p22
      rw [e4, e5] at p21
      refine zk_ifc (zci_eqr (by omega)) (fun hc2 => ?_) (fun hc2 => ?_)
      · refine go 1000000000000000 (by decide) (fun h => absurd h (by omega)) (fun ho => ?_)
        have := ho.1
        rw [p21] at this
        have := Option.some.inj this
        omega
      · have hne : nx (16 * a + mv) ≠ -1 := by
          rcases p22 with p | p
          · exact absurd p hc2
          · exact p.2
        have hnx : 0 ≤ nx (16 * a + mv) ∧ nx (16 * a + mv) < (N : Int) := by
          rcases hx with hx | hx
          · exact absurd hx hne
          · exact hx.1
        have hv2 : v2 = 1 := by
          rcases p22 with p | p
          · exact absurd p hc2
          · exact p.1
        have c1 := hch (16 * a + mv) (by omega)
        have ln := (hI.1 (nx (16 * a + mv)).toNat (by omega)).1
        clear hx p22
        refine zk_nE (fun v3 q3 => ?_)
        refine zk_nE (fun v4 q4 => ?_)
        refine zk_gl (16 * a + mv) (by omega) (by omega) (by decide) (fun v5 q5 => ?_)
        refine zk_nE (fun v6 q6 => ?_)
        refine zk_nE (fun v7 q7 => ?_)
        refine zk_gl (16 * a + mv) (by omega) (by omega) (by decide) (fun v8 q8 => ?_)
        refine zk_gl (nx (16 * a + mv)).toNat (by omega) (by omega) (by decide) (fun v9 q9 => ?_)
        refine zk_nE (fun v10 q10 => ?_)
        have e10 : v10 = ch (16 * a + mv) + lf (nx (16 * a + mv)).toNat := by omega
        exact go v10 (by omega) (fun _ => ⟨⟨by rw [p21, hv2], hne⟩, hnx, e10⟩) (fun _ => e10)
theorem z_fl205 (x1 : Int) (b1 : 0 ≤ x1 ∧ x1 ≤ 2) (n N : Nat) (law brk val sum nS : Int) (set rest wei st tb nx costs sm ta sf ch : Nat → Int) (row : Nat → Int) (hN : N ≤ 6720) (hX : NX n N row st nx (16 * N)) (hsf : ∀ i, i < N → sf i = 0 ∨ sf i = 1) (hch : zCr ch N) (lf0 : Nat → Int) (k191 : (Int → Int → Int → Int → Int → Int → Int → (Nat → Int) → (Nat → Int) → (Nat → Int) → (Nat → Int) → (Nat → Int) → (Nat → Int) → (Nat → Int) → (Nat → Int) → (Nat → Int) → (Nat → Int) → (Nat → Int) → (Nat → Int) → Option (Int × Int × Int × Int × Int × (Nat → Int) × (Nat → Int) × (Nat → Int) × (Nat → Int) × (Nat → Int) × (Nat → Int) × (Nat → Int) × (Nat → Int) × (Nat → Int) × (Nat → Int) × (Nat → Int) × (Nat → Int)))) (P : (Int × Int × Int × Int × Int × (Nat → Int) × (Nat → Int) × (Nat → Int) × (Nat → Int) × (Nat → Int) × (Nat → Int) × (Nat → Int) × (Nat → Int) × (Nat → Int) × (Nat → Int) × (Nat → Int) × (Nat → Int)) → Prop)
  (hk : ∀ (x3 : Int) (lf : Nat → Int), zIn x1 N nx sf ch lf0 lf x3 (∀ a mv, a < N → mv < 16 → zSt x1 nx sf ch lf0 a mv) → zok (k191 x1 x3 law brk val sum nS set rest wei st tb nx lf costs sm ta sf ch) P) :
  ∀ (m d : Nat) (x3 x4 : Int) (lf : Nat → Int), x4 = (d : Int) - 1 → d ≤ N → zIn x1 N nx sf ch lf0 lf x3 (∀ a mv, d ≤ a → a < N → mv < 16 → zSt x1 nx sf ch lf0 a mv) → d + 1 ≤ m → zok (f_HM_findLeft_205 row k191 m x1 x3 x4 law brk val sum nS set rest wei st tb nx lf costs sm ta sf ch) P := by
  intro m
  induction m with
  | zero => intro d x3 x4 lf e4 hd hI hme; exact absurd hme (by omega)
  | succ m ih =>
    intro d x3 x4 lf e4 hd hI hme
    show zok (f_HM_findLeft_205_b row k191 (f_HM_findLeft_205 row k191 m) x1 x3 x4 law brk val sum nS set rest wei st tb nx lf costs sm ta sf ch) P
    unfold f_HM_findLeft_205_b
    refine zk_ifc (zci_ltr (by omega)) (fun hc1 => ?_) (fun hc1 => ?_)
    · refine hk x3 lf ⟨hI.1, ?_⟩
      rcases hI.2 with ⟨k1, k2, k3⟩ | k
      · exact Or.inl ⟨k1, k2, fun a mv ha hm => k3 a mv (by omega) ha hm⟩
      · exact Or.inr k
    · refine z_fl213 x1 b1 n N law brk val sum nS set rest wei st tb nx costs sm ta sf ch row hN hX hsf hch lf0 k191 _ P (d - 1) (by omega) (∀ a mv, d ≤ a → a < N → mv < 16 → zSt x1 nx sf ch lf0 a mv) (fun x3' lf' hI' => ?_) zfu 0 x3 x4 0 lf (by omega) rfl (by omega) ⟨hI.1, ?_⟩ (by unfold zfu; omega)
      · refine ih (d - 1) x3' _ lf' (by omega) (by omega) ⟨hI'.1, ?_⟩ (by omega)
        rcases hI'.2 with ⟨k1, k2, k3, k4⟩ | k
        · refine Or.inl ⟨k1, k2, fun a mv ha1 ha2 hm => ?_⟩
          by_cases q : a = d - 1
          · rw [q]; exact k4 mv hm
          · exact k3 a mv (by omega) ha2 hm
        · exact Or.inr k
      · rcases hI.2 with ⟨k1, k2, k3⟩ | k
        · exact Or.inl ⟨k1, k2, k3, fun mv' hm' => absurd hm' (Nat.not_lt_zero mv')⟩
        · exact Or.inr k
theorem z_fl191 (x1 : Int) (b1 : 0 ≤ x1 ∧ x1 ≤ 2) (n N : Nat) (law brk val sum nS : Int) (set rest wei st tb nx costs sm ta sf ch : Nat → Int) (row : Nat → Int) (hN : N ≤ 6720) (hX : NX n N row st nx (16 * N)) (hsf : ∀ i, i < N → sf i = 0 ∨ sf i = 1) (hch : zCr ch N) (eN : nS = (N : Int)) : ∀ (m : Nat) (x3 : Int) (lf : Nat → Int), LI x1 N nx sf ch lf → (x3 = 1 ∨ (x3 = 0 ∧ ∀ a mv, a < N → mv < 16 → zSt x1 nx sf ch lf a mv)) → zsum lf N + 2 ≤ (m : Int) + (1 - x3) → zok (f_HM_findLeft_191 row m x1 x3 law brk val sum nS set rest wei st tb nx lf costs sm ta sf ch) (fun o => ∃ lf' : Nat → Int, o = (law, brk, val, sum, nS, set, rest, wei, st, tb, nx, lf', costs, sm, ta, sf, ch) ∧ LI x1 N nx sf ch lf' ∧ ∀ a mv, a < N → mv < 16 → zSt x1 nx sf ch lf' a mv) := by
  intro m
  induction m with
  | zero =>
    intro x3 lf hI h3 hm
    have := (zsum_b N (fun a ha => (hI a ha).1)).1
    exact absurd hm (by omega)
  | succ m ih =>
    intro x3 lf hI h3 hm
    have hs := (zsum_b N (fun a ha => (hI a ha).1)).1
    show zok (f_HM_findLeft_191_b row (f_HM_findLeft_191 row m) x1 x3 law brk val sum nS set rest wei st tb nx lf costs sm ta sf ch) _
    unfold f_HM_findLeft_191_b
    refine zk_ifc (zci_eqr (by omega)) (fun hc1 => ?_) (fun hc1 => ?_)
    · rcases h3 with h3 | h3
      · exact absurd h3 (by omega)
      · exact zk_ret ⟨lf, rfl, hI, h3.2⟩
    · refine zk_nE (fun v1 q1 => ?_)
      refine z_fl205 x1 b1 n N law brk val sum nS set rest wei st tb nx costs sm ta sf ch row hN hX hsf hch lf _ _ (fun x3' lf' hI' => ?_) zfu N 0 v1 lf (by omega) (Nat.le_refl _) ⟨hI, Or.inl ⟨rfl, rfl, fun a mv h1 h2 _ => absurd h1 (by omega)⟩⟩ (by unfold zfu; omega)
      rcases hI'.2 with ⟨k1, k2, k3⟩ | k
      · subst k2
        exact ih x3' lf' hI'.1 (Or.inr ⟨k1, k3⟩) (by omega)
      · exact ih x3' lf' hI'.1 (Or.inl k.1) (by have := k.2; omega)
end
section
noncomputable def zCh (x1 : Int) (n : Nat) (row st costs : Nat → Int) (v : Int) (j : Nat) : Prop := v = 1000000000000000 ∨ ((1 ≤ v ∧ v ≤ 990001) ∧ ∃ k : Int, (0 ≤ k ∧ k < row 1) ∧ ∀ s t : Nat → Int, zSm n s t → zcode (zdig s t) = st (j / 16) → v = zWp x1 ((j % 16 : Nat) : Int) k costs s t)
theorem z_priceA {n N : Nat} {row st tb nx costs : Nat → Int} (h0 : RI row) (hn : n ≤ 5) (hC : zR costs (-1) 99) (hT : TI n N st tb) (hX : NX n N row st nx (16 * N)) (x1 x2 x3 x4 x5 : Int) (b1 : 0 ≤ x1 ∧ x1 ≤ 2) (a mv : Nat) (e2 : x2 = (a : Int)) (ha : a < N) (e3 : x3 = (mv : Int)) (hm : mv < 16) (b4 : 0 ≤ x4 ∧ x4 < row 1) (e5 : x5 = (n : Int)) (hne : nx (16 * a + mv) ≠ -1) (sm ta : Nat → Int) : zok (f_HM_price x1 x2 x3 x4 x5 st costs sm ta) (fun o => (o.1 = 1000000000000000 ∨ (1 ≤ o.1 ∧ o.1 ≤ 990001)) ∧ ∀ s t : Nat → Int, zSm n s t → zcode (zdig s t) = st a → o.1 = zWp x1 x3 x4 costs s t) := by
  have hN := TI_N hn hT
  have hx : ∀ s t : Nat → Int, zSm n s t → zcode (zdig s t) = st a → zMv row t x3 := by
    rcases hX (16 * a + mv) (by omega) with hx | hx
    · exact absurd hx hne
    · have e1 : (16 * a + mv) / 16 = a := by omega
      have e4 : (((16 * a + mv) % 16 : Nat) : Int) = x3 := by omega
      rw [e1, e4] at hx
      exact hx.2
  obtain ⟨l, hl, el⟩ := hT.1 a ha
  obtain ⟨o, _, o2, o3⟩ := z_openSmall hn hl (zcode l) (n : Int) rfl rfl (fun _ => 0) (fun _ => 0)
  have hcd : zcode (zdig o.1 o.2) = st a := by rw [o2, el]
  obtain ⟨p, p1, p2⟩ := z_price h0 hn hC x1 x2 x3 x4 x5 b1 a e2 (by omega) b4 e5 o.1 o.2 o3 hcd (hx _ _ o3 hcd) sm ta
  refine ⟨p, p1, ?_, fun s t g1 g2 => ?_⟩
  · rw [p2]
    exact zWp_r x1 x3 x4 hC o.1 o.2
  · obtain ⟨p', q1, q2⟩ := z_price h0 hn hC x1 x2 x3 x4 x5 b1 a e2 (by omega) b4 e5 s t g1 g2 (hx _ _ g1 g2) sm ta
    rw [p1] at q1
    have := Option.some.inj q1
    rw [this]
    exact q2

theorem z_fl84 (x1 x2 : Int) (b1 : 0 ≤ x1 ∧ x1 ≤ 2) (n N : Nat) (hn : n ≤ 5) (e2 : x2 = (n : Int)) (law brk val sum nS : Int) (set rest wei st tb nx costs : Nat → Int) (row : Nat → Int) (h0 : RI row) (hC : zR costs (-1) 99) (hT : TI n N st tb) (hX : NX n N row st nx (16 * N)) (lf sf : Nat → Int) (k7 : (Int → Int → Int → Int → Int → Int → Int → Int → (Nat → Int) → (Nat → Int) → (Nat → Int) → (Nat → Int) → (Nat → Int) → (Nat → Int) → (Nat → Int) → (Nat → Int) → (Nat → Int) → (Nat → Int) → (Nat → Int) → (Nat → Int) → Option (Int × Int × Int × Int × Int × (Nat → Int) × (Nat → Int) × (Nat → Int) × (Nat → Int) × (Nat → Int) × (Nat → Int) × (Nat → Int) × (Nat → Int) × (Nat → Int) × (Nat → Int) × (Nat → Int) × (Nat → Int)))) (k59 : (Int → Int → Int → Int → Int → Int → Int → Int → Int → (Nat → Int) → (Nat → Int) → (Nat → Int) → (Nat → Int) → (Nat → Int) → (Nat → Int) → (Nat → Int) → (Nat → Int) → (Nat → Int) → (Nat → Int) → (Nat → Int) → (Nat → Int) → Option (Int × Int × Int × Int × Int × (Nat → Int) × (Nat → Int) × (Nat → Int) × (Nat → Int) × (Nat → Int) × (Nat → Int) × (Nat → Int) × (Nat → Int) × (Nat → Int) × (Nat → Int) × (Nat → Int) × (Nat → Int)))) (P : (Int × Int × Int × Int × Int × (Nat → Int) × (Nat → Int) × (Nat → Int) × (Nat → Int) × (Nat → Int) × (Nat → Int) × (Nat → Int) × (Nat → Int) × (Nat → Int) × (Nat → Int) × (Nat → Int) × (Nat → Int)) → Prop) (a mv : Nat) (ha : a < N) (hm : mv < 16)
  (hk : ∀ (sm ta ch : Nat → Int), (∀ j, j < 16 * a + (mv + 1) → zCh x1 n row st costs (ch j) j) → zok (k59 x1 x2 (a : Int) ((mv : Int) + 1) law brk val sum nS set rest wei st tb nx lf costs sm ta sf ch) P) :
  ∀ (m : Nat) (x3 x4 x5 : Int) (sm ta ch : Nat → Int), x3 = (a : Int) → x4 = (mv : Int) → (0 ≤ x5 ∧ x5 ≤ row 1) → (∀ j, j < 16 * a + (mv + 1) → zCh x1 n row st costs (ch j) j) → row 1 - x5 + 1 ≤ (m : Int) → zok (f_HM_findLeft_84 row k7 k59 m x1 x2 x3 x4 x5 law brk val sum nS set rest wei st tb nx lf costs sm ta sf ch) P := by
  have r1 := RI_1 h0
  have hN := TI_N hn hT
  intro m
  induction m with
  | zero => intro x3 x4 x5 sm ta ch e3 e4 h5 hI hme; exact absurd hme (by omega)
  | succ m ih =>
    intro x3 x4 x5 sm ta ch e3 e4 h5 hI hme
    show zok (f_HM_findLeft_84_b row k7 k59 (f_HM_findLeft_84 row k7 k59 m) x1 x2 x3 x4 x5 law brk val sum nS set rest wei st tb nx lf costs sm ta sf ch) P
    have fin : zok (f_HM_findLeft_177 row k7 k59 x1 x2 x3 x4 law brk val sum nS set rest wei st tb nx lf costs sm ta sf ch) P := by
      unfold f_HM_findLeft_177
      refine zk_nE (fun w hw => ?_)
      rw [hw, e3, e4]
      exact hk sm ta ch hI
    unfold f_HM_findLeft_84_b
    refine zk_gl 1 rfl (by decide) (by decide) (fun v1 q1 => ?_)
    refine zk_ifc (zci_le (by omega) (by omega)) (fun hc1 => ?_) (fun hc1 => ?_)
    · exact fin
    · refine zk_nE (fun v2 q2 => ?_)
      refine zk_nE (fun v3 q3 => ?_)
      refine zk_gl (16 * a + mv) (by omega) (by omega) (by decide) (fun v4 q4 => ?_)
      have hr : -1 ≤ v4 ∧ v4 < 6720 := by
        rw [q4]
        rcases hX (16 * a + mv) (by omega) with k | k
        · rw [k]; decide
        · have := k.1; omega
      refine zk_ifc (zci_eq (by omega) (by omega)) (fun hc2 => ?_) (fun hc2 => ?_)
      · exact fin
      · refine zk_d3 (z_priceA h0 hn hC hT hX x1 x3 x4 x5 x2 b1 a mv e3 ha e4 hm (by omega) e2 (by omega) sm ta) (fun v5 a6 a7 p5 => ?_)
        obtain ⟨p51, p52⟩ := p5
        dsimp only at p51 p52
        have hcj := hI (16 * a + mv) (by omega)
        have hcr : 1 ≤ ch (16 * a + mv) ∧ ch (16 * a + mv) ≤ 1000000000000000 := by
          rcases hcj with k | k
          · rw [k]; decide
          · have := k.1; omega
        have go : ∀ (s1 w : Int), s1 = 16 * (a : Int) + (mv : Int) → zCh x1 n row st costs w (16 * a + mv) → zok (f_HM_findLeft_170 row k7 k59 (f_HM_findLeft_84 row k7 k59 m) x1 x2 x3 x4 x5 s1 w law brk val sum nS set rest wei st tb nx lf costs a6 a7 sf ch) P := by
          intro s1 w g0 g1
          unfold f_HM_findLeft_170
          refine zk_sl (16 * a + mv) (by omega) (by omega) (by decide) (fun c1 q6 => ?_)
          have r6 := zu_rd q6
          refine zk_nE (fun w2 hw2 => ?_)
          refine ih x3 x4 w2 a6 a7 c1 e3 e4 (by omega) (fun j hj => ?_) (by omega)
          by_cases q : j = 16 * a + mv
          · have e : c1 j = w := by have := r6 j; omega
            rw [e, q]
            exact g1
          · have e : c1 j = ch j := by have := r6 j; omega
            rw [e]
            exact hI j hj
        refine zk_nE (fun v8 q8 => ?_)
        refine zk_nE (fun v9 q9 => ?_)
        refine zk_nE (fun v10 q10 => ?_)
        refine zk_nE (fun v11 q11 => ?_)
        refine zk_gl (16 * a + mv) (by omega) (by omega) (by decide) (fun v12 q12 => ?_)
        refine zk_ifc (zcl_le (by omega) (by omega)) (fun hc3 => ?_) (fun hc3 => ?_)
        · refine zk_nE (fun v13 q13 => ?_)
          refine zk_nE (fun v14 q14 => ?_)
          refine zk_gl (16 * a + mv) (by omega) (by omega) (by decide) (fun v15 q15 => ?_)
          exact go v9 v15 (by omega) (by rw [q15]; exact hcj)
        · refine go v9 v5 (by omega) ?_
          rcases p51 with k | k
          · exact Or.inl k
          · refine Or.inr ⟨k, x5, by omega, fun s t g1 g2 => ?_⟩
            have ea : (16 * a + mv) / 16 = a := by omega
            have em : (((16 * a + mv) % 16 : Nat) : Int) = x4 := by omega
            rw [ea] at g2
            rw [em]
            exact p52 s t g1 g2
theorem z_fl59 (x1 x2 : Int) (b1 : 0 ≤ x1 ∧ x1 ≤ 2) (n N : Nat) (hn : n ≤ 5) (e2 : x2 = (n : Int)) (law brk val sum nS : Int) (set rest wei st tb nx costs : Nat → Int) (row : Nat → Int) (h0 : RI row) (hC : zR costs (-1) 99) (hT : TI n N st tb) (hX : NX n N row st nx (16 * N)) (lf sf : Nat → Int) (k7 : (Int → Int → Int → Int → Int → Int → Int → Int → (Nat → Int) → (Nat → Int) → (Nat → Int) → (Nat → Int) → (Nat → Int) → (Nat → Int) → (Nat → Int) → (Nat → Int) → (Nat → Int) → (Nat → Int) → (Nat → Int) → (Nat → Int) → Option (Int × Int × Int × Int × Int × (Nat → Int) × (Nat → Int) × (Nat → Int) × (Nat → Int) × (Nat → Int) × (Nat → Int) × (Nat → Int) × (Nat → Int) × (Nat → Int) × (Nat → Int) × (Nat → Int) × (Nat → Int)))) (P : (Int × Int × Int × Int × Int × (Nat → Int) × (Nat → Int) × (Nat → Int) × (Nat → Int) × (Nat → Int) × (Nat → Int) × (Nat → Int) × (Nat → Int) × (Nat → Int) × (Nat → Int) × (Nat → Int) × (Nat → Int)) → Prop) (a : Nat) (ha : a < N)
  (hk : ∀ (sm ta ch : Nat → Int), (∀ j, j < 16 * (a + 1) → zCh x1 n row st costs (ch j) j) → zok (k7 x1 x2 ((a : Int) + 1) law brk val sum nS set rest wei st tb nx lf costs sm ta sf ch) P) :
  ∀ (m mv : Nat) (x3 x4 : Int) (sm ta ch : Nat → Int), x3 = (a : Int) → x4 = (mv : Int) → mv ≤ 16 → (∀ j, j < 16 * a + mv → zCh x1 n row st costs (ch j) j) → 17 - mv ≤ m → zok (f_HM_findLeft_59 row k7 m x1 x2 x3 x4 law brk val sum nS set rest wei st tb nx lf costs sm ta sf ch) P := by
  have r1 := RI_1 h0
  have hN := TI_N hn hT
  intro m
  induction m with
  | zero => intro mv x3 x4 sm ta ch e3 e4 hm hI hme; exact absurd hme (by omega)
  | succ m ih =>
    intro mv x3 x4 sm ta ch e3 e4 hm hI hme
    show zok (f_HM_findLeft_59_b row k7 (f_HM_findLeft_59 row k7 m) x1 x2 x3 x4 law brk val sum nS set rest wei st tb nx lf costs sm ta sf ch) P
    unfold f_HM_findLeft_59_b
    refine zk_ifc (zci_le (by omega) (by omega)) (fun hc1 => ?_) (fun hc1 => ?_)
    · refine zk_nE (fun v1 q1 => ?_)
      rw [q1, e3]
      exact hk sm ta ch (fun j hj => hI j (by omega))
    · refine zk_nE (fun v2 q2 => ?_)
      refine zk_nE (fun v3 q3 => ?_)
      refine zk_sl (16 * a + mv) (by omega) (by omega) (by decide) (fun c1 q4 => ?_)
      have r4 := zu_rd q4
      refine z_fl84 x1 x2 b1 n N hn e2 law brk val sum nS set rest wei st tb nx costs row h0 hC hT hX lf sf k7 _ P a mv ha (by omega) (fun sm' ta' ch' g1 => ih (mv + 1) _ _ sm' ta' ch' rfl (by omega) (by omega) (fun j hj => g1 j (by omega)) (by omega)) zfu x3 x4 0 sm ta c1 e3 e4 (by omega) (fun j hj => ?_) (by unfold zfu; omega)
      by_cases q : j = 16 * a + mv
      · have e : c1 j = 1000000000000000 := by have := r4 j; omega
        exact Or.inl e
      · have e : c1 j = ch j := by have := r4 j; omega
        rw [e]
        exact hI j (by omega)

noncomputable def zFL (x1 : Int) (n : Nat) (row : Nat → Int) (o : (Int × Int × Int × Int × Int × (Nat → Int) × (Nat → Int) × (Nat → Int) × (Nat → Int) × (Nat → Int) × (Nat → Int) × (Nat → Int) × (Nat → Int) × (Nat → Int) × (Nat → Int) × (Nat → Int) × (Nat → Int))) : Prop := ∃ N : Nat, (1 ≤ N ∧ N ≤ 6720) ∧ o.2.2.2.2.1 = (N : Int) ∧ TI n N o.2.2.2.2.2.2.2.2.1 o.2.2.2.2.2.2.2.2.2.1 ∧ NX n N row o.2.2.2.2.2.2.2.2.1 o.2.2.2.2.2.2.2.2.2.2.1 (16 * N) ∧ zR o.2.2.2.2.2.2.2.2.2.2.2.2.1 (-1) 99 ∧ zR o.2.2.2.2.2.2.2.1 0 30 ∧ (∀ i, i < N → o.2.2.2.2.2.2.2.2.2.2.2.2.2.2.2.1 i = 0 ∨ o.2.2.2.2.2.2.2.2.2.2.2.2.2.2.2.1 i = 1) ∧ (∀ a, a < N → 0 ≤ o.2.2.2.2.2.2.2.2.2.2.2.1 a ∧ o.2.2.2.2.2.2.2.2.2.2.2.1 a ≤ 1000000000000000) ∧ ∀ a, a < N → 0 < o.2.2.2.2.2.2.2.2.2.2.2.1 a → o.2.2.2.2.2.2.2.2.2.2.2.1 a < 1000000000000000 → ∃ mv k : Nat, mv < 16 ∧ (k : Int) < row 1 ∧ zOp x1 o.2.2.2.2.2.2.2.2.2.2.1 o.2.2.2.2.2.2.2.2.2.2.2.2.2.2.2.1 a mv ∧ ∀ s t : Nat → Int, zSm n s t → zcode (zdig s t) = o.2.2.2.2.2.2.2.2.1 a → zWp x1 (mv : Int) (k : Int) o.2.2.2.2.2.2.2.2.2.2.2.2.1 s t + o.2.2.2.2.2.2.2.2.2.2.2.1 (o.2.2.2.2.2.2.2.2.2.2.1 (16 * a + mv)).toNat = o.2.2.2.2.2.2.2.2.2.2.2.1 a
theorem z_fl7 (x1 x2 : Int) (b1 : 0 ≤ x1 ∧ x1 ≤ 2) (n N : Nat) (hn : n ≤ 5) (e2 : x2 = (n : Int)) (law brk val sum nS : Int) (set rest wei st tb nx costs : Nat → Int) (row : Nat → Int) (h0 : RI row) (hC : zR costs (-1) 99) (hT : TI n N st tb) (hX : NX n N row st nx (16 * N)) (h4 : row 0 ≤ 4) (hW : zR wei 0 30) (eN : nS = (N : Int)) (hN1 : 1 ≤ N) : ∀ (m a : Nat) (x3 : Int) (lf sm ta sf ch : Nat → Int), x3 = (a : Int) → a ≤ N → (∀ i, i < a → lf i = 0 ∨ lf i = 1000000000000000) → (∀ i, i < a → sf i = 0 ∨ sf i = 1) → (∀ j, j < 16 * a → zCh x1 n row st costs (ch j) j) → N + 1 - a ≤ m → zok (f_HM_findLeft_7 row m x1 x2 x3 law brk val sum nS set rest wei st tb nx lf costs sm ta sf ch) (zFL x1 n row) := by
  have r1 := RI_1 h0
  have hN := TI_N hn hT
  intro m
  induction m with
  | zero => intro a x3 lf sm ta sf ch e3 ha hL hS hI hme; exact absurd hme (by omega)
  | succ m ih =>
    intro a x3 lf sm ta sf ch e3 ha hL hS hI hme
    show zok (f_HM_findLeft_7_b row (f_HM_findLeft_7 row m) x1 x2 x3 law brk val sum nS set rest wei st tb nx lf costs sm ta sf ch) _
    unfold f_HM_findLeft_7_b
    refine zk_ifc (zci_le (by omega) (by omega)) (fun hc1 => ?_) (fun hc1 => ?_)
    · have : a = N := by omega
      subst this
      have hcr : zCr ch a := by
        intro j hj
        rcases hI j hj with k | k
        · rw [k]; decide
        · have := k.1; omega
      have hLI : LI x1 a nx sf ch lf := by
        intro i hi
        rcases hL i hi with k | k
        · rw [k]; exact ⟨by decide, Or.inl rfl⟩
        · rw [k]; exact ⟨by decide, Or.inr (Or.inl rfl)⟩
      have hsum := zsum_b a (fun i hi => (hLI i hi).1)
      refine zok_mono (z_fl191 x1 b1 n a law brk val sum nS set rest wei st tb nx costs sm ta sf ch row hN hX hS hcr eN zfu 1 lf hLI (Or.inl rfl) (by have : (a : Int) ≤ 6720 := (by omega); unfold zfu; omega)) (fun o ho => ?_)
      obtain ⟨lf', eo, g1, g2⟩ := ho
      subst eo
      refine ⟨a, ⟨hN1, hN⟩, eN, hT, hX, hC, hW, hS, fun i hi => (g1 i hi).1, fun i hi hp hf => ?_⟩
      dsimp only at hp hf ⊢
      rcases (g1 i hi).2 with k | k | ⟨mv, k1, k2, k3⟩
      · exact absurd k (by omega)
      · exact absurd k (by omega)
      · have st_ := g2 i mv hi k1 k2
        have hnx : 0 ≤ nx (16 * i + mv) ∧ nx (16 * i + mv) < (a : Int) := by
          rcases hX (16 * i + mv) (by omega) with k | k
          · exact absurd k k2.2
          · exact k.1
        have ln := (g1 (nx (16 * i + mv)).toNat (by omega)).1
        rcases hI (16 * i + mv) (by omega) with c | ⟨c1, kk, c2, c3⟩
        · rw [c] at k3; exact absurd k3 (by omega)
        · refine ⟨mv, kk.toNat, k1, by omega, k2, fun s t s1 s2 => ?_⟩
          have ea : (16 * i + mv) / 16 = i := by omega
          have em : (((16 * i + mv) % 16 : Nat) : Int) = (mv : Int) := by omega
          have ek : ((kk.toNat : Nat) : Int) = kk := by omega
          have c4 := c3 s t s1 (by rw [ea]; exact s2)
          rw [em] at c4
          rw [ek, ← c4]
          omega
    · have haN : a < N := by omega
      refine zk_gl a (by omega) (by omega) (by decide) (fun v1 q1 => ?_)
      obtain ⟨l, hl, el⟩ := hT.1 a haN
      refine zk_d2 (z_openSmall hn hl v1 x2 (by omega) e2 sm ta) (fun a2 a3 p2 => ?_)
      obtain ⟨p21, p22⟩ := p2
      dsimp only at p21 p22
      have ht := fun c hc => zSm_c p22 (c := c) hc
      have go : ∀ w : Int, (w = 0 ∨ w = 1000000000000000) → zok (f_HM_findLeft_45 row (f_HM_findLeft_7 row m) x1 x2 x3 x3 w law brk val sum nS set rest wei st tb nx lf costs a2 a3 sf ch) (zFL x1 n row) := by
        intro w hw
        unfold f_HM_findLeft_45
        refine zk_sl a (by omega) (by omega) (by decide) (fun b1' q2 => ?_)
        have r2 := zu_rd q2
        refine zk_d1 (z_isSafe h0 h4 ht) (fun v2 p3 => ?_)
        refine zk_gb p3 ?_
        refine zk_sl a (by omega) (by omega) (by decide) (fun b3 q3 => ?_)
        have r3 := zu_rd q3
        refine z_fl59 x1 x2 b1 n N hn e2 law brk val sum nS set rest wei st tb nx costs row h0 hC hT hX b1' b3 _ _ a haN (fun sm' ta' ch' g1 => ?_) zfu 0 x3 0 a2 a3 ch e3 rfl (by decide) (fun j hj => hI j (by omega)) (by unfold zfu; omega)
        refine ih (a + 1) _ b1' sm' ta' b3 ch' (by omega) (by omega) (fun i hi => ?_) (fun i hi => ?_) g1 (by omega)
        · have := r2 i
          by_cases q : i = a
          · subst q; omega
          · have := hL i (by omega); omega
        · have := r3 i
          by_cases q : i = a
          · subst q; omega
          · have := hS i (by omega); omega
      refine zk_d1 (z_isGoal h0 h4 ht) (fun v4 p4 => ?_)
      refine zk_if (fun _ => ?_) (fun _ => ?_)
      · exact go _ (Or.inr rfl)
      · exact go _ (Or.inl rfl)
theorem z_findLeft {n : Nat} {row : Nat → Int} (h0 : RI row) (h4 : row 0 ≤ 4) (hn : n ≤ 5) (hs : zHs row 4 = (n : Int)) (x1 x2 : Int) (b1 : 0 ≤ x1 ∧ x1 ≤ 2) (e2 : x2 = (n : Int)) (law brk val sum nS : Int) (set rest wei st tb nx lf costs sm ta sf ch : Nat → Int) (hC : zR costs (-1) 99) (hW : zR wei 0 30) : zok (f_HM_findLeft x1 x2 row law brk val sum nS set rest wei st tb nx lf costs sm ta sf ch) (zFL x1 n row) := by
  unfold f_HM_findLeft
  refine zk_d14 (z_findStates h0 hn hs x2 e2 law brk val sum nS set rest wei st tb nx costs sm ta hC hW) (fun v1 v2 v3 v4 v5 a6 a7 a8 a9 a10 a11 a12 a13 a14 hq => ?_)
  obtain ⟨N, g1, g2, g3, g4, g5, g6⟩ := hq
  dsimp only at g2 g3 g4 g5 g6
  exact z_fl7 x1 x2 b1 n N hn e2 v1 v2 v3 v4 v5 a6 a7 a8 a9 a10 a11 a12 row h0 g5 g3 g4 h4 g6 g2 g1 zfu 0 0 lf a13 a14 sf ch rfl (Nat.zero_le _) (fun i hi => absurd hi (Nat.not_lt_zero i)) (fun i hi => absurd hi (Nat.not_lt_zero i)) (fun j hj => absurd hj (Nat.not_lt_zero j)) (by have := TI_N hn g3; unfold zfu; omega)
end
section
theorem z_fm3 {n N : Nat} {row st tb nx lf costs sf : Nat → Int} (h0 : RI row) (hn : n ≤ 5) (hC : zR costs (-1) 99) (hT : TI n N st tb) (hX : NX n N row st nx (16 * N)) (hsf : ∀ i, i < N → sf i = 0 ∨ sf i = 1) (hlf : ∀ a, a < N → 0 ≤ lf a ∧ lf a ≤ 1000000000000000) (x1 x3 : Int) (b1 : 0 ≤ x1 ∧ x1 ≤ 2) (e3 : x3 = (n : Int)) (a : Nat) (ha : a < N) (hF : lf a < 1000000000000000) (mv k : Nat) (hm : mv < 16) (hk6 : (k : Int) < row 1) (ho : zOp x1 nx sf a mv) (hw : ∀ s t : Nat → Int, zSm n s t → zcode (zdig s t) = st a → zWp x1 (mv : Int) (k : Int) costs s t + lf (nx (16 * a + mv)).toNat = lf a) : ∀ (m c : Nat) (x2 x4 : Int) (sm ta : Nat → Int), x2 = (a : Int) → x4 = (c : Int) → c ≤ 6 * mv + k → 6 * mv + k + 1 - c ≤ m → zok (f_HM_firstMove_3 row st nx lf costs sf m x1 x2 x3 x4 sm ta) (fun o => ∃ w : Nat, w < 16 ∧ (0 ≤ o.1 ∧ o.1 < 96) ∧ o.1 / 6 = (w : Int) ∧ (0 ≤ nx (16 * a + w) ∧ nx (16 * a + w) < (N : Int)) ∧ lf (nx (16 * a + w)).toNat < lf a) := by
  have r1 := RI_1 h0
  have hN := TI_N hn hT
  have la := hlf a ha
  obtain ⟨l, hl, el⟩ := hT.1 a ha
  obtain ⟨o0, _, o2, o3⟩ := z_openSmall hn hl (zcode l) (n : Int) rfl rfl (fun _ => 0) (fun _ => 0)
  have hcd : zcode (zdig o0.1 o0.2) = st a := by rw [o2, el]
  have hw0 := hw o0.1 o0.2 o3 hcd
  intro m
  induction m with
  | zero => intro c x2 x4 sm ta e2 e4 hc hme; exact absurd hme (by omega)
  | succ m ih =>
    intro c x2 x4 sm ta e2 e4 hc hme
    show zok (f_HM_firstMove_3_b row st nx lf costs sf (f_HM_firstMove_3 row st nx lf costs sf m) x1 x2 x3 x4 sm ta) _
    have go : ∀ (sm' ta' : Nat → Int), c ≠ 6 * mv + k → zok (f_HM_firstMove_99 row st nx lf costs sf (f_HM_firstMove_3 row st nx lf costs sf m) x1 x2 x3 x4 sm' ta') (fun o => ∃ w : Nat, w < 16 ∧ (0 ≤ o.1 ∧ o.1 < 96) ∧ o.1 / 6 = (w : Int) ∧ (0 ≤ nx (16 * a + w) ∧ nx (16 * a + w) < (N : Int)) ∧ lf (nx (16 * a + w)).toNat < lf a) := by
      intro sm' ta' hne
      unfold f_HM_firstMove_99
      refine zk_nE (fun w hw => ?_)
      exact ih (c + 1) x2 w sm' ta' e2 (by omega) (by omega) (by omega)
    unfold f_HM_firstMove_3_b
    refine zk_ifc (zci_le (by omega) (by omega)) (fun hc1 => ?_) (fun hc1 => ?_)
    · exact absurd hc1 (by omega)
    · refine zk_g0zi_w (by omega) ?_
      refine zk_nE (fun v1 q1 => ?_)
      rw [zi_div_n (by omega) (by omega)] at q1
      refine zk_g0zi_w (by omega) ?_
      refine zk_nE (fun v2 q2 => ?_)
      rw [zi_rem_n (by omega) (by omega)] at q2
      refine zk_gl 1 rfl (by decide) (by decide) (fun v3 q3 => ?_)
      have g46 : ∀ y : Int, c ≠ 6 * mv + k → zok (f_HM_firstMove_46 row st nx lf costs sf (f_HM_firstMove_3 row st nx lf costs sf m) x1 x2 x3 x4 y sm ta) (fun o => ∃ w : Nat, w < 16 ∧ (0 ≤ o.1 ∧ o.1 < 96) ∧ o.1 / 6 = (w : Int) ∧ (0 ≤ nx (16 * a + w) ∧ nx (16 * a + w) < (N : Int)) ∧ lf (nx (16 * a + w)).toNat < lf a) := by
        intro y hne
        unfold f_HM_firstMove_46 f_HM_firstMove_47
        refine zk_ifc (zci_eqr (by omega)) (fun _ => ?_) (fun hcc => absurd rfl hcc)
        exact go sm ta hne
      refine zk_ifc (zci_le (by omega) (by omega)) (fun hc2 => ?_) (fun hc2 => ?_)
      · exact g46 v1 (by omega)
      · obtain ⟨w, hw16, ew⟩ : ∃ w : Nat, w < 16 ∧ v1 = (w : Int) := ⟨v1.toNat, by omega, by omega⟩
        refine zk_d1 (zok_self (z_isOpen hX hN x1 x2 v1 b1 a e2 ha (by omega) hsf)) (fun v4 p4 => ?_)
        obtain ⟨p41, p42⟩ := p4
        have e16 : (16 * (a : Int) + (w : Int)).toNat = 16 * a + w := by omega
        rw [e2, ew] at p41
        rw [e2, ew, e16] at p42
        refine zk_ifc (zci_eqr (by omega)) (fun hc3 => ?_) (fun hc3 => ?_)
        · refine g46 v1 (fun hce => ?_)
          have : w = mv := by omega
          subst this
          have h1 := ho.1
          rw [p41] at h1
          have := Option.some.inj h1
          omega
        · have hne : nx (16 * a + w) ≠ -1 := by
            rcases p42 with p | p
            · exact absurd p hc3
            · exact p.2
          have hnx : 0 ≤ nx (16 * a + w) ∧ nx (16 * a + w) < (N : Int) := by
            rcases hX (16 * a + w) (by omega) with hx | hx
            · exact absurd hx hne
            · exact hx.1
          have ln := hlf (nx (16 * a + w)).toNat (by omega)
          unfold f_HM_firstMove_47
          refine zk_ifc (zci_eqr (by omega)) (fun hcc => absurd hcc (by decide)) (fun _ => ?_)
          refine zk_g0zi_w (by omega) ?_
          refine zk_nE (fun u1 s1 => ?_)
          rw [zi_rem_n (by omega) (by omega)] at s1
          refine zk_d3 (z_priceA h0 hn hC hT hX x1 x2 v1 u1 x3 b1 a w e2 ha ew hw16 (by omega) e3 hne sm ta) (fun u2 a3 a4 p5 => ?_)
          obtain ⟨p51, p52⟩ := p5
          dsimp only at p51 p52
          have pw := p52 o0.1 o0.2 o3 hcd
          refine zk_nE (fun u5 s5 => ?_)
          refine zk_nE (fun u6 s6 => ?_)
          refine zk_gl (16 * a + w) (by omega) (by omega) (by decide) (fun u7 s7 => ?_)
          refine zk_gl (nx (16 * a + w)).toNat (by omega) (by omega) (by decide) (fun u8 s8 => ?_)
          refine zk_nE (fun u9 s9 => ?_)
          refine zk_gl a (by omega) (by omega) (by decide) (fun u10 s10 => ?_)
          refine zk_ifc (zcl_ne (by omega) (by omega)) (fun hc4 => ?_) (fun hc4 => ?_)
          · refine go a3 a4 (fun hce => ?_)
            have e1 : w = mv := by omega
            have e5 : u1 = (k : Int) := by omega
            subst e1
            rw [e5, ew] at pw
            omega
          · exact zk_ret ⟨w, hw16, by dsimp only; omega, by dsimp only; omega, hnx, by omega⟩

noncomputable def zPL (o : (Int × Int × Int × Int × Int × Int × Int × (Nat → Int) × (Nat → Int) × (Nat → Int) × (Nat → Int) × (Nat → Int) × (Nat → Int) × (Nat → Int) × (Nat → Int) × (Nat → Int) × (Nat → Int) × (Nat → Int) × (Nat → Int))) : Prop := zR o.2.2.2.2.2.2.2.2.2.1 0 30 ∧ zR o.2.2.2.2.2.2.2.2.2.2.2.2.2.2.1 (-1) 99
theorem z_pl118 {n N : Nat} {row st tb nx lf costs sf wei : Nat → Int} (h0 : RI row) (hn : n ≤ 5) (hC : zR costs (-1) 99) (hW : zR wei 0 30) (hT : TI n N st tb) (hX : NX n N row st nx (16 * N)) (hsf : ∀ i, i < N → sf i = 0 ∨ sf i = 1) (hlf : ∀ a, a < N → 0 ≤ lf a ∧ lf a ≤ 1000000000000000) (x1 x2 x3 x4 : Int) (b1 : 0 ≤ x1 ∧ x1 ≤ 2) (e4 : x4 = (n : Int)) (hmv : ∀ a, a < N → 0 < lf a → lf a < 1000000000000000 → ∃ mv k : Nat, mv < 16 ∧ (k : Int) < row 1 ∧ zOp x1 nx sf a mv ∧ ∀ s t : Nat → Int, zSm n s t → zcode (zdig s t) = st a → zWp x1 (mv : Int) (k : Int) costs s t + lf (nx (16 * a + mv)).toNat = lf a) (law brk val sum nS th : Int) (set rest ch : Nat → Int) : ∀ (m a : Nat) (x5 x6 x7 : Int) (sm ta : Nat → Int), x5 = (a : Int) → a < N → lf a < 1000000000000000 → lf a + 2 ≤ (m : Int) → zok (f_HM_plan_118 row m x1 x2 x3 x4 x5 x6 x7 th law brk val sum nS set rest wei st tb nx lf costs sm ta sf ch) zPL := by
  have hN := TI_N hn hT
  have r1 := RI_1 h0
  intro m
  induction m with
  | zero => intro a x5 x6 x7 sm ta e5 ha hF hme; have := hlf a ha; exact absurd hme (by omega)
  | succ m ih =>
    intro a x5 x6 x7 sm ta e5 ha hF hme
    have la := hlf a ha
    show zok (f_HM_plan_118_b row (f_HM_plan_118 row m) x1 x2 x3 x4 x5 x6 x7 th law brk val sum nS set rest wei st tb nx lf costs sm ta sf ch) _
    unfold f_HM_plan_118_b
    refine zk_if (fun _ => ?_) (fun _ => ?_)
    · refine zk_if (fun _ => ?_) (fun _ => ?_)
      · refine zk_if (fun _ => ?_) (fun _ => ?_)
        · refine zk_g0zi_w (by omega) ?_
          refine zk_nE (fun _ _ => ?_)
          exact zk_ret ⟨hW, hC⟩
        · refine zk_g0zi_w (by omega) ?_
          refine zk_nE (fun _ _ => ?_)
          refine zk_g0zi_w (by omega) ?_
          refine zk_nE (fun _ _ => ?_)
          exact zk_ret ⟨hW, hC⟩
      · refine zk_g0zi_w (by omega) ?_
        refine zk_nE (fun _ _ => ?_)
        exact zk_ret ⟨hW, hC⟩
    · refine zk_gl a (by omega) (by omega) (by decide) (fun v5 q5 => ?_)
      refine zk_ifc (zcl_ne (by omega) (by omega)) (fun hc1 => ?_) (fun hc1 => ?_)
      · obtain ⟨mv, k, k1, k2, k3, k4⟩ := hmv a ha (by omega) hF
        have hz : zok (f_HM_firstMove x1 x5 x4 row st nx lf costs sf sm ta) (fun o => ∃ w : Nat, w < 16 ∧ (0 ≤ o.1 ∧ o.1 < 96) ∧ o.1 / 6 = (w : Int) ∧ (0 ≤ nx (16 * a + w) ∧ nx (16 * a + w) < (N : Int)) ∧ lf (nx (16 * a + w)).toNat < lf a) := by
          unfold f_HM_firstMove
          exact z_fm3 h0 hn hC hT hX hsf hlf x1 x4 b1 e4 a ha hF mv k k1 k2 k3 k4 zfu 0 x5 0 sm ta e5 rfl (Nat.zero_le _) (by unfold zfu; omega)
        refine zk_d3 hz (fun v6 a7 a8 p6 => ?_)
        obtain ⟨w, w1, w2, w3, w4, w5⟩ := p6
        dsimp only at w2 w3
        refine zk_nE (fun v9 q9 => ?_)
        refine zk_g0zi_w (by omega) ?_
        refine zk_nE (fun v10 q10 => ?_)
        rw [zi_div_n (by omega) (by omega)] at q10
        refine zk_nE (fun v11 q11 => ?_)
        refine zk_gl (16 * a + w) (by omega) (by omega) (by decide) (fun v12 q12 => ?_)
        refine zk_nE (fun v13 q13 => ?_)
        exact ih (nx (16 * a + w)).toNat v12 v6 v13 a7 a8 (by omega) (by omega) (by omega) (by omega)
      · exact zk_ret ⟨hW, hC⟩
theorem z_plan {row : Nat → Int} (h0 : RI row) (x1 x2 x3 : Int) (b1 : -2147483648 ≤ x1 ∧ x1 ≤ 2147483647) (b2 : -2147483648 ≤ x2 ∧ x2 ≤ 2147483647) (b3 : -2147483648 ≤ x3 ∧ x3 ≤ 2147483647) (th law brk val sum nS : Int) (set rest wei st tb nx lf costs sm ta sf ch : Nat → Int) (hC : zR costs (-1) 99) (hW : zR wei 0 30) : zok (f_HM_plan x1 x2 x3 row th law brk val sum nS set rest wei st tb nx lf costs sm ta sf ch) zPL := by
  have r0 := RI_0 h0
  unfold f_HM_plan
  refine zk_d1 (z_stones h0) (fun v1 p1 => ?_)
  obtain ⟨p11, p12⟩ := p1
  refine zk_nE (fun v2 q2 => ?_)
  rw [zwi b1] at q2
  refine zk_d1 (s_HM_in _ _ _ (by omega) (by omega) (by omega)) (fun v3 p3 => ?_)
  try dsimp only at p3
  refine zk_ifc (zci_eqr (by omega)) (fun hc1 => ?_) (fun hc1 => ?_)
  · exact zk_ret ⟨hW, hC⟩
  · refine zk_nE (fun v4 q4 => ?_)
    rw [zwi b3] at q4
    refine zk_d1 (s_HM_in _ _ _ (by omega) (by omega) (by omega)) (fun v5 p5 => ?_)
    try dsimp only at p5
    refine zk_ifc (zci_eqr (by omega)) (fun hc2 => ?_) (fun hc2 => ?_)
    · exact zk_ret ⟨hW, hC⟩
    · refine zk_d1 (s_HM_columns _ h0) (fun v6 p6 => ?_)
      try dsimp only at p6
      refine zk_ifc (zci_lt (by omega) (by omega)) (fun hc3 => ?_) (fun hc3 => ?_)
      · exact zk_ret ⟨hW, hC⟩
      · refine zk_ifc (zci_lt (by omega) (by omega)) (fun hc4 => ?_) (fun hc4 => ?_)
        · exact zk_ret ⟨hW, hC⟩
        · refine zk_if (fun _ => ?_) (fun _ => ?_)
          · have hs : zHs row 4 = (v1.toNat : Int) := by
              rw [zHs_4 h0 (by omega), ← p11]
              omega
            refine zk_d17 (z_findLeft h0 (by omega) (n := v1.toNat) (by omega) hs x1 v1 (by omega) (by omega) law brk val sum nS set rest wei st tb nx lf costs sm ta sf ch hC hW) (fun v7 v8 v9 v10 v11 a12 a13 a14 a15 a16 a17 a18 a19 a20 a21 a22 a23 hq => ?_)
            obtain ⟨N, ⟨n1, n2⟩, g1, g2, g3, g4, g5, g6, g7, g8⟩ := hq
            dsimp only at g1 g2 g3 g4 g5 g6 g7 g8
            refine zk_gl 0 rfl (by decide) (by decide) (fun v24 q24 => ?_)
            have l0 := g7 0 (by omega)
            refine zk_ifc (zcl_lt (by omega) (by omega)) (fun hc5 => ?_) (fun hc5 => ?_)
            · refine zk_if (fun _ => ?_) (fun _ => ?_)
              · exact z_pl118 h0 (by omega) g4 g5 g2 g3 g6 g7 x1 x2 x3 v1 (by omega) (by omega) g8 v7 v8 v9 v10 v11 0 a12 a13 a23 zfu 0 0 (-1) 0 a20 a21 rfl (by omega) (by omega) (by unfold zfu; omega)
              · refine zk_if (fun _ => ?_) (fun _ => ?_)
                · refine zk_gl 0 rfl (by decide) (by decide) (fun v25 q25 => ?_)
                  exact zk_ret ⟨g5, g4⟩
                · refine zk_gl 0 rfl (by decide) (by decide) (fun v26 q26 => ?_)
                  refine zk_g0zl_w (by omega) ?_
                  refine zk_nE (fun v27 q27 => ?_)
                  exact zk_ret ⟨g5, g4⟩
            · exact zk_ret ⟨g5, g4⟩
          · exact zk_ret ⟨hW, hC⟩
end
