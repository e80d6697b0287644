theorem s_HM_isCarried_14 (i_row : Nat → Int) (i_high : Nat → Int) (i_heaps : Nat → Int) (h_i_row : RI i_row) (h_i_high : zR i_high 0 10) (h_i_heaps : zR i_heaps 0 30) : ∀ (n : Nat) (x2 : Int) (x3 : Int) (x4 : Int) (x5 : Int) (i_law : Int) (i_broken : Int) (i_value : Int) (i_sum : Int) (i_set : Nat → Int) (i_rest : Nat → Int), (0 ≤ x2 ∧ x2 ≤ 3) → (0 ≤ x3 ∧ x3 ≤ 3) → (0 ≤ x4 ∧ x4 ≤ 1) → (0 ≤ x5 ∧ x5 ≤ 6) → (x4 = 0 ∨ (x4 = 1 ∧ 1 ≤ i_high (x2).toNat ∧ i_high (x3).toNat ≤ 9 ∧ x2 ≠ x3)) → (7 - x5) < (n : Int) → zok (f_HM_isCarried_14 i_row i_high i_heaps n x2 x3 x4 x5 i_law i_broken i_value i_sum i_set i_rest) (fun o => (o.1 = 0 ∨ (o.1 = 1 ∧ 1 ≤ i_high (x2).toNat ∧ i_high (x3).toNat ≤ 9 ∧ x2 ≠ x3))) := by
  intro n
  induction n with
  | zero => intro x2 x3 x4 x5 i_law i_broken i_value i_sum i_set i_rest b_x2 b_x3 b_x4 b_x5 p_0 hm; exfalso; omega
  | succ n ih =>
    intro x2 x3 x4 x5 i_law i_broken i_value i_sum i_set i_rest b_x2 b_x3 b_x4 b_x5 p_0 hm
    show zok (f_HM_isCarried_14_b i_row i_high i_heaps (f_HM_isCarried_14 i_row i_high i_heaps n) x2 x3 x4 x5 i_law i_broken i_value i_sum i_set i_rest) _
    unfold f_HM_isCarried_14_b
    refine zk_gl 1 rfl (by decide) (by decide) (fun v1 h_v1 => ?_)
    have r_v1 := RI_1 h_i_row
    refine zk_ifc (zci_le (by omega) (by omega)) (fun hc => ?_) (fun hc => ?_)
    · refine zk_gb (by omega) ?_
      refine zk_ret ?_
      try dsimp only
      all_goals exact (by omega)
    · refine zk_d1 (s_HM_columns _ h_i_row) (fun v2 hp => ?_)
      try dsimp only at hp
      obtain ⟨hpp0, hpp1⟩ := hp
      refine zk_ifc (zci_le (by omega) (by omega)) (fun hc_2 => ?_) (fun hc_2 => ?_)
      · refine zk_gb (by omega) ?_
        refine zk_ret ?_
        try dsimp only
        all_goals exact (by omega)
      · refine zk_d1 (s_HM_columns _ h_i_row) (fun v3 hp_2 => ?_)
        try dsimp only at hp_2
        obtain ⟨hp_2p0, hp_2p1⟩ := hp_2
        refine zk_ifc (zci_le (by omega) (by omega)) (fun hc_3 => ?_) (fun hc_3 => ?_)
        · refine zk_gb (by omega) ?_
          refine zk_ret ?_
          try dsimp only
          all_goals exact (by omega)
        · refine zk_ifc (zci_ner (by omega)) (fun hc_4 => ?_) (fun hc_4 => ?_)
          · unfold f_HM_isCarried_58
            unfold f_HM_isCarried_63
            refine zk_n ?_
            refine zok_mono (ih _ _ _ _ _ _ _ _ _ _ (by omega) (by omega) (by omega) (by omega) (by omega) (by omega)) (fun o ho => ?_)
            try dsimp only at ho
            have ho_0 := ho
            exact (by omega)
          · refine zk_d7 (s_HM_carrying _ _ _ _ _ _ _ _ _ _ _ _ (by omega) (by omega) (by omega) h_i_row h_i_high h_i_heaps) (fun v4 v5 v6 v7 v8 a9 a10 hp_3 => ?_)
            try dsimp only at hp_3
            have hp_3p0 := hp_3
            refine zk_ifc (zci_eq (by omega) (by omega)) (fun hc_5 => ?_) (fun hc_5 => ?_)
            · unfold f_HM_isCarried_63
              refine zk_n ?_
              refine zok_mono (ih _ _ _ _ _ _ _ _ _ _ (by omega) (by omega) (by omega) (by omega) (by omega) (by omega)) (fun o ho => ?_)
              try dsimp only at ho
              have ho_0 := ho
              exact (by omega)
            · unfold f_HM_isCarried_58
              unfold f_HM_isCarried_63
              refine zk_n ?_
              refine zok_mono (ih _ _ _ _ _ _ _ _ _ _ (by omega) (by omega) (by omega) (by omega) (by omega) (by omega)) (fun o ho => ?_)
              try dsimp only at ho
              have ho_0 := ho
              exact (by omega)
theorem s_HM_isCarried (x1 : Int) (i_row : Nat → Int) (i_high : Nat → Int) (i_heaps : Nat → Int) (i_law : Int) (i_broken : Int) (i_value : Int) (i_sum : Int) (i_set : Nat → Int) (i_rest : Nat → Int) (b_x1 : 0 ≤ x1 ∧ x1 ≤ 15) (h_i_row : RI i_row) (h_i_high : zR i_high 0 10) (h_i_heaps : zR i_heaps 0 30) : zok (f_HM_isCarried x1 i_row i_high i_heaps i_law i_broken i_value i_sum i_set i_rest) (fun o => (o.1 = 0 ∨ (o.1 = 1 ∧ 1 ≤ i_high (x1 / 4).toNat ∧ i_high (x1 % 4).toNat ≤ 9 ∧ x1 / 4 ≠ x1 % 4))) := by
  unfold f_HM_isCarried
  refine zk_g0zi_w (by omega) ?_
  refine zk_nE (fun v1 h_v1 => ?_)
  rw [zi_div_n (by omega) (by omega)] at h_v1
  subst h_v1
  refine zk_g0zi_w (by omega) ?_
  refine zk_nE (fun v2 h_v2 => ?_)
  rw [zi_rem_n (by omega) (by omega)] at h_v2
  subst h_v2
  refine zok_mono (s_HM_isCarried_14 _ _ _ h_i_row h_i_high h_i_heaps zfu _ _ _ _ _ _ _ _ _ _ (by omega) (by omega) (by omega) (by omega) (by omega) (by unfold zfu; omega)) (fun o ho => ?_)
  try dsimp only at ho
  have ho_0 := ho
  exact (by omega)
theorem s_HM_nextMove_9 (i_row : Nat → Int) (i_high : Nat → Int) (i_heaps : Nat → Int) (i_tried : Nat → Int) (i_bests : Nat → Int) (h_i_row : RI i_row) (h_i_high : zR i_high 0 10) (h_i_heaps : zR i_heaps 0 30) (h_i_tried : zR i_tried (-1) 17) (h_i_bests : zR i_bests (-1000) 60) : ∀ (n : Nat) (x1 : Int) (x2 : Int) (i_law : Int) (i_broken : Int) (i_value : Int) (i_sum : Int) (i_set : Nat → Int) (i_rest : Nat → Int), (0 ≤ x1 ∧ x1 ≤ 3) → (0 ≤ x2 ∧ x2 ≤ 18) → (i_tried x1.toNat + 1 ≤ x2) → (19 - x2) < (n : Int) → zok (f_HM_nextMove_9 i_row i_high i_heaps i_tried i_bests n x1 x2 i_law i_broken i_value i_sum i_set i_rest) (fun o => (i_tried x1.toNat + 1 ≤ o.1 ∧ o.1 ≤ 18) ∧ (16 ≤ o.1 ∨ (0 ≤ o.1 ∧ 1 ≤ i_high (o.1 / 4).toNat ∧ i_high (o.1 % 4).toNat ≤ 9 ∧ o.1 / 4 ≠ o.1 % 4))) := by
  intro n
  induction n with
  | zero => intro x1 x2 i_law i_broken i_value i_sum i_set i_rest b_x1 b_x2 p_0 hm; exfalso; omega
  | succ n ih =>
    intro x1 x2 i_law i_broken i_value i_sum i_set i_rest b_x1 b_x2 p_0 hm
    show zok (f_HM_nextMove_9_b i_row i_high i_heaps i_tried i_bests (f_HM_nextMove_9 i_row i_high i_heaps i_tried i_bests n) x1 x2 i_law i_broken i_value i_sum i_set i_rest) _
    unfold f_HM_nextMove_9_b
    refine zk_ifc (zci_le (by omega) (by omega)) (fun hc => ?_) (fun hc => ?_)
    · unfold f_HM_nextMove_29
      refine zk_ifc (zci_lt (by omega) (by omega)) (fun hc_2 => ?_) (fun hc_2 => ?_)
      · refine zk_ret ?_
        try dsimp only
        exact ⟨by omega, by omega⟩
      · refine zk_gv (by omega) (by decide) (fun v1 h_v1 => ?_)
        have r_v1 := h_i_bests (x1.toNat)
        refine zk_ifc (zci_ne (by omega) (by omega)) (fun hc_3 => ?_) (fun hc_3 => ?_)
        · refine zk_ret ?_
          try dsimp only
          exact ⟨by omega, by omega⟩
        · refine zk_gv (by omega) (by decide) (fun v2 h_v2 => ?_)
          have r_v2 := h_i_tried (x1.toNat)
          refine zk_ifc (zci_le (by omega) (by omega)) (fun hc_4 => ?_) (fun hc_4 => ?_)
          · refine zk_ret ?_
            try dsimp only
            exact ⟨by omega, by omega⟩
          · refine zk_ret ?_
            try dsimp only
            exact ⟨by omega, by omega⟩
    · refine zk_d7 (s_HM_isCarried _ _ _ _ _ _ _ _ _ _ (by omega) h_i_row h_i_high h_i_heaps) (fun v1_2 v2_2 v3 v4 v5 a6 a7 hp => ?_)
      try dsimp only at hp
      have hpp0 := hp
      refine zk_ifc (zci_ner (by omega)) (fun hc_5 => ?_) (fun hc_5 => ?_)
      · unfold f_HM_nextMove_29
        refine zk_ifc (zci_lt (by omega) (by omega)) (fun hc_6 => ?_) (fun hc_6 => ?_)
        · refine zk_ret ?_
          try dsimp only
          exact ⟨by omega, by omega⟩
        · refine zk_gv (by omega) (by decide) (fun v1_3 h_v1_3 => ?_)
          have r_v1_3 := h_i_bests (x1.toNat)
          refine zk_ifc (zci_ne (by omega) (by omega)) (fun hc_7 => ?_) (fun hc_7 => ?_)
          · refine zk_ret ?_
            try dsimp only
            exact ⟨by omega, by omega⟩
          · refine zk_gv (by omega) (by decide) (fun v2_3 h_v2_3 => ?_)
            have r_v2_3 := h_i_tried (x1.toNat)
            refine zk_ifc (zci_le (by omega) (by omega)) (fun hc_8 => ?_) (fun hc_8 => ?_)
            · refine zk_ret ?_
              try dsimp only
              exact ⟨by omega, by omega⟩
            · refine zk_ret ?_
              try dsimp only
              exact ⟨by omega, by omega⟩
      · refine zk_n ?_
        refine zok_mono (ih _ _ _ _ _ _ _ _ (by omega) (by omega) (by omega) (by omega)) (fun o ho => ?_)
        try dsimp only at ho
        obtain ⟨ho_0, ho_1⟩ := ho
        exact ⟨by omega, by omega⟩
theorem s_HM_nextMove (x1 : Int) (i_row : Nat → Int) (i_high : Nat → Int) (i_heaps : Nat → Int) (i_tried : Nat → Int) (i_bests : Nat → Int) (i_law : Int) (i_broken : Int) (i_value : Int) (i_sum : Int) (i_set : Nat → Int) (i_rest : Nat → Int) (b_x1 : 0 ≤ x1 ∧ x1 ≤ 3) (h_i_row : RI i_row) (h_i_high : zR i_high 0 10) (h_i_heaps : zR i_heaps 0 30) (h_i_tried : zR i_tried (-1) 17) (h_i_bests : zR i_bests (-1000) 60) : zok (f_HM_nextMove x1 i_row i_high i_heaps i_tried i_bests i_law i_broken i_value i_sum i_set i_rest) (fun o => (i_tried x1.toNat + 1 ≤ o.1 ∧ o.1 ≤ 18) ∧ (16 ≤ o.1 ∨ (0 ≤ o.1 ∧ 1 ≤ i_high (o.1 / 4).toNat ∧ i_high (o.1 % 4).toNat ≤ 9 ∧ o.1 / 4 ≠ o.1 % 4))) := by
  unfold f_HM_nextMove
  refine zk_gv (by omega) (by decide) (fun v1 h_v1 => ?_)
  have r_v1 := h_i_tried (x1.toNat)
  refine zk_n ?_
  refine zok_mono (s_HM_nextMove_9 _ _ _ _ _ h_i_row h_i_high h_i_heaps h_i_tried h_i_bests zfu _ _ _ _ _ _ _ _ (by omega) (by omega) (by omega) (by unfold zfu; omega)) (fun o ho => ?_)
  try dsimp only at ho
  obtain ⟨ho_0, ho_1⟩ := ho
  exact ⟨by omega, by omega⟩
theorem s_HM_unmove (x1 : Int) (i_high : Nat → Int) (i_heaps : Nat → Int) (b_x1 : 0 ≤ x1 ∧ x1 ≤ 17) (h_i_high : zR i_high 0 10) (h_i_heaps : zR i_heaps 0 30) (p_0 : 16 ≤ x1 ∨ (x1 / 4 ≠ x1 % 4 ∧ 1 ≤ i_high (x1 % 4).toNat ∧ i_high (x1 / 4).toNat ≤ 9)) : zok (f_HM_unmove x1 i_high i_heaps) (fun o => zR o.1 0 10 ∧ zR o.2 0 30 ∧ ((16 ≤ x1 → o.1 = i_high) ∧ (x1 < 16 → o.1 = zu (zu i_high (x1 % 4).toNat (i_high (x1 % 4).toNat - 1)) (x1 / 4).toNat (i_high (x1 / 4).toNat + 1)))) := by
  unfold f_HM_unmove
  refine zk_ifc (zci_le (by omega) (by omega)) (fun hc => ?_) (fun hc => ?_)
  · refine zk_ret ?_
    try dsimp only
    exact ⟨h_i_high, h_i_heaps, by first | exact ⟨fun _ => rfl, fun h => absurd h (by omega)⟩ | exact ⟨fun h => absurd h (by omega), fun _ => hpp2⟩⟩
  · refine zk_g0zi_w (by omega) ?_
    refine zk_nE (fun v1 h_v1 => ?_)
    rw [zi_rem_n (by omega) (by omega)] at h_v1
    subst h_v1
    refine zk_g0zi_w (by omega) ?_
    refine zk_nE (fun v2 h_v2 => ?_)
    rw [zi_div_n (by omega) (by omega)] at h_v2
    subst h_v2
    refine zk_d2 (s_HM_shift _ _ _ _ (by omega) (by omega) h_i_high h_i_heaps (by omega) (by omega) (by omega)) (fun a3 a4 hp => ?_)
    try dsimp only at hp
    obtain ⟨hpp0, hpp1, hpp2⟩ := hp
    refine zk_ret ?_
    try dsimp only
    exact ⟨hpp0, hpp1, by first | exact ⟨fun _ => rfl, fun h => absurd h (by omega)⟩ | exact ⟨fun h => absurd h (by omega), fun _ => hpp2⟩⟩
theorem s_HM_settlex (x1 : Int) (x2 : Int) (x3 : Int) (i_tried : Nat → Int) (i_bests : Nat → Int) (i_firsts : Nat → Int) (b_x1 : 0 ≤ x1 ∧ x1 ≤ 3) (b_x2 : 0 ≤ x2 ∧ x2 ≤ 1) (b_x3 : (-1000) ≤ x3 ∧ x3 ≤ 60) (h_i_tried : zR i_tried (-1) 17) (h_i_bests : zR i_bests (-1000) 60) (h_i_firsts : zR i_firsts (-1) 17) : zok (f_HM_settlex x1 x2 x3 i_tried i_bests i_firsts) (fun o => zR o.1 (-1000) 60 ∧ zR o.2 (-1) 17) := by
  unfold f_HM_settlex
  refine zk_n ?_
  refine zk_g0zi_w (by omega) ?_
  refine zk_nE (fun v2 h_v2 => ?_)
  rw [zi_rem_n (by omega) (by omega)] at h_v2
  refine zk_ifc (zci_ner (by omega)) (fun hc => ?_) (fun hc => ?_)
  · unfold f_HM_settlex_13
    refine zk_gv (by omega) (by decide) (fun v1_2 h_v1_2 => ?_)
    have r_v1_2 := h_i_bests (x1.toNat)
    refine zk_ifc (zci_eq (by omega) (by omega)) (fun hc_2 => ?_) (fun hc_2 => ?_)
    · unfold f_HM_settlex_55
      refine zk_sv (by omega) (by decide) (fun a1 h_a1 => ?_)
      have i_a1 : zR a1 (-1000) 60 := by rw [h_a1]; exact zR_zu h_i_bests (by decide) (by decide) (by omega)
      refine zk_gv (by omega) (by decide) (fun v2_2 h_v2_2 => ?_)
      have r_v2_2 := h_i_tried (x1.toNat)
      refine zk_sv (by omega) (by decide) (fun a3 h_a3 => ?_)
      have i_a3 : zR a3 (-1) 17 := by rw [h_a3]; exact zR_zu h_i_firsts (by decide) (by decide) (by omega)
      refine zk_ret ?_
      try dsimp only
      exact ⟨i_a1, i_a3⟩
    · refine zk_ifc (zci_eqr (by omega)) (fun hc_3 => ?_) (fun hc_3 => ?_)
      · refine zk_gv (by omega) (by decide) (fun v2_3 h_v2_3 => ?_)
        have r_v2_3 := h_i_bests (x1.toNat)
        refine zk_ifc (zci_le (by omega) (by omega)) (fun hc_4 => ?_) (fun hc_4 => ?_)
        · refine zk_ret ?_
          try dsimp only
          exact ⟨h_i_bests, h_i_firsts⟩
        · unfold f_HM_settlex_55
          refine zk_sv (by omega) (by decide) (fun a1_2 h_a1_2 => ?_)
          have i_a1_2 : zR a1_2 (-1000) 60 := by rw [h_a1_2]; exact zR_zu h_i_bests (by decide) (by decide) (by omega)
          refine zk_gv (by omega) (by decide) (fun v2_4 h_v2_4 => ?_)
          have r_v2_4 := h_i_tried (x1.toNat)
          refine zk_sv (by omega) (by decide) (fun a3_2 h_a3_2 => ?_)
          have i_a3_2 : zR a3_2 (-1) 17 := by rw [h_a3_2]; exact zR_zu h_i_firsts (by decide) (by decide) (by omega)
          refine zk_ret ?_
          try dsimp only
          exact ⟨i_a1_2, i_a3_2⟩
      · refine zk_gv (by omega) (by decide) (fun v3 h_v3 => ?_)
        have r_v3 := h_i_bests (x1.toNat)
        refine zk_ifc (zci_le (by omega) (by omega)) (fun hc_5 => ?_) (fun hc_5 => ?_)
        · refine zk_ret ?_
          try dsimp only
          exact ⟨h_i_bests, h_i_firsts⟩
        · unfold f_HM_settlex_55
          refine zk_sv (by omega) (by decide) (fun a1_3 h_a1_3 => ?_)
          have i_a1_3 : zR a1_3 (-1000) 60 := by rw [h_a1_3]; exact zR_zu h_i_bests (by decide) (by decide) (by omega)
          refine zk_gv (by omega) (by decide) (fun v2_5 h_v2_5 => ?_)
          have r_v2_5 := h_i_tried (x1.toNat)
          refine zk_sv (by omega) (by decide) (fun a3_3 h_a3_3 => ?_)
          have i_a3_3 : zR a3_3 (-1) 17 := by rw [h_a3_3]; exact zR_zu h_i_firsts (by decide) (by decide) (by omega)
          refine zk_ret ?_
          try dsimp only
          exact ⟨i_a1_3, i_a3_3⟩
  · unfold f_HM_settlex_13
    refine zk_gv (by omega) (by decide) (fun v1_3 h_v1_3 => ?_)
    have r_v1_3 := h_i_bests (x1.toNat)
    refine zk_ifc (zci_eq (by omega) (by omega)) (fun hc_6 => ?_) (fun hc_6 => ?_)
    · unfold f_HM_settlex_55
      refine zk_sv (by omega) (by decide) (fun a1_4 h_a1_4 => ?_)
      have i_a1_4 : zR a1_4 (-1000) 60 := by rw [h_a1_4]; exact zR_zu h_i_bests (by decide) (by decide) (by omega)
      refine zk_gv (by omega) (by decide) (fun v2_6 h_v2_6 => ?_)
      have r_v2_6 := h_i_tried (x1.toNat)
      refine zk_sv (by omega) (by decide) (fun a3_4 h_a3_4 => ?_)
      have i_a3_4 : zR a3_4 (-1) 17 := by rw [h_a3_4]; exact zR_zu h_i_firsts (by decide) (by decide) (by omega)
      refine zk_ret ?_
      try dsimp only
      exact ⟨i_a1_4, i_a3_4⟩
    · refine zk_ifc (zci_eqr (by omega)) (fun hc_7 => ?_) (fun hc_7 => ?_)
      · refine zk_gv (by omega) (by decide) (fun v2_7 h_v2_7 => ?_)
        have r_v2_7 := h_i_bests (x1.toNat)
        refine zk_ifc (zci_le (by omega) (by omega)) (fun hc_8 => ?_) (fun hc_8 => ?_)
        · refine zk_ret ?_
          try dsimp only
          exact ⟨h_i_bests, h_i_firsts⟩
        · unfold f_HM_settlex_55
          refine zk_sv (by omega) (by decide) (fun a1_5 h_a1_5 => ?_)
          have i_a1_5 : zR a1_5 (-1000) 60 := by rw [h_a1_5]; exact zR_zu h_i_bests (by decide) (by decide) (by omega)
          refine zk_gv (by omega) (by decide) (fun v2_8 h_v2_8 => ?_)
          have r_v2_8 := h_i_tried (x1.toNat)
          refine zk_sv (by omega) (by decide) (fun a3_5 h_a3_5 => ?_)
          have i_a3_5 : zR a3_5 (-1) 17 := by rw [h_a3_5]; exact zR_zu h_i_firsts (by decide) (by decide) (by omega)
          refine zk_ret ?_
          try dsimp only
          exact ⟨i_a1_5, i_a3_5⟩
      · refine zk_gv (by omega) (by decide) (fun v3_2 h_v3_2 => ?_)
        have r_v3_2 := h_i_bests (x1.toNat)
        refine zk_ifc (zci_le (by omega) (by omega)) (fun hc_9 => ?_) (fun hc_9 => ?_)
        · refine zk_ret ?_
          try dsimp only
          exact ⟨h_i_bests, h_i_firsts⟩
        · unfold f_HM_settlex_55
          refine zk_sv (by omega) (by decide) (fun a1_6 h_a1_6 => ?_)
          have i_a1_6 : zR a1_6 (-1000) 60 := by rw [h_a1_6]; exact zR_zu h_i_bests (by decide) (by decide) (by omega)
          refine zk_gv (by omega) (by decide) (fun v2_9 h_v2_9 => ?_)
          have r_v2_9 := h_i_tried (x1.toNat)
          refine zk_sv (by omega) (by decide) (fun a3_6 h_a3_6 => ?_)
          have i_a3_6 : zR a3_6 (-1) 17 := by rw [h_a3_6]; exact zR_zu h_i_firsts (by decide) (by decide) (by omega)
          refine zk_ret ?_
          try dsimp only
          exact ⟨i_a1_6, i_a3_6⟩
