theorem s_HM_in (x0 : Int) (x2 : Int) (x4 : Int) (b_x0 : (-9223372036854775808) ≤ x0 ∧ x0 ≤ 9223372036854775807) (b_x2 : (-9223372036854775808) ≤ x2 ∧ x2 ≤ 9223372036854775807) (b_x4 : (-9223372036854775808) ≤ x4 ∧ x4 ≤ 9223372036854775807) : zok (f_HM_in x0 x2 x4) (fun o => ((o = 1 ∧ x2 ≤ x0 ∧ x0 ≤ x4) ∨ (o = 0 ∧ (x0 < x2 ∨ x4 < x0)))) := by
  unfold f_HM_in
  refine zk_ifc (zcl_lt (by omega) (by omega)) (fun hc => ?_) (fun hc => ?_)
  · exact zk_ret (by omega)
  · refine zk_ifc (zcl_lt (by omega) (by omega)) (fun hc_2 => ?_) (fun hc_2 => ?_)
    · exact zk_ret (by omega)
    · exact zk_ret (by omega)
theorem s_HM_tell (x1 : Int) (i_status : Int) (i_refusals : Nat → Int) (b_x1 : (-6) ≤ x1 ∧ x1 ≤ 2147483647) : zok (f_HM_tell x1 i_status i_refusals) (fun o => (o.1 = x1) ∧ ((0 ≤ x1 ∧ o.2.1 = 0) ∨ (x1 < 0 ∧ o.2.1 = x1))) := by
  unfold f_HM_tell
  refine zk_ifc (zci_lel (by omega)) (fun hc => ?_) (fun hc => ?_)
  · unfold f_HM_tell_10
    refine zk_ifc (zci_lel (by omega)) (fun hc_2 => ?_) (fun hc_2 => ?_)
    · refine zk_ret ?_
      try dsimp only
      exact ⟨by omega, by omega⟩
    · refine zk_nE (fun v1 h_v1 => ?_)
      refine zk_gv (by omega) (by decide) (fun v2 h_v2 => ?_)
      refine zk_n ?_
      refine zk_sv (by omega) (by decide) (fun a4 h_a4 => ?_)
      refine zk_ret ?_
      try dsimp only
      exact ⟨by omega, by omega⟩
  · unfold f_HM_tell_10
    refine zk_ifc (zci_lel (by omega)) (fun hc_3 => ?_) (fun hc_3 => ?_)
    · refine zk_ret ?_
      try dsimp only
      exact ⟨by omega, by omega⟩
    · refine zk_nE (fun v1_2 h_v1_2 => ?_)
      refine zk_gv (by omega) (by decide) (fun v2_2 h_v2_2 => ?_)
      refine zk_n ?_
      refine zk_sv (by omega) (by decide) (fun a4_2 h_a4_2 => ?_)
      refine zk_ret ?_
      try dsimp only
      exact ⟨by omega, by omega⟩
theorem s_HM_columns (i_row : Nat → Int) (h_i_row : RI i_row) : zok (f_HM_columns i_row) (fun o => (o = i_row 0) ∧ (0 ≤ i_row 0 ∧ i_row 0 ≤ 12)) := by
  unfold f_HM_columns
  refine zk_gl 0 rfl (by decide) (by decide) (fun v1 h_v1 => ?_)
  have r_v1 := RI_0 h_i_row
  exact zk_ret ⟨by omega, by omega⟩
theorem s_HM_isWeight (x0 : Int) (b_x0 : (-2147483648) ≤ x0 ∧ x0 ≤ 2147483647) : zok (f_HM_isWeight x0) (fun o => ((o = 1 ∧ 1 ≤ x0 ∧ x0 ≤ 30) ∨ (o = 0 ∧ (x0 < 1 ∨ 30 < x0)))) := by
  unfold f_HM_isWeight
  refine zk_nE (fun v1 h_v1 => ?_)
  rw [zwi (by omega)] at h_v1
  replace h_v1 := h_v1.symm
  subst h_v1
  refine zk_d1 (s_HM_in _ _ _ (by omega) (by omega) (by omega)) (fun v2 hp => ?_)
  try dsimp only at hp
  have hpp0 := hp
  refine zk_gb (by omega) ?_
  exact zk_ret (by omega)
theorem s_HM_isColumn (x1 : Int) (i_row : Nat → Int) (b_x1 : (-2147483648) ≤ x1 ∧ x1 ≤ 2147483647) (h_i_row : RI i_row) : zok (f_HM_isColumn x1 i_row) (fun o => ((o = 1 ∧ 0 ≤ x1 ∧ x1 < i_row 0) ∨ (o = 0 ∧ (x1 < 0 ∨ i_row 0 ≤ x1))) ∧ (0 ≤ i_row 0 ∧ i_row 0 ≤ 12)) := by
  unfold f_HM_isColumn
  refine zk_nE (fun v1 h_v1 => ?_)
  rw [zwi (by omega)] at h_v1
  replace h_v1 := h_v1.symm
  subst h_v1
  refine zk_d1 (s_HM_columns _ h_i_row) (fun v2 hp => ?_)
  try dsimp only at hp
  obtain ⟨hpp0, hpp1⟩ := hp
  refine zk_nE (fun v3 h_v3 => ?_)
  rw [zwi (by omega)] at h_v3
  replace h_v3 := h_v3.symm
  subst h_v3
  refine zk_n ?_
  refine zk_d1 (s_HM_in _ _ _ (by omega) (by omega) (by omega)) (fun v5 hp_2 => ?_)
  try dsimp only at hp_2
  have hp_2p0 := hp_2
  refine zk_gb (by omega) ?_
  exact zk_ret ⟨by omega, by omega⟩
theorem s_HM_isChild (x1 : Int) (i_row : Nat → Int) (b_x1 : (-2147483648) ≤ x1 ∧ x1 ≤ 2147483647) (h_i_row : RI i_row) : zok (f_HM_isChild x1 i_row) (fun o => ((o = 1 ∧ 0 ≤ x1 ∧ x1 < i_row 1) ∨ (o = 0 ∧ (x1 < 0 ∨ i_row 1 ≤ x1))) ∧ (0 ≤ i_row 1 ∧ i_row 1 ≤ 6)) := by
  unfold f_HM_isChild
  refine zk_nE (fun v1 h_v1 => ?_)
  rw [zwi (by omega)] at h_v1
  replace h_v1 := h_v1.symm
  subst h_v1
  refine zk_gl 1 rfl (by decide) (by decide) (fun v2 h_v2 => ?_)
  have r_v2 := RI_1 h_i_row
  refine zk_nE (fun v3 h_v3 => ?_)
  rw [zwi (by omega)] at h_v3
  replace h_v3 := h_v3.symm
  subst h_v3
  refine zk_n ?_
  refine zk_d1 (s_HM_in _ _ _ (by omega) (by omega) (by omega)) (fun v5 hp => ?_)
  try dsimp only at hp
  have hpp0 := hp
  refine zk_gb (by omega) ?_
  exact zk_ret ⟨by omega, by omega⟩
theorem s_HM_isParish (x1 : Int) (i_row : Nat → Int) (b_x1 : (-2147483648) ≤ x1 ∧ x1 ≤ 2147483647) (h_i_row : RI i_row) : zok (f_HM_isParish x1 i_row) (fun o => ((o = 1 ∧ 0 ≤ x1 ∧ x1 < i_row 2) ∨ (o = 0 ∧ (x1 < 0 ∨ i_row 2 ≤ x1))) ∧ (0 ≤ i_row 2 ∧ i_row 2 ≤ 6)) := by
  unfold f_HM_isParish
  refine zk_nE (fun v1 h_v1 => ?_)
  rw [zwi (by omega)] at h_v1
  replace h_v1 := h_v1.symm
  subst h_v1
  refine zk_gl 2 rfl (by decide) (by decide) (fun v2 h_v2 => ?_)
  have r_v2 := RI_2 h_i_row
  refine zk_nE (fun v3 h_v3 => ?_)
  rw [zwi (by omega)] at h_v3
  replace h_v3 := h_v3.symm
  subst h_v3
  refine zk_n ?_
  refine zk_d1 (s_HM_in _ _ _ (by omega) (by omega) (by omega)) (fun v5 hp => ?_)
  try dsimp only at hp
  have hpp0 := hp
  refine zk_gb (by omega) ?_
  exact zk_ret ⟨by omega, by omega⟩
theorem s_HM_are (x1 : Int) (x2 : Int) (x3 : Int) (i_row : Nat → Int) (b_x1 : (-2147483648) ≤ x1 ∧ x1 ≤ 2147483647) (b_x2 : (-2147483648) ≤ x2 ∧ x2 ≤ 2147483647) (b_x3 : (-2147483648) ≤ x3 ∧ x3 ≤ 2147483647) (h_i_row : RI i_row) : zok (f_HM_are x1 x2 x3 i_row) (fun o => ((o = 1 ∧ (0 ≤ x1 ∧ x1 < i_row 1) ∧ (0 ≤ x2 ∧ x2 < i_row 0) ∧ (0 ≤ x3 ∧ x3 < i_row 0)) ∨ (o = 0 ∧ ((x1 < 0 ∨ i_row 1 ≤ x1) ∨ (x2 < 0 ∨ i_row 0 ≤ x2) ∨ (x3 < 0 ∨ i_row 0 ≤ x3)))) ∧ (0 ≤ i_row 0 ∧ i_row 0 ≤ 12) ∧ (0 ≤ i_row 1 ∧ i_row 1 ≤ 6)) := by
  unfold f_HM_are
  have q0 := RI_0 h_i_row
  have q1 := RI_1 h_i_row
  refine zk_d1 (s_HM_isChild _ _ (by omega) h_i_row) (fun v1 hp => ?_)
  try dsimp only at hp
  obtain ⟨hpp0, hpp1⟩ := hp
  refine zk_ifc (zci_eqr (by omega)) (fun hc => ?_) (fun hc => ?_)
  · exact zk_ret ⟨by omega, by omega, by omega⟩
  · refine zk_d1 (s_HM_isColumn _ _ (by omega) h_i_row) (fun v2 hp_2 => ?_)
    try dsimp only at hp_2
    obtain ⟨hp_2p0, hp_2p1⟩ := hp_2
    refine zk_ifc (zci_eqr (by omega)) (fun hc_2 => ?_) (fun hc_2 => ?_)
    · exact zk_ret ⟨by omega, by omega, by omega⟩
    · refine zk_d1 (s_HM_isColumn _ _ (by omega) h_i_row) (fun v3 hp_3 => ?_)
      try dsimp only at hp_3
      obtain ⟨hp_3p0, hp_3p1⟩ := hp_3
      refine zk_ifc (zci_eqr (by omega)) (fun hc_3 => ?_) (fun hc_3 => ?_)
      · exact zk_ret ⟨by omega, by omega, by omega⟩
      · exact zk_ret ⟨by omega, by omega, by omega⟩
theorem s_HM_isTerm (x0 : Int) (x1 : Int) (b_x0 : (-2147483648) ≤ x0 ∧ x0 ≤ 2147483647) (b_x1 : (-2147483648) ≤ x1 ∧ x1 ≤ 2147483647) : zok (f_HM_isTerm x0 x1) (fun o => ((o = 1 ∧ ((x0 = 0 ∧ 0 ≤ x1 ∧ x1 ≤ 99) ∨ (x0 = 1 ∧ 1 ≤ x1 ∧ x1 ≤ 9) ∨ (x0 = 2 ∧ 1 ≤ x1 ∧ x1 ≤ 9) ∨ (x0 = 3 ∧ 0 ≤ x1 ∧ x1 ≤ 30))) ∨ (o = 0 ∧ ((x0 = 0 ∧ (x1 < 0 ∨ 99 < x1)) ∨ ((x0 = 1 ∨ x0 = 2) ∧ (x1 < 1 ∨ 9 < x1)) ∨ (x0 = 3 ∧ (x1 < 0 ∨ 30 < x1)) ∨ x0 < 0 ∨ 3 < x0)))) := by
  unfold f_HM_isTerm
  refine zk_ifc (zci_eqr (by omega)) (fun hc => ?_) (fun hc => ?_)
  · refine zk_nE (fun v1 h_v1 => ?_)
    rw [zwi (by omega)] at h_v1
    replace h_v1 := h_v1.symm
    subst h_v1
    refine zk_d1 (s_HM_in _ _ _ (by omega) (by omega) (by omega)) (fun v2 hp => ?_)
    try dsimp only at hp
    have hpp0 := hp
    refine zk_gb (by omega) ?_
    exact zk_ret (by omega)
  · refine zk_ifc (zci_eqr (by omega)) (fun hc_2 => ?_) (fun hc_2 => ?_)
    · refine zk_nE (fun v3 h_v3 => ?_)
      rw [zwi (by omega)] at h_v3
      replace h_v3 := h_v3.symm
      subst h_v3
      refine zk_d1 (s_HM_in _ _ _ (by omega) (by omega) (by omega)) (fun v4 hp_2 => ?_)
      try dsimp only at hp_2
      have hp_2p0 := hp_2
      refine zk_gb (by omega) ?_
      exact zk_ret (by omega)
    · refine zk_ifc (zci_eqr (by omega)) (fun hc_3 => ?_) (fun hc_3 => ?_)
      · refine zk_nE (fun v5 h_v5 => ?_)
        rw [zwi (by omega)] at h_v5
        replace h_v5 := h_v5.symm
        subst h_v5
        refine zk_d1 (s_HM_in _ _ _ (by omega) (by omega) (by omega)) (fun v6 hp_3 => ?_)
        try dsimp only at hp_3
        have hp_3p0 := hp_3
        refine zk_gb (by omega) ?_
        exact zk_ret (by omega)
      · refine zk_ifc (zci_eqr (by omega)) (fun hc_4 => ?_) (fun hc_4 => ?_)
        · refine zk_nE (fun v7 h_v7 => ?_)
          rw [zwi (by omega)] at h_v7
          replace h_v7 := h_v7.symm
          subst h_v7
          refine zk_d1 (s_HM_in _ _ _ (by omega) (by omega) (by omega)) (fun v8 hp_4 => ?_)
          try dsimp only at hp_4
          have hp_4p0 := hp_4
          refine zk_gb (by omega) ?_
          exact zk_ret (by omega)
        · exact zk_ret (by omega)
theorem s_HM_change (x1 : Int) (x2 : Int) (i_status : Int) (i_row : Nat → Int) (b_x1 : 0 ≤ x1 ∧ x1 ≤ 5579) : zok (f_HM_change x1 x2 i_status i_row) (fun o => (o.1 = i_row x1.toNat) ∧ (o.2.1 = 0) ∧ (o.2.2 = zu i_row x1.toNat x2)) := by
  unfold f_HM_change
  refine zk_gv (by omega) (by decide) (fun v1 h_v1 => ?_)
  refine zk_sv (by omega) (by decide) (fun a2 h_a2 => ?_)
  refine zk_ret ?_
  try dsimp only
  exact ⟨by omega, by omega, by first | omega | rfl | assumption | simp_all⟩
theorem s_HM_column (i_thrown : Int) (i_status : Int) (i_refusals : Nat → Int) (i_row : Nat → Int) (h_i_row : RI i_row) : zok (f_HM_column i_thrown i_status i_refusals i_row) (fun o => RI o.2.2.2.2) := by
  unfold f_HM_column
  refine zk_d1 (s_HM_columns _ h_i_row) (fun v1 hp => ?_)
  try dsimp only at hp
  obtain ⟨hpp0, hpp1⟩ := hp
  refine zk_ifc (zci_ne (by omega) (by omega)) (fun hc => ?_) (fun hc => ?_)
  · refine zk_n ?_
    refine zk_sv (by omega) (by decide) (fun a3 h_a3 => ?_)
    have i_a3 : RI a3 := by rw [h_a3]; exact RIz_h h_i_row (by omega) (by omega)
    refine zk_n ?_
    refine zk_sv (by omega) (by decide) (fun a5 h_a5 => ?_)
    have i_a5 : RI a5 := by rw [h_a5]; exact RIz_g i_a3 (by omega) (by omega)
    refine zk_gl 0 rfl (by decide) (by decide) (fun v6 h_v6 => ?_)
    have z_v6_a5 := zu_rd h_a5 (0)
    have z_v6_a3 := zu_rd h_a3 (0)
    have r_v6 := RI_0 i_a5
    refine zk_n ?_
    refine zk_sl 0 rfl (by decide) (by decide) (fun a8 h_a8 => ?_)
    have i_a8 : RI a8 := by rw [h_a8]; exact RIz_0 i_a5 (by omega)
    refine zk_d3 (s_HM_tell _ _ _ (by omega)) (fun v9 v10 a11 hp_2 => ?_)
    try dsimp only at hp_2
    obtain ⟨hp_2p0, hp_2p1⟩ := hp_2
    refine zk_ret ?_
    try dsimp only
    all_goals exact i_a8
  · refine zk_d3 (s_HM_tell _ _ _ (by omega)) (fun v12 v13 a14 hp_3 => ?_)
    try dsimp only at hp_3
    obtain ⟨hp_3p0, hp_3p1⟩ := hp_3
    refine zk_ret ?_
    try dsimp only
    all_goals exact h_i_row
theorem s_HM_stone (x1 : Int) (x2 : Int) (i_thrown : Int) (i_status : Int) (i_refusals : Nat → Int) (i_row : Nat → Int) (b_x1 : (-2147483648) ≤ x1 ∧ x1 ≤ 2147483647) (b_x2 : (-2147483648) ≤ x2 ∧ x2 ≤ 2147483647) (h_i_row : RI i_row) : zok (f_HM_stone x1 x2 i_thrown i_status i_refusals i_row) (fun o => RI o.2.2.2.2 ∧ (∀ j : Nat, (j < 9 ∨ 141 ≤ j) → o.2.2.2.2 j = i_row j)) := by
  unfold f_HM_stone
  refine zk_d1 (s_HM_isWeight _ (by omega)) (fun v1 hp => ?_)
  try dsimp only at hp
  have hpp0 := hp
  refine zk_ifc (zci_ner (by omega)) (fun hc => ?_) (fun hc => ?_)
  · refine zk_d1 (s_HM_isColumn _ _ (by omega) h_i_row) (fun v2 hp_2 => ?_)
    try dsimp only at hp_2
    obtain ⟨hp_2p0, hp_2p1⟩ := hp_2
    refine zk_ifc (zci_ner (by omega)) (fun hc_2 => ?_) (fun hc_2 => ?_)
    · refine zk_n ?_
      refine zk_gv (by omega) (by decide) (fun v4 h_v4 => ?_)
      have r_v4 := RI_h h_i_row (i := (9 + x1)) (by omega)
      refine zk_ifc (zci_ne (by omega) (by omega)) (fun hc_3 => ?_) (fun hc_3 => ?_)
      · refine zk_n ?_
        refine zk_n ?_
        refine zk_n ?_
        refine zk_sv (by omega) (by decide) (fun a8 h_a8 => ?_)
        have i_a8 : RI a8 := by rw [h_a8]; exact RIz_s h_i_row (by omega) (by omega)
        refine zk_n ?_
        refine zk_gv (by omega) (by decide) (fun v10 h_v10 => ?_)
        have z_v10_a8 := zu_rd h_a8 ((9 + x1).toNat)
        have r_v10 := RI_h i_a8 (i := (9 + x1)) (by omega)
        refine zk_n ?_
        refine zk_sv (by omega) (by decide) (fun a12 h_a12 => ?_)
        have i_a12 : RI a12 := by rw [h_a12]; exact RIz_h i_a8 (by omega) (by omega)
        refine zk_n ?_
        refine zk_d3 (s_HM_tell _ _ _ (by omega)) (fun v14 v15 a16 hp_3 => ?_)
        try dsimp only at hp_3
        obtain ⟨hp_3p0, hp_3p1⟩ := hp_3
        refine zk_ret ?_
        try dsimp only
        exact ⟨i_a12, by first | exact fun j _ => rfl | assumption | (intro j hj; simp only [h_a12, h_a8, zu, ↓reduceIte]; (repeat' split) <;> omega)⟩
      · refine zk_d3 (s_HM_tell _ _ _ (by omega)) (fun v17 v18 a19 hp_4 => ?_)
        try dsimp only at hp_4
        obtain ⟨hp_4p0, hp_4p1⟩ := hp_4
        refine zk_ret ?_
        try dsimp only
        exact ⟨h_i_row, by first | exact fun j _ => rfl | assumption | (intro j hj; simp only [zu_eq, zu, ↓reduceIte]; (repeat' split) <;> omega)⟩
    · refine zk_d3 (s_HM_tell _ _ _ (by omega)) (fun v20 v21 a22 hp_5 => ?_)
      try dsimp only at hp_5
      obtain ⟨hp_5p0, hp_5p1⟩ := hp_5
      refine zk_ret ?_
      try dsimp only
      exact ⟨h_i_row, by first | exact fun j _ => rfl | assumption | (intro j hj; simp only [zu_eq, zu, ↓reduceIte]; (repeat' split) <;> omega)⟩
  · refine zk_d3 (s_HM_tell _ _ _ (by omega)) (fun v23 v24 a25 hp_6 => ?_)
    try dsimp only at hp_6
    obtain ⟨hp_6p0, hp_6p1⟩ := hp_6
    refine zk_ret ?_
    try dsimp only
    exact ⟨h_i_row, by first | exact fun j _ => rfl | assumption | (intro j hj; simp only [zu_eq, zu, ↓reduceIte]; (repeat' split) <;> omega)⟩
theorem s_HM_lift (x1 : Int) (i_thrown : Int) (i_status : Int) (i_refusals : Nat → Int) (i_row : Nat → Int) (b_x1 : (-2147483648) ≤ x1 ∧ x1 ≤ 2147483647) (h_i_row : RI i_row) : zok (f_HM_lift x1 i_thrown i_status i_refusals i_row) (fun o => RI o.2.2.2.2 ∧ (∀ j : Nat, (j < 9 ∨ 141 ≤ j) → o.2.2.2.2 j = i_row j)) := by
  unfold f_HM_lift
  refine zk_d1 (s_HM_isColumn _ _ (by omega) h_i_row) (fun v1 hp => ?_)
  try dsimp only at hp
  obtain ⟨hpp0, hpp1⟩ := hp
  refine zk_ifc (zci_ner (by omega)) (fun hc => ?_) (fun hc => ?_)
  · refine zk_n ?_
    refine zk_gv (by omega) (by decide) (fun v3 h_v3 => ?_)
    have r_v3 := RI_h h_i_row (i := (9 + x1)) (by omega)
    refine zk_ifc (zci_ner (by omega)) (fun hc_2 => ?_) (fun hc_2 => ?_)
    · refine zk_n ?_
      refine zk_gv (by omega) (by decide) (fun v5 h_v5 => ?_)
      have r_v5 := RI_h h_i_row (i := (9 + x1)) (by omega)
      refine zk_n ?_
      refine zk_sv (by omega) (by decide) (fun a7 h_a7 => ?_)
      have i_a7 : RI a7 := by rw [h_a7]; exact RIz_h h_i_row (by omega) (by omega)
      refine zk_n ?_
      refine zk_n ?_
      refine zk_n ?_
      refine zk_n ?_
      refine zk_gv (by omega) (by decide) (fun v12 h_v12 => ?_)
      have z_v12_a7 := zu_rd h_a7 ((((21 + (10 * x1)) + v3) - 1).toNat)
      have r_v12 := RI_s i_a7 (i := (((21 + (10 * x1)) + v3) - 1)) (by omega)
      refine zk_d3 (s_HM_tell _ _ _ (by omega)) (fun v13 v14 a15 hp_2 => ?_)
      try dsimp only at hp_2
      obtain ⟨hp_2p0, hp_2p1⟩ := hp_2
      refine zk_ret ?_
      try dsimp only
      exact ⟨i_a7, by first | exact fun j _ => rfl | assumption | (intro j hj; simp only [h_a7, zu, ↓reduceIte]; (repeat' split) <;> omega)⟩
    · refine zk_d3 (s_HM_tell _ _ _ (by omega)) (fun v16 v17 a18 hp_3 => ?_)
      try dsimp only at hp_3
      obtain ⟨hp_3p0, hp_3p1⟩ := hp_3
      refine zk_ret ?_
      try dsimp only
      exact ⟨h_i_row, by first | exact fun j _ => rfl | assumption | (intro j hj; simp only [zu_eq, zu, ↓reduceIte]; (repeat' split) <;> omega)⟩
  · refine zk_d3 (s_HM_tell _ _ _ (by omega)) (fun v19 v20 a21 hp_4 => ?_)
    try dsimp only at hp_4
    obtain ⟨hp_4p0, hp_4p1⟩ := hp_4
    refine zk_ret ?_
    try dsimp only
    exact ⟨h_i_row, by first | exact fun j _ => rfl | assumption | (intro j hj; simp only [zu_eq, zu, ↓reduceIte]; (repeat' split) <;> omega)⟩
theorem s_HM_of (x1 : Int) (x2 : Int) (i_row : Nat → Int) (i_thrown : Int) (b_x1 : (-2147483648) ≤ x1 ∧ x1 ≤ 2147483647) (b_x2 : (-2147483648) ≤ x2 ∧ x2 ≤ 2147483647) (h_i_row : RI i_row) : zok (f_HM_of x1 x2 i_row i_thrown) (fun o => True) := by
  unfold f_HM_of
  refine zk_d1 (s_HM_isColumn _ _ (by omega) h_i_row) (fun v1 hp => ?_)
  try dsimp only at hp
  obtain ⟨hpp0, hpp1⟩ := hp
  refine zk_ifc (zci_ner (by omega)) (fun hc => ?_) (fun hc => ?_)
  · refine zk_ifc (zci_ne (by omega) (by omega)) (fun hc_2 => ?_) (fun hc_2 => ?_)
    · refine zk_nE (fun v2 h_v2 => ?_)
      rw [zwi (by omega)] at h_v2
      replace h_v2 := h_v2.symm
      subst h_v2
      refine zk_n ?_
      refine zk_gv (by omega) (by decide) (fun v4 h_v4 => ?_)
      have r_v4 := RI_h h_i_row (i := (9 + x1)) (by omega)
      refine zk_nE (fun v5 h_v5 => ?_)
      rw [zwi (by omega)] at h_v5
      replace h_v5 := h_v5.symm
      subst h_v5
      refine zk_n ?_
      refine zk_d1 (s_HM_in _ _ _ (by omega) (by omega) (by omega)) (fun v7 hp_2 => ?_)
      try dsimp only at hp_2
      have hp_2p0 := hp_2
      refine zk_ifc (zci_eqr (by omega)) (fun hc_3 => ?_) (fun hc_3 => ?_)
      · exact zk_ret trivial
      · refine zk_n ?_
        refine zk_n ?_
        refine zk_n ?_
        refine zk_gv (by omega) (by decide) (fun v11 h_v11 => ?_)
        have r_v11 := RI_s h_i_row (i := ((21 + (10 * x1)) + x2)) (by omega)
        exact zk_ret trivial
    · refine zk_n ?_
      refine zk_gv (by omega) (by decide) (fun v13 h_v13 => ?_)
      have r_v13 := RI_h h_i_row (i := (9 + x1)) (by omega)
      exact zk_ret trivial
  · exact zk_ret trivial
theorem s_HM_weight_19 (i_row : Nat → Int) (h_i_row : RI i_row) : ∀ (n : Nat) (x1 : Int) (x2 : Int) (x3 : Int) (i_thrown : Int), (0 ≤ x1 ∧ x1 ≤ 11) → (0 ≤ x3 ∧ x3 ≤ 10) → (11 - x3) < (n : Int) → zok (f_HM_weight_19 i_row n x1 x2 x3 i_thrown) (fun o => True) := by
  intro n
  induction n with
  | zero => intro x1 x2 x3 i_thrown b_x1 b_x3 hm; exfalso; omega
  | succ n ih =>
    intro x1 x2 x3 i_thrown b_x1 b_x3 hm
    show zok (f_HM_weight_19_b i_row (f_HM_weight_19 i_row n) x1 x2 x3 i_thrown) _
    unfold f_HM_weight_19_b
    refine zk_n ?_
    refine zk_gv (by omega) (by decide) (fun v2 h_v2 => ?_)
    have r_v2 := RI_h h_i_row (i := (9 + x1)) (by omega)
    refine zk_ifc (zci_le (by omega) (by omega)) (fun hc => ?_) (fun hc => ?_)
    · exact zk_ret trivial
    · refine zk_n ?_
      refine zk_n ?_
      refine zk_n ?_
      refine zk_gv (by omega) (by decide) (fun v6 h_v6 => ?_)
      have r_v6 := RI_s h_i_row (i := ((21 + (10 * x1)) + x3)) (by omega)
      refine zk_n ?_
      refine zk_n ?_
      exact ih _ _ _ _ (by omega) (by omega) (by omega)
theorem s_HM_weight (x1 : Int) (i_row : Nat → Int) (i_thrown : Int) (b_x1 : (-2147483648) ≤ x1 ∧ x1 ≤ 2147483647) (h_i_row : RI i_row) : zok (f_HM_weight x1 i_row i_thrown) (fun o => True) := by
  unfold f_HM_weight
  refine zk_d1 (s_HM_isColumn _ _ (by omega) h_i_row) (fun v1 hp => ?_)
  try dsimp only at hp
  obtain ⟨hpp0, hpp1⟩ := hp
  refine zk_ifc (zci_ner (by omega)) (fun hc => ?_) (fun hc => ?_)
  · exact s_HM_weight_19 _ h_i_row zfu _ _ _ _ (by omega) (by omega) (by unfold zfu; omega)
  · exact zk_ret trivial
theorem s_HM_child (x1 : Int) (i_thrown : Int) (i_status : Int) (i_refusals : Nat → Int) (i_row : Nat → Int) (b_x1 : (-2147483648) ≤ x1 ∧ x1 ≤ 2147483647) (h_i_row : RI i_row) : zok (f_HM_child x1 i_thrown i_status i_refusals i_row) (fun o => RI o.2.2.2.2) := by
  unfold f_HM_child
  refine zk_nE (fun v1 h_v1 => ?_)
  rw [zwi (by omega)] at h_v1
  replace h_v1 := h_v1.symm
  subst h_v1
  refine zk_d1 (s_HM_in _ _ _ (by omega) (by omega) (by omega)) (fun v2 hp => ?_)
  try dsimp only at hp
  have hpp0 := hp
  refine zk_ifc (zci_ner (by omega)) (fun hc => ?_) (fun hc => ?_)
  · refine zk_gl 1 rfl (by decide) (by decide) (fun v3 h_v3 => ?_)
    have r_v3 := RI_1 h_i_row
    refine zk_ifc (zci_ne (by omega) (by omega)) (fun hc_2 => ?_) (fun hc_2 => ?_)
    · refine zk_n ?_
      refine zk_n ?_
      refine zk_sv (by omega) (by decide) (fun a6 h_a6 => ?_)
      have i_a6 : RI a6 := by rw [h_a6]; exact RIz_c h_i_row (by omega) (by omega)
      refine zk_n ?_
      refine zk_n ?_
      refine zk_n ?_
      refine zk_sv (by omega) (by decide) (fun a10 h_a10 => ?_)
      have i_a10 : RI a10 := by rw [h_a10]; exact RIz_c i_a6 (by omega) (by omega)
      refine zk_n ?_
      refine zk_n ?_
      refine zk_n ?_
      refine zk_sv (by omega) (by decide) (fun a14 h_a14 => ?_)
      have i_a14 : RI a14 := by rw [h_a14]; exact RIz_c i_a10 (by omega) (by omega)
      refine zk_gl 1 rfl (by decide) (by decide) (fun v15 h_v15 => ?_)
      have z_v15_a14 := zu_rd h_a14 (1)
      have z_v15_a10 := zu_rd h_a10 (1)
      have z_v15_a6 := zu_rd h_a6 (1)
      have r_v15 := RI_1 i_a14
      refine zk_n ?_
      refine zk_sl 1 rfl (by decide) (by decide) (fun a17 h_a17 => ?_)
      have i_a17 : RI a17 := by rw [h_a17]; exact RIz_1 i_a14 (by omega)
      refine zk_d3 (s_HM_tell _ _ _ (by omega)) (fun v18 v19 a20 hp_2 => ?_)
      try dsimp only at hp_2
      obtain ⟨hp_2p0, hp_2p1⟩ := hp_2
      refine zk_ret ?_
      try dsimp only
      all_goals exact i_a17
    · refine zk_d3 (s_HM_tell _ _ _ (by omega)) (fun v21 v22 a23 hp_3 => ?_)
      try dsimp only at hp_3
      obtain ⟨hp_3p0, hp_3p1⟩ := hp_3
      refine zk_ret ?_
      try dsimp only
      all_goals exact h_i_row
  · refine zk_d3 (s_HM_tell _ _ _ (by omega)) (fun v24 v25 a26 hp_4 => ?_)
    try dsimp only at hp_4
    obtain ⟨hp_4p0, hp_4p1⟩ := hp_4
    refine zk_ret ?_
    try dsimp only
    all_goals exact h_i_row
theorem s_HM_expel (x1 : Int) (x2 : Int) (i_thrown : Int) (i_status : Int) (i_refusals : Nat → Int) (i_row : Nat → Int) (b_x1 : (-2147483648) ≤ x1 ∧ x1 ≤ 2147483647) (b_x2 : (-2147483648) ≤ x2 ∧ x2 ≤ 2147483647) (h_i_row : RI i_row) : zok (f_HM_expel x1 x2 i_thrown i_status i_refusals i_row) (fun o => RI o.2.2.2.2) := by
  unfold f_HM_expel
  refine zk_nE (fun v1 h_v1 => ?_)
  rw [zwi (by omega)] at h_v1
  replace h_v1 := h_v1.symm
  subst h_v1
  refine zk_d1 (s_HM_in _ _ _ (by omega) (by omega) (by omega)) (fun v2 hp => ?_)
  try dsimp only at hp
  have hpp0 := hp
  refine zk_ifc (zci_ner (by omega)) (fun hc => ?_) (fun hc => ?_)
  · refine zk_d1 (s_HM_isChild _ _ (by omega) h_i_row) (fun v3 hp_2 => ?_)
    try dsimp only at hp_2
    obtain ⟨hp_2p0, hp_2p1⟩ := hp_2
    refine zk_ifc (zci_eqr (by omega)) (fun hc_2 => ?_) (fun hc_2 => ?_)
    · refine zk_d3 (s_HM_tell _ _ _ (by omega)) (fun v4 v5 a6 hp_3 => ?_)
      try dsimp only at hp_3
      obtain ⟨hp_3p0, hp_3p1⟩ := hp_3
      refine zk_ret ?_
      try dsimp only
      all_goals exact h_i_row
    · refine zk_n ?_
      refine zk_n ?_
      refine zk_n ?_
      refine zk_d3 (s_HM_change _ _ _ _ (by omega)) (fun v10 v11 a12 hp_4 => ?_)
      try dsimp only at hp_4
      obtain ⟨hp_4p0, hp_4p1, hp_4p2⟩ := hp_4
      have i_a12 : RI a12 := by rw [hp_4p2]; exact RIz_c h_i_row (by omega) (by omega)
      refine zk_ret ?_
      try dsimp only
      all_goals exact i_a12
  · refine zk_d3 (s_HM_tell _ _ _ (by omega)) (fun v13 v14 a15 hp_5 => ?_)
    try dsimp only at hp_5
    obtain ⟨hp_5p0, hp_5p1⟩ := hp_5
    refine zk_ret ?_
    try dsimp only
    all_goals exact h_i_row
theorem s_HM_fact (x1 : Int) (x2 : Int) (i_row : Nat → Int) (i_thrown : Int) (b_x1 : (-2147483648) ≤ x1 ∧ x1 ≤ 2147483647) (b_x2 : (-2147483648) ≤ x2 ∧ x2 ≤ 2147483647) (h_i_row : RI i_row) : zok (f_HM_fact x1 x2 i_row i_thrown) (fun o => True) := by
  unfold f_HM_fact
  refine zk_d1 (s_HM_isChild _ _ (by omega) h_i_row) (fun v1 hp => ?_)
  try dsimp only at hp
  obtain ⟨hpp0, hpp1⟩ := hp
  refine zk_ifc (zci_eqr (by omega)) (fun hc => ?_) (fun hc => ?_)
  · exact zk_ret trivial
  · refine zk_nE (fun v2 h_v2 => ?_)
    rw [zwi (by omega)] at h_v2
    replace h_v2 := h_v2.symm
    subst h_v2
    refine zk_d1 (s_HM_in _ _ _ (by omega) (by omega) (by omega)) (fun v3 hp_2 => ?_)
    try dsimp only at hp_2
    have hp_2p0 := hp_2
    refine zk_ifc (zci_eqr (by omega)) (fun hc_2 => ?_) (fun hc_2 => ?_)
    · exact zk_ret trivial
    · refine zk_n ?_
      refine zk_n ?_
      refine zk_n ?_
      refine zk_gv (by omega) (by decide) (fun v7 h_v7 => ?_)
      have r_v7 := RI_c h_i_row (i := ((153 + (3 * x1)) + x2)) (by omega)
      exact zk_ret trivial
theorem s_HM_parish (x1 : Int) (i_thrown : Int) (i_status : Int) (i_refusals : Nat → Int) (i_row : Nat → Int) (b_x1 : (-2147483648) ≤ x1 ∧ x1 ≤ 2147483647) (h_i_row : RI i_row) : zok (f_HM_parish x1 i_thrown i_status i_refusals i_row) (fun o => RI o.2.2.2.2) := by
  unfold f_HM_parish
  refine zk_d1 (s_HM_isColumn _ _ (by omega) h_i_row) (fun v1 hp => ?_)
  try dsimp only at hp
  obtain ⟨hpp0, hpp1⟩ := hp
  refine zk_ifc (zci_ner (by omega)) (fun hc => ?_) (fun hc => ?_)
  · refine zk_gl 2 rfl (by decide) (by decide) (fun v2 h_v2 => ?_)
    have r_v2 := RI_2 h_i_row
    refine zk_ifc (zci_ne (by omega) (by omega)) (fun hc_2 => ?_) (fun hc_2 => ?_)
    · refine zk_n ?_
      refine zk_sv (by omega) (by decide) (fun a4 h_a4 => ?_)
      have i_a4 : RI a4 := by rw [h_a4]; exact RIz_p h_i_row (by omega) (by omega)
      refine zk_gl 2 rfl (by decide) (by decide) (fun v5 h_v5 => ?_)
      have z_v5_a4 := zu_rd h_a4 (2)
      have r_v5 := RI_2 i_a4
      refine zk_n ?_
      refine zk_sl 2 rfl (by decide) (by decide) (fun a7 h_a7 => ?_)
      have i_a7 : RI a7 := by rw [h_a7]; exact RIz_2 i_a4 (by omega)
      refine zk_d3 (s_HM_tell _ _ _ (by omega)) (fun v8 v9 a10 hp_2 => ?_)
      try dsimp only at hp_2
      obtain ⟨hp_2p0, hp_2p1⟩ := hp_2
      refine zk_ret ?_
      try dsimp only
      all_goals exact i_a7
    · refine zk_d3 (s_HM_tell _ _ _ (by omega)) (fun v11 v12 a13 hp_3 => ?_)
      try dsimp only at hp_3
      obtain ⟨hp_3p0, hp_3p1⟩ := hp_3
      refine zk_ret ?_
      try dsimp only
      all_goals exact h_i_row
  · refine zk_d3 (s_HM_tell _ _ _ (by omega)) (fun v14 v15 a16 hp_4 => ?_)
    try dsimp only at hp_4
    obtain ⟨hp_4p0, hp_4p1⟩ := hp_4
    refine zk_ret ?_
    try dsimp only
    all_goals exact h_i_row
theorem s_HM_terms (x1 : Int) (x2 : Int) (i_thrown : Int) (i_status : Int) (i_refusals : Nat → Int) (i_row : Nat → Int) (b_x1 : (-2147483648) ≤ x1 ∧ x1 ≤ 2147483647) (b_x2 : (-2147483648) ≤ x2 ∧ x2 ≤ 2147483647) (h_i_row : RI i_row) : zok (f_HM_terms x1 x2 i_thrown i_status i_refusals i_row) (fun o => RI o.2.2.2.2) := by
  unfold f_HM_terms
  refine zk_d1 (s_HM_isTerm _ _ (by omega) (by omega)) (fun v1 hp => ?_)
  try dsimp only at hp
  have hpp0 := hp
  refine zk_ifc (zci_eqr (by omega)) (fun hc => ?_) (fun hc => ?_)
  · refine zk_d3 (s_HM_tell _ _ _ (by omega)) (fun v2 v3 a4 hp_2 => ?_)
    try dsimp only at hp_2
    obtain ⟨hp_2p0, hp_2p1⟩ := hp_2
    refine zk_ret ?_
    try dsimp only
    all_goals exact h_i_row
  · refine zk_n ?_
    refine zk_d3 (s_HM_change _ _ _ _ (by omega)) (fun v6 v7 a8 hp_3 => ?_)
    try dsimp only at hp_3
    obtain ⟨hp_3p0, hp_3p1, hp_3p2⟩ := hp_3
    have i_a8 : RI a8 := by rw [hp_3p2]; exact RIz_t h_i_row (by omega) (by omega)
    refine zk_ret ?_
    try dsimp only
    all_goals exact i_a8
theorem s_HM_row_56 (i_tape : Nat → Int) (h_i_tape : zR i_tape 0 255) : ∀ (n : Nat) (x1 : Int) (x2 : Int) (x3 : Int) (x4 : Int) (i_thrown : Int) (i_status : Int) (i_gravel : Int) (i_taped : Int) (i_refusals : Nat → Int) (i_row : Nat → Int), (1 ≤ x1 ∧ x1 ≤ 400) → (0 ≤ x2 ∧ x2 ≤ 11) → (0 ≤ x3 ∧ x3 ≤ 400) → (1 ≤ x4 ∧ x4 ≤ 400) → (0 ≤ i_taped ∧ i_taped ≤ 400) → (RI i_row) → (x4 ≤ x1) → (x3 ≤ x4) → (401 - x4) < (n : Int) → zok (f_HM_row_56 i_tape n x1 x2 x3 x4 i_thrown i_status i_gravel i_taped i_refusals i_row) (fun o => (0 ≤ o.2.2.2.2.1 ∧ o.2.2.2.2.1 ≤ 400) ∧ RI o.2.2.2.2.2.2 ∧ (o.2.2.2.2.1 = i_taped) ∧ (∀ j : Nat, (j < 9 ∨ 141 ≤ j) → o.2.2.2.2.2.2 j = i_row j)) := by
  intro n
  induction n with
  | zero => intro x1 x2 x3 x4 i_thrown i_status i_gravel i_taped i_refusals i_row b_x1 b_x2 b_x3 b_x4 b_i_taped h_i_row p_0 p_1 hm; exfalso; omega
  | succ n ih =>
    intro x1 x2 x3 x4 i_thrown i_status i_gravel i_taped i_refusals i_row b_x1 b_x2 b_x3 b_x4 b_i_taped h_i_row p_0 p_1 hm
    show zok (f_HM_row_56_b i_tape (f_HM_row_56 i_tape n) x1 x2 x3 x4 i_thrown i_status i_gravel i_taped i_refusals i_row) _
    unfold f_HM_row_56_b
    refine zk_ifc (zci_le (by omega) (by omega)) (fun hc => ?_) (fun hc => ?_)
    · refine zk_d3 (s_HM_tell _ _ _ (by omega)) (fun v1 v2 a3 hp => ?_)
      try dsimp only at hp
      obtain ⟨hpp0, hpp1⟩ := hp
      refine zk_ret ?_
      try dsimp only
      exact ⟨by omega, h_i_row, by omega, by first | exact fun j _ => rfl | assumption | (intro j hj; simp only [zu_eq, zu, ↓reduceIte]; (repeat' split) <;> omega)⟩
    · refine zk_gv (by omega) (by decide) (fun v4 h_v4 => ?_)
      have r_v4 := h_i_tape (x4.toNat)
      refine zk_d1 (s_HM_isWeight _ (by omega)) (fun v5 hp_2 => ?_)
      try dsimp only at hp_2
      have hp_2p0 := hp_2
      refine zk_ifc (zci_eqr (by omega)) (fun hc_2 => ?_) (fun hc_2 => ?_)
      · unfold f_HM_row_137
        refine zk_n ?_
        unfold f_HM_row_147
        refine zk_n ?_
        refine zok_mono (ih _ _ _ _ _ _ _ _ _ _ (by omega) (by omega) (by omega) (by omega) (by omega) h_i_row (by omega) (by omega) (by omega)) (fun o ho => ?_)
        try dsimp only at ho
        obtain ⟨ho_0, ho_1, ho_2, ho_3⟩ := ho
        exact ⟨by omega, ho_1, by omega, by intro j hj; first | exact ho_3 j hj | (rw [ho_3 j hj]; simp only [zu_eq, zu, ↓reduceIte]; (repeat' split) <;> omega)⟩
      · refine zk_n ?_
        refine zk_gv (by omega) (by decide) (fun v7 h_v7 => ?_)
        have r_v7 := RI_h h_i_row (i := (9 + x2)) (by omega)
        refine zk_ifc (zci_le (by omega) (by omega)) (fun hc_3 => ?_) (fun hc_3 => ?_)
        · unfold f_HM_row_137
          refine zk_n ?_
          unfold f_HM_row_147
          refine zk_n ?_
          refine zok_mono (ih _ _ _ _ _ _ _ _ _ _ (by omega) (by omega) (by omega) (by omega) (by omega) h_i_row (by omega) (by omega) (by omega)) (fun o ho => ?_)
          try dsimp only at ho
          obtain ⟨ho_0, ho_1, ho_2, ho_3⟩ := ho
          exact ⟨by omega, ho_1, by omega, by intro j hj; first | exact ho_3 j hj | (rw [ho_3 j hj]; simp only [zu_eq, zu, ↓reduceIte]; (repeat' split) <;> omega)⟩
        · refine zk_n ?_
          refine zk_n ?_
          refine zk_n ?_
          refine zk_gv (by omega) (by decide) (fun v11 h_v11 => ?_)
          have r_v11 := RI_h h_i_row (i := (9 + x2)) (by omega)
          refine zk_n ?_
          refine zk_gv (by omega) (by decide) (fun v13 h_v13 => ?_)
          have r_v13 := h_i_tape (x4.toNat)
          refine zk_sv (by omega) (by decide) (fun a14 h_a14 => ?_)
          have i_a14 : RI a14 := by rw [h_a14]; exact RIz_s h_i_row (by omega) (by omega)
          refine zk_n ?_
          refine zk_gv (by omega) (by decide) (fun v16 h_v16 => ?_)
          have z_v16_a14 := zu_rd h_a14 ((9 + x2).toNat)
          have r_v16 := RI_h i_a14 (i := (9 + x2)) (by omega)
          refine zk_n ?_
          refine zk_sv (by omega) (by decide) (fun a18 h_a18 => ?_)
          have i_a18 : RI a18 := by rw [h_a18]; exact RIz_h i_a14 (by omega) (by omega)
          refine zk_n ?_
          unfold f_HM_row_147
          refine zk_n ?_
          refine zok_mono (ih _ _ _ _ _ _ _ _ _ _ (by omega) (by omega) (by omega) (by omega) (by omega) i_a18 (by omega) (by omega) (by omega)) (fun o ho => ?_)
          try dsimp only at ho
          obtain ⟨ho_0, ho_1, ho_2, ho_3⟩ := ho
          exact ⟨by omega, ho_1, by omega, by intro j hj; first | exact ho_3 j hj | (rw [ho_3 j hj]; simp only [h_a18, h_a14, zu, ↓reduceIte]; (repeat' split) <;> omega)⟩
theorem s_HM_row (i_tape : Nat → Int) (i_thrown : Int) (i_status : Int) (i_gravel : Int) (i_taped : Int) (i_refusals : Nat → Int) (i_row : Nat → Int) (h_i_tape : zR i_tape 0 255) (b_i_taped : 0 ≤ i_taped ∧ i_taped ≤ 400) (h_i_row : RI i_row) : zok (f_HM_row i_tape i_thrown i_status i_gravel i_taped i_refusals i_row) (fun o => (0 ≤ o.2.2.2.2.1 ∧ o.2.2.2.2.1 ≤ 400) ∧ RI o.2.2.2.2.2.2 ∧ (o.2.2.2.2.1 = 0) ∧ (∀ j : Nat, (j < 9 ∨ 141 ≤ j) → o.2.2.2.2.2.2 j = i_row j)) := by
  unfold f_HM_row
  refine zk_ifc (zci_eqr (by omega)) (fun hc => ?_) (fun hc => ?_)
  · unfold f_HM_row_32
    refine zk_d3 (s_HM_tell _ _ _ (by omega)) (fun v1 v2 a3 hp => ?_)
    try dsimp only at hp
    obtain ⟨hpp0, hpp1⟩ := hp
    refine zk_ret ?_
    try dsimp only
    exact ⟨by omega, h_i_row, by omega, by first | exact fun j _ => rfl | assumption | (intro j hj; simp only [zu_eq, zu, ↓reduceIte]; (repeat' split) <;> omega)⟩
  · refine zk_gl 0 rfl (by decide) (by decide) (fun v1_2 h_v1_2 => ?_)
    have r_v1_2 := h_i_tape (0)
    refine zk_d1 (s_HM_isColumn _ _ (by omega) h_i_row) (fun v2_2 hp_2 => ?_)
    try dsimp only at hp_2
    obtain ⟨hp_2p0, hp_2p1⟩ := hp_2
    refine zk_ifc (zci_ner (by omega)) (fun hc_2 => ?_) (fun hc_2 => ?_)
    · refine zk_gl 0 rfl (by decide) (by decide) (fun v3 h_v3 => ?_)
      have r_v3 := h_i_tape (0)
      refine zok_mono (s_HM_row_56 _ h_i_tape zfu _ _ _ _ _ _ _ _ _ _ (by omega) (by omega) (by omega) (by omega) (by omega) h_i_row (by omega) (by omega) (by unfold zfu; omega)) (fun o ho => ?_)
      try dsimp only at ho
      obtain ⟨ho_0, ho_1, ho_2, ho_3⟩ := ho
      exact ⟨by omega, ho_1, by omega, by intro j hj; first | exact ho_3 j hj | (rw [ho_3 j hj]; simp only [zu_eq, zu, ↓reduceIte]; (repeat' split) <;> omega)⟩
    · unfold f_HM_row_32
      refine zk_d3 (s_HM_tell _ _ _ (by omega)) (fun v1_3 v2_3 a3_2 hp_3 => ?_)
      try dsimp only at hp_3
      obtain ⟨hp_3p0, hp_3p1⟩ := hp_3
      refine zk_ret ?_
      try dsimp only
      exact ⟨by omega, h_i_row, by omega, by first | exact fun j _ => rfl | assumption | (intro j hj; simp only [zu_eq, zu, ↓reduceIte]; (repeat' split) <;> omega)⟩
theorem s_HM_gravel (i_gravel : Int) (i_thrown : Int)  : zok (f_HM_gravel i_gravel i_thrown) (fun o => True) := by
  unfold f_HM_gravel
  exact zk_ret trivial
theorem s_HM_four_3   : ∀ (n : Nat) (x1 : Int) (x2 : Int) (i_taped : Int) (i_tape : Nat → Int), ((-2147483648) ≤ x1 ∧ x1 ≤ 2147483647) → ((-8) ≤ x2 ∧ x2 ≤ 24) → (0 ≤ i_taped ∧ i_taped ≤ 400) → (zR i_tape 0 255) → (x2 % 8 = 0) → (8 * i_taped + x2 ≤ 3192) → (x2 + 9) < (n : Int) → zok (f_HM_four_3  n x1 x2 i_taped i_tape) (fun o => zR o.2 0 255 ∧ (8 * o.1 - 8 = 8 * i_taped + x2)) := by
  intro n
  induction n with
  | zero => intro x1 x2 i_taped i_tape b_x1 b_x2 b_i_taped h_i_tape p_0 p_1 hm; exfalso; omega
  | succ n ih =>
    intro x1 x2 i_taped i_tape b_x1 b_x2 b_i_taped h_i_tape p_0 p_1 hm
    show zok (f_HM_four_3_b  (f_HM_four_3  n) x1 x2 i_taped i_tape) _
    unfold f_HM_four_3_b
    refine zk_ifc (zci_ltr (by omega)) (fun hc => ?_) (fun hc => ?_)
    · refine zk_ret ?_
      try dsimp only
      exact ⟨h_i_tape, by omega⟩
    · refine zk_nE (fun v1 h_v1 => ?_)
      have r_v1 := zi_shr_f x1 x2; rw [← h_v1] at r_v1
      refine zk_nE (fun v2 h_v2 => ?_)
      have r_v2 := zi_and_m v1 (m := 255) (by decide); rw [← h_v2] at r_v2
      refine zk_sv (by omega) (by decide) (fun a3 h_a3 => ?_)
      have i_a3 : zR a3 0 255 := by rw [h_a3]; exact zR_zu h_i_tape (by decide) (by decide) (by omega)
      refine zk_n ?_
      refine zk_n ?_
      refine zok_mono (ih _ _ _ _ (by omega) (by omega) (by omega) i_a3 (by omega) (by omega) (by omega)) (fun o ho => ?_)
      try dsimp only at ho
      obtain ⟨ho_0, ho_1⟩ := ho
      exact ⟨ho_0, by omega⟩
theorem s_HM_four (x1 : Int) (i_taped : Int) (i_tape : Nat → Int) (b_x1 : (-2147483648) ≤ x1 ∧ x1 ≤ 2147483647) (b_i_taped : 0 ≤ i_taped ∧ i_taped ≤ 396) (h_i_tape : zR i_tape 0 255) : zok (f_HM_four x1 i_taped i_tape) (fun o => zR o.2 0 255 ∧ (o.1 = i_taped + 4)) := by
  unfold f_HM_four
  refine zok_mono (s_HM_four_3 zfu _ _ _ _ (by omega) (by omega) (by omega) h_i_tape (by omega) (by omega) (by unfold zfu; omega)) (fun o ho => ?_)
  try dsimp only at ho
  obtain ⟨ho_0, ho_1⟩ := ho
  exact ⟨ho_0, by omega⟩
theorem s_HM_feed (x1 : Int) (x2 : Int) (x3 : Int) (x4 : Int) (x5 : Int) (i_thrown : Int) (i_taped : Int) (i_tape : Nat → Int) (b_x1 : (-2147483648) ≤ x1 ∧ x1 ≤ 2147483647) (b_x2 : (-2147483648) ≤ x2 ∧ x2 ≤ 2147483647) (b_x3 : (-2147483648) ≤ x3 ∧ x3 ≤ 2147483647) (b_x4 : (-2147483648) ≤ x4 ∧ x4 ≤ 2147483647) (b_x5 : (-2147483648) ≤ x5 ∧ x5 ≤ 2147483647) (b_i_taped : 0 ≤ i_taped ∧ i_taped ≤ 400) (h_i_tape : zR i_tape 0 255) : zok (f_HM_feed x1 x2 x3 x4 x5 i_thrown i_taped i_tape) (fun o => (0 ≤ o.2.2.1 ∧ o.2.2.1 ≤ 400) ∧ zR o.2.2.2 0 255 ∧ ((i_taped + 20 ≤ 400 ∧ o.1 = i_taped + 20 ∧ o.2.2.1 = i_taped + 20) ∨ (400 < i_taped + 20 ∧ o.1 = -1 ∧ o.2.2.1 = i_taped))) := by
  unfold f_HM_feed
  refine zk_n ?_
  refine zk_ifc (zci_le (by omega) (by omega)) (fun hc => ?_) (fun hc => ?_)
  · refine zk_d2 (s_HM_four _ _ _ (by omega) (by omega) h_i_tape) (fun v2 a3 hp => ?_)
    try dsimp only at hp
    obtain ⟨hpp0, hpp1⟩ := hp
    refine zk_d2 (s_HM_four _ _ _ (by omega) (by omega) hpp0) (fun v4 a5 hp_2 => ?_)
    try dsimp only at hp_2
    obtain ⟨hp_2p0, hp_2p1⟩ := hp_2
    refine zk_d2 (s_HM_four _ _ _ (by omega) (by omega) hp_2p0) (fun v6 a7 hp_3 => ?_)
    try dsimp only at hp_3
    obtain ⟨hp_3p0, hp_3p1⟩ := hp_3
    refine zk_d2 (s_HM_four _ _ _ (by omega) (by omega) hp_3p0) (fun v8 a9 hp_4 => ?_)
    try dsimp only at hp_4
    obtain ⟨hp_4p0, hp_4p1⟩ := hp_4
    refine zk_d2 (s_HM_four _ _ _ (by omega) (by omega) hp_4p0) (fun v10 a11 hp_5 => ?_)
    try dsimp only at hp_5
    obtain ⟨hp_5p0, hp_5p1⟩ := hp_5
    refine zk_ret ?_
    try dsimp only
    exact ⟨by omega, hp_5p0, by omega⟩
  · refine zk_ret ?_
    try dsimp only
    exact ⟨by omega, h_i_tape, by omega⟩
theorem s_HM_end (x1 : Int) (i_thrown : Int) (i_taped : Int) (b_x1 : (-2147483648) ≤ x1 ∧ x1 ≤ 2147483647) (b_i_taped : 0 ≤ i_taped ∧ i_taped ≤ 400) : zok (f_HM_end x1 i_thrown i_taped) (fun o => (0 ≤ o.2.2 ∧ o.2.2 ≤ 400)) := by
  unfold f_HM_end
  refine zk_ifc (zci_ltr (by omega)) (fun hc => ?_) (fun hc => ?_)
  · refine zk_ret ?_
    try dsimp only
    all_goals exact (by omega)
  · refine zk_ifc (zci_le (by omega) (by omega)) (fun hc_2 => ?_) (fun hc_2 => ?_)
    · refine zk_ret ?_
      try dsimp only
      all_goals exact (by omega)
    · refine zk_ret ?_
      try dsimp only
      all_goals exact (by omega)
theorem s_HM_fault (i_fault : Int) (i_thrown : Int)  : zok (f_HM_fault i_fault i_thrown) (fun o => True) := by
  unfold f_HM_fault
  exact zk_ret trivial
theorem s_HM_force (x1 : Int) (i_thrown : Int) (i_status : Int) (i_refusals : Nat → Int) (i_row : Nat → Int) (b_x1 : (-2147483648) ≤ x1 ∧ x1 ≤ 2147483647) (h_i_row : RI i_row) : zok (f_HM_force x1 i_thrown i_status i_refusals i_row) (fun o => RI o.2.2.2.2) := by
  unfold f_HM_force
  have q3 := RI_3 h_i_row
  refine zk_ifc (zci_eq (by omega) (by omega)) (fun hc => ?_) (fun hc => ?_)
  · unfold f_HM_force_28
    refine zk_d3 (s_HM_change _ _ _ _ (by omega)) (fun v1 v2 a3 hp => ?_)
    try dsimp only at hp
    obtain ⟨hpp0, hpp1, hpp2⟩ := hp
    have i_a3 : RI a3 := by rw [hpp2]; exact RIz_4 h_i_row (by omega)
    refine zk_ret ?_
    try dsimp only
    all_goals exact i_a3
  · refine zk_nE (fun v1_2 h_v1_2 => ?_)
    rw [zwi (by omega)] at h_v1_2
    replace h_v1_2 := h_v1_2.symm
    subst h_v1_2
    refine zk_gl 3 rfl (by decide) (by decide) (fun v2_2 h_v2_2 => ?_)
    have r_v2_2 := RI_3 h_i_row
    refine zk_nE (fun v3 h_v3 => ?_)
    rw [zwi (by omega)] at h_v3
    replace h_v3 := h_v3.symm
    subst h_v3
    refine zk_n ?_
    refine zk_d1 (s_HM_in _ _ _ (by omega) (by omega) (by omega)) (fun v5 hp_2 => ?_)
    try dsimp only at hp_2
    have hp_2p0 := hp_2
    refine zk_ifc (zci_eqr (by omega)) (fun hc_2 => ?_) (fun hc_2 => ?_)
    · refine zk_d3 (s_HM_tell _ _ _ (by omega)) (fun v6 v7 a8 hp_3 => ?_)
      try dsimp only at hp_3
      obtain ⟨hp_3p0, hp_3p1⟩ := hp_3
      refine zk_ret ?_
      try dsimp only
      all_goals exact h_i_row
    · unfold f_HM_force_28
      refine zk_d3 (s_HM_change _ _ _ _ (by omega)) (fun v1_3 v2_3 a3_2 hp_4 => ?_)
      try dsimp only at hp_4
      obtain ⟨hp_4p0, hp_4p1, hp_4p2⟩ := hp_4
      have i_a3_2 : RI a3_2 := by rw [hp_4p2]; exact RIz_4 h_i_row (by omega)
      refine zk_ret ?_
      try dsimp only
      all_goals exact i_a3_2
theorem s_HM_top (x1 : Int) (i_high : Nat → Int) (i_heaps : Nat → Int) (b_x1 : 0 ≤ x1 ∧ x1 ≤ 11) (h_i_high : zR i_high 0 10) (h_i_heaps : zR i_heaps 0 30) : zok (f_HM_top x1 i_high i_heaps) (fun o => (0 ≤ o ∧ o ≤ 30)) := by
  unfold f_HM_top
  refine zk_gv (by omega) (by decide) (fun v1 h_v1 => ?_)
  have r_v1 := h_i_high (x1.toNat)
  refine zk_ifc (zci_ner (by omega)) (fun hc => ?_) (fun hc => ?_)
  · refine zk_n ?_
    refine zk_gv (by omega) (by decide) (fun v3 h_v3 => ?_)
    have r_v3 := h_i_high (x1.toNat)
    refine zk_n ?_
    refine zk_n ?_
    refine zk_gv (by omega) (by decide) (fun v6 h_v6 => ?_)
    have r_v6 := h_i_heaps ((((10 * x1) + v3) - 1).toNat)
    exact zk_ret (by omega)
  · exact zk_ret (by omega)
theorem s_HM_isSteep (x1 : Int) (x2 : Int) (i_row : Nat → Int) (i_high : Nat → Int) (b_x1 : 0 ≤ x1 ∧ x1 ≤ 11) (b_x2 : (-1) ≤ x2 ∧ x2 ≤ 12) (h_i_row : RI i_row) (h_i_high : zR i_high 0 10) : zok (f_HM_isSteep x1 x2 i_row i_high) (fun o => ((o = 1 ∧ 0 ≤ x2 ∧ x2 < i_row 0 ∧ i_high x2.toNat + i_row 7 < i_high x1.toNat) ∨ (o = 0 ∧ (x2 < 0 ∨ i_row 0 ≤ x2 ∨ i_high x1.toNat ≤ i_high x2.toNat + i_row 7))) ∧ (1 ≤ i_row 7) ∧ (0 ≤ i_row 0 ∧ i_row 0 ≤ 12)) := by
  unfold f_HM_isSteep
  have q7 := RI_7 h_i_row
  have q0 := RI_0 h_i_row
  refine zk_d1 (s_HM_isColumn _ _ (by omega) h_i_row) (fun v1 hp => ?_)
  try dsimp only at hp
  obtain ⟨hpp0, hpp1⟩ := hp
  refine zk_ifc (zci_eqr (by omega)) (fun hc => ?_) (fun hc => ?_)
  · exact zk_ret ⟨by omega, by omega, by omega⟩
  · refine zk_gv (by omega) (by decide) (fun v2 h_v2 => ?_)
    have r_v2 := h_i_high (x1.toNat)
    refine zk_gv (by omega) (by decide) (fun v3 h_v3 => ?_)
    have r_v3 := h_i_high (x2.toNat)
    refine zk_gl 7 rfl (by decide) (by decide) (fun v4 h_v4 => ?_)
    have r_v4 := RI_7 h_i_row
    refine zk_n ?_
    refine zk_ifc (zci_le (by omega) (by omega)) (fun hc_2 => ?_) (fun hc_2 => ?_)
    · exact zk_ret ⟨by omega, by omega, by omega⟩
    · exact zk_ret ⟨by omega, by omega, by omega⟩
theorem s_HM_steepest_2 (i_row : Nat → Int) (i_high : Nat → Int) (h_i_row : RI i_row) (h_i_high : zR i_high 0 10) : ∀ (n : Nat) (x1 : Int), (0 ≤ x1 ∧ x1 ≤ 12) → (13 - x1) < (n : Int) → zok (f_HM_steepest_2 i_row i_high n x1) (fun o => ((-1) ≤ o ∧ o ≤ 11) ∧ (o = -1 ∨ (0 ≤ o ∧ o < i_row 0 ∧ ((1 ≤ o ∧ i_high (o - 1).toNat + i_row 7 < i_high (o).toNat) ∨ (o + 1 < i_row 0 ∧ i_high (o + 1).toNat + i_row 7 < i_high (o).toNat))))) := by
  intro n
  induction n with
  | zero => intro x1 b_x1 hm; exfalso; omega
  | succ n ih =>
    intro x1 b_x1 hm
    show zok (f_HM_steepest_2_b i_row i_high (f_HM_steepest_2 i_row i_high n) x1) _
    unfold f_HM_steepest_2_b
    refine zk_d1 (s_HM_columns _ h_i_row) (fun v1 hp => ?_)
    try dsimp only at hp
    obtain ⟨hpp0, hpp1⟩ := hp
    refine zk_ifc (zci_le (by omega) (by omega)) (fun hc => ?_) (fun hc => ?_)
    · exact zk_ret ⟨by omega, by omega⟩
    · refine zk_n ?_
      refine zk_d1 (s_HM_isSteep _ _ _ _ (by omega) (by omega) h_i_row h_i_high) (fun v3 hp_2 => ?_)
      try dsimp only at hp_2
      obtain ⟨hp_2p0, hp_2p1, hp_2p2⟩ := hp_2
      refine zk_ifc (zci_ner (by omega)) (fun hc_2 => ?_) (fun hc_2 => ?_)
      · exact zk_ret ⟨by omega, by omega⟩
      · refine zk_n ?_
        refine zk_d1 (s_HM_isSteep _ _ _ _ (by omega) (by omega) h_i_row h_i_high) (fun v5 hp_3 => ?_)
        try dsimp only at hp_3
        obtain ⟨hp_3p0, hp_3p1, hp_3p2⟩ := hp_3
        refine zk_ifc (zci_eqr (by omega)) (fun hc_3 => ?_) (fun hc_3 => ?_)
        · refine zk_n ?_
          refine zok_mono (ih _ (by omega) (by omega)) (fun o ho => ?_)
          try dsimp only at ho
          obtain ⟨ho_0, ho_1⟩ := ho
          exact ⟨by omega, by omega⟩
        · exact zk_ret ⟨by omega, by omega⟩
theorem s_HM_steepest (i_row : Nat → Int) (i_high : Nat → Int) (h_i_row : RI i_row) (h_i_high : zR i_high 0 10) : zok (f_HM_steepest i_row i_high) (fun o => ((-1) ≤ o ∧ o ≤ 11) ∧ (o = -1 ∨ (0 ≤ o ∧ o < i_row 0 ∧ ((1 ≤ o ∧ i_high (o - 1).toNat + i_row 7 < i_high (o).toNat) ∨ (o + 1 < i_row 0 ∧ i_high (o + 1).toNat + i_row 7 < i_high (o).toNat))))) := by
  unfold f_HM_steepest
  refine zok_mono (s_HM_steepest_2 _ _ h_i_row h_i_high zfu _ (by omega) (by unfold zfu; omega)) (fun o ho => ?_)
  try dsimp only at ho
  obtain ⟨ho_0, ho_1⟩ := ho
  exact ⟨by omega, by omega⟩
theorem s_HM_size (x0 : Int) (b_x0 : (-2147483647) ≤ x0 ∧ x0 ≤ 2147483647) : zok (f_HM_size x0) (fun o => ((o = x0 ∧ 0 ≤ x0) ∨ (o = -x0 ∧ x0 < 0))) := by
  unfold f_HM_size
  refine zk_ifc (zci_lel (by omega)) (fun hc => ?_) (fun hc => ?_)
  · exact zk_ret (by omega)
  · refine zk_nE (fun v1 h_v1 => ?_)
    exact zk_ret (by omega)
theorem s_HM_shadeAt_4 (i_row : Nat → Int) (i_high : Nat → Int) (h_i_row : RI i_row) (h_i_high : zR i_high 0 10) : ∀ (n : Nat) (x1 : Int) (x2 : Int) (x3 : Int), (0 ≤ x1 ∧ x1 ≤ 11) → (0 ≤ x2 ∧ x2 ≤ 10) → (0 ≤ x3 ∧ x3 ≤ 12) → (13 - x3) < (n : Int) → zok (f_HM_shadeAt_4 i_row i_high n x1 x2 x3) (fun o => (0 ≤ o ∧ o ≤ 10)) := by
  intro n
  induction n with
  | zero => intro x1 x2 x3 b_x1 b_x2 b_x3 hm; exfalso; omega
  | succ n ih =>
    intro x1 x2 x3 b_x1 b_x2 b_x3 hm
    show zok (f_HM_shadeAt_4_b i_row i_high (f_HM_shadeAt_4 i_row i_high n) x1 x2 x3) _
    unfold f_HM_shadeAt_4_b
    refine zk_d1 (s_HM_columns _ h_i_row) (fun v1 hp => ?_)
    try dsimp only at hp
    obtain ⟨hpp0, hpp1⟩ := hp
    refine zk_ifc (zci_le (by omega) (by omega)) (fun hc => ?_) (fun hc => ?_)
    · exact zk_ret (by omega)
    · refine zk_gv (by omega) (by decide) (fun v2 h_v2 => ?_)
      have r_v2 := h_i_high (x3.toNat)
      refine zk_gl 6 rfl (by decide) (by decide) (fun v3 h_v3 => ?_)
      have r_v3 := RI_6 h_i_row
      refine zk_n ?_
      refine zk_d1 (s_HM_size _ (by omega)) (fun v5 hp_2 => ?_)
      try dsimp only at hp_2
      have hp_2p0 := hp_2
      refine zk_nE (fun v6 h_v6 => ?_)
      have r_v6 := zmulb (a := v3) (b := v5) 9 11 (by omega) (by omega)
      refine zk_n ?_
      refine zk_ifc (zci_le (by omega) (by omega)) (fun hc_2 => ?_) (fun hc_2 => ?_)
      · unfold f_HM_shadeAt_47
        refine zk_n ?_
        exact ih _ _ _ (by omega) (by omega) (by omega) (by omega)
      · unfold f_HM_shadeAt_47
        refine zk_n ?_
        exact ih _ _ _ (by omega) (by omega) (by omega) (by omega)
theorem s_HM_shadeAt (x1 : Int) (i_row : Nat → Int) (i_high : Nat → Int) (b_x1 : 0 ≤ x1 ∧ x1 ≤ 11) (h_i_row : RI i_row) (h_i_high : zR i_high 0 10) : zok (f_HM_shadeAt x1 i_row i_high) (fun o => (0 ≤ o ∧ o ≤ 10)) := by
  unfold f_HM_shadeAt
  exact s_HM_shadeAt_4 _ _ h_i_row h_i_high zfu _ _ _ (by omega) (by omega) (by omega) (by unfold zfu; omega)
theorem s_HM_allShades_4 (i_row : Nat → Int) (i_high : Nat → Int) (h_i_row : RI i_row) (h_i_high : zR i_high 0 10) : ∀ (n : Nat) (x1 : Int) (x2 : Int), (0 ≤ x1 ∧ x1 ≤ 60) → (0 ≤ x2 ∧ x2 ≤ 6) → (x1 ≤ 10 * x2) → (7 - x2) < (n : Int) → zok (f_HM_allShades_4 i_row i_high n x1 x2) (fun o => (0 ≤ o ∧ o ≤ 60)) := by
  intro n
  induction n with
  | zero => intro x1 x2 b_x1 b_x2 p_0 hm; exfalso; omega
  | succ n ih =>
    intro x1 x2 b_x1 b_x2 p_0 hm
    show zok (f_HM_allShades_4_b i_row i_high (f_HM_allShades_4 i_row i_high n) x1 x2) _
    unfold f_HM_allShades_4_b
    refine zk_gl 2 rfl (by decide) (by decide) (fun v1 h_v1 => ?_)
    have r_v1 := RI_2 h_i_row
    refine zk_ifc (zci_le (by omega) (by omega)) (fun hc => ?_) (fun hc => ?_)
    · exact zk_ret (by omega)
    · refine zk_n ?_
      refine zk_gv (by omega) (by decide) (fun v3 h_v3 => ?_)
      have r_v3 := RI_p h_i_row (i := (171 + x2)) (by omega)
      refine zk_d1 (s_HM_shadeAt _ _ _ (by omega) h_i_row h_i_high) (fun v4 hp => ?_)
      try dsimp only at hp
      have hpp0 := hp
      refine zk_n ?_
      refine zk_n ?_
      exact ih _ _ (by omega) (by omega) (by omega) (by omega)
theorem s_HM_allShades (i_row : Nat → Int) (i_high : Nat → Int) (h_i_row : RI i_row) (h_i_high : zR i_high 0 10) : zok (f_HM_allShades i_row i_high) (fun o => (0 ≤ o ∧ o ≤ 60)) := by
  unfold f_HM_allShades
  exact s_HM_allShades_4 _ _ h_i_row h_i_high zfu _ _ (by omega) (by omega) (by omega) (by unfold zfu; omega)
theorem s_HM_goal (x1 : Int) (x2 : Int) (i_thrown : Int) (i_status : Int) (i_refusals : Nat → Int) (i_row : Nat → Int) (b_x1 : (-2147483648) ≤ x1 ∧ x1 ≤ 2147483647) (b_x2 : (-2147483648) ≤ x2 ∧ x2 ≤ 2147483647) (h_i_row : RI i_row) : zok (f_HM_goal x1 x2 i_thrown i_status i_refusals i_row) (fun o => RI o.2.2.2.2) := by
  unfold f_HM_goal
  refine zk_nE (fun v1 h_v1 => ?_)
  rw [zwi (by omega)] at h_v1
  replace h_v1 := h_v1.symm
  subst h_v1
  refine zk_d1 (s_HM_in _ _ _ (by omega) (by omega) (by omega)) (fun v2 hp => ?_)
  try dsimp only at hp
  have hpp0 := hp
  refine zk_ifc (zci_ner (by omega)) (fun hc => ?_) (fun hc => ?_)
  · refine zk_d1 (s_HM_isColumn _ _ (by omega) h_i_row) (fun v3 hp_2 => ?_)
    try dsimp only at hp_2
    obtain ⟨hp_2p0, hp_2p1⟩ := hp_2
    refine zk_ifc (zci_ner (by omega)) (fun hc_2 => ?_) (fun hc_2 => ?_)
    · refine zk_n ?_
      refine zk_d3 (s_HM_change _ _ _ _ (by omega)) (fun v5 v6 a7 hp_3 => ?_)
      try dsimp only at hp_3
      obtain ⟨hp_3p0, hp_3p1, hp_3p2⟩ := hp_3
      have i_a7 : RI a7 := by rw [hp_3p2]; exact RIz_g h_i_row (by omega) (by omega)
      refine zk_ret ?_
      try dsimp only
      all_goals exact i_a7
    · refine zk_d3 (s_HM_tell _ _ _ (by omega)) (fun v8 v9 a10 hp_4 => ?_)
      try dsimp only at hp_4
      obtain ⟨hp_4p0, hp_4p1⟩ := hp_4
      refine zk_ifc (zci_lel (by omega)) (fun hc_3 => ?_) (fun hc_3 => ?_)
      · refine zk_ret ?_
        try dsimp only
        all_goals exact h_i_row
      · refine zk_ret ?_
        try dsimp only
        all_goals exact h_i_row
  · refine zk_d3 (s_HM_tell _ _ _ (by omega)) (fun v11 v12 a13 hp_5 => ?_)
    try dsimp only at hp_5
    obtain ⟨hp_5p0, hp_5p1⟩ := hp_5
    refine zk_ifc (zci_lel (by omega)) (fun hc_4 => ?_) (fun hc_4 => ?_)
    · refine zk_ret ?_
      try dsimp only
      all_goals exact h_i_row
    · refine zk_ret ?_
      try dsimp only
      all_goals exact h_i_row
theorem s_HM_stones_4 (i_row : Nat → Int) (h_i_row : RI i_row) : ∀ (n : Nat) (x1 : Int) (x2 : Int), (0 ≤ x1 ∧ x1 ≤ 120) → (0 ≤ x2 ∧ x2 ≤ 12) → (x1 ≤ 10 * x2) → (13 - x2) < (n : Int) → zok (f_HM_stones_4 i_row n x1 x2) (fun o => (0 ≤ o ∧ o ≤ 120)) := by
  intro n
  induction n with
  | zero => intro x1 x2 b_x1 b_x2 p_0 hm; exfalso; omega
  | succ n ih =>
    intro x1 x2 b_x1 b_x2 p_0 hm
    show zok (f_HM_stones_4_b i_row (f_HM_stones_4 i_row n) x1 x2) _
    unfold f_HM_stones_4_b
    refine zk_d1 (s_HM_columns _ h_i_row) (fun v1 hp => ?_)
    try dsimp only at hp
    obtain ⟨hpp0, hpp1⟩ := hp
    refine zk_ifc (zci_le (by omega) (by omega)) (fun hc => ?_) (fun hc => ?_)
    · exact zk_ret (by omega)
    · refine zk_n ?_
      refine zk_gv (by omega) (by decide) (fun v3 h_v3 => ?_)
      have r_v3 := RI_h h_i_row (i := (9 + x2)) (by omega)
      refine zk_n ?_
      refine zk_n ?_
      exact ih _ _ (by omega) (by omega) (by omega) (by omega)
theorem s_HM_stones (i_row : Nat → Int) (h_i_row : RI i_row) : zok (f_HM_stones i_row) (fun o => (0 ≤ o ∧ o ≤ 120)) := by
  unfold f_HM_stones
  exact s_HM_stones_4 _ h_i_row zfu _ _ (by omega) (by omega) (by omega) (by unfold zfu; omega)
theorem s_HM_weighs_91 (i_row : Nat → Int) (k49 : Int → Int → Int → (Nat → Int) → Option (Int × Int × (Nat → Int))) (Nk49 : Nat) (hk49 : ∀ (x1 : Int) (x2 : Int) (i_thrown : Int) (i_sets : Nat → Int), (0 ≤ x1 ∧ x1 ≤ 3600) → (0 ≤ x2 ∧ x2 ≤ 12) → (zR i_sets 0 1000000000) → (13 - x2) < (Nk49 : Int) → zok (k49 x1 x2 i_thrown i_sets) (fun o => zR o.2.2 0 1000000000)) (k59 : Int → Int → Int → Int → (Nat → Int) → Option (Int × Int × (Nat → Int))) (Nk59 : Nat) (hk59 : ∀ (x1 : Int) (x2 : Int) (x3 : Int) (i_thrown : Int) (i_sets : Nat → Int), (0 ≤ x1 ∧ x1 ≤ 3600) → (0 ≤ x2 ∧ x2 ≤ 11) → (0 ≤ x3 ∧ x3 ≤ 10) → (zR i_sets 0 1000000000) → (13 - x2) < (Nk49 : Int) + 1 → (11 - x3) < (Nk59 : Int) → zok (k59 x1 x2 x3 i_thrown i_sets) (fun o => zR o.2.2 0 1000000000)) (h_i_row : RI i_row) : ∀ (n : Nat) (x1 : Int) (x2 : Int) (x3 : Int) (x4 : Int) (x5 : Int) (i_thrown : Int) (i_sets : Nat → Int), (0 ≤ x1 ∧ x1 ≤ 3600) → (0 ≤ x2 ∧ x2 ≤ 11) → (0 ≤ x3 ∧ x3 ≤ 9) → (0 ≤ x4 ∧ x4 ≤ 30) → ((-31) ≤ x5 ∧ x5 ≤ 3600) → (zR i_sets 0 1000000000) → (x5 ≤ x1) → (13 - x2) < (Nk49 : Int) + 1 → (11 - x3) < (Nk59 : Int) + 1 → (x5 + 32) < (n : Int) → zok (f_HM_weighs_91 i_row k49 k59 n x1 x2 x3 x4 x5 i_thrown i_sets) (fun o => zR o.2.2 0 1000000000) := by
  intro n
  induction n with
  | zero => intro x1 x2 x3 x4 x5 i_thrown i_sets b_x1 b_x2 b_x3 b_x4 b_x5 h_i_sets p_0 mk49 mk59 hm; exfalso; omega
  | succ n ih =>
    intro x1 x2 x3 x4 x5 i_thrown i_sets b_x1 b_x2 b_x3 b_x4 b_x5 h_i_sets p_0 mk49 mk59 hm
    show zok (f_HM_weighs_91_b i_row k49 k59 (f_HM_weighs_91 i_row k49 k59 n) x1 x2 x3 x4 x5 i_thrown i_sets) _
    unfold f_HM_weighs_91_b
    refine zk_ifc (zci_lt (by omega) (by omega)) (fun hc => ?_) (fun hc => ?_)
    · refine zk_n ?_
      exact hk59 _ _ _ _ _ (by omega) (by omega) (by omega) h_i_sets (by omega) (by omega)
    · refine zk_gv (by omega) (by decide) (fun v2 h_v2 => ?_)
      have r_v2 := h_i_sets (x5.toNat)
      refine zk_n ?_
      refine zk_gv (by omega) (by decide) (fun v4 h_v4 => ?_)
      have r_v4 := h_i_sets ((x5 - x4).toNat)
      refine zk_n ?_
      refine zk_ifc (zcl_le (by omega) (by omega)) (fun hc_2 => ?_) (fun hc_2 => ?_)
      · unfold f_HM_weighs_141
        refine zk_sv (by omega) (by decide) (fun a1 h_a1 => ?_)
        have i_a1 : zR a1 0 1000000000 := by rw [h_a1]; exact zR_zu h_i_sets (by decide) (by decide) (by omega)
        refine zk_n ?_
        exact ih _ _ _ _ _ _ _ (by omega) (by omega) (by omega) (by omega) (by omega) i_a1 (by omega) (by omega) (by omega) (by omega)
      · unfold f_HM_weighs_141
        refine zk_sv (by omega) (by decide) (fun a1_2 h_a1_2 => ?_)
        have i_a1_2 : zR a1_2 0 1000000000 := by rw [h_a1_2]; exact zR_zu h_i_sets (by decide) (by decide) (by omega)
        refine zk_n ?_
        exact ih _ _ _ _ _ _ _ (by omega) (by omega) (by omega) (by omega) (by omega) i_a1_2 (by omega) (by omega) (by omega) (by omega)
theorem s_HM_weighs_59 (i_row : Nat → Int) (k49 : Int → Int → Int → (Nat → Int) → Option (Int × Int × (Nat → Int))) (Nk49 : Nat) (hk49 : ∀ (x1 : Int) (x2 : Int) (i_thrown : Int) (i_sets : Nat → Int), (0 ≤ x1 ∧ x1 ≤ 3600) → (0 ≤ x2 ∧ x2 ≤ 12) → (zR i_sets 0 1000000000) → (13 - x2) < (Nk49 : Int) → zok (k49 x1 x2 i_thrown i_sets) (fun o => zR o.2.2 0 1000000000)) (h_i_row : RI i_row) : ∀ (n : Nat) (x1 : Int) (x2 : Int) (x3 : Int) (i_thrown : Int) (i_sets : Nat → Int), (0 ≤ x1 ∧ x1 ≤ 3600) → (0 ≤ x2 ∧ x2 ≤ 11) → (0 ≤ x3 ∧ x3 ≤ 10) → (zR i_sets 0 1000000000) → (13 - x2) < (Nk49 : Int) + 1 → (11 - x3) < (n : Int) → zok (f_HM_weighs_59 i_row k49 n x1 x2 x3 i_thrown i_sets) (fun o => zR o.2.2 0 1000000000) := by
  intro n
  induction n with
  | zero => intro x1 x2 x3 i_thrown i_sets b_x1 b_x2 b_x3 h_i_sets mk49 hm; exfalso; omega
  | succ n ih =>
    intro x1 x2 x3 i_thrown i_sets b_x1 b_x2 b_x3 h_i_sets mk49 hm
    show zok (f_HM_weighs_59_b i_row k49 (f_HM_weighs_59 i_row k49 n) x1 x2 x3 i_thrown i_sets) _
    unfold f_HM_weighs_59_b
    refine zk_n ?_
    refine zk_gv (by omega) (by decide) (fun v2 h_v2 => ?_)
    have r_v2 := RI_h h_i_row (i := (9 + x2)) (by omega)
    refine zk_ifc (zci_le (by omega) (by omega)) (fun hc => ?_) (fun hc => ?_)
    · refine zk_n ?_
      exact hk49 _ _ _ _ (by omega) (by omega) h_i_sets (by omega)
    · refine zk_n ?_
      refine zk_n ?_
      refine zk_n ?_
      refine zk_gv (by omega) (by decide) (fun v7 h_v7 => ?_)
      have r_v7 := RI_s h_i_row (i := ((21 + (10 * x2)) + x3)) (by omega)
      exact s_HM_weighs_91 _ _ Nk49 hk49 _ n ih h_i_row zfu _ _ _ _ _ _ _ (by omega) (by omega) (by omega) (by omega) (by omega) h_i_sets (by omega) (by omega) (by omega) (by unfold zfu; omega)
theorem s_HM_weighs_49 (i_row : Nat → Int) (h_i_row : RI i_row) : ∀ (n : Nat) (x1 : Int) (x2 : Int) (i_thrown : Int) (i_sets : Nat → Int), (0 ≤ x1 ∧ x1 ≤ 3600) → (0 ≤ x2 ∧ x2 ≤ 12) → (zR i_sets 0 1000000000) → (13 - x2) < (n : Int) → zok (f_HM_weighs_49 i_row n x1 x2 i_thrown i_sets) (fun o => zR o.2.2 0 1000000000) := by
  intro n
  induction n with
  | zero => intro x1 x2 i_thrown i_sets b_x1 b_x2 h_i_sets hm; exfalso; omega
  | succ n ih =>
    intro x1 x2 i_thrown i_sets b_x1 b_x2 h_i_sets hm
    show zok (f_HM_weighs_49_b i_row (f_HM_weighs_49 i_row n) x1 x2 i_thrown i_sets) _
    unfold f_HM_weighs_49_b
    refine zk_d1 (s_HM_columns _ h_i_row) (fun v1 hp => ?_)
    try dsimp only at hp
    obtain ⟨hpp0, hpp1⟩ := hp
    refine zk_ifc (zci_le (by omega) (by omega)) (fun hc => ?_) (fun hc => ?_)
    · refine zk_gv (by omega) (by decide) (fun v2 h_v2 => ?_)
      have r_v2 := h_i_sets (x1.toNat)
      refine zk_ret ?_
      try dsimp only
      all_goals exact h_i_sets
    · exact s_HM_weighs_59 _ _ n ih h_i_row zfu _ _ _ _ _ (by omega) (by omega) (by omega) h_i_sets (by omega) (by unfold zfu; omega)
theorem s_HM_weighs_21 (i_row : Nat → Int) (h_i_row : RI i_row) : ∀ (n : Nat) (x1 : Int) (x2 : Int) (i_thrown : Int) (i_sets : Nat → Int), (0 ≤ x1 ∧ x1 ≤ 3600) → (0 ≤ x2 ∧ x2 ≤ 3601) → (zR i_sets 0 1000000000) → (3602 - x2) < (n : Int) → zok (f_HM_weighs_21 i_row n x1 x2 i_thrown i_sets) (fun o => zR o.2.2 0 1000000000) := by
  intro n
  induction n with
  | zero => intro x1 x2 i_thrown i_sets b_x1 b_x2 h_i_sets hm; exfalso; omega
  | succ n ih =>
    intro x1 x2 i_thrown i_sets b_x1 b_x2 h_i_sets hm
    show zok (f_HM_weighs_21_b i_row (f_HM_weighs_21 i_row n) x1 x2 i_thrown i_sets) _
    unfold f_HM_weighs_21_b
    refine zk_ifc (zci_lt (by omega) (by omega)) (fun hc => ?_) (fun hc => ?_)
    · exact s_HM_weighs_49 _ h_i_row zfu _ _ _ _ (by omega) (by omega) h_i_sets (by unfold zfu; omega)
    · refine zk_ifc (zci_ner (by omega)) (fun hc_2 => ?_) (fun hc_2 => ?_)
      · unfold f_HM_weighs_40
        refine zk_sv (by omega) (by decide) (fun a1 h_a1 => ?_)
        have i_a1 : zR a1 0 1000000000 := by rw [h_a1]; exact zR_zu h_i_sets (by decide) (by decide) (by omega)
        refine zk_n ?_
        exact ih _ _ _ _ (by omega) (by omega) i_a1 (by omega)
      · unfold f_HM_weighs_40
        refine zk_sv (by omega) (by decide) (fun a1_2 h_a1_2 => ?_)
        have i_a1_2 : zR a1_2 0 1000000000 := by rw [h_a1_2]; exact zR_zu h_i_sets (by decide) (by decide) (by omega)
        refine zk_n ?_
        exact ih _ _ _ _ (by omega) (by omega) i_a1_2 (by omega)
theorem s_HM_weighs (x1 : Int) (i_row : Nat → Int) (i_thrown : Int) (i_sets : Nat → Int) (b_x1 : (-2147483648) ≤ x1 ∧ x1 ≤ 2147483647) (h_i_row : RI i_row) (h_i_sets : zR i_sets 0 1000000000) : zok (f_HM_weighs x1 i_row i_thrown i_sets) (fun o => zR o.2.2 0 1000000000) := by
  unfold f_HM_weighs
  refine zk_nE (fun v1 h_v1 => ?_)
  rw [zwi (by omega)] at h_v1
  replace h_v1 := h_v1.symm
  subst h_v1
  refine zk_d1 (s_HM_in _ _ _ (by omega) (by omega) (by omega)) (fun v2 hp => ?_)
  try dsimp only at hp
  have hpp0 := hp
  refine zk_ifc (zci_ner (by omega)) (fun hc => ?_) (fun hc => ?_)
  · exact s_HM_weighs_21 _ h_i_row zfu _ _ _ _ (by omega) (by omega) h_i_sets (by unfold zfu; omega)
  · refine zk_ret ?_
    try dsimp only
    all_goals exact h_i_sets
theorem s_HM_trips (x1 : Int) (x2 : Int) (i_thrown : Int) (i_status : Int) (i_refusals : Nat → Int) (i_row : Nat → Int) (b_x1 : (-2147483648) ≤ x1 ∧ x1 ≤ 2147483647) (b_x2 : (-2147483648) ≤ x2 ∧ x2 ≤ 2147483647) (h_i_row : RI i_row) : zok (f_HM_trips x1 x2 i_thrown i_status i_refusals i_row) (fun o => RI o.2.2.2.2) := by
  unfold f_HM_trips
  refine zk_nE (fun v1 h_v1 => ?_)
  rw [zwi (by omega)] at h_v1
  replace h_v1 := h_v1.symm
  subst h_v1
  refine zk_d1 (s_HM_in _ _ _ (by omega) (by omega) (by omega)) (fun v2 hp => ?_)
  try dsimp only at hp
  have hpp0 := hp
  refine zk_ifc (zci_ner (by omega)) (fun hc => ?_) (fun hc => ?_)
  · refine zk_d1 (s_HM_isChild _ _ (by omega) h_i_row) (fun v3 hp_2 => ?_)
    try dsimp only at hp_2
    obtain ⟨hp_2p0, hp_2p1⟩ := hp_2
    refine zk_ifc (zci_eqr (by omega)) (fun hc_2 => ?_) (fun hc_2 => ?_)
    · refine zk_d3 (s_HM_tell _ _ _ (by omega)) (fun v4 v5 a6 hp_3 => ?_)
      try dsimp only at hp_3
      obtain ⟨hp_3p0, hp_3p1⟩ := hp_3
      refine zk_ret ?_
      try dsimp only
      all_goals exact h_i_row
    · refine zk_n ?_
      refine zk_n ?_
      refine zk_n ?_
      refine zk_d3 (s_HM_change _ _ _ _ (by omega)) (fun v10 v11 a12 hp_4 => ?_)
      try dsimp only at hp_4
      obtain ⟨hp_4p0, hp_4p1, hp_4p2⟩ := hp_4
      have i_a12 : RI a12 := by rw [hp_4p2]; exact RIz_c h_i_row (by omega) (by omega)
      refine zk_ret ?_
      try dsimp only
      all_goals exact i_a12
  · refine zk_d3 (s_HM_tell _ _ _ (by omega)) (fun v13 v14 a15 hp_5 => ?_)
    try dsimp only at hp_5
    obtain ⟨hp_5p0, hp_5p1⟩ := hp_5
    refine zk_ret ?_
    try dsimp only
    all_goals exact h_i_row
theorem s_HM_is (x0 : Int) (x1 : Int) (b_x0 : (-2147483648) ≤ x0 ∧ x0 ≤ 2147483647) (b_x1 : (-2147483648) ≤ x1 ∧ x1 ≤ 2147483647) : zok (f_HM_is x0 x1) (fun o => (o = 0 ∨ o = 1)) := by
  unfold f_HM_is
  refine zk_nE (fun v1 h_v1 => ?_)
  have r_v1 := zi_shr_f x0 x1; rw [← h_v1] at r_v1
  refine zk_nE (fun v2 h_v2 => ?_)
  have r_v2 := zi_and_m v1 (m := 1) (by decide); rw [← h_v2] at r_v2
  refine zk_ifc (zci_ne (by omega) (by omega)) (fun hc => ?_) (fun hc => ?_)
  · exact zk_ret (by omega)
  · exact zk_ret (by omega)
theorem s_HM_layers_35 (i_row : Nat → Int) (h_i_row : RI i_row) : ∀ (n : Nat) (x1 : Int) (x2 : Int) (x3 : Int) (i_thrown : Int), (0 ≤ x1 ∧ x1 ≤ 11) → (1 ≤ x3 ∧ x3 ≤ 10) → (11 - x3) < (n : Int) → zok (f_HM_layers_35 i_row n x1 x2 x3 i_thrown) (fun o => True) := by
  intro n
  induction n with
  | zero => intro x1 x2 x3 i_thrown b_x1 b_x3 hm; exfalso; omega
  | succ n ih =>
    intro x1 x2 x3 i_thrown b_x1 b_x3 hm
    show zok (f_HM_layers_35_b i_row (f_HM_layers_35 i_row n) x1 x2 x3 i_thrown) _
    unfold f_HM_layers_35_b
    refine zk_n ?_
    refine zk_gv (by omega) (by decide) (fun v2 h_v2 => ?_)
    have r_v2 := RI_h h_i_row (i := (9 + x1)) (by omega)
    refine zk_ifc (zci_le (by omega) (by omega)) (fun hc => ?_) (fun hc => ?_)
    · exact zk_ret trivial
    · refine zk_n ?_
      refine zk_n ?_
      refine zk_n ?_
      refine zk_gv (by omega) (by decide) (fun v6 h_v6 => ?_)
      have r_v6 := RI_s h_i_row (i := ((21 + (10 * x1)) + x3)) (by omega)
      refine zk_n ?_
      refine zk_n ?_
      refine zk_n ?_
      refine zk_n ?_
      refine zk_gv (by omega) (by decide) (fun v11 h_v11 => ?_)
      have r_v11 := RI_s h_i_row (i := (((21 + (10 * x1)) + x3) - 1)) (by omega)
      refine zk_ifc (zci_le (by omega) (by omega)) (fun hc_2 => ?_) (fun hc_2 => ?_)
      · unfold f_HM_layers_87
        refine zk_n ?_
        refine zk_n ?_
        exact ih _ _ _ _ (by omega) (by omega) (by omega)
      · unfold f_HM_layers_87
        refine zk_n ?_
        refine zk_n ?_
        exact ih _ _ _ _ (by omega) (by omega) (by omega)
theorem s_HM_layers (x1 : Int) (i_row : Nat → Int) (i_thrown : Int) (b_x1 : (-2147483648) ≤ x1 ∧ x1 ≤ 2147483647) (h_i_row : RI i_row) : zok (f_HM_layers x1 i_row i_thrown) (fun o => True) := by
  unfold f_HM_layers
  refine zk_d1 (s_HM_isColumn _ _ (by omega) h_i_row) (fun v1 hp => ?_)
  try dsimp only at hp
  obtain ⟨hpp0, hpp1⟩ := hp
  refine zk_ifc (zci_ner (by omega)) (fun hc => ?_) (fun hc => ?_)
  · refine zk_n ?_
    refine zk_gv (by omega) (by decide) (fun v3 h_v3 => ?_)
    have r_v3 := RI_h h_i_row (i := (9 + x1)) (by omega)
    refine zk_ifc (zci_ler (by omega)) (fun hc_2 => ?_) (fun hc_2 => ?_)
    · unfold f_HM_layers_32
      exact s_HM_layers_35 _ h_i_row zfu _ _ _ _ (by omega) (by omega) (by unfold zfu; omega)
    · unfold f_HM_layers_32
      exact s_HM_layers_35 _ h_i_row zfu _ _ _ _ (by omega) (by omega) (by unfold zfu; omega)
  · exact zk_ret trivial
theorem s_HM_rained (x1 : Int) (x2 : Int) (i_wet : Int) (i_rained : Nat → Int) (i_thrown : Int) (b_x1 : (-2147483648) ≤ x1 ∧ x1 ≤ 2147483647) (b_x2 : (-2147483648) ≤ x2 ∧ x2 ≤ 2147483647) (b_i_wet : 0 ≤ i_wet ∧ i_wet ≤ 12) : zok (f_HM_rained x1 x2 i_wet i_rained i_thrown) (fun o => True) := by
  unfold f_HM_rained
  refine zk_nE (fun v1 h_v1 => ?_)
  rw [zwi (by omega)] at h_v1
  replace h_v1 := h_v1.symm
  subst h_v1
  refine zk_nE (fun v2 h_v2 => ?_)
  rw [zwi (by omega)] at h_v2
  replace h_v2 := h_v2.symm
  subst h_v2
  refine zk_n ?_
  refine zk_d1 (s_HM_in _ _ _ (by omega) (by omega) (by omega)) (fun v4 hp => ?_)
  try dsimp only at hp
  have hpp0 := hp
  refine zk_ifc (zci_eqr (by omega)) (fun hc => ?_) (fun hc => ?_)
  · exact zk_ret trivial
  · refine zk_nE (fun v5 h_v5 => ?_)
    rw [zwi (by omega)] at h_v5
    replace h_v5 := h_v5.symm
    subst h_v5
    refine zk_d1 (s_HM_in _ _ _ (by omega) (by omega) (by omega)) (fun v6 hp_2 => ?_)
    try dsimp only at hp_2
    have hp_2p0 := hp_2
    refine zk_ifc (zci_eqr (by omega)) (fun hc_2 => ?_) (fun hc_2 => ?_)
    · exact zk_ret trivial
    · refine zk_n ?_
      refine zk_n ?_
      refine zk_gv (by omega) (by decide) (fun v9 h_v9 => ?_)
      exact zk_ret trivial
theorem s_HM_count (x1 : Int) (i_taped : Int) (i_refusals : Nat → Int) (i_row : Nat → Int) (i_thrown : Int) (b_x1 : (-2147483648) ≤ x1 ∧ x1 ≤ 2147483647) (h_i_row : RI i_row) : zok (f_HM_count x1 i_taped i_refusals i_row i_thrown) (fun o => True) := by
  unfold f_HM_count
  refine zk_ifc (zci_eqr (by omega)) (fun hc => ?_) (fun hc => ?_)
  · refine zk_d1 (s_HM_columns _ h_i_row) (fun v1 hp => ?_)
    try dsimp only at hp
    obtain ⟨hpp0, hpp1⟩ := hp
    exact zk_ret trivial
  · refine zk_ifc (zci_eqr (by omega)) (fun hc_2 => ?_) (fun hc_2 => ?_)
    · refine zk_d1 (s_HM_stones _ h_i_row) (fun v2 hp_2 => ?_)
      try dsimp only at hp_2
      have hp_2p0 := hp_2
      exact zk_ret trivial
    · refine zk_ifc (zci_eqr (by omega)) (fun hc_3 => ?_) (fun hc_3 => ?_)
      · refine zk_gl 1 rfl (by decide) (by decide) (fun v3 h_v3 => ?_)
        have r_v3 := RI_1 h_i_row
        exact zk_ret trivial
      · refine zk_ifc (zci_eqr (by omega)) (fun hc_4 => ?_) (fun hc_4 => ?_)
        · refine zk_gl 2 rfl (by decide) (by decide) (fun v4 h_v4 => ?_)
          have r_v4 := RI_2 h_i_row
          exact zk_ret trivial
        · refine zk_ifc (zci_eqr (by omega)) (fun hc_5 => ?_) (fun hc_5 => ?_)
          · refine zk_gl 3 rfl (by decide) (by decide) (fun v5 h_v5 => ?_)
            have r_v5 := RI_3 h_i_row
            exact zk_ret trivial
          · refine zk_ifc (zci_eqr (by omega)) (fun hc_6 => ?_) (fun hc_6 => ?_)
            · exact zk_ret trivial
            · refine zk_ifc (zci_eqr (by omega)) (fun hc_7 => ?_) (fun hc_7 => ?_)
              · refine zk_gl 1 rfl (by decide) (by decide) (fun v6 h_v6 => ?_)
                exact zk_ret trivial
              · refine zk_ifc (zci_eqr (by omega)) (fun hc_8 => ?_) (fun hc_8 => ?_)
                · refine zk_gl 2 rfl (by decide) (by decide) (fun v7 h_v7 => ?_)
                  exact zk_ret trivial
                · refine zk_ifc (zci_eqr (by omega)) (fun hc_9 => ?_) (fun hc_9 => ?_)
                  · refine zk_gl 3 rfl (by decide) (by decide) (fun v8 h_v8 => ?_)
                    exact zk_ret trivial
                  · refine zk_ifc (zci_eqr (by omega)) (fun hc_10 => ?_) (fun hc_10 => ?_)
                    · refine zk_gl 5 rfl (by decide) (by decide) (fun v9 h_v9 => ?_)
                      exact zk_ret trivial
                    · refine zk_ifc (zci_eqr (by omega)) (fun hc_11 => ?_) (fun hc_11 => ?_)
                      · refine zk_gl 6 rfl (by decide) (by decide) (fun v10 h_v10 => ?_)
                        exact zk_ret trivial
                      · refine zk_ifc (zci_eqr (by omega)) (fun hc_12 => ?_) (fun hc_12 => ?_)
                        · refine zk_gl 4 rfl (by decide) (by decide) (fun v11 h_v11 => ?_)
                          have r_v11 := RI_4 h_i_row
                          exact zk_ret trivial
                        · refine zk_nE (fun v12 h_v12 => ?_)
                          rw [zwi (by omega)] at h_v12
                          replace h_v12 := h_v12.symm
                          subst h_v12
                          refine zk_d1 (s_HM_in _ _ _ (by omega) (by omega) (by omega)) (fun v13 hp_3 => ?_)
                          try dsimp only at hp_3
                          have hp_3p0 := hp_3
                          refine zk_ifc (zci_eqr (by omega)) (fun hc_13 => ?_) (fun hc_13 => ?_)
                          · exact zk_ret trivial
                          · refine zk_n ?_
                            refine zk_n ?_
                            refine zk_gv (by omega) (by decide) (fun v16 h_v16 => ?_)
                            have r_v16 := RI_t h_i_row (i := ((5 + x1) - 12)) (by omega)
                            exact zk_ret trivial
theorem s_HM_status (i_status : Int) (i_thrown : Int)  : zok (f_HM_status i_status i_thrown) (fun o => True) := by
  unfold f_HM_status
  exact zk_ret trivial
