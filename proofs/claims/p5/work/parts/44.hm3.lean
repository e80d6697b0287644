theorem s_HM_carrying (x1 : Int) (x2 : Int) (x3 : Int) (i_row : Nat → Int) (i_high : Nat → Int) (i_heaps : Nat → Int) (i_law : Int) (i_broken : Int) (i_value : Int) (i_sum : Int) (i_set : Nat → Int) (i_rest : Nat → Int) (b_x1 : 0 ≤ x1 ∧ x1 ≤ 5) (b_x2 : 0 ≤ x2 ∧ x2 ≤ 11) (b_x3 : 0 ≤ x3 ∧ x3 ≤ 11) (h_i_row : RI i_row) (h_i_high : zR i_high 0 10) (h_i_heaps : zR i_heaps 0 30) : zok (f_HM_carrying x1 x2 x3 i_row i_high i_heaps i_law i_broken i_value i_sum i_set i_rest) (fun o => (o.1 = -1 ∨ (0 ≤ o.1 ∧ o.1 ≤ 99 ∧ 1 ≤ i_high x2.toNat ∧ i_high x3.toNat ≤ 9 ∧ x2 ≠ x3))) := by
  unfold f_HM_carrying
  refine zk_d1 (s_HM_top _ _ _ (by omega) h_i_high h_i_heaps) (fun v1 hp => ?_)
  try dsimp only at hp
  have hpp0 := hp
  refine zk_gv (by omega) (by decide) (fun v2 h_v2 => ?_)
  have r_v2 := h_i_high (x2.toNat)
  refine zk_gv (by omega) (by decide) (fun v3 h_v3 => ?_)
  have r_v3 := h_i_high (x3.toNat)
  refine zk_d7 (s_HM_tiring _ _ _ _ _ _ _ _ _ _ _ _ _ (by omega) (by omega) (by omega) (by omega) (by omega) (by omega) h_i_row) (fun v4 v5 v6 v7 v8 a9 a10 hp_2 => ?_)
  try dsimp only at hp_2
  have hp_2p0 := hp_2
  refine zk_ret ?_
  try dsimp only
  all_goals exact (by omega)
theorem s_HM_load_31 (i_row : Nat → Int) (h_i_row : RI i_row) : ∀ (n : Nat) (x1 : Int) (i_high : Nat → Int) (i_heaps : Nat → Int), (0 ≤ x1 ∧ x1 ≤ 120) → (zR i_high 0 10) → (zR i_heaps 0 30) → (121 - x1) < (n : Int) → zok (f_HM_load_31 i_row n x1 i_high i_heaps) (fun o => zR o.1 0 10 ∧ zR o.2 0 30) := by
  intro n
  induction n with
  | zero => intro x1 i_high i_heaps b_x1 h_i_high h_i_heaps hm; exfalso; omega
  | succ n ih =>
    intro x1 i_high i_heaps b_x1 h_i_high h_i_heaps hm
    show zok (f_HM_load_31_b i_row (f_HM_load_31 i_row n) x1 i_high i_heaps) _
    unfold f_HM_load_31_b
    refine zk_ifc (zci_le (by omega) (by omega)) (fun hc => ?_) (fun hc => ?_)
    · refine zk_ret ?_
      try dsimp only
      exact ⟨h_i_high, h_i_heaps⟩
    · refine zk_n ?_
      refine zk_gv (by omega) (by decide) (fun v2 h_v2 => ?_)
      have r_v2 := RI_s h_i_row (i := (21 + x1)) (by omega)
      refine zk_sv (by omega) (by decide) (fun a3 h_a3 => ?_)
      have i_a3 : zR a3 0 30 := by rw [h_a3]; exact zR_zu h_i_heaps (by decide) (by decide) (by omega)
      refine zk_n ?_
      exact ih _ _ _ (by omega) h_i_high i_a3 (by omega)
theorem s_HM_load_2 (i_row : Nat → Int) (h_i_row : RI i_row) : ∀ (n : Nat) (x1 : Int) (i_high : Nat → Int) (i_heaps : Nat → Int), (0 ≤ x1 ∧ x1 ≤ 12) → (zR i_high 0 10) → (zR i_heaps 0 30) → (13 - x1) < (n : Int) → zok (f_HM_load_2 i_row n x1 i_high i_heaps) (fun o => zR o.1 0 10 ∧ zR o.2 0 30) := by
  intro n
  induction n with
  | zero => intro x1 i_high i_heaps b_x1 h_i_high h_i_heaps hm; exfalso; omega
  | succ n ih =>
    intro x1 i_high i_heaps b_x1 h_i_high h_i_heaps hm
    show zok (f_HM_load_2_b i_row (f_HM_load_2 i_row n) x1 i_high i_heaps) _
    unfold f_HM_load_2_b
    refine zk_ifc (zci_le (by omega) (by omega)) (fun hc => ?_) (fun hc => ?_)
    · exact s_HM_load_31 _ h_i_row zfu _ _ _ (by omega) h_i_high h_i_heaps (by unfold zfu; omega)
    · refine zk_n ?_
      refine zk_gv (by omega) (by decide) (fun v2 h_v2 => ?_)
      have r_v2 := RI_h h_i_row (i := (9 + x1)) (by omega)
      refine zk_sv (by omega) (by decide) (fun a3 h_a3 => ?_)
      have i_a3 : zR a3 0 10 := by rw [h_a3]; exact zR_zu h_i_high (by decide) (by decide) (by omega)
      refine zk_n ?_
      exact ih _ _ _ (by omega) i_a3 h_i_heaps (by omega)
theorem s_HM_load (i_row : Nat → Int) (i_high : Nat → Int) (i_heaps : Nat → Int) (h_i_row : RI i_row) (h_i_high : zR i_high 0 10) (h_i_heaps : zR i_heaps 0 30) : zok (f_HM_load i_row i_high i_heaps) (fun o => zR o.1 0 10 ∧ zR o.2 0 30) := by
  unfold f_HM_load
  exact s_HM_load_2 _ h_i_row zfu _ _ _ (by omega) h_i_high h_i_heaps (by unfold zfu; omega)
theorem s_HM_store_33 (i_high : Nat → Int) (i_heaps : Nat → Int) (h_i_high : zR i_high 0 10) (h_i_heaps : zR i_heaps 0 30) : ∀ (n : Nat) (x1 : Int) (i_row : Nat → Int), (0 ≤ x1 ∧ x1 ≤ 120) → (RI i_row) → (121 - x1) < (n : Int) → zok (f_HM_store_33 i_high i_heaps n x1 i_row) (fun o => RI o ∧ (∀ j : Nat, (j < 9 ∨ 141 ≤ j) → o j = i_row j)) := by
  intro n
  induction n with
  | zero => intro x1 i_row b_x1 h_i_row hm; exfalso; omega
  | succ n ih =>
    intro x1 i_row b_x1 h_i_row hm
    show zok (f_HM_store_33_b i_high i_heaps (f_HM_store_33 i_high i_heaps n) x1 i_row) _
    unfold f_HM_store_33_b
    refine zk_ifc (zci_le (by omega) (by omega)) (fun hc => ?_) (fun hc => ?_)
    · exact zk_ret ⟨h_i_row, by first | exact fun j _ => rfl | assumption | (intro j hj; simp only [zu_eq, zu, ↓reduceIte]; (repeat' split) <;> omega)⟩
    · refine zk_n ?_
      refine zk_gv (by omega) (by decide) (fun v2 h_v2 => ?_)
      have r_v2 := h_i_heaps (x1.toNat)
      refine zk_sv (by omega) (by decide) (fun a3 h_a3 => ?_)
      have i_a3 : RI a3 := by rw [h_a3]; exact RIz_s h_i_row (by omega) (by omega)
      refine zk_n ?_
      refine zok_mono (ih _ _ (by omega) i_a3 (by omega)) (fun o ho => ?_)
      try dsimp only at ho
      obtain ⟨ho_0, ho_1⟩ := ho
      exact ⟨ho_0, by intro j hj; first | exact ho_1 j hj | (rw [ho_1 j hj]; simp only [h_a3, zu, ↓reduceIte]; (repeat' split) <;> omega)⟩
theorem s_HM_store_2 (i_high : Nat → Int) (i_heaps : Nat → Int) (h_i_high : zR i_high 0 10) (h_i_heaps : zR i_heaps 0 30) : ∀ (n : Nat) (x1 : Int) (i_row : Nat → Int), (0 ≤ x1 ∧ x1 ≤ 12) → (RI i_row) → (13 - x1) < (n : Int) → zok (f_HM_store_2 i_high i_heaps n x1 i_row) (fun o => RI o ∧ (∀ j : Nat, (j < 9 ∨ 141 ≤ j) → o j = i_row j)) := by
  intro n
  induction n with
  | zero => intro x1 i_row b_x1 h_i_row hm; exfalso; omega
  | succ n ih =>
    intro x1 i_row b_x1 h_i_row hm
    show zok (f_HM_store_2_b i_high i_heaps (f_HM_store_2 i_high i_heaps n) x1 i_row) _
    unfold f_HM_store_2_b
    refine zk_d1 (s_HM_columns _ h_i_row) (fun v1 hp => ?_)
    try dsimp only at hp
    obtain ⟨hpp0, hpp1⟩ := hp
    refine zk_ifc (zci_le (by omega) (by omega)) (fun hc => ?_) (fun hc => ?_)
    · refine zok_mono (s_HM_store_33 _ _ h_i_high h_i_heaps zfu _ _ (by omega) h_i_row (by unfold zfu; omega)) (fun o ho => ?_)
      try dsimp only at ho
      obtain ⟨ho_0, ho_1⟩ := ho
      exact ⟨ho_0, by intro j hj; first | exact ho_1 j hj | (rw [ho_1 j hj]; simp only [zu_eq, zu, ↓reduceIte]; (repeat' split) <;> omega)⟩
    · refine zk_n ?_
      refine zk_gv (by omega) (by decide) (fun v3 h_v3 => ?_)
      have r_v3 := h_i_high (x1.toNat)
      refine zk_sv (by omega) (by decide) (fun a4 h_a4 => ?_)
      have i_a4 : RI a4 := by rw [h_a4]; exact RIz_h h_i_row (by omega) (by omega)
      refine zk_n ?_
      refine zok_mono (ih _ _ (by omega) i_a4 (by omega)) (fun o ho => ?_)
      try dsimp only at ho
      obtain ⟨ho_0, ho_1⟩ := ho
      exact ⟨ho_0, by intro j hj; first | exact ho_1 j hj | (rw [ho_1 j hj]; simp only [h_a4, zu, ↓reduceIte]; (repeat' split) <;> omega)⟩
theorem s_HM_store (i_high : Nat → Int) (i_heaps : Nat → Int) (i_row : Nat → Int) (h_i_high : zR i_high 0 10) (h_i_heaps : zR i_heaps 0 30) (h_i_row : RI i_row) : zok (f_HM_store i_high i_heaps i_row) (fun o => RI o ∧ (∀ j : Nat, (j < 9 ∨ 141 ≤ j) → o j = i_row j)) := by
  unfold f_HM_store
  refine zok_mono (s_HM_store_2 _ _ h_i_high h_i_heaps zfu _ _ (by omega) h_i_row (by unfold zfu; omega)) (fun o ho => ?_)
  try dsimp only at ho
  obtain ⟨ho_0, ho_1⟩ := ho
  exact ⟨ho_0, by intro j hj; first | exact ho_1 j hj | (rw [ho_1 j hj]; simp only [zu_eq, zu, ↓reduceIte]; (repeat' split) <;> omega)⟩
theorem s_HM_shift (x1 : Int) (x2 : Int) (i_high : Nat → Int) (i_heaps : Nat → Int) (b_x1 : 0 ≤ x1 ∧ x1 ≤ 11) (b_x2 : 0 ≤ x2 ∧ x2 ≤ 11) (h_i_high : zR i_high 0 10) (h_i_heaps : zR i_heaps 0 30) (p_0 : x1 ≠ x2) (p_1 : 1 ≤ i_high x1.toNat) (p_2 : i_high x2.toNat ≤ 9) : zok (f_HM_shift x1 x2 i_high i_heaps) (fun o => zR o.1 0 10 ∧ zR o.2 0 30 ∧ (o.1 = zu (zu i_high x1.toNat (i_high x1.toNat - 1)) x2.toNat (i_high x2.toNat + 1))) := by
  unfold f_HM_shift
  refine zk_d1 (s_HM_top _ _ _ (by omega) h_i_high h_i_heaps) (fun v1 hp => ?_)
  try dsimp only at hp
  have hpp0 := hp
  refine zk_gv (by omega) (by decide) (fun v2 h_v2 => ?_)
  have r_v2 := h_i_high (x1.toNat)
  refine zk_n ?_
  refine zk_sv (by omega) (by decide) (fun a4 h_a4 => ?_)
  have i_a4 : zR a4 0 10 := by rw [h_a4]; exact zR_zu h_i_high (by decide) (by decide) (by omega)
  refine zk_n ?_
  refine zk_gv (by omega) (by decide) (fun v6 h_v6 => ?_)
  have z_v6_a4 := zu_rd h_a4 (x2.toNat)
  have r_v6 := i_a4 (x2.toNat)
  refine zk_n ?_
  refine zk_sv (by omega) (by decide) (fun a8 h_a8 => ?_)
  have i_a8 : zR a8 0 30 := by rw [h_a8]; exact zR_zu h_i_heaps (by decide) (by decide) (by omega)
  refine zk_gv (by omega) (by decide) (fun v9 h_v9 => ?_)
  have z_v9_a4 := zu_rd h_a4 (x2.toNat)
  have r_v9 := i_a4 (x2.toNat)
  refine zk_n ?_
  refine zk_sv (by omega) (by decide) (fun a11 h_a11 => ?_)
  have i_a11 : zR a11 0 10 := by rw [h_a11]; exact zR_zu i_a4 (by decide) (by decide) (by omega)
  refine zk_ret ?_
  try dsimp only
  exact ⟨i_a11, i_a8, by rw [h_a11, h_a4, show v9 = i_high x2.toNat from by omega, h_v2]⟩
theorem s_HM_can (x1 : Int) (x2 : Int) (x3 : Int) (i_row : Nat → Int) (i_thrown : Int) (i_law : Int) (i_broken : Int) (i_value : Int) (i_sum : Int) (i_set : Nat → Int) (i_rest : Nat → Int) (i_high : Nat → Int) (i_heaps : Nat → Int) (b_x1 : (-2147483648) ≤ x1 ∧ x1 ≤ 2147483647) (b_x2 : (-2147483648) ≤ x2 ∧ x2 ≤ 2147483647) (b_x3 : (-2147483648) ≤ x3 ∧ x3 ≤ 2147483647) (h_i_row : RI i_row) (h_i_high : zR i_high 0 10) (h_i_heaps : zR i_heaps 0 30) : zok (f_HM_can x1 x2 x3 i_row i_thrown i_law i_broken i_value i_sum i_set i_rest i_high i_heaps) (fun o => zR o.2.2.2.2.2.2.2.2.1 0 10 ∧ zR o.2.2.2.2.2.2.2.2.2 0 30) := by
  unfold f_HM_can
  refine zk_d1 (s_HM_are _ _ _ _ (by omega) (by omega) (by omega) h_i_row) (fun v1 hp => ?_)
  try dsimp only at hp
  obtain ⟨hpp0, hpp1, hpp2⟩ := hp
  refine zk_ifc (zci_ner (by omega)) (fun hc => ?_) (fun hc => ?_)
  · refine zk_d2 (s_HM_load _ _ _ h_i_row h_i_high h_i_heaps) (fun a2 a3 hp_2 => ?_)
    try dsimp only at hp_2
    obtain ⟨hp_2p0, hp_2p1⟩ := hp_2
    refine zk_d7 (s_HM_carrying _ _ _ _ _ _ _ _ _ _ _ _ (by omega) (by omega) (by omega) h_i_row hp_2p0 hp_2p1) (fun v4 v5 v6 v7 v8 a9 a10 hp_3 => ?_)
    try dsimp only at hp_3
    have hp_3p0 := hp_3
    refine zk_ifc (zci_ne (by omega) (by omega)) (fun hc_2 => ?_) (fun hc_2 => ?_)
    · refine zk_ret ?_
      try dsimp only
      exact ⟨hp_2p0, hp_2p1⟩
    · refine zk_ret ?_
      try dsimp only
      exact ⟨hp_2p0, hp_2p1⟩
  · refine zk_ret ?_
    try dsimp only
    exact ⟨h_i_high, h_i_heaps⟩
theorem s_HM_tires (x1 : Int) (x2 : Int) (x3 : Int) (i_row : Nat → Int) (i_thrown : Int) (i_law : Int) (i_broken : Int) (i_value : Int) (i_sum : Int) (i_set : Nat → Int) (i_rest : Nat → Int) (i_high : Nat → Int) (i_heaps : Nat → Int) (b_x1 : (-2147483648) ≤ x1 ∧ x1 ≤ 2147483647) (b_x2 : (-2147483648) ≤ x2 ∧ x2 ≤ 2147483647) (b_x3 : (-2147483648) ≤ x3 ∧ x3 ≤ 2147483647) (h_i_row : RI i_row) (h_i_high : zR i_high 0 10) (h_i_heaps : zR i_heaps 0 30) : zok (f_HM_tires x1 x2 x3 i_row i_thrown i_law i_broken i_value i_sum i_set i_rest i_high i_heaps) (fun o => zR o.2.2.2.2.2.2.2.2.1 0 10 ∧ zR o.2.2.2.2.2.2.2.2.2 0 30) := by
  unfold f_HM_tires
  refine zk_d1 (s_HM_are _ _ _ _ (by omega) (by omega) (by omega) h_i_row) (fun v1 hp => ?_)
  try dsimp only at hp
  obtain ⟨hpp0, hpp1, hpp2⟩ := hp
  refine zk_ifc (zci_ner (by omega)) (fun hc => ?_) (fun hc => ?_)
  · refine zk_d2 (s_HM_load _ _ _ h_i_row h_i_high h_i_heaps) (fun a2 a3 hp_2 => ?_)
    try dsimp only at hp_2
    obtain ⟨hp_2p0, hp_2p1⟩ := hp_2
    refine zk_d7 (s_HM_carrying _ _ _ _ _ _ _ _ _ _ _ _ (by omega) (by omega) (by omega) h_i_row hp_2p0 hp_2p1) (fun v4 v5 v6 v7 v8 a9 a10 hp_3 => ?_)
    try dsimp only at hp_3
    have hp_3p0 := hp_3
    refine zk_ret ?_
    try dsimp only
    exact ⟨hp_2p0, hp_2p1⟩
  · refine zk_ret ?_
    try dsimp only
    exact ⟨h_i_high, h_i_heaps⟩
theorem s_HM_carry (x1 : Int) (x2 : Int) (x3 : Int) (i_thrown : Int) (i_status : Int) (i_law : Int) (i_broken : Int) (i_value : Int) (i_sum : Int) (i_refusals : Nat → Int) (i_row : Nat → Int) (i_set : Nat → Int) (i_rest : Nat → Int) (i_high : Nat → Int) (i_heaps : Nat → Int) (b_x1 : (-2147483648) ≤ x1 ∧ x1 ≤ 2147483647) (b_x2 : (-2147483648) ≤ x2 ∧ x2 ≤ 2147483647) (b_x3 : (-2147483648) ≤ x3 ∧ x3 ≤ 2147483647) (h_i_row : RI i_row) (h_i_high : zR i_high 0 10) (h_i_heaps : zR i_heaps 0 30) : zok (f_HM_carry x1 x2 x3 i_thrown i_status i_law i_broken i_value i_sum i_refusals i_row i_set i_rest i_high i_heaps) (fun o => RI o.2.2.2.2.2.2.2.2.1 ∧ zR o.2.2.2.2.2.2.2.2.2.2.2.1 0 10 ∧ zR o.2.2.2.2.2.2.2.2.2.2.2.2 0 30 ∧ (∀ j : Nat, (j < 9 ∨ 141 ≤ j) → o.2.2.2.2.2.2.2.2.1 j = i_row j)) := by
  unfold f_HM_carry
  refine zk_d1 (s_HM_are _ _ _ _ (by omega) (by omega) (by omega) h_i_row) (fun v1 hp => ?_)
  try dsimp only at hp
  obtain ⟨hpp0, hpp1, hpp2⟩ := hp
  refine zk_ifc (zci_ner (by omega)) (fun hc => ?_) (fun hc => ?_)
  · refine zk_d2 (s_HM_load _ _ _ h_i_row h_i_high h_i_heaps) (fun a2 a3 hp_2 => ?_)
    try dsimp only at hp_2
    obtain ⟨hp_2p0, hp_2p1⟩ := hp_2
    refine zk_d7 (s_HM_carrying _ _ _ _ _ _ _ _ _ _ _ _ (by omega) (by omega) (by omega) h_i_row hp_2p0 hp_2p1) (fun v4 v5 v6 v7 v8 a9 a10 hp_3 => ?_)
    try dsimp only at hp_3
    have hp_3p0 := hp_3
    refine zk_ifc (zci_ne (by omega) (by omega)) (fun hc_2 => ?_) (fun hc_2 => ?_)
    · refine zk_d1 (s_HM_top _ _ _ (by omega) hp_2p0 hp_2p1) (fun v11 hp_4 => ?_)
      try dsimp only at hp_4
      have hp_4p0 := hp_4
      refine zk_d2 (s_HM_shift _ _ _ _ (by omega) (by omega) hp_2p0 hp_2p1 (by omega) (by omega) (by omega)) (fun a12 a13 hp_5 => ?_)
      try dsimp only at hp_5
      obtain ⟨hp_5p0, hp_5p1, hp_5p2⟩ := hp_5
      refine zk_d1 (s_HM_store _ _ _ hp_5p0 hp_5p1 h_i_row) (fun a14 hp_6 => ?_)
      try dsimp only at hp_6
      obtain ⟨hp_6p0, hp_6p1⟩ := hp_6
      refine zk_d3 (s_HM_tell _ _ _ (by omega)) (fun v15 v16 a17 hp_7 => ?_)
      try dsimp only at hp_7
      obtain ⟨hp_7p0, hp_7p1⟩ := hp_7
      refine zk_ret ?_
      try dsimp only
      exact ⟨hp_6p0, hp_5p0, hp_5p1, by first | exact fun j _ => rfl | assumption | (intro j hj; simp only [zu_eq, zu, ↓reduceIte]; (repeat' split) <;> omega)⟩
    · refine zk_d3 (s_HM_tell _ _ _ (by omega)) (fun v18 v19 a20 hp_8 => ?_)
      try dsimp only at hp_8
      obtain ⟨hp_8p0, hp_8p1⟩ := hp_8
      refine zk_ret ?_
      try dsimp only
      exact ⟨h_i_row, hp_2p0, hp_2p1, by first | exact fun j _ => rfl | assumption | (intro j hj; simp only [zu_eq, zu, ↓reduceIte]; (repeat' split) <;> omega)⟩
  · refine zk_d3 (s_HM_tell _ _ _ (by omega)) (fun v21 v22 a23 hp_9 => ?_)
    try dsimp only at hp_9
    obtain ⟨hp_9p0, hp_9p1⟩ := hp_9
    refine zk_ret ?_
    try dsimp only
    exact ⟨h_i_row, h_i_high, h_i_heaps, by first | exact fun j _ => rfl | assumption | (intro j hj; simp only [zu_eq, zu, ↓reduceIte]; (repeat' split) <;> omega)⟩
theorem s_HM_exchange (x1 : Int) (x2 : Int) (x3 : Int) (x4 : Int) (i_thrown : Int) (i_status : Int) (i_law : Int) (i_broken : Int) (i_value : Int) (i_sum : Int) (i_refusals : Nat → Int) (i_row : Nat → Int) (i_set : Nat → Int) (i_rest : Nat → Int) (i_high : Nat → Int) (i_heaps : Nat → Int) (b_x1 : (-2147483648) ≤ x1 ∧ x1 ≤ 2147483647) (b_x2 : (-2147483648) ≤ x2 ∧ x2 ≤ 2147483647) (b_x3 : (-2147483648) ≤ x3 ∧ x3 ≤ 2147483647) (b_x4 : (-2147483648) ≤ x4 ∧ x4 ≤ 2147483647) (h_i_row : RI i_row) (h_i_high : zR i_high 0 10) (h_i_heaps : zR i_heaps 0 30) : zok (f_HM_exchange x1 x2 x3 x4 i_thrown i_status i_law i_broken i_value i_sum i_refusals i_row i_set i_rest i_high i_heaps) (fun o => RI o.2.2.2.2.2.2.2.2.1 ∧ zR o.2.2.2.2.2.2.2.2.2.2.2.1 0 10 ∧ zR o.2.2.2.2.2.2.2.2.2.2.2.2 0 30 ∧ (∀ j : Nat, (j < 9 ∨ 141 ≤ j) → o.2.2.2.2.2.2.2.2.1 j = i_row j)) := by
  unfold f_HM_exchange
  refine zk_d1 (s_HM_are _ _ _ _ (by omega) (by omega) (by omega) h_i_row) (fun v1 hp => ?_)
  try dsimp only at hp
  obtain ⟨hpp0, hpp1, hpp2⟩ := hp
  refine zk_ifc (zci_eqr (by omega)) (fun hc => ?_) (fun hc => ?_)
  · unfold f_HM_exchange_24
    refine zk_d3 (s_HM_tell _ _ _ (by omega)) (fun v1_2 v2 a3 hp_2 => ?_)
    try dsimp only at hp_2
    obtain ⟨hp_2p0, hp_2p1⟩ := hp_2
    refine zk_ret ?_
    try dsimp only
    exact ⟨h_i_row, h_i_high, h_i_heaps, by first | exact fun j _ => rfl | assumption | (intro j hj; simp only [zu_eq, zu, ↓reduceIte]; (repeat' split) <;> omega)⟩
  · refine zk_d1 (s_HM_isColumn _ _ (by omega) h_i_row) (fun v2_2 hp_3 => ?_)
    try dsimp only at hp_3
    obtain ⟨hp_3p0, hp_3p1⟩ := hp_3
    refine zk_ifc (zci_ner (by omega)) (fun hc_2 => ?_) (fun hc_2 => ?_)
    · refine zk_d2 (s_HM_load _ _ _ h_i_row h_i_high h_i_heaps) (fun a3_2 a4 hp_4 => ?_)
      try dsimp only at hp_4
      obtain ⟨hp_4p0, hp_4p1⟩ := hp_4
      refine zk_d7 (s_HM_carrying _ _ _ _ _ _ _ _ _ _ _ _ (by omega) (by omega) (by omega) h_i_row hp_4p0 hp_4p1) (fun v5 v6 v7 v8 v9 a10 a11 hp_5 => ?_)
      try dsimp only at hp_5
      have hp_5p0 := hp_5
      refine zk_ifc (zci_ne (by omega) (by omega)) (fun hc_3 => ?_) (fun hc_3 => ?_)
      · refine zk_d1 (s_HM_top _ _ _ (by omega) hp_4p0 hp_4p1) (fun v12 hp_6 => ?_)
        try dsimp only at hp_6
        have hp_6p0 := hp_6
        refine zk_d2 (s_HM_shift _ _ _ _ (by omega) (by omega) hp_4p0 hp_4p1 (by omega) (by omega) (by omega)) (fun a13 a14 hp_7 => ?_)
        try dsimp only at hp_7
        obtain ⟨hp_7p0, hp_7p1, hp_7p2⟩ := hp_7
        refine zk_d7 (s_HM_carrying _ _ _ _ _ _ _ _ _ _ _ _ (by omega) (by omega) (by omega) h_i_row hp_7p0 hp_7p1) (fun v15 v16 v17 v18 v19 a20 a21 hp_8 => ?_)
        try dsimp only at hp_8
        have hp_8p0 := hp_8
        refine zk_ifc (zci_ne (by omega) (by omega)) (fun hc_4 => ?_) (fun hc_4 => ?_)
        · refine zk_d1 (s_HM_top _ _ _ (by omega) hp_7p0 hp_7p1) (fun v22 hp_9 => ?_)
          try dsimp only at hp_9
          have hp_9p0 := hp_9
          refine zk_n ?_
          refine zk_d1 (s_HM_size _ (by omega)) (fun v24 hp_10 => ?_)
          try dsimp only at hp_10
          have hp_10p0 := hp_10
          refine zk_gl 8 rfl (by decide) (by decide) (fun v25 h_v25 => ?_)
          have r_v25 := RI_8 h_i_row
          refine zk_ifc (zci_le (by omega) (by omega)) (fun hc_5 => ?_) (fun hc_5 => ?_)
          · refine zk_d2 (s_HM_shift _ _ _ _ (by omega) (by omega) hp_7p0 hp_7p1 (by omega) (by omega) (by omega)) (fun a26 a27 hp_11 => ?_)
            try dsimp only at hp_11
            obtain ⟨hp_11p0, hp_11p1, hp_11p2⟩ := hp_11
            refine zk_d1 (s_HM_store _ _ _ hp_11p0 hp_11p1 h_i_row) (fun a28 hp_12 => ?_)
            try dsimp only at hp_12
            obtain ⟨hp_12p0, hp_12p1⟩ := hp_12
            refine zk_d3 (s_HM_tell _ _ _ (by omega)) (fun v29 v30 a31 hp_13 => ?_)
            try dsimp only at hp_13
            obtain ⟨hp_13p0, hp_13p1⟩ := hp_13
            refine zk_ret ?_
            try dsimp only
            exact ⟨hp_12p0, hp_11p0, hp_11p1, by first | exact fun j _ => rfl | assumption | (intro j hj; simp only [zu_eq, zu, ↓reduceIte]; (repeat' split) <;> omega)⟩
          · refine zk_d3 (s_HM_tell _ _ _ (by omega)) (fun v32 v33 a34 hp_14 => ?_)
            try dsimp only at hp_14
            obtain ⟨hp_14p0, hp_14p1⟩ := hp_14
            refine zk_ret ?_
            try dsimp only
            exact ⟨h_i_row, hp_7p0, hp_7p1, by first | exact fun j _ => rfl | assumption | (intro j hj; simp only [zu_eq, zu, ↓reduceIte]; (repeat' split) <;> omega)⟩
        · refine zk_d3 (s_HM_tell _ _ _ (by omega)) (fun v35 v36 a37 hp_15 => ?_)
          try dsimp only at hp_15
          obtain ⟨hp_15p0, hp_15p1⟩ := hp_15
          refine zk_ret ?_
          try dsimp only
          exact ⟨h_i_row, hp_7p0, hp_7p1, by first | exact fun j _ => rfl | assumption | (intro j hj; simp only [zu_eq, zu, ↓reduceIte]; (repeat' split) <;> omega)⟩
      · refine zk_d3 (s_HM_tell _ _ _ (by omega)) (fun v38 v39 a40 hp_16 => ?_)
        try dsimp only at hp_16
        obtain ⟨hp_16p0, hp_16p1⟩ := hp_16
        refine zk_ret ?_
        try dsimp only
        exact ⟨h_i_row, hp_4p0, hp_4p1, by first | exact fun j _ => rfl | assumption | (intro j hj; simp only [zu_eq, zu, ↓reduceIte]; (repeat' split) <;> omega)⟩
    · unfold f_HM_exchange_24
      refine zk_d3 (s_HM_tell _ _ _ (by omega)) (fun v1_3 v2_3 a3_3 hp_17 => ?_)
      try dsimp only at hp_17
      obtain ⟨hp_17p0, hp_17p1⟩ := hp_17
      refine zk_ret ?_
      try dsimp only
      exact ⟨h_i_row, h_i_high, h_i_heaps, by first | exact fun j _ => rfl | assumption | (intro j hj; simp only [zu_eq, zu, ↓reduceIte]; (repeat' split) <;> omega)⟩
theorem s_HM_steep (i_row : Nat → Int) (i_thrown : Int) (i_high : Nat → Int) (i_heaps : Nat → Int) (h_i_row : RI i_row) (h_i_high : zR i_high 0 10) (h_i_heaps : zR i_heaps 0 30) : zok (f_HM_steep i_row i_thrown i_high i_heaps) (fun o => zR o.2.2.1 0 10 ∧ zR o.2.2.2 0 30) := by
  unfold f_HM_steep
  refine zk_d2 (s_HM_load _ _ _ h_i_row h_i_high h_i_heaps) (fun a1 a2 hp => ?_)
  try dsimp only at hp
  obtain ⟨hpp0, hpp1⟩ := hp
  refine zk_d1 (s_HM_steepest _ _ h_i_row hpp0) (fun v3 hp_2 => ?_)
  try dsimp only at hp_2
  obtain ⟨hp_2p0, hp_2p1⟩ := hp_2
  refine zk_ret ?_
  try dsimp only
  exact ⟨hpp0, hpp1⟩
theorem s_HM_slideAll_7 (i_row : Nat → Int) (h_i_row : RI i_row) : ∀ (n : Nat) (x1 x2 : Int) (i_high i_heaps : Nat → Int), (x2 = -1 ∨ (0 ≤ x2 ∧ x2 < i_row 0 ∧ ((1 ≤ x2 ∧ i_high (x2 - 1).toNat + i_row 7 < i_high (x2).toNat) ∨ (x2 + 1 < i_row 0 ∧ i_high (x2 + 1).toNat + i_row 7 < i_high (x2).toNat)))) → zR i_high 0 10 → zR i_heaps 0 30 → zq i_high 12 < (n : Int) → zok (f_HM_slideAll_7 i_row n x1 x2 i_high i_heaps) (fun o => zR o.2.1 0 10 ∧ zR o.2.2 0 30) := by
  have q0 := RI_0 h_i_row
  have q7 := RI_7 h_i_row
  intro n
  induction n with
  | zero => intro x1 x2 i_high i_heaps h1 h_i_high h_i_heaps hm; have := zq_le h_i_high 12; exfalso; omega
  | succ n ih =>
    intro x1 x2 i_high i_heaps h1 h_i_high h_i_heaps hm
    show zok (f_HM_slideAll_7_b i_row (f_HM_slideAll_7 i_row n) x1 x2 i_high i_heaps) _
    have step : ∀ d : Int, 0 ≤ x2 ∧ x2 ≤ 11 → 0 ≤ d ∧ d ≤ 11 → x2 ≠ d → i_high d.toNat + i_row 7 < i_high x2.toNat → zok (f_HM_slideAll_34 i_row (f_HM_slideAll_7 i_row n) x1 x2 d i_high i_heaps) (fun o => zR o.2.1 0 10 ∧ zR o.2.2 0 30) := by
      intro d b1 b2 b3 b4
      have r1 := h_i_high x2.toNat
      have r2 := h_i_high d.toNat
      unfold f_HM_slideAll_34
      refine zk_d2 (s_HM_shift _ _ _ _ (by omega) (by omega) h_i_high h_i_heaps (by omega) (by omega) (by omega)) (fun a1 a2 hp => ?_)
      try dsimp only at hp
      obtain ⟨hp0, hp1, hp2⟩ := hp
      refine zk_n ?_
      refine zk_d1 (s_HM_steepest _ _ h_i_row hp0) (fun v4 hq => ?_)
      try dsimp only at hq
      obtain ⟨hq0, hq1⟩ := hq
      refine ih _ _ _ _ hq1 hp0 hp1 ?_
      have hz := zq_shift (h := i_high) (i := x2.toNat) (j := d.toNat) (by omega) (by omega) (by omega) (by omega)
      rw [hp2]
      omega
    unfold f_HM_slideAll_7_b
    refine zk_ifc (zci_eq (by omega) (by omega)) (fun hc => ?_) (fun hc => ?_)
    · exact zk_ret ⟨h_i_high, h_i_heaps⟩
    · refine zk_n ?_
      refine zk_d1 (s_HM_isSteep _ _ _ _ (by omega) (by omega) h_i_row h_i_high) (fun v2 hp => ?_)
      try dsimp only at hp
      obtain ⟨hp0, hp1, hp2⟩ := hp
      refine zk_ifc (zci_eqr (by omega)) (fun hc_2 => ?_) (fun hc_2 => ?_)
      · refine zk_n ?_
        exact step _ (by omega) (by omega) (by omega) (by omega)
      · refine zk_n ?_
        exact step _ (by omega) (by omega) (by omega) (by omega)
theorem s_HM_slideAll (i_row : Nat → Int) (i_high : Nat → Int) (i_heaps : Nat → Int) (h_i_row : RI i_row) (h_i_high : zR i_high 0 10) (h_i_heaps : zR i_heaps 0 30) : zok (f_HM_slideAll i_row i_high i_heaps) (fun o => zR o.2.1 0 10 ∧ zR o.2.2 0 30) := by
  unfold f_HM_slideAll
  refine zk_d1 (s_HM_steepest _ _ h_i_row h_i_high) (fun v1 hp => ?_)
  try dsimp only at hp
  obtain ⟨hp0, hp1⟩ := hp
  exact s_HM_slideAll_7 i_row h_i_row zfu _ _ _ _ hp1 h_i_high h_i_heaps (by have := zq_le h_i_high 12; unfold zfu; omega)
theorem s_HM_slide (i_thrown : Int) (i_row : Nat → Int) (i_high : Nat → Int) (i_heaps : Nat → Int) (h_i_row : RI i_row) (h_i_high : zR i_high 0 10) (h_i_heaps : zR i_heaps 0 30) : zok (f_HM_slide i_thrown i_row i_high i_heaps) (fun o => RI o.2.2.1 ∧ zR o.2.2.2.1 0 10 ∧ zR o.2.2.2.2 0 30 ∧ (∀ j : Nat, (j < 9 ∨ 141 ≤ j) → o.2.2.1 j = i_row j)) := by
  unfold f_HM_slide
  refine zk_d2 (s_HM_load _ _ _ h_i_row h_i_high h_i_heaps) (fun a1 a2 hp => ?_)
  try dsimp only at hp
  obtain ⟨hpp0, hpp1⟩ := hp
  refine zk_d3 (s_HM_slideAll _ _ _ h_i_row hpp0 hpp1) (fun v3 a4 a5 hp_2 => ?_)
  try dsimp only at hp_2
  obtain ⟨hp_2p0, hp_2p1⟩ := hp_2
  refine zk_d1 (s_HM_store _ _ _ hp_2p0 hp_2p1 h_i_row) (fun a6 hp_3 => ?_)
  try dsimp only at hp_3
  obtain ⟨hp_3p0, hp_3p1⟩ := hp_3
  refine zk_ret ?_
  try dsimp only
  exact ⟨hp_3p0, hp_2p0, hp_2p1, by first | exact fun j _ => rfl | assumption | (intro j hj; simp only [zu_eq, zu, ↓reduceIte]; (repeat' split) <;> omega)⟩
theorem s_HM_shade (x1 : Int) (i_row : Nat → Int) (i_thrown : Int) (i_high : Nat → Int) (i_heaps : Nat → Int) (b_x1 : (-2147483648) ≤ x1 ∧ x1 ≤ 2147483647) (h_i_row : RI i_row) (h_i_high : zR i_high 0 10) (h_i_heaps : zR i_heaps 0 30) : zok (f_HM_shade x1 i_row i_thrown i_high i_heaps) (fun o => zR o.2.2.1 0 10 ∧ zR o.2.2.2 0 30) := by
  unfold f_HM_shade
  refine zk_d2 (s_HM_load _ _ _ h_i_row h_i_high h_i_heaps) (fun a1 a2 hp => ?_)
  try dsimp only at hp
  obtain ⟨hpp0, hpp1⟩ := hp
  refine zk_ifc (zci_ne (by omega) (by omega)) (fun hc => ?_) (fun hc => ?_)
  · refine zk_d1 (s_HM_isParish _ _ (by omega) h_i_row) (fun v3 hp_2 => ?_)
    try dsimp only at hp_2
    obtain ⟨hp_2p0, hp_2p1⟩ := hp_2
    refine zk_ifc (zci_eqr (by omega)) (fun hc_2 => ?_) (fun hc_2 => ?_)
    · refine zk_ret ?_
      try dsimp only
      exact ⟨hpp0, hpp1⟩
    · refine zk_n ?_
      refine zk_gv (by omega) (by decide) (fun v5 h_v5 => ?_)
      have r_v5 := RI_p h_i_row (i := (171 + x1)) (by omega)
      refine zk_d1 (s_HM_shadeAt _ _ _ (by omega) h_i_row hpp0) (fun v6 hp_3 => ?_)
      try dsimp only at hp_3
      have hp_3p0 := hp_3
      refine zk_ret ?_
      try dsimp only
      exact ⟨hpp0, hpp1⟩
  · refine zk_d1 (s_HM_allShades _ _ h_i_row hpp0) (fun v7 hp_4 => ?_)
    try dsimp only at hp_4
    have hp_4p0 := hp_4
    refine zk_ret ?_
    try dsimp only
    exact ⟨hpp0, hpp1⟩
theorem s_HM_gains (x1 : Int) (x2 : Int) (x3 : Int) (x4 : Int) (i_row : Nat → Int) (i_thrown : Int) (i_law : Int) (i_broken : Int) (i_value : Int) (i_sum : Int) (i_set : Nat → Int) (i_rest : Nat → Int) (i_high : Nat → Int) (i_heaps : Nat → Int) (b_x1 : (-2147483648) ≤ x1 ∧ x1 ≤ 2147483647) (b_x2 : (-2147483648) ≤ x2 ∧ x2 ≤ 2147483647) (b_x3 : (-2147483648) ≤ x3 ∧ x3 ≤ 2147483647) (b_x4 : (-2147483648) ≤ x4 ∧ x4 ≤ 2147483647) (h_i_row : RI i_row) (h_i_high : zR i_high 0 10) (h_i_heaps : zR i_heaps 0 30) : zok (f_HM_gains x1 x2 x3 x4 i_row i_thrown i_law i_broken i_value i_sum i_set i_rest i_high i_heaps) (fun o => zR o.2.2.2.2.2.2.2.2.1 0 10 ∧ zR o.2.2.2.2.2.2.2.2.2 0 30) := by
  unfold f_HM_gains
  refine zk_d1 (s_HM_isParish _ _ (by omega) h_i_row) (fun v1 hp => ?_)
  try dsimp only at hp
  obtain ⟨hpp0, hpp1⟩ := hp
  refine zk_ifc (zci_eqr (by omega)) (fun hc => ?_) (fun hc => ?_)
  · refine zk_ret ?_
    try dsimp only
    exact ⟨h_i_high, h_i_heaps⟩
  · refine zk_d1 (s_HM_are _ _ _ _ (by omega) (by omega) (by omega) h_i_row) (fun v2 hp_2 => ?_)
    try dsimp only at hp_2
    obtain ⟨hp_2p0, hp_2p1, hp_2p2⟩ := hp_2
    refine zk_ifc (zci_ner (by omega)) (fun hc_2 => ?_) (fun hc_2 => ?_)
    · refine zk_d2 (s_HM_load _ _ _ h_i_row h_i_high h_i_heaps) (fun a3 a4 hp_3 => ?_)
      try dsimp only at hp_3
      obtain ⟨hp_3p0, hp_3p1⟩ := hp_3
      refine zk_d7 (s_HM_carrying _ _ _ _ _ _ _ _ _ _ _ _ (by omega) (by omega) (by omega) h_i_row hp_3p0 hp_3p1) (fun v5 v6 v7 v8 v9 a10 a11 hp_4 => ?_)
      try dsimp only at hp_4
      have hp_4p0 := hp_4
      refine zk_ifc (zci_ne (by omega) (by omega)) (fun hc_3 => ?_) (fun hc_3 => ?_)
      · refine zk_n ?_
        refine zk_gv (by omega) (by decide) (fun v13 h_v13 => ?_)
        have r_v13 := RI_p h_i_row (i := (171 + x1)) (by omega)
        refine zk_d1 (s_HM_shadeAt _ _ _ (by omega) h_i_row hp_3p0) (fun v14 hp_5 => ?_)
        try dsimp only at hp_5
        have hp_5p0 := hp_5
        refine zk_d2 (s_HM_shift _ _ _ _ (by omega) (by omega) hp_3p0 hp_3p1 (by omega) (by omega) (by omega)) (fun a15 a16 hp_6 => ?_)
        try dsimp only at hp_6
        obtain ⟨hp_6p0, hp_6p1, hp_6p2⟩ := hp_6
        refine zk_n ?_
        refine zk_gv (by omega) (by decide) (fun v18 h_v18 => ?_)
        have r_v18 := RI_p h_i_row (i := (171 + x1)) (by omega)
        refine zk_d1 (s_HM_shadeAt _ _ _ (by omega) h_i_row hp_6p0) (fun v19 hp_7 => ?_)
        try dsimp only at hp_7
        have hp_7p0 := hp_7
        refine zk_n ?_
        refine zk_ret ?_
        try dsimp only
        exact ⟨hp_6p0, hp_6p1⟩
      · refine zk_ret ?_
        try dsimp only
        exact ⟨hp_3p0, hp_3p1⟩
    · refine zk_ret ?_
      try dsimp only
      exact ⟨h_i_high, h_i_heaps⟩
theorem s_HM_rain_220 (i_row : Nat → Int) (k180 : Int → Int → Int → Int → Int → Int → (Nat → Int) → (Nat → Int) → (Nat → Int) → (Nat → Int) → Option (Int × Int × Int × Int × Int × (Nat → Int) × (Nat → Int) × (Nat → Int) × (Nat → Int))) (Nk180 : Nat) (hk180 : ∀ (x3 : Int) (x4 : Int) (i_thrown : Int) (i_status : Int) (i_state : Int) (i_wet : Int) (i_refusals : Nat → Int) (i_high : Nat → Int) (i_heaps : Nat → Int) (i_rained : Nat → Int), (0 ≤ x3 ∧ x3 ≤ 40) → (0 ≤ x4 ∧ x4 ≤ 12) → (0 ≤ i_wet ∧ i_wet ≤ 12) → (zR i_high 0 10) → (zR i_heaps 0 30) → (13 - x4) < (Nk180 : Int) → zok (k180 x3 x4 i_thrown i_status i_state i_wet i_refusals i_high i_heaps i_rained) (fun o => (0 ≤ o.2.2.2.2.1 ∧ o.2.2.2.2.1 ≤ 12) ∧ zR o.2.2.2.2.2.2.1 0 10 ∧ zR o.2.2.2.2.2.2.2.1 0 30)) (h_i_row : RI i_row) : ∀ (n : Nat) (x3 : Int) (x4 : Int) (x5 : Int) (i_thrown : Int) (i_status : Int) (i_state : Int) (i_wet : Int) (i_refusals : Nat → Int) (i_high : Nat → Int) (i_heaps : Nat → Int) (i_rained : Nat → Int), (0 ≤ x3 ∧ x3 ≤ 40) → (0 ≤ x4 ∧ x4 ≤ 11) → (0 ≤ x5 ∧ x5 ≤ 10) → (0 ≤ i_wet ∧ i_wet ≤ 12) → (zR i_high 0 10) → (zR i_heaps 0 30) → (13 - x4) < (Nk180 : Int) + 1 → (11 - x5) < (n : Int) → zok (f_HM_rain_220 i_row k180 n x3 x4 x5 i_thrown i_status i_state i_wet i_refusals i_high i_heaps i_rained) (fun o => (0 ≤ o.2.2.2.2.1 ∧ o.2.2.2.2.1 ≤ 12) ∧ zR o.2.2.2.2.2.2.1 0 10 ∧ zR o.2.2.2.2.2.2.2.1 0 30) := by
  intro n
  induction n with
  | zero => intro x3 x4 x5 i_thrown i_status i_state i_wet i_refusals i_high i_heaps i_rained b_x3 b_x4 b_x5 b_i_wet h_i_high h_i_heaps mk180 hm; exfalso; omega
  | succ n ih =>
    intro x3 x4 x5 i_thrown i_status i_state i_wet i_refusals i_high i_heaps i_rained b_x3 b_x4 b_x5 b_i_wet h_i_high h_i_heaps mk180 hm
    show zok (f_HM_rain_220_b i_row k180 (f_HM_rain_220 i_row k180 n) x3 x4 x5 i_thrown i_status i_state i_wet i_refusals i_high i_heaps i_rained) _
    unfold f_HM_rain_220_b
    refine zk_gv (by omega) (by decide) (fun v1 h_v1 => ?_)
    have r_v1 := h_i_high (x4.toNat)
    refine zk_ifc (zci_le (by omega) (by omega)) (fun hc => ?_) (fun hc => ?_)
    · refine zk_n ?_
      exact hk180 _ _ _ _ _ _ _ _ _ _ (by omega) (by omega) (by omega) h_i_high h_i_heaps (by omega)
    · refine zk_n ?_
      refine zk_n ?_
      refine zk_gv (by omega) (by decide) (fun v5 h_v5 => ?_)
      refine zk_n ?_
      refine zk_n ?_
      refine zk_gv (by omega) (by decide) (fun v8 h_v8 => ?_)
      have r_v8 := h_i_heaps (((10 * x4) + x5).toNat)
      refine zk_n ?_
      refine zk_sv (by omega) (by decide) (fun a10 h_a10 => ?_)
      refine zk_n ?_
      exact ih _ _ _ _ _ _ _ _ _ _ _ (by omega) (by omega) (by omega) (by omega) h_i_high h_i_heaps (by omega) (by omega)
theorem s_HM_rain_180 (i_row : Nat → Int) (h_i_row : RI i_row) : ∀ (n : Nat) (x3 : Int) (x4 : Int) (i_thrown : Int) (i_status : Int) (i_state : Int) (i_wet : Int) (i_refusals : Nat → Int) (i_high : Nat → Int) (i_heaps : Nat → Int) (i_rained : Nat → Int), (0 ≤ x3 ∧ x3 ≤ 40) → (0 ≤ x4 ∧ x4 ≤ 12) → (0 ≤ i_wet ∧ i_wet ≤ 12) → (zR i_high 0 10) → (zR i_heaps 0 30) → (13 - x4) < (n : Int) → zok (f_HM_rain_180 i_row n x3 x4 i_thrown i_status i_state i_wet i_refusals i_high i_heaps i_rained) (fun o => (0 ≤ o.2.2.2.2.1 ∧ o.2.2.2.2.1 ≤ 12) ∧ zR o.2.2.2.2.2.2.1 0 10 ∧ zR o.2.2.2.2.2.2.2.1 0 30) := by
  intro n
  induction n with
  | zero => intro x3 x4 i_thrown i_status i_state i_wet i_refusals i_high i_heaps i_rained b_x3 b_x4 b_i_wet h_i_high h_i_heaps hm; exfalso; omega
  | succ n ih =>
    intro x3 x4 i_thrown i_status i_state i_wet i_refusals i_high i_heaps i_rained b_x3 b_x4 b_i_wet h_i_high h_i_heaps hm
    show zok (f_HM_rain_180_b i_row (f_HM_rain_180 i_row n) x3 x4 i_thrown i_status i_state i_wet i_refusals i_high i_heaps i_rained) _
    unfold f_HM_rain_180_b
    refine zk_ifc (zci_le (by omega) (by omega)) (fun hc => ?_) (fun hc => ?_)
    · refine zk_d3 (s_HM_tell _ _ _ (by omega)) (fun v1 v2 a3 hp => ?_)
      try dsimp only at hp
      obtain ⟨hpp0, hpp1⟩ := hp
      refine zk_ret ?_
      try dsimp only
      exact ⟨by omega, h_i_high, h_i_heaps⟩
    · refine zk_n ?_
      refine zk_gv (by omega) (by decide) (fun v5 h_v5 => ?_)
      have r_v5 := h_i_high (x4.toNat)
      refine zk_sv (by omega) (by decide) (fun a6 h_a6 => ?_)
      refine zk_n ?_
      refine zk_n ?_
      refine zk_sv (by omega) (by decide) (fun a9 h_a9 => ?_)
      exact s_HM_rain_220 _ _ n ih h_i_row zfu _ _ _ _ _ _ _ _ _ _ _ (by omega) (by omega) (by omega) (by omega) h_i_high h_i_heaps (by omega) (by unfold zfu; omega)
theorem s_HM_rain_58 (i_row : Nat → Int) (h_i_row : RI i_row) : ∀ (n : Nat) (x2 : Int) (x3 : Int) (x4 : Int) (i_thrown : Int) (i_status : Int) (i_state : Int) (i_wet : Int) (i_refusals : Nat → Int) (i_high : Nat → Int) (i_heaps : Nat → Int) (i_rained : Nat → Int), (1 ≤ x2 ∧ x2 ≤ 40) → (0 ≤ x3 ∧ x3 ≤ 40) → (0 ≤ x4 ∧ x4 ≤ 40) → (0 ≤ i_state ∧ i_state ≤ 1000002) → (0 ≤ i_wet ∧ i_wet ≤ 12) → (zR i_high 0 10) → (zR i_heaps 0 30) → (x3 ≤ x4) → (41 - x4) < (n : Int) → zok (f_HM_rain_58 i_row n x2 x3 x4 i_thrown i_status i_state i_wet i_refusals i_high i_heaps i_rained) (fun o => (0 ≤ o.2.2.2.2.1 ∧ o.2.2.2.2.1 ≤ 12) ∧ zR o.2.2.2.2.2.2.1 0 10 ∧ zR o.2.2.2.2.2.2.2.1 0 30) := by
  intro n
  induction n with
  | zero => intro x2 x3 x4 i_thrown i_status i_state i_wet i_refusals i_high i_heaps i_rained b_x2 b_x3 b_x4 b_i_state b_i_wet h_i_high h_i_heaps p_0 hm; exfalso; omega
  | succ n ih =>
    intro x2 x3 x4 i_thrown i_status i_state i_wet i_refusals i_high i_heaps i_rained b_x2 b_x3 b_x4 b_i_state b_i_wet h_i_high h_i_heaps p_0 hm
    show zok (f_HM_rain_58_b i_row (f_HM_rain_58 i_row n) x2 x3 x4 i_thrown i_status i_state i_wet i_refusals i_high i_heaps i_rained) _
    unfold f_HM_rain_58_b
    refine zk_ifc (zci_le (by omega) (by omega)) (fun hc => ?_) (fun hc => ?_)
    · unfold f_HM_rain_177
      exact s_HM_rain_180 _ h_i_row zfu _ _ _ _ _ _ _ _ _ _ (by omega) (by omega) (by omega) h_i_high h_i_heaps (by unfold zfu; omega)
    · refine zk_ifc (zci_ler (by omega)) (fun hc_2 => ?_) (fun hc_2 => ?_)
      · unfold f_HM_rain_177
        exact s_HM_rain_180 _ h_i_row zfu _ _ _ _ _ _ _ _ _ _ (by omega) (by omega) (by omega) h_i_high h_i_heaps (by unfold zfu; omega)
      · refine zk_n ?_
        refine zk_n ?_
        refine zk_g0zl_w (by omega) ?_
        refine zk_nE (fun v3 h_v3 => ?_)
        rw [zl_rem_n (by omega) (by omega)] at h_v3
        refine zk_nE (fun v4 h_v4 => ?_)
        rw [zwi (by omega)] at h_v4
        replace h_v4 := h_v4.symm
        subst h_v4
        refine zk_g0zl_w (by omega) ?_
        refine zk_nE (fun v5 h_v5 => ?_)
        rw [zl_rem_n (by omega) (by omega)] at h_v5
        have r_v5 := zemod v3 (w := i_wet) (by omega)
        refine zk_gv (by omega) (by decide) (fun v6 h_v6 => ?_)
        have r_v6 := h_i_high (v5.toNat)
        refine zk_ifc (zci_ler (by omega)) (fun hc_3 => ?_) (fun hc_3 => ?_)
        · unfold f_HM_rain_166
          refine zk_d3 (s_HM_slideAll _ _ _ h_i_row h_i_high h_i_heaps) (fun v1_2 a2 a3 hp => ?_)
          try dsimp only at hp
          obtain ⟨hpp0, hpp1⟩ := hp
          refine zk_n ?_
          exact ih _ _ _ _ _ _ _ _ _ _ _ (by omega) (by omega) (by omega) (by omega) (by omega) hpp0 hpp1 (by omega) (by omega)
        · refine zk_n ?_
          refine zk_ifc (zci_le (by omega) (by omega)) (fun hc_4 => ?_) (fun hc_4 => ?_)
          · unfold f_HM_rain_152
            refine zk_gv (by omega) (by decide) (fun v1_3 h_v1_3 => ?_)
            have r_v1_3 := h_i_high (v5.toNat)
            refine zk_n ?_
            refine zk_sv (by omega) (by decide) (fun a3_2 h_a3_2 => ?_)
            have i_a3_2 : zR a3_2 0 10 := by rw [h_a3_2]; exact zR_zu h_i_high (by decide) (by decide) (by omega)
            refine zk_n ?_
            unfold f_HM_rain_166
            refine zk_d3 (s_HM_slideAll _ _ _ h_i_row i_a3_2 h_i_heaps) (fun v1_4 a2_2 a3_3 hp_2 => ?_)
            try dsimp only at hp_2
            obtain ⟨hp_2p0, hp_2p1⟩ := hp_2
            refine zk_n ?_
            exact ih _ _ _ _ _ _ _ _ _ _ _ (by omega) (by omega) (by omega) (by omega) (by omega) hp_2p0 hp_2p1 (by omega) (by omega)
          · refine zk_n ?_
            refine zk_gv (by omega) (by decide) (fun v9 h_v9 => ?_)
            have r_v9 := h_i_high ((v5 + 1).toNat)
            refine zk_ifc (zci_le (by omega) (by omega)) (fun hc_5 => ?_) (fun hc_5 => ?_)
            · unfold f_HM_rain_152
              refine zk_gv (by omega) (by decide) (fun v1_5 h_v1_5 => ?_)
              have r_v1_5 := h_i_high (v5.toNat)
              refine zk_n ?_
              refine zk_sv (by omega) (by decide) (fun a3_4 h_a3_4 => ?_)
              have i_a3_4 : zR a3_4 0 10 := by rw [h_a3_4]; exact zR_zu h_i_high (by decide) (by decide) (by omega)
              refine zk_n ?_
              unfold f_HM_rain_166
              refine zk_d3 (s_HM_slideAll _ _ _ h_i_row i_a3_4 h_i_heaps) (fun v1_6 a2_3 a3_5 hp_3 => ?_)
              try dsimp only at hp_3
              obtain ⟨hp_3p0, hp_3p1⟩ := hp_3
              refine zk_n ?_
              exact ih _ _ _ _ _ _ _ _ _ _ _ (by omega) (by omega) (by omega) (by omega) (by omega) hp_3p0 hp_3p1 (by omega) (by omega)
            · refine zk_n ?_
              refine zk_d2 (s_HM_shift _ _ _ _ (by omega) (by omega) h_i_high h_i_heaps (by omega) (by omega) (by omega)) (fun a11 a12 hp_4 => ?_)
              try dsimp only at hp_4
              obtain ⟨hp_4p0, hp_4p1, hp_4p2⟩ := hp_4
              unfold f_HM_rain_166
              refine zk_d3 (s_HM_slideAll _ _ _ h_i_row hp_4p0 hp_4p1) (fun v1_7 a2_4 a3_6 hp_5 => ?_)
              try dsimp only at hp_5
              obtain ⟨hp_5p0, hp_5p1⟩ := hp_5
              refine zk_n ?_
              exact ih _ _ _ _ _ _ _ _ _ _ _ (by omega) (by omega) (by omega) (by omega) (by omega) hp_5p0 hp_5p1 (by omega) (by omega)
theorem s_HM_rain (x1 : Int) (x2 : Int) (i_row : Nat → Int) (i_thrown : Int) (i_status : Int) (i_state : Int) (i_wet : Int) (i_refusals : Nat → Int) (i_high : Nat → Int) (i_heaps : Nat → Int) (i_rained : Nat → Int) (b_x1 : (-2147483648) ≤ x1 ∧ x1 ≤ 2147483647) (b_x2 : (-2147483648) ≤ x2 ∧ x2 ≤ 2147483647) (h_i_row : RI i_row) (b_i_wet : 0 ≤ i_wet ∧ i_wet ≤ 12) (h_i_high : zR i_high 0 10) (h_i_heaps : zR i_heaps 0 30) : zok (f_HM_rain x1 x2 i_row i_thrown i_status i_state i_wet i_refusals i_high i_heaps i_rained) (fun o => (0 ≤ o.2.2.2.2.1 ∧ o.2.2.2.2.1 ≤ 12) ∧ zR o.2.2.2.2.2.2.1 0 10 ∧ zR o.2.2.2.2.2.2.2.1 0 30) := by
  unfold f_HM_rain
  refine zk_nE (fun v1 h_v1 => ?_)
  rw [zwi (by omega)] at h_v1
  replace h_v1 := h_v1.symm
  subst h_v1
  refine zk_d1 (s_HM_in _ _ _ (by omega) (by omega) (by omega)) (fun v2 hp => ?_)
  try dsimp only at hp
  have hpp0 := hp
  refine zk_ifc (zci_eqr (by omega)) (fun hc => ?_) (fun hc => ?_)
  · unfold f_HM_rain_29
    refine zk_d3 (s_HM_tell _ _ _ (by omega)) (fun v1_2 v2_2 a3 hp_2 => ?_)
    try dsimp only at hp_2
    obtain ⟨hp_2p0, hp_2p1⟩ := hp_2
    refine zk_ret ?_
    try dsimp only
    exact ⟨by omega, h_i_high, h_i_heaps⟩
  · refine zk_nE (fun v3 h_v3 => ?_)
    rw [zwi (by omega)] at h_v3
    replace h_v3 := h_v3.symm
    subst h_v3
    refine zk_d1 (s_HM_in _ _ _ (by omega) (by omega) (by omega)) (fun v4 hp_3 => ?_)
    try dsimp only at hp_3
    have hp_3p0 := hp_3
    refine zk_ifc (zci_ner (by omega)) (fun hc_2 => ?_) (fun hc_2 => ?_)
    · refine zk_d2 (s_HM_load _ _ _ h_i_row h_i_high h_i_heaps) (fun a5 a6 hp_4 => ?_)
      try dsimp only at hp_4
      obtain ⟨hp_4p0, hp_4p1⟩ := hp_4
      refine zk_nE (fun v7 h_v7 => ?_)
      rw [zwi (by omega)] at h_v7
      replace h_v7 := h_v7.symm
      subst h_v7
      refine zk_d1 (s_HM_columns _ h_i_row) (fun v8 hp_5 => ?_)
      try dsimp only at hp_5
      obtain ⟨hp_5p0, hp_5p1⟩ := hp_5
      exact s_HM_rain_58 _ h_i_row zfu _ _ _ _ _ _ _ _ _ _ _ (by omega) (by omega) (by omega) (by omega) (by omega) hp_4p0 hp_4p1 (by omega) (by unfold zfu; omega)
    · unfold f_HM_rain_29
      refine zk_d3 (s_HM_tell _ _ _ (by omega)) (fun v1_3 v2_3 a3_2 hp_6 => ?_)
      try dsimp only at hp_6
      obtain ⟨hp_6p0, hp_6p1⟩ := hp_6
      refine zk_ret ?_
      try dsimp only
      exact ⟨by omega, h_i_high, h_i_heaps⟩
