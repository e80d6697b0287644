set_option maxHeartbeats 4000000 in
theorem s_LawReader_isLetter (x0 : Int) (b_x0 : 0 ≤ x0 ∧ x0 ≤ 255) : zok (f_LawReader_isLetter x0) (fun o => (0 ≤ o ∧ o ≤ 1) ∧ ((x0 < 97 ∧ o = 0) ∨ (x0 ≥ 97 ∧ 122 < x0 ∧ o = 0) ∨ (x0 ≥ 97 ∧ 122 ≥ x0 ∧ o = 1))) := by
  unfold f_LawReader_isLetter
  refine zk_ifc (zci_lt (by omega) (by omega)) (fun hc => ?_) (fun hc => ?_)
  · exact zk_ret ⟨by omega, by first | exact Or.inl (by omega) | exact Or.inr (Or.inl (by omega)) | exact Or.inr (Or.inr ((by omega)))⟩
  · refine zk_ifc (zci_lt (by omega) (by omega)) (fun hc_2 => ?_) (fun hc_2 => ?_)
    · exact zk_ret ⟨by omega, by first | exact Or.inl (by omega) | exact Or.inr (Or.inl (by omega)) | exact Or.inr (Or.inr ((by omega)))⟩
    · exact zk_ret ⟨by omega, by first | exact Or.inl (by omega) | exact Or.inr (Or.inl (by omega)) | exact Or.inr (Or.inr ((by omega)))⟩
set_option maxHeartbeats 4000000 in
theorem s_String_length (w0 : Nat) (b_w0 : 0 ≤ w0 ∧ w0 ≤ 13) : zok (f_String_length w0) (fun o => (o = zsl w0) ∧ (2 ≤ zsl w0 ∧ zsl w0 ≤ 8)) := by
  have h : w0 < 14 := by omega
  have key : ∀ w : Fin 14, f_String_length w.val = some (zsl w.val) ∧ 2 ≤ zsl w.val ∧ zsl w.val ≤ 8 := by decide +kernel
  have k2 := key ⟨w0, h⟩
  exact ⟨_, k2.1, rfl, k2.2⟩
set_option maxHeartbeats 4000000 in
theorem s_String_charAt (x1 : Int) (w0 : Nat) (b_w0 : 0 ≤ w0 ∧ w0 ≤ 13) (p_0 : 0 ≤ x1 ∧ x1 < zsl w0) : zok (f_String_charAt x1 w0) (fun o => (97 ≤ o ∧ o ≤ 122) ∧ (o = zch w0 x1.toNat)) := by
  have h : w0 < 14 := by omega
  have key : ∀ w : Fin 14, 2 ≤ zsl w.val ∧ zsl w.val ≤ 8 := by decide +kernel
  have k2 := key ⟨w0, h⟩
  dsimp only at k2
  have k3 : ∀ w : Fin 14, ∀ j : Fin 8, (j.val : Int) < zsl w.val → f_String_charAt (j.val : Int) w.val = some (zch w.val j.val) ∧ 97 ≤ zch w.val j.val ∧ zch w.val j.val ≤ 122 := by decide +kernel
  have h8 : x1 < 8 := by have := k2.2; omega
  have k4 := k3 ⟨w0, h⟩ ⟨x1.toNat, by omega⟩ (by dsimp only; omega)
  have e : ((x1.toNat : Nat) : Int) = x1 := by omega
  dsimp only at k4
  rw [e] at k4
  exact ⟨_, k4.1, k4.2, rfl⟩
set_option maxHeartbeats 4000000 in
theorem s_LawReader_isWord_15 (w0 : Nat) (i_a1 : Nat → Int) (b_w0 : 0 ≤ w0 ∧ w0 ≤ 13) (h_i_a1 : zR i_a1 0 255) : ∀ (n : Nat) (x2 : Int) (x4 : Int), (0 ≤ x2 ∧ x2 ≤ 399) → (0 ≤ x4 ∧ x4 ≤ 8) → (x2 + zsl w0 ≤ 400) → (9 - x4) < (n : Int) → zok (f_LawReader_isWord_15 w0 i_a1 n x2 x4) (fun o => (0 ≤ o ∧ o ≤ 1)) := by
  intro n
  induction n with
  | zero => intro x2 x4 b_x2 b_x4 p_0 hm; exfalso; omega
  | succ n ih =>
    intro x2 x4 b_x2 b_x4 p_0 hm
    show zok (f_LawReader_isWord_15_b w0 i_a1 (f_LawReader_isWord_15 w0 i_a1 n) x2 x4) _
    unfold f_LawReader_isWord_15_b
    refine zk_d1 (s_String_length _ (by omega)) (fun v1 hp => ?_)
    try dsimp only at hp
    obtain ⟨hpp0, hpp1⟩ := hp
    refine zk_ifc (zci_le (by omega) (by omega)) (fun hc => ?_) (fun hc => ?_)
    · exact zk_ret (by omega)
    · refine zk_n ?_
      refine zk_gv (by omega) (by decide) (fun v3 h_v3 => ?_)
      have r_v3 := h_i_a1 ((x2 + x4).toNat)
      refine zk_d1 (s_String_charAt _ _ (by omega) (by omega)) (fun v4 hp_2 => ?_)
      try dsimp only at hp_2
      obtain ⟨hp_2p0, hp_2p1⟩ := hp_2
      refine zk_ifc (zci_eq (by omega) (by omega)) (fun hc_2 => ?_) (fun hc_2 => ?_)
      · refine zk_n ?_
        exact ih _ _ (by omega) (by omega) (by omega) (by omega)
      · exact zk_ret (by omega)
set_option maxHeartbeats 4000000 in
theorem s_LawReader_isWord (x2 : Int) (x3 : Int) (w0 : Nat) (i_a1 : Nat → Int) (b_x2 : 0 ≤ x2 ∧ x2 ≤ 399) (b_x3 : 1 ≤ x3 ∧ x3 ≤ 400) (b_w0 : 0 ≤ w0 ∧ w0 ≤ 13) (h_i_a1 : zR i_a1 0 255) : zok (f_LawReader_isWord x2 x3 w0 i_a1) (fun o => (0 ≤ o ∧ o ≤ 1)) := by
  unfold f_LawReader_isWord
  refine zk_n ?_
  refine zk_d1 (s_String_length _ (by omega)) (fun v2 hp => ?_)
  try dsimp only at hp
  obtain ⟨hpp0, hpp1⟩ := hp
  refine zk_ifc (zci_eq (by omega) (by omega)) (fun hc => ?_) (fun hc => ?_)
  · exact s_LawReader_isWord_15 _ _ (by omega) h_i_a1 zfu _ _ (by omega) (by omega) (by omega) (by unfold zfu; omega)
  · exact zk_ret (by omega)
set_option maxHeartbeats 4000000 in
theorem s_LawReader_ruleWordOf (x1 : Int) (x2 : Int) (i_a0 : Nat → Int) (b_x1 : 0 ≤ x1 ∧ x1 ≤ 399) (b_x2 : 1 ≤ x2 ∧ x2 ≤ 400) (h_i_a0 : zR i_a0 0 255) : zok (f_LawReader_ruleWordOf x1 x2 i_a0) (fun o => (256 ≤ o ∧ o ≤ 265)) := by
  unfold f_LawReader_ruleWordOf
  refine zk_d1 (s_LawReader_isWord _ _ _ _ (by omega) (by omega) (by omega) h_i_a0) (fun v1 hp => ?_)
  try dsimp only at hp
  have hpp0 := hp
  refine zk_ifc (zci_eqr (by omega)) (fun hc => ?_) (fun hc => ?_)
  · refine zk_d1 (s_LawReader_isWord _ _ _ _ (by omega) (by omega) (by omega) h_i_a0) (fun v2 hp_2 => ?_)
    try dsimp only at hp_2
    have hp_2p0 := hp_2
    refine zk_ifc (zci_eqr (by omega)) (fun hc_2 => ?_) (fun hc_2 => ?_)
    · refine zk_d1 (s_LawReader_isWord _ _ _ _ (by omega) (by omega) (by omega) h_i_a0) (fun v3 hp_3 => ?_)
      try dsimp only at hp_3
      have hp_3p0 := hp_3
      refine zk_ifc (zci_eqr (by omega)) (fun hc_3 => ?_) (fun hc_3 => ?_)
      · refine zk_d1 (s_LawReader_isWord _ _ _ _ (by omega) (by omega) (by omega) h_i_a0) (fun v4 hp_4 => ?_)
        try dsimp only at hp_4
        have hp_4p0 := hp_4
        refine zk_ifc (zci_eqr (by omega)) (fun hc_4 => ?_) (fun hc_4 => ?_)
        · refine zk_d1 (s_LawReader_isWord _ _ _ _ (by omega) (by omega) (by omega) h_i_a0) (fun v5 hp_5 => ?_)
          try dsimp only at hp_5
          have hp_5p0 := hp_5
          refine zk_ifc (zci_eqr (by omega)) (fun hc_5 => ?_) (fun hc_5 => ?_)
          · refine zk_d1 (s_LawReader_isWord _ _ _ _ (by omega) (by omega) (by omega) h_i_a0) (fun v6 hp_6 => ?_)
            try dsimp only at hp_6
            have hp_6p0 := hp_6
            refine zk_ifc (zci_eqr (by omega)) (fun hc_6 => ?_) (fun hc_6 => ?_)
            · exact zk_ret (by omega)
            · exact zk_ret (by omega)
          · exact zk_ret (by omega)
        · exact zk_ret (by omega)
      · exact zk_ret (by omega)
    · exact zk_ret (by omega)
  · exact zk_ret (by omega)
set_option maxHeartbeats 4000000 in
theorem s_LawReader_wordOf (x1 : Int) (x2 : Int) (i_a0 : Nat → Int) (b_x1 : 0 ≤ x1 ∧ x1 ≤ 399) (b_x2 : 1 ≤ x2 ∧ x2 ≤ 400) (h_i_a0 : zR i_a0 0 255) : zok (f_LawReader_wordOf x1 x2 i_a0) (fun o => ((-1) ≤ o ∧ o ≤ 7)) := by
  unfold f_LawReader_wordOf
  refine zk_d1 (s_LawReader_isWord _ _ _ _ (by omega) (by omega) (by omega) h_i_a0) (fun v1 hp => ?_)
  try dsimp only at hp
  have hpp0 := hp
  refine zk_ifc (zci_eqr (by omega)) (fun hc => ?_) (fun hc => ?_)
  · refine zk_d1 (s_LawReader_isWord _ _ _ _ (by omega) (by omega) (by omega) h_i_a0) (fun v2 hp_2 => ?_)
    try dsimp only at hp_2
    have hp_2p0 := hp_2
    refine zk_ifc (zci_eqr (by omega)) (fun hc_2 => ?_) (fun hc_2 => ?_)
    · refine zk_d1 (s_LawReader_isWord _ _ _ _ (by omega) (by omega) (by omega) h_i_a0) (fun v3 hp_3 => ?_)
      try dsimp only at hp_3
      have hp_3p0 := hp_3
      refine zk_ifc (zci_eqr (by omega)) (fun hc_3 => ?_) (fun hc_3 => ?_)
      · refine zk_d1 (s_LawReader_isWord _ _ _ _ (by omega) (by omega) (by omega) h_i_a0) (fun v4 hp_4 => ?_)
        try dsimp only at hp_4
        have hp_4p0 := hp_4
        refine zk_ifc (zci_eqr (by omega)) (fun hc_4 => ?_) (fun hc_4 => ?_)
        · refine zk_d1 (s_LawReader_isWord _ _ _ _ (by omega) (by omega) (by omega) h_i_a0) (fun v5 hp_5 => ?_)
          try dsimp only at hp_5
          have hp_5p0 := hp_5
          refine zk_ifc (zci_eqr (by omega)) (fun hc_5 => ?_) (fun hc_5 => ?_)
          · refine zk_d1 (s_LawReader_isWord _ _ _ _ (by omega) (by omega) (by omega) h_i_a0) (fun v6 hp_6 => ?_)
            try dsimp only at hp_6
            have hp_6p0 := hp_6
            refine zk_ifc (zci_eqr (by omega)) (fun hc_6 => ?_) (fun hc_6 => ?_)
            · refine zk_d1 (s_LawReader_isWord _ _ _ _ (by omega) (by omega) (by omega) h_i_a0) (fun v7 hp_7 => ?_)
              try dsimp only at hp_7
              have hp_7p0 := hp_7
              refine zk_ifc (zci_eqr (by omega)) (fun hc_7 => ?_) (fun hc_7 => ?_)
              · refine zk_d1 (s_LawReader_isWord _ _ _ _ (by omega) (by omega) (by omega) h_i_a0) (fun v8 hp_8 => ?_)
                try dsimp only at hp_8
                have hp_8p0 := hp_8
                refine zk_ifc (zci_eqr (by omega)) (fun hc_8 => ?_) (fun hc_8 => ?_)
                · exact zk_ret (by omega)
                · exact zk_ret (by omega)
              · exact zk_ret (by omega)
            · exact zk_ret (by omega)
          · exact zk_ret (by omega)
        · exact zk_ret (by omega)
      · exact zk_ret (by omega)
    · exact zk_ret (by omega)
  · exact zk_ret (by omega)
set_option maxHeartbeats 4000000 in
theorem s_LawReader_numberOf_5 (i_a0 : Nat → Int) (h_i_a0 : zR i_a0 0 255) : ∀ (n : Nat) (x2 : Int) (x3 : Int) (x4 : Int), (1 ≤ x2 ∧ x2 ≤ 400) → (0 ≤ x4 ∧ x4 ≤ 400) → (401 - x4) < (n : Int) → zok (f_LawReader_numberOf_5 i_a0 n x2 x3 x4) (fun o => True) := by
  intro n
  induction n with
  | zero => intro x2 x3 x4 b_x2 b_x4 hm; exfalso; omega
  | succ n ih =>
    intro x2 x3 x4 b_x2 b_x4 hm
    show zok (f_LawReader_numberOf_5_b i_a0 (f_LawReader_numberOf_5 i_a0 n) x2 x3 x4) _
    unfold f_LawReader_numberOf_5_b
    refine zk_ifc (zci_le (by omega) (by omega)) (fun hc => ?_) (fun hc => ?_)
    · exact zk_ret trivial
    · refine zk_n ?_
      refine zk_gv (by omega) (by decide) (fun v2 h_v2 => ?_)
      have r_v2 := h_i_a0 (x4.toNat)
      refine zk_n ?_
      refine zk_n ?_
      refine zk_if (fun hc_2 => ?_) (fun hc_2 => ?_)
      · refine zk_n ?_
        exact ih _ _ _ (by omega) (by omega) (by omega)
      · exact zk_ret trivial
set_option maxHeartbeats 4000000 in
theorem s_LawReader_numberOf (x1 : Int) (x2 : Int) (i_a0 : Nat → Int) (b_x1 : 0 ≤ x1 ∧ x1 ≤ 399) (b_x2 : 1 ≤ x2 ∧ x2 ≤ 400) (h_i_a0 : zR i_a0 0 255) : zok (f_LawReader_numberOf x1 x2 i_a0) (fun o => True) := by
  unfold f_LawReader_numberOf
  exact s_LawReader_numberOf_5 _ h_i_a0 zfu _ _ _ (by omega) (by omega) (by unfold zfu; omega)
set_option maxHeartbeats 4000000 in
theorem s_LawReader_isDigit (x0 : Int) (b_x0 : 0 ≤ x0 ∧ x0 ≤ 255) : zok (f_LawReader_isDigit x0) (fun o => (0 ≤ o ∧ o ≤ 1) ∧ ((x0 < 48 ∧ o = 0) ∨ (x0 ≥ 48 ∧ 57 < x0 ∧ o = 0) ∨ (x0 ≥ 48 ∧ 57 ≥ x0 ∧ o = 1))) := by
  unfold f_LawReader_isDigit
  refine zk_ifc (zci_lt (by omega) (by omega)) (fun hc => ?_) (fun hc => ?_)
  · exact zk_ret ⟨by omega, by first | exact Or.inl (by omega) | exact Or.inr (Or.inl (by omega)) | exact Or.inr (Or.inr ((by omega)))⟩
  · refine zk_ifc (zci_lt (by omega) (by omega)) (fun hc_2 => ?_) (fun hc_2 => ?_)
    · exact zk_ret ⟨by omega, by first | exact Or.inl (by omega) | exact Or.inr (Or.inl (by omega)) | exact Or.inr (Or.inr ((by omega)))⟩
    · exact zk_ret ⟨by omega, by first | exact Or.inl (by omega) | exact Or.inr (Or.inl (by omega)) | exact Or.inr (Or.inr ((by omega)))⟩
set_option maxHeartbeats 4000000 in
theorem s_LawReader_note (x2 : Int) (x3 : Int) (x4 : Int) (i_a1 : Nat → Int) (i_tokens : Nat → Int) (i_values : Nat → Int) (b_x2 : 0 ≤ x2 ∧ x2 ≤ 399) (b_x3 : 1 ≤ x3 ∧ x3 ≤ 400) (b_x4 : 0 ≤ x4 ∧ x4 ≤ 400) (h_i_a1 : zR i_a1 0 255) (h_i_tokens : zR i_tokens 0 265) : zok (f_LawReader_note x2 x3 x4 i_a1 i_tokens i_values) (fun o => zR o.1 0 265) := by
  unfold f_LawReader_note
  refine zk_sv (by omega) (by decide) (fun a1 h_a1 => ?_)
  refine zk_gv (by omega) (by decide) (fun v2 h_v2 => ?_)
  have r_v2 := h_i_a1 (x2.toNat)
  refine zk_d1 (s_LawReader_isDigit _ (by omega)) (fun v3 hp => ?_)
  try dsimp only at hp
  obtain ⟨hpp0, hpp1⟩ := hp
  refine zk_ifc (zci_eqr (by omega)) (fun hc => ?_) (fun hc => ?_)
  · refine zk_gv (by omega) (by decide) (fun v4 h_v4 => ?_)
    have r_v4 := h_i_a1 (x2.toNat)
    refine zk_d1 (s_LawReader_isLetter _ (by omega)) (fun v5 hp_2 => ?_)
    try dsimp only at hp_2
    obtain ⟨hp_2p0, hp_2p1⟩ := hp_2
    refine zk_ifc (zci_eqr (by omega)) (fun hc_2 => ?_) (fun hc_2 => ?_)
    · refine zk_gv (by omega) (by decide) (fun v6 h_v6 => ?_)
      have r_v6 := h_i_a1 (x2.toNat)
      refine zk_nE (fun v7 h_v7 => ?_)
      have r_v7 := zi_and_m v6 (m := 255) (by decide); rw [← h_v7] at r_v7
      refine zk_sv (by omega) (by decide) (fun a8 h_a8 => ?_)
      have i_a8 : zR a8 0 265 := by rw [h_a8]; exact zR_zu h_i_tokens (by decide) (by decide) (by omega)
      refine zk_ret ?_
      try dsimp only
      all_goals exact i_a8
    · refine zk_d1 (s_LawReader_wordOf _ _ _ (by omega) (by omega) h_i_a1) (fun v9 hp_3 => ?_)
      try dsimp only at hp_3
      have hp_3p0 := hp_3
      refine zk_sv (by omega) (by decide) (fun a10 h_a10 => ?_)
      refine zk_gv (by omega) (by decide) (fun v11 h_v11 => ?_)
      have z_v11_a10 := zu_rd h_a10 (x4.toNat)
      have z_v11_a1 := zu_rd h_a1 (x4.toNat)
      refine zk_ifc (zci_ne (by omega) (by omega)) (fun hc_3 => ?_) (fun hc_3 => ?_)
      · refine zk_sv (by omega) (by decide) (fun a12 h_a12 => ?_)
        have i_a12 : zR a12 0 265 := by rw [h_a12]; exact zR_zu h_i_tokens (by decide) (by decide) (by omega)
        refine zk_ret ?_
        try dsimp only
        all_goals exact i_a12
      · refine zk_d1 (s_LawReader_ruleWordOf _ _ _ (by omega) (by omega) h_i_a1) (fun v13 hp_4 => ?_)
        try dsimp only at hp_4
        have hp_4p0 := hp_4
        refine zk_sv (by omega) (by decide) (fun a14 h_a14 => ?_)
        have i_a14 : zR a14 0 265 := by rw [h_a14]; exact zR_zu h_i_tokens (by decide) (by decide) (by omega)
        refine zk_ret ?_
        try dsimp only
        all_goals exact i_a14
  · refine zk_d1 (s_LawReader_numberOf _ _ _ (by omega) (by omega) h_i_a1) (fun v15 hp_5 => ?_)
    refine zk_sv (by omega) (by decide) (fun a16 h_a16 => ?_)
    refine zk_gv (by omega) (by decide) (fun v17 h_v17 => ?_)
    have z_v17_a16 := zu_rd h_a16 (x4.toNat)
    have z_v17_a1 := zu_rd h_a1 (x4.toNat)
    refine zk_if (fun hc_4 => ?_) (fun hc_4 => ?_)
    · refine zk_sv (by omega) (by decide) (fun a18 h_a18 => ?_)
      have i_a18 : zR a18 0 265 := by rw [h_a18]; exact zR_zu h_i_tokens (by decide) (by decide) (by omega)
      refine zk_ret ?_
      try dsimp only
      all_goals exact i_a18
    · refine zk_sv (by omega) (by decide) (fun a19 h_a19 => ?_)
      have i_a19 : zR a19 0 265 := by rw [h_a19]; exact zR_zu h_i_tokens (by decide) (by decide) (by omega)
      refine zk_ret ?_
      try dsimp only
      all_goals exact i_a19
set_option maxHeartbeats 4000000 in
theorem s_LawReader_split_39 (i_a1 : Nat → Int) (k8 : Int → Int → Int → Int → (Nat → Int) → (Nat → Int) → (Nat → Int) → Option ((Nat → Int) × (Nat → Int) × (Nat → Int))) (Nk8 : Nat) (hk8 : ∀ (x2 : Int) (x3 : Int) (x4 : Int) (x5 : Int) (i_tokens : Nat → Int) (i_places : Nat → Int) (i_values : Nat → Int), (0 ≤ x2 ∧ x2 ≤ 400) → (0 ≤ x3 ∧ x3 ≤ 401) → (0 ≤ x4 ∧ x4 ≤ 400) → (0 ≤ x5 ∧ x5 ≤ 400) → (zR i_tokens 0 265) → (zR i_places 0 400) → (x3 ≤ x5) → (401 - x5) < (Nk8 : Int) → zok (k8 x2 x3 x4 x5 i_tokens i_places i_values) (fun o => zR o.1 0 265 ∧ zR o.2.1 0 400)) (h_i_a1 : zR i_a1 0 255) : ∀ (n : Nat) (x2 : Int) (x3 : Int) (x4 : Int) (x5 : Int) (i_tokens : Nat → Int) (i_places : Nat → Int) (i_values : Nat → Int), (1 ≤ x2 ∧ x2 ≤ 400) → (0 ≤ x3 ∧ x3 ≤ 401) → (1 ≤ x4 ∧ x4 ≤ 400) → (0 ≤ x5 ∧ x5 ≤ 399) → (zR i_tokens 0 265) → (zR i_places 0 400) → (x3 ≤ x5) → (401 - x5) < (Nk8 : Int) + 1 → (401 - x4) < (n : Int) → zok (f_LawReader_split_39 i_a1 k8 n x2 x3 x4 x5 i_tokens i_places i_values) (fun o => zR o.1 0 265 ∧ zR o.2.1 0 400) := by
  intro n
  induction n with
  | zero => intro x2 x3 x4 x5 i_tokens i_places i_values b_x2 b_x3 b_x4 b_x5 h_i_tokens h_i_places p_0 mk8 hm; exfalso; omega
  | succ n ih =>
    intro x2 x3 x4 x5 i_tokens i_places i_values b_x2 b_x3 b_x4 b_x5 h_i_tokens h_i_places p_0 mk8 hm
    show zok (f_LawReader_split_39_b i_a1 k8 (f_LawReader_split_39 i_a1 k8 n) x2 x3 x4 x5 i_tokens i_places i_values) _
    unfold f_LawReader_split_39_b
    refine zk_ifc (zci_le (by omega) (by omega)) (fun hc => ?_) (fun hc => ?_)
    · unfold f_LawReader_split_65
      refine zk_ifc (zci_le (by omega) (by omega)) (fun hc_2 => ?_) (fun hc_2 => ?_)
      · unfold f_LawReader_split_97
        refine zk_sv (by omega) (by decide) (fun a1 h_a1 => ?_)
        have i_a1 : zR a1 0 400 := by rw [h_a1]; exact zR_zu h_i_places (by decide) (by decide) (by omega)
        refine zk_d2 (s_LawReader_note _ _ _ _ _ _ (by omega) (by omega) (by omega) h_i_a1 h_i_tokens) (fun a2 a3 hp => ?_)
        try dsimp only at hp
        have hpp0 := hp
        refine zk_n ?_
        unfold f_LawReader_split_118
        refine zk_n ?_
        exact hk8 _ _ _ _ _ _ _ (by omega) (by omega) (by omega) (by omega) hpp0 i_a1 (by omega) (by omega)
      · refine zk_gv (by omega) (by decide) (fun v1_2 h_v1_2 => ?_)
        have r_v1_2 := h_i_a1 (x5.toNat)
        refine zk_d1 (s_LawReader_isDigit _ (by omega)) (fun v2 hp_2 => ?_)
        try dsimp only at hp_2
        obtain ⟨hp_2p0, hp_2p1⟩ := hp_2
        refine zk_ifc (zci_eqr (by omega)) (fun hc_3 => ?_) (fun hc_3 => ?_)
        · unfold f_LawReader_split_97
          refine zk_sv (by omega) (by decide) (fun a1_2 h_a1_2 => ?_)
          have i_a1_2 : zR a1_2 0 400 := by rw [h_a1_2]; exact zR_zu h_i_places (by decide) (by decide) (by omega)
          refine zk_d2 (s_LawReader_note _ _ _ _ _ _ (by omega) (by omega) (by omega) h_i_a1 h_i_tokens) (fun a2_2 a3_2 hp_3 => ?_)
          try dsimp only at hp_3
          have hp_3p0 := hp_3
          refine zk_n ?_
          unfold f_LawReader_split_118
          refine zk_n ?_
          exact hk8 _ _ _ _ _ _ _ (by omega) (by omega) (by omega) (by omega) hp_3p0 i_a1_2 (by omega) (by omega)
        · refine zk_gv (by omega) (by decide) (fun v3 h_v3 => ?_)
          have r_v3 := h_i_a1 (x4.toNat)
          refine zk_d1 (s_LawReader_isDigit _ (by omega)) (fun v4_3 hp_4 => ?_)
          try dsimp only at hp_4
          obtain ⟨hp_4p0, hp_4p1⟩ := hp_4
          refine zk_ifc (zci_eqr (by omega)) (fun hc_4 => ?_) (fun hc_4 => ?_)
          · unfold f_LawReader_split_97
            refine zk_sv (by omega) (by decide) (fun a1_3 h_a1_3 => ?_)
            have i_a1_3 : zR a1_3 0 400 := by rw [h_a1_3]; exact zR_zu h_i_places (by decide) (by decide) (by omega)
            refine zk_d2 (s_LawReader_note _ _ _ _ _ _ (by omega) (by omega) (by omega) h_i_a1 h_i_tokens) (fun a2_3 a3_3 hp_5 => ?_)
            try dsimp only at hp_5
            have hp_5p0 := hp_5
            refine zk_n ?_
            unfold f_LawReader_split_118
            refine zk_n ?_
            exact hk8 _ _ _ _ _ _ _ (by omega) (by omega) (by omega) (by omega) hp_5p0 i_a1_3 (by omega) (by omega)
          · unfold f_LawReader_split_91
            refine zk_n ?_
            exact ih _ _ _ _ _ _ _ (by omega) (by omega) (by omega) (by omega) h_i_tokens h_i_places (by omega) (by omega) (by omega)
    · refine zk_gv (by omega) (by decide) (fun v1_6 h_v1_6 => ?_)
      have r_v1_6 := h_i_a1 (x5.toNat)
      refine zk_d1 (s_LawReader_isLetter _ (by omega)) (fun v2_2 hp_6 => ?_)
      try dsimp only at hp_6
      obtain ⟨hp_6p0, hp_6p1⟩ := hp_6
      refine zk_ifc (zci_eqr (by omega)) (fun hc_5 => ?_) (fun hc_5 => ?_)
      · unfold f_LawReader_split_65
        refine zk_ifc (zci_le (by omega) (by omega)) (fun hc_6 => ?_) (fun hc_6 => ?_)
        · unfold f_LawReader_split_97
          refine zk_sv (by omega) (by decide) (fun a1_4 h_a1_4 => ?_)
          have i_a1_4 : zR a1_4 0 400 := by rw [h_a1_4]; exact zR_zu h_i_places (by decide) (by decide) (by omega)
          refine zk_d2 (s_LawReader_note _ _ _ _ _ _ (by omega) (by omega) (by omega) h_i_a1 h_i_tokens) (fun a2_4 a3_4 hp_7 => ?_)
          try dsimp only at hp_7
          have hp_7p0 := hp_7
          refine zk_n ?_
          unfold f_LawReader_split_118
          refine zk_n ?_
          exact hk8 _ _ _ _ _ _ _ (by omega) (by omega) (by omega) (by omega) hp_7p0 i_a1_4 (by omega) (by omega)
        · refine zk_gv (by omega) (by decide) (fun v1_8 h_v1_8 => ?_)
          have r_v1_8 := h_i_a1 (x5.toNat)
          refine zk_d1 (s_LawReader_isDigit _ (by omega)) (fun v2_3 hp_8 => ?_)
          try dsimp only at hp_8
          obtain ⟨hp_8p0, hp_8p1⟩ := hp_8
          refine zk_ifc (zci_eqr (by omega)) (fun hc_7 => ?_) (fun hc_7 => ?_)
          · unfold f_LawReader_split_97
            refine zk_sv (by omega) (by decide) (fun a1_5 h_a1_5 => ?_)
            have i_a1_5 : zR a1_5 0 400 := by rw [h_a1_5]; exact zR_zu h_i_places (by decide) (by decide) (by omega)
            refine zk_d2 (s_LawReader_note _ _ _ _ _ _ (by omega) (by omega) (by omega) h_i_a1 h_i_tokens) (fun a2_5 a3_5 hp_9 => ?_)
            try dsimp only at hp_9
            have hp_9p0 := hp_9
            refine zk_n ?_
            unfold f_LawReader_split_118
            refine zk_n ?_
            exact hk8 _ _ _ _ _ _ _ (by omega) (by omega) (by omega) (by omega) hp_9p0 i_a1_5 (by omega) (by omega)
          · refine zk_gv (by omega) (by decide) (fun v3_2 h_v3_2 => ?_)
            have r_v3_2 := h_i_a1 (x4.toNat)
            refine zk_d1 (s_LawReader_isDigit _ (by omega)) (fun v4_7 hp_10 => ?_)
            try dsimp only at hp_10
            obtain ⟨hp_10p0, hp_10p1⟩ := hp_10
            refine zk_ifc (zci_eqr (by omega)) (fun hc_8 => ?_) (fun hc_8 => ?_)
            · unfold f_LawReader_split_97
              refine zk_sv (by omega) (by decide) (fun a1_6 h_a1_6 => ?_)
              have i_a1_6 : zR a1_6 0 400 := by rw [h_a1_6]; exact zR_zu h_i_places (by decide) (by decide) (by omega)
              refine zk_d2 (s_LawReader_note _ _ _ _ _ _ (by omega) (by omega) (by omega) h_i_a1 h_i_tokens) (fun a2_6 a3_6 hp_11 => ?_)
              try dsimp only at hp_11
              have hp_11p0 := hp_11
              refine zk_n ?_
              unfold f_LawReader_split_118
              refine zk_n ?_
              exact hk8 _ _ _ _ _ _ _ (by omega) (by omega) (by omega) (by omega) hp_11p0 i_a1_6 (by omega) (by omega)
            · unfold f_LawReader_split_91
              refine zk_n ?_
              exact ih _ _ _ _ _ _ _ (by omega) (by omega) (by omega) (by omega) h_i_tokens h_i_places (by omega) (by omega) (by omega)
      · refine zk_gv (by omega) (by decide) (fun v3_3 h_v3_3 => ?_)
        have r_v3_3 := h_i_a1 (x4.toNat)
        refine zk_d1 (s_LawReader_isLetter _ (by omega)) (fun v4_9 hp_12 => ?_)
        try dsimp only at hp_12
        obtain ⟨hp_12p0, hp_12p1⟩ := hp_12
        refine zk_ifc (zci_ner (by omega)) (fun hc_9 => ?_) (fun hc_9 => ?_)
        · unfold f_LawReader_split_91
          refine zk_n ?_
          exact ih _ _ _ _ _ _ _ (by omega) (by omega) (by omega) (by omega) h_i_tokens h_i_places (by omega) (by omega) (by omega)
        · unfold f_LawReader_split_65
          refine zk_ifc (zci_le (by omega) (by omega)) (fun hc_10 => ?_) (fun hc_10 => ?_)
          · unfold f_LawReader_split_97
            refine zk_sv (by omega) (by decide) (fun a1_7 h_a1_7 => ?_)
            have i_a1_7 : zR a1_7 0 400 := by rw [h_a1_7]; exact zR_zu h_i_places (by decide) (by decide) (by omega)
            refine zk_d2 (s_LawReader_note _ _ _ _ _ _ (by omega) (by omega) (by omega) h_i_a1 h_i_tokens) (fun a2_7 a3_7 hp_13 => ?_)
            try dsimp only at hp_13
            have hp_13p0 := hp_13
            refine zk_n ?_
            unfold f_LawReader_split_118
            refine zk_n ?_
            exact hk8 _ _ _ _ _ _ _ (by omega) (by omega) (by omega) (by omega) hp_13p0 i_a1_7 (by omega) (by omega)
          · refine zk_gv (by omega) (by decide) (fun v1_14 h_v1_14 => ?_)
            have r_v1_14 := h_i_a1 (x5.toNat)
            refine zk_d1 (s_LawReader_isDigit _ (by omega)) (fun v2_4 hp_14 => ?_)
            try dsimp only at hp_14
            obtain ⟨hp_14p0, hp_14p1⟩ := hp_14
            refine zk_ifc (zci_eqr (by omega)) (fun hc_11 => ?_) (fun hc_11 => ?_)
            · unfold f_LawReader_split_97
              refine zk_sv (by omega) (by decide) (fun a1_8 h_a1_8 => ?_)
              have i_a1_8 : zR a1_8 0 400 := by rw [h_a1_8]; exact zR_zu h_i_places (by decide) (by decide) (by omega)
              refine zk_d2 (s_LawReader_note _ _ _ _ _ _ (by omega) (by omega) (by omega) h_i_a1 h_i_tokens) (fun a2_8 a3_8 hp_15 => ?_)
              try dsimp only at hp_15
              have hp_15p0 := hp_15
              refine zk_n ?_
              unfold f_LawReader_split_118
              refine zk_n ?_
              exact hk8 _ _ _ _ _ _ _ (by omega) (by omega) (by omega) (by omega) hp_15p0 i_a1_8 (by omega) (by omega)
            · exfalso; omega
