theorem s_HM_isDigit (x0 : Int) (b_x0 : 0 ≤ x0 ∧ x0 ≤ 255) : zok (f_HM_isDigit x0) (fun o => ((o = 1 ∧ 48 ≤ x0 ∧ x0 ≤ 57) ∨ (o = 0 ∧ (x0 < 48 ∨ 57 < x0)))) := by
  unfold f_HM_isDigit
  refine zk_ifc (zci_lt (by omega) (by omega)) (fun hc => ?_) (fun hc => ?_)
  · exact zk_ret (by omega)
  · refine zk_ifc (zci_lt (by omega) (by omega)) (fun hc_2 => ?_) (fun hc_2 => ?_)
    · exact zk_ret (by omega)
    · exact zk_ret (by omega)
theorem s_HM_isSmall (x0 : Int) (b_x0 : 0 ≤ x0 ∧ x0 ≤ 255) : zok (f_HM_isSmall x0) (fun o => ((o = 1 ∧ 97 ≤ x0 ∧ x0 ≤ 122) ∨ (o = 0 ∧ (x0 < 97 ∨ 122 < x0)))) := by
  unfold f_HM_isSmall
  refine zk_ifc (zci_lt (by omega) (by omega)) (fun hc => ?_) (fun hc => ?_)
  · exact zk_ret (by omega)
  · refine zk_ifc (zci_lt (by omega) (by omega)) (fun hc_2 => ?_) (fun hc_2 => ?_)
    · exact zk_ret (by omega)
    · exact zk_ret (by omega)
theorem s_HM_next_243 (i_taped : Int) (i_tape : Nat → Int) (b_i_taped : 0 ≤ i_taped ∧ i_taped ≤ 400) (h_i_tape : zR i_tape 0 255) : ∀ (n : Nat) (i_from : Int) (i_to : Int) (i_sort : Int) (i_worth : Int), (0 ≤ i_from ∧ i_from ≤ 400) → (0 ≤ i_to ∧ i_to ≤ 400) → (0 ≤ i_sort ∧ i_sort ≤ 3) → (i_from ≤ i_to ∧ i_to ≤ i_taped) → ((i_sort = 0 ∧ i_from = i_taped) ∨ (i_sort ≠ 0 ∧ i_from < i_taped)) → (i_sort = 0 ∨ i_from < i_to ∨ (i_to = i_from ∧ i_sort = 2 ∧ 48 ≤ i_tape i_to.toNat ∧ i_tape i_to.toNat ≤ 57)) → (401 - i_to) < (n : Int) → zok (f_HM_next_243 i_taped i_tape n i_from i_to i_sort i_worth) (fun o => (o.1 = i_from) ∧ (o.2.2.1 = i_sort) ∧ (i_from ≤ o.2.1 ∧ o.2.1 ≤ i_taped) ∧ (i_sort = 0 ∨ i_from < o.2.1) ∧ (i_sort ≠ 0 ∨ i_to ≤ o.2.1)) := by
  intro n
  induction n with
  | zero => intro i_from i_to i_sort i_worth b_i_from b_i_to b_i_sort p_0 p_1 p_2 hm; exfalso; omega
  | succ n ih =>
    intro i_from i_to i_sort i_worth b_i_from b_i_to b_i_sort p_0 p_1 p_2 hm
    show zok (f_HM_next_243_b i_taped i_tape (f_HM_next_243 i_taped i_tape n) i_from i_to i_sort i_worth) _
    unfold f_HM_next_243_b
    refine zk_ifc (zci_ne (by omega) (by omega)) (fun hc => ?_) (fun hc => ?_)
    · refine zk_ret ?_
      try dsimp only
      exact ⟨by omega, by omega, by omega, by omega, by omega⟩
    · refine zk_ifc (zci_le (by omega) (by omega)) (fun hc_2 => ?_) (fun hc_2 => ?_)
      · refine zk_ret ?_
        try dsimp only
        exact ⟨by omega, by omega, by omega, by omega, by omega⟩
      · refine zk_gv (by omega) (by decide) (fun v1 h_v1 => ?_)
        have r_v1 := h_i_tape (i_to.toNat)
        refine zk_d1 (s_HM_isDigit _ (by omega)) (fun v2 hp => ?_)
        try dsimp only at hp
        have hpp0 := hp
        refine zk_ifc (zci_eqr (by omega)) (fun hc_3 => ?_) (fun hc_3 => ?_)
        · refine zk_ret ?_
          try dsimp only
          exact ⟨by omega, by omega, by omega, by omega, by omega⟩
        · refine zk_if (fun hc_4 => ?_) (fun hc_4 => ?_)
          · refine zk_n ?_
            refine zk_gv (by omega) (by decide) (fun v4 h_v4 => ?_)
            have r_v4 := h_i_tape (i_to.toNat)
            refine zk_nE (fun v5 h_v5 => ?_)
            rw [zwi (by omega)] at h_v5
            replace h_v5 := h_v5.symm
            subst h_v5
            refine zk_n ?_
            refine zk_n ?_
            unfold f_HM_next_319
            refine zk_n ?_
            refine zok_mono (ih _ _ _ _ (by omega) (by omega) (by omega) (by omega) (by omega) (by omega) (by omega)) (fun o ho => ?_)
            try dsimp only at ho
            obtain ⟨ho_0, ho_1, ho_2, ho_3, ho_4⟩ := ho
            exact ⟨by omega, by omega, by omega, by omega, by omega⟩
          · unfold f_HM_next_319
            refine zk_n ?_
            refine zok_mono (ih _ _ _ _ (by omega) (by omega) (by omega) (by omega) (by omega) (by omega) (by omega)) (fun o ho => ?_)
            try dsimp only at ho
            obtain ⟨ho_0, ho_1, ho_2, ho_3, ho_4⟩ := ho
            exact ⟨by omega, by omega, by omega, by omega, by omega⟩
theorem s_HM_next_149 (i_taped : Int) (i_tape : Nat → Int) (b_i_taped : 0 ≤ i_taped ∧ i_taped ≤ 400) (h_i_tape : zR i_tape 0 255) : ∀ (n : Nat) (i_from : Int) (i_to : Int) (i_sort : Int) (i_worth : Int), (0 ≤ i_from ∧ i_from ≤ 400) → (0 ≤ i_to ∧ i_to ≤ 400) → (0 ≤ i_sort ∧ i_sort ≤ 3) → (i_from ≤ i_to ∧ i_to ≤ i_taped) → ((i_sort = 0 ∧ i_from = i_taped) ∨ (i_sort ≠ 0 ∧ i_from < i_taped)) → (i_sort = 0 ∨ i_from < i_to ∨ (i_to = i_from ∧ ((i_sort = 2 ∧ 48 ≤ i_tape i_to.toNat ∧ i_tape i_to.toNat ≤ 57) ∨ (i_sort = 1 ∧ 97 ≤ i_tape i_to.toNat ∧ i_tape i_to.toNat ≤ 122)))) → (401 - i_to) < (n : Int) → zok (f_HM_next_149 i_taped i_tape n i_from i_to i_sort i_worth) (fun o => (o.1 = i_from) ∧ (o.2.2.1 = i_sort) ∧ (i_from ≤ o.2.1 ∧ o.2.1 ≤ i_taped) ∧ (i_sort = 0 ∨ i_from < o.2.1) ∧ (i_sort ≠ 0 ∨ i_to ≤ o.2.1)) := by
  intro n
  induction n with
  | zero => intro i_from i_to i_sort i_worth b_i_from b_i_to b_i_sort p_0 p_1 p_2 hm; exfalso; omega
  | succ n ih =>
    intro i_from i_to i_sort i_worth b_i_from b_i_to b_i_sort p_0 p_1 p_2 hm
    show zok (f_HM_next_149_b i_taped i_tape (f_HM_next_149 i_taped i_tape n) i_from i_to i_sort i_worth) _
    unfold f_HM_next_149_b
    refine zk_ifc (zci_ne (by omega) (by omega)) (fun hc => ?_) (fun hc => ?_)
    · refine zok_mono (s_HM_next_243 _ _ (by omega) h_i_tape zfu _ _ _ _ (by omega) (by omega) (by omega) (by omega) (by omega) (by omega) (by unfold zfu; omega)) (fun o ho => ?_)
      try dsimp only at ho
      obtain ⟨ho_0, ho_1, ho_2, ho_3, ho_4⟩ := ho
      exact ⟨by omega, by omega, by omega, by omega, by omega⟩
    · refine zk_ifc (zci_le (by omega) (by omega)) (fun hc_2 => ?_) (fun hc_2 => ?_)
      · refine zok_mono (s_HM_next_243 _ _ (by omega) h_i_tape zfu _ _ _ _ (by omega) (by omega) (by omega) (by omega) (by omega) (by omega) (by unfold zfu; omega)) (fun o ho => ?_)
        try dsimp only at ho
        obtain ⟨ho_0, ho_1, ho_2, ho_3, ho_4⟩ := ho
        exact ⟨by omega, by omega, by omega, by omega, by omega⟩
      · refine zk_gv (by omega) (by decide) (fun v1 h_v1 => ?_)
        have r_v1 := h_i_tape (i_to.toNat)
        refine zk_d1 (s_HM_isSmall _ (by omega)) (fun v2 hp => ?_)
        try dsimp only at hp
        have hpp0 := hp
        refine zk_ifc (zci_eqr (by omega)) (fun hc_3 => ?_) (fun hc_3 => ?_)
        · refine zok_mono (s_HM_next_243 _ _ (by omega) h_i_tape zfu _ _ _ _ (by omega) (by omega) (by omega) (by omega) (by omega) (by omega) (by unfold zfu; omega)) (fun o ho => ?_)
          try dsimp only at ho
          obtain ⟨ho_0, ho_1, ho_2, ho_3, ho_4⟩ := ho
          exact ⟨by omega, by omega, by omega, by omega, by omega⟩
        · refine zk_n ?_
          refine zk_ifc (zci_le (by omega) (by omega)) (fun hc_4 => ?_) (fun hc_4 => ?_)
          · unfold f_HM_next_227
            refine zk_n ?_
            refine zok_mono (ih _ _ _ _ (by omega) (by omega) (by omega) (by omega) (by omega) (by omega) (by omega)) (fun o ho => ?_)
            try dsimp only at ho
            obtain ⟨ho_0, ho_1, ho_2, ho_3, ho_4⟩ := ho
            exact ⟨by omega, by omega, by omega, by omega, by omega⟩
          · refine zk_n ?_
            refine zk_gv (by omega) (by decide) (fun v5 h_v5 => ?_)
            have r_v5 := h_i_tape (i_to.toNat)
            refine zk_nE (fun v6 h_v6 => ?_)
            rw [zwi (by omega)] at h_v6
            replace h_v6 := h_v6.symm
            subst h_v6
            refine zk_n ?_
            refine zk_n ?_
            unfold f_HM_next_227
            refine zk_n ?_
            refine zok_mono (ih _ _ _ _ (by omega) (by omega) (by omega) (by omega) (by omega) (by omega) (by omega)) (fun o ho => ?_)
            try dsimp only at ho
            obtain ⟨ho_0, ho_1, ho_2, ho_3, ho_4⟩ := ho
            exact ⟨by omega, by omega, by omega, by omega, by omega⟩
theorem s_HM_next_8 (i_taped : Int) (i_tape : Nat → Int) (b_i_taped : 0 ≤ i_taped ∧ i_taped ≤ 400) (h_i_tape : zR i_tape 0 255) : ∀ (n : Nat) (i_from : Int) (i_to : Int) (i_sort : Int) (i_worth : Int), (0 ≤ i_from ∧ i_from ≤ 400) → (i_from ≤ i_taped) → (401 - i_from) < (n : Int) → zok (f_HM_next_8 i_taped i_tape n i_from i_to i_sort i_worth) (fun o => (i_from ≤ o.1) ∧ (0 ≤ o.1 ∧ o.1 ≤ o.2.1 ∧ o.2.1 ≤ i_taped) ∧ (0 ≤ o.2.2.1 ∧ o.2.2.1 ≤ 3) ∧ ((o.2.2.1 = 0 ∧ o.1 = i_taped) ∨ (o.2.2.1 ≠ 0 ∧ o.1 < o.2.1))) := by
  intro n
  induction n with
  | zero => intro i_from i_to i_sort i_worth b_i_from p_0 hm; exfalso; omega
  | succ n ih =>
    intro i_from i_to i_sort i_worth b_i_from p_0 hm
    show zok (f_HM_next_8_b i_taped i_tape (f_HM_next_8 i_taped i_tape n) i_from i_to i_sort i_worth) _
    unfold f_HM_next_8_b
    refine zk_ifc (zci_le (by omega) (by omega)) (fun hc => ?_) (fun hc => ?_)
    · unfold f_HM_next_46
      refine zk_ifc (zci_ne (by omega) (by omega)) (fun hc_2 => ?_) (fun hc_2 => ?_)
      · refine zk_gv (by omega) (by decide) (fun v1 h_v1 => ?_)
        have r_v1 := h_i_tape (i_from.toNat)
        refine zk_d1 (s_HM_isSmall _ (by omega)) (fun v2 hp => ?_)
        try dsimp only at hp
        have hpp0 := hp
        refine zk_ifc (zci_eqr (by omega)) (fun hc_3 => ?_) (fun hc_3 => ?_)
        · refine zk_gv (by omega) (by decide) (fun v3 h_v3 => ?_)
          have r_v3 := h_i_tape (i_from.toNat)
          refine zk_d1 (s_HM_isDigit _ (by omega)) (fun v4 hp_2 => ?_)
          try dsimp only at hp_2
          have hp_2p0 := hp_2
          refine zk_ifc (zci_eqr (by omega)) (fun hc_4 => ?_) (fun hc_4 => ?_)
          · unfold f_HM_next_114
            refine zk_ifc (zci_ne (by omega) (by omega)) (fun hc_5 => ?_) (fun hc_5 => ?_)
            · refine zok_mono (s_HM_next_149 _ _ (by omega) h_i_tape zfu _ _ _ _ (by omega) (by omega) (by omega) (by omega) (by omega) (by omega) (by unfold zfu; omega)) (fun o ho => ?_)
              try dsimp only at ho
              obtain ⟨ho_0, ho_1, ho_2, ho_3, ho_4⟩ := ho
              exact ⟨by omega, by omega, by omega, by omega⟩
            · refine zk_gv (by omega) (by decide) (fun v1_2 h_v1_2 => ?_)
              have r_v1_2 := h_i_tape (i_from.toNat)
              refine zk_nE (fun v2_2 h_v2_2 => ?_)
              rw [zwi (by omega)] at h_v2_2
              replace h_v2_2 := h_v2_2.symm
              subst h_v2_2
              refine zk_n ?_
              refine zok_mono (s_HM_next_149 _ _ (by omega) h_i_tape zfu _ _ _ _ (by omega) (by omega) (by omega) (by omega) (by omega) (by omega) (by unfold zfu; omega)) (fun o ho => ?_)
              try dsimp only at ho
              obtain ⟨ho_0, ho_1, ho_2, ho_3, ho_4⟩ := ho
              exact ⟨by omega, by omega, by omega, by omega⟩
          · unfold f_HM_next_114
            refine zk_ifc (zci_ne (by omega) (by omega)) (fun hc_6 => ?_) (fun hc_6 => ?_)
            · refine zok_mono (s_HM_next_149 _ _ (by omega) h_i_tape zfu _ _ _ _ (by omega) (by omega) (by omega) (by omega) (by omega) (by omega) (by unfold zfu; omega)) (fun o ho => ?_)
              try dsimp only at ho
              obtain ⟨ho_0, ho_1, ho_2, ho_3, ho_4⟩ := ho
              exact ⟨by omega, by omega, by omega, by omega⟩
            · refine zk_gv (by omega) (by decide) (fun v1_3 h_v1_3 => ?_)
              have r_v1_3 := h_i_tape (i_from.toNat)
              refine zk_nE (fun v2_3 h_v2_3 => ?_)
              rw [zwi (by omega)] at h_v2_3
              replace h_v2_3 := h_v2_3.symm
              subst h_v2_3
              refine zk_n ?_
              refine zok_mono (s_HM_next_149 _ _ (by omega) h_i_tape zfu _ _ _ _ (by omega) (by omega) (by omega) (by omega) (by omega) (by omega) (by unfold zfu; omega)) (fun o ho => ?_)
              try dsimp only at ho
              obtain ⟨ho_0, ho_1, ho_2, ho_3, ho_4⟩ := ho
              exact ⟨by omega, by omega, by omega, by omega⟩
        · unfold f_HM_next_114
          refine zk_ifc (zci_ne (by omega) (by omega)) (fun hc_7 => ?_) (fun hc_7 => ?_)
          · refine zok_mono (s_HM_next_149 _ _ (by omega) h_i_tape zfu _ _ _ _ (by omega) (by omega) (by omega) (by omega) (by omega) (by omega) (by unfold zfu; omega)) (fun o ho => ?_)
            try dsimp only at ho
            obtain ⟨ho_0, ho_1, ho_2, ho_3, ho_4⟩ := ho
            exact ⟨by omega, by omega, by omega, by omega⟩
          · refine zk_gv (by omega) (by decide) (fun v1_4 h_v1_4 => ?_)
            have r_v1_4 := h_i_tape (i_from.toNat)
            refine zk_nE (fun v2_4 h_v2_4 => ?_)
            rw [zwi (by omega)] at h_v2_4
            replace h_v2_4 := h_v2_4.symm
            subst h_v2_4
            refine zk_n ?_
            refine zok_mono (s_HM_next_149 _ _ (by omega) h_i_tape zfu _ _ _ _ (by omega) (by omega) (by omega) (by omega) (by omega) (by omega) (by unfold zfu; omega)) (fun o ho => ?_)
            try dsimp only at ho
            obtain ⟨ho_0, ho_1, ho_2, ho_3, ho_4⟩ := ho
            exact ⟨by omega, by omega, by omega, by omega⟩
      · unfold f_HM_next_114
        refine zk_ifc (zci_ne (by omega) (by omega)) (fun hc_8 => ?_) (fun hc_8 => ?_)
        · refine zok_mono (s_HM_next_149 _ _ (by omega) h_i_tape zfu _ _ _ _ (by omega) (by omega) (by omega) (by omega) (by omega) (by omega) (by unfold zfu; omega)) (fun o ho => ?_)
          try dsimp only at ho
          obtain ⟨ho_0, ho_1, ho_2, ho_3, ho_4⟩ := ho
          exact ⟨by omega, by omega, by omega, by omega⟩
        · refine zk_gv (by omega) (by decide) (fun v1_5 h_v1_5 => ?_)
          have r_v1_5 := h_i_tape (i_from.toNat)
          refine zk_nE (fun v2_5 h_v2_5 => ?_)
          rw [zwi (by omega)] at h_v2_5
          replace h_v2_5 := h_v2_5.symm
          subst h_v2_5
          refine zk_n ?_
          refine zok_mono (s_HM_next_149 _ _ (by omega) h_i_tape zfu _ _ _ _ (by omega) (by omega) (by omega) (by omega) (by omega) (by omega) (by unfold zfu; omega)) (fun o ho => ?_)
          try dsimp only at ho
          obtain ⟨ho_0, ho_1, ho_2, ho_3, ho_4⟩ := ho
          exact ⟨by omega, by omega, by omega, by omega⟩
    · refine zk_gv (by omega) (by decide) (fun v1_6 h_v1_6 => ?_)
      have r_v1_6 := h_i_tape (i_from.toNat)
      refine zk_ifc (zci_ne (by omega) (by omega)) (fun hc_9 => ?_) (fun hc_9 => ?_)
      · unfold f_HM_next_46
        refine zk_ifc (zci_ne (by omega) (by omega)) (fun hc_10 => ?_) (fun hc_10 => ?_)
        · refine zk_gv (by omega) (by decide) (fun v1_7 h_v1_7 => ?_)
          have r_v1_7 := h_i_tape (i_from.toNat)
          refine zk_d1 (s_HM_isSmall _ (by omega)) (fun v2_6 hp_3 => ?_)
          try dsimp only at hp_3
          have hp_3p0 := hp_3
          refine zk_ifc (zci_eqr (by omega)) (fun hc_11 => ?_) (fun hc_11 => ?_)
          · refine zk_gv (by omega) (by decide) (fun v3_6 h_v3_6 => ?_)
            have r_v3_6 := h_i_tape (i_from.toNat)
            refine zk_d1 (s_HM_isDigit _ (by omega)) (fun v4_2 hp_4 => ?_)
            try dsimp only at hp_4
            have hp_4p0 := hp_4
            refine zk_ifc (zci_eqr (by omega)) (fun hc_12 => ?_) (fun hc_12 => ?_)
            · unfold f_HM_next_114
              refine zk_ifc (zci_ne (by omega) (by omega)) (fun hc_13 => ?_) (fun hc_13 => ?_)
              · refine zok_mono (s_HM_next_149 _ _ (by omega) h_i_tape zfu _ _ _ _ (by omega) (by omega) (by omega) (by omega) (by omega) (by omega) (by unfold zfu; omega)) (fun o ho => ?_)
                try dsimp only at ho
                obtain ⟨ho_0, ho_1, ho_2, ho_3, ho_4⟩ := ho
                exact ⟨by omega, by omega, by omega, by omega⟩
              · refine zk_gv (by omega) (by decide) (fun v1_8 h_v1_8 => ?_)
                have r_v1_8 := h_i_tape (i_from.toNat)
                refine zk_nE (fun v2_7 h_v2_7 => ?_)
                rw [zwi (by omega)] at h_v2_7
                replace h_v2_7 := h_v2_7.symm
                subst h_v2_7
                refine zk_n ?_
                refine zok_mono (s_HM_next_149 _ _ (by omega) h_i_tape zfu _ _ _ _ (by omega) (by omega) (by omega) (by omega) (by omega) (by omega) (by unfold zfu; omega)) (fun o ho => ?_)
                try dsimp only at ho
                obtain ⟨ho_0, ho_1, ho_2, ho_3, ho_4⟩ := ho
                exact ⟨by omega, by omega, by omega, by omega⟩
            · unfold f_HM_next_114
              refine zk_ifc (zci_ne (by omega) (by omega)) (fun hc_14 => ?_) (fun hc_14 => ?_)
              · refine zok_mono (s_HM_next_149 _ _ (by omega) h_i_tape zfu _ _ _ _ (by omega) (by omega) (by omega) (by omega) (by omega) (by omega) (by unfold zfu; omega)) (fun o ho => ?_)
                try dsimp only at ho
                obtain ⟨ho_0, ho_1, ho_2, ho_3, ho_4⟩ := ho
                exact ⟨by omega, by omega, by omega, by omega⟩
              · refine zk_gv (by omega) (by decide) (fun v1_9 h_v1_9 => ?_)
                have r_v1_9 := h_i_tape (i_from.toNat)
                refine zk_nE (fun v2_8 h_v2_8 => ?_)
                rw [zwi (by omega)] at h_v2_8
                replace h_v2_8 := h_v2_8.symm
                subst h_v2_8
                refine zk_n ?_
                refine zok_mono (s_HM_next_149 _ _ (by omega) h_i_tape zfu _ _ _ _ (by omega) (by omega) (by omega) (by omega) (by omega) (by omega) (by unfold zfu; omega)) (fun o ho => ?_)
                try dsimp only at ho
                obtain ⟨ho_0, ho_1, ho_2, ho_3, ho_4⟩ := ho
                exact ⟨by omega, by omega, by omega, by omega⟩
          · unfold f_HM_next_114
            refine zk_ifc (zci_ne (by omega) (by omega)) (fun hc_15 => ?_) (fun hc_15 => ?_)
            · refine zok_mono (s_HM_next_149 _ _ (by omega) h_i_tape zfu _ _ _ _ (by omega) (by omega) (by omega) (by omega) (by omega) (by omega) (by unfold zfu; omega)) (fun o ho => ?_)
              try dsimp only at ho
              obtain ⟨ho_0, ho_1, ho_2, ho_3, ho_4⟩ := ho
              exact ⟨by omega, by omega, by omega, by omega⟩
            · refine zk_gv (by omega) (by decide) (fun v1_10 h_v1_10 => ?_)
              have r_v1_10 := h_i_tape (i_from.toNat)
              refine zk_nE (fun v2_9 h_v2_9 => ?_)
              rw [zwi (by omega)] at h_v2_9
              replace h_v2_9 := h_v2_9.symm
              subst h_v2_9
              refine zk_n ?_
              refine zok_mono (s_HM_next_149 _ _ (by omega) h_i_tape zfu _ _ _ _ (by omega) (by omega) (by omega) (by omega) (by omega) (by omega) (by unfold zfu; omega)) (fun o ho => ?_)
              try dsimp only at ho
              obtain ⟨ho_0, ho_1, ho_2, ho_3, ho_4⟩ := ho
              exact ⟨by omega, by omega, by omega, by omega⟩
        · unfold f_HM_next_114
          refine zk_ifc (zci_ne (by omega) (by omega)) (fun hc_16 => ?_) (fun hc_16 => ?_)
          · refine zok_mono (s_HM_next_149 _ _ (by omega) h_i_tape zfu _ _ _ _ (by omega) (by omega) (by omega) (by omega) (by omega) (by omega) (by unfold zfu; omega)) (fun o ho => ?_)
            try dsimp only at ho
            obtain ⟨ho_0, ho_1, ho_2, ho_3, ho_4⟩ := ho
            exact ⟨by omega, by omega, by omega, by omega⟩
          · refine zk_gv (by omega) (by decide) (fun v1_11 h_v1_11 => ?_)
            have r_v1_11 := h_i_tape (i_from.toNat)
            refine zk_nE (fun v2_10 h_v2_10 => ?_)
            rw [zwi (by omega)] at h_v2_10
            replace h_v2_10 := h_v2_10.symm
            subst h_v2_10
            refine zk_n ?_
            refine zok_mono (s_HM_next_149 _ _ (by omega) h_i_tape zfu _ _ _ _ (by omega) (by omega) (by omega) (by omega) (by omega) (by omega) (by unfold zfu; omega)) (fun o ho => ?_)
            try dsimp only at ho
            obtain ⟨ho_0, ho_1, ho_2, ho_3, ho_4⟩ := ho
            exact ⟨by omega, by omega, by omega, by omega⟩
      · refine zk_n ?_
        refine zok_mono (ih _ _ _ _ (by omega) (by omega) (by omega)) (fun o ho => ?_)
        try dsimp only at ho
        obtain ⟨ho_0, ho_1, ho_2, ho_3⟩ := ho
        exact ⟨by omega, by omega, by omega, by omega⟩
theorem s_HM_next (i_taped : Int) (i_tape : Nat → Int) (i_from : Int) (i_to : Int) (i_sort : Int) (i_worth : Int) (b_i_taped : 0 ≤ i_taped ∧ i_taped ≤ 400) (h_i_tape : zR i_tape 0 255) (b_i_to : 0 ≤ i_to ∧ i_to ≤ 400) (p_0 : i_to ≤ i_taped) : zok (f_HM_next i_taped i_tape i_from i_to i_sort i_worth) (fun o => (i_to ≤ o.1) ∧ (0 ≤ o.1 ∧ o.1 ≤ o.2.1 ∧ o.2.1 ≤ i_taped) ∧ (0 ≤ o.2.2.1 ∧ o.2.2.1 ≤ 3) ∧ ((o.2.2.1 = 0 ∧ o.1 = i_taped) ∨ (o.2.2.1 ≠ 0 ∧ o.1 < o.2.1))) := by
  unfold f_HM_next
  refine zok_mono (s_HM_next_8 _ _ (by omega) h_i_tape zfu _ _ _ _ (by omega) (by omega) (by unfold zfu; omega)) (fun o ho => ?_)
  try dsimp only at ho
  obtain ⟨ho_0, ho_1, ho_2, ho_3⟩ := ho
  exact ⟨by omega, by omega, by omega, by omega⟩
theorem s_HM_must (x1 : Int) (i_taped : Int) (i_tape : Nat → Int) (i_from : Int) (i_to : Int) (i_sort : Int) (i_worth : Int) (i_fault : Int) (i_bad : Int) (b_x1 : 0 ≤ x1 ∧ x1 ≤ 1) (b_i_taped : 0 ≤ i_taped ∧ i_taped ≤ 400) (h_i_tape : zR i_tape 0 255) (b_i_from : 0 ≤ i_from ∧ i_from ≤ 400) (b_i_to : 0 ≤ i_to ∧ i_to ≤ 400) (b_i_sort : 0 ≤ i_sort ∧ i_sort ≤ 3) (b_i_bad : 0 ≤ i_bad ∧ i_bad ≤ 1) (p_0 : i_from ≤ i_to ∧ i_to ≤ i_taped) (p_1 : (i_sort = 0 ∧ i_from = i_taped) ∨ (i_sort ≠ 0 ∧ i_from < i_to)) : zok (f_HM_must x1 i_taped i_tape i_from i_to i_sort i_worth i_fault i_bad) (fun o => (0 ≤ o.1 ∧ o.1 ≤ o.2.1 ∧ o.2.1 ≤ i_taped) ∧ (0 ≤ o.2.2.1 ∧ o.2.2.1 ≤ 3) ∧ ((o.2.2.1 = 0 ∧ o.1 = i_taped) ∨ (o.2.2.1 ≠ 0 ∧ o.1 < o.2.1)) ∧ (i_from ≤ o.1) ∧ ((o.2.2.2.2.2 = 0 ∧ i_bad = 0 ∧ x1 ≠ 0 ∧ i_to ≤ o.1) ∨ (o.2.2.2.2.2 = 1 ∧ o.1 = i_from ∧ o.2.1 = i_to ∧ o.2.2.1 = i_sort))) := by
  unfold f_HM_must
  refine zk_ifc (zci_ner (by omega)) (fun hc => ?_) (fun hc => ?_)
  · unfold f_HM_must_24
    refine zk_ifc (zci_ner (by omega)) (fun hc_2 => ?_) (fun hc_2 => ?_)
    · refine zk_ret ?_
      try dsimp only
      exact ⟨by omega, by omega, by omega, by omega, by omega⟩
    · refine zk_d4 (s_HM_next _ _ _ _ _ _ (by omega) h_i_tape (by omega) (by omega)) (fun v1 v2 v3 v4 hp => ?_)
      try dsimp only at hp
      obtain ⟨hpp0, hpp1, hpp2, hpp3⟩ := hp
      refine zk_ret ?_
      try dsimp only
      exact ⟨by omega, by omega, by omega, by omega, by omega⟩
  · refine zk_ifc (zci_ner (by omega)) (fun hc_3 => ?_) (fun hc_3 => ?_)
    · unfold f_HM_must_24
      refine zk_ifc (zci_ner (by omega)) (fun hc_4 => ?_) (fun hc_4 => ?_)
      · refine zk_ret ?_
        try dsimp only
        exact ⟨by omega, by omega, by omega, by omega, by omega⟩
      · refine zk_d4 (s_HM_next _ _ _ _ _ _ (by omega) h_i_tape (by omega) (by omega)) (fun v1_2 v2_2 v3_2 v4_2 hp_2 => ?_)
        try dsimp only at hp_2
        obtain ⟨hp_2p0, hp_2p1, hp_2p2, hp_2p3⟩ := hp_2
        refine zk_ret ?_
        try dsimp only
        exact ⟨by omega, by omega, by omega, by omega, by omega⟩
    · unfold f_HM_must_24
      refine zk_ifc (zci_ner (by omega)) (fun hc_5 => ?_) (fun hc_5 => ?_)
      · refine zk_ret ?_
        try dsimp only
        exact ⟨by omega, by omega, by omega, by omega, by omega⟩
      · refine zk_d4 (s_HM_next _ _ _ _ _ _ (by omega) h_i_tape (by omega) (by omega)) (fun v1_3 v2_3 v3_3 v4_3 hp_3 => ?_)
        try dsimp only at hp_3
        obtain ⟨hp_3p0, hp_3p1, hp_3p2, hp_3p3⟩ := hp_3
        refine zk_ret ?_
        try dsimp only
        exact ⟨by omega, by omega, by omega, by omega, by omega⟩
theorem s_HM_isSign (x1 : Int) (i_sort : Int) (i_worth : Int) (b_x1 : 0 ≤ x1 ∧ x1 ≤ 255) (b_i_sort : 0 ≤ i_sort ∧ i_sort ≤ 3) : zok (f_HM_isSign x1 i_sort i_worth) (fun o => ((o = 1 ∧ i_sort = 3) ∨ o = 0)) := by
  unfold f_HM_isSign
  refine zk_ifc (zci_ne (by omega) (by omega)) (fun hc => ?_) (fun hc => ?_)
  · exact zk_ret (by omega)
  · refine zk_nE (fun v1 h_v1 => ?_)
    rw [zwi (by omega)] at h_v1
    replace h_v1 := h_v1.symm
    subst h_v1
    refine zk_if (fun hc_2 => ?_) (fun hc_2 => ?_)
    · exact zk_ret (by omega)
    · exact zk_ret (by omega)
theorem s_HM_isWord (x1 : Int) (i_sort : Int) (i_worth : Int) (b_i_sort : 0 ≤ i_sort ∧ i_sort ≤ 3) : zok (f_HM_isWord x1 i_sort i_worth) (fun o => ((o = 1 ∧ i_sort = 1) ∨ o = 0)) := by
  unfold f_HM_isWord
  refine zk_ifc (zci_ne (by omega) (by omega)) (fun hc => ?_) (fun hc => ?_)
  · exact zk_ret (by omega)
  · refine zk_if (fun hc_2 => ?_) (fun hc_2 => ?_)
    · exact zk_ret (by omega)
    · exact zk_ret (by omega)
theorem s_HM_partAt_4 (i_sort : Int) (i_worth : Int) (i_words : Nat → Int) (b_i_sort : 0 ≤ i_sort ∧ i_sort ≤ 3) : ∀ (n : Nat) (x1 : Int) (x2 : Int), ((-1) ≤ x1 ∧ x1 ≤ 8) → (0 ≤ x2 ∧ x2 ≤ 8) → (x1 = -1 ∨ (1 ≤ x1 ∧ i_sort = 1)) → (9 - x2) < (n : Int) → zok (f_HM_partAt_4 i_sort i_worth i_words n x1 x2) (fun o => ((-1) ≤ o ∧ o ≤ 8) ∧ (o = -1 ∨ (1 ≤ o ∧ i_sort = 1))) := by
  intro n
  induction n with
  | zero => intro x1 x2 b_x1 b_x2 p_0 hm; exfalso; omega
  | succ n ih =>
    intro x1 x2 b_x1 b_x2 p_0 hm
    show zok (f_HM_partAt_4_b i_sort i_worth i_words (f_HM_partAt_4 i_sort i_worth i_words n) x1 x2) _
    unfold f_HM_partAt_4_b
    refine zk_ifc (zci_le (by omega) (by omega)) (fun hc => ?_) (fun hc => ?_)
    · exact zk_ret ⟨by omega, by omega⟩
    · refine zk_gv (by omega) (by decide) (fun v1 h_v1 => ?_)
      refine zk_d1 (s_HM_isWord _ _ _ (by omega)) (fun v2 hp => ?_)
      try dsimp only at hp
      have hpp0 := hp
      refine zk_ifc (zci_eqr (by omega)) (fun hc_2 => ?_) (fun hc_2 => ?_)
      · unfold f_HM_partAt_30
        refine zk_n ?_
        refine zok_mono (ih _ _ (by omega) (by omega) (by omega) (by omega)) (fun o ho => ?_)
        try dsimp only at ho
        obtain ⟨ho_0, ho_1⟩ := ho
        exact ⟨by omega, by omega⟩
      · refine zk_n ?_
        unfold f_HM_partAt_30
        refine zk_n ?_
        refine zok_mono (ih _ _ (by omega) (by omega) (by omega) (by omega)) (fun o ho => ?_)
        try dsimp only at ho
        obtain ⟨ho_0, ho_1⟩ := ho
        exact ⟨by omega, by omega⟩
theorem s_HM_partAt (i_sort : Int) (i_worth : Int) (i_words : Nat → Int) (b_i_sort : 0 ≤ i_sort ∧ i_sort ≤ 3) : zok (f_HM_partAt i_sort i_worth i_words) (fun o => ((-1) ≤ o ∧ o ≤ 8) ∧ (o = -1 ∨ (1 ≤ o ∧ i_sort = 1))) := by
  unfold f_HM_partAt
  refine zok_mono (s_HM_partAt_4 _ _ _ (by omega) zfu _ _ (by omega) (by omega) (by omega) (by unfold zfu; omega)) (fun o ho => ?_)
  try dsimp only at ho
  obtain ⟨ho_0, ho_1⟩ := ho
  exact ⟨by omega, by omega⟩
theorem s_HM_emit (x1 : Int) (x2 : Int) (i_nCode : Int) (i_nOp : Nat → Int) (i_nArg : Nat → Int) (b_i_nCode : 0 ≤ i_nCode ∧ i_nCode ≤ 399) : zok (f_HM_emit x1 x2 i_nCode i_nOp i_nArg) (fun o => (o.1 = i_nCode + 1) ∧ (o.2.1 = zu i_nOp i_nCode.toNat x1) ∧ (o.2.2 = zu i_nArg i_nCode.toNat x2)) := by
  unfold f_HM_emit
  refine zk_sv (by omega) (by decide) (fun a1 h_a1 => ?_)
  refine zk_sv (by omega) (by decide) (fun a2 h_a2 => ?_)
  refine zk_n ?_
  refine zk_ret ?_
  try dsimp only
  exact ⟨by omega, by exact h_a1, by exact h_a2⟩
theorem s_HM_push (x1 : Int) (x2 : Int) (i_piled : Int) (i_pile : Nat → Int) (i_pileAt : Nat → Int) (b_i_piled : 0 ≤ i_piled ∧ i_piled ≤ 399) : zok (f_HM_push x1 x2 i_piled i_pile i_pileAt) (fun o => (o.1 = i_piled + 1) ∧ (o.2.1 = zu i_pile i_piled.toNat x1) ∧ (o.2.2 = zu i_pileAt i_piled.toNat x2)) := by
  unfold f_HM_push
  refine zk_sv (by omega) (by decide) (fun a1 h_a1 => ?_)
  refine zk_sv (by omega) (by decide) (fun a2 h_a2 => ?_)
  refine zk_n ?_
  refine zk_ret ?_
  try dsimp only
  exact ⟨by omega, by exact h_a1, by exact h_a2⟩
theorem s_HM_binds (x0 : Int) (b_x0 : 0 ≤ x0 ∧ x0 ≤ 31) : zok (f_HM_binds x0) (fun o => ((30 ≤ x0 ∧ o = 0) ∨ (x0 = 29 ∧ o = 1) ∨ (x0 = 28 ∧ o = 2) ∨ (x0 = 27 ∧ o = 3) ∨ (24 ≤ x0 ∧ x0 ≤ 26 ∧ o = 4) ∨ (22 ≤ x0 ∧ x0 ≤ 23 ∧ o = 6) ∨ (x0 < 22 ∧ o = 5))) := by
  unfold f_HM_binds
  refine zk_ifc (zci_lt (by omega) (by omega)) (fun hc => ?_) (fun hc => ?_)
  · refine zk_ifc (zci_ne (by omega) (by omega)) (fun hc_2 => ?_) (fun hc_2 => ?_)
    · refine zk_ifc (zci_ne (by omega) (by omega)) (fun hc_3 => ?_) (fun hc_3 => ?_)
      · refine zk_ifc (zci_ne (by omega) (by omega)) (fun hc_4 => ?_) (fun hc_4 => ?_)
        · refine zk_ifc (zci_lt (by omega) (by omega)) (fun hc_5 => ?_) (fun hc_5 => ?_)
          · refine zk_ifc (zci_lt (by omega) (by omega)) (fun hc_6 => ?_) (fun hc_6 => ?_)
            · exact zk_ret (by omega)
            · exact zk_ret (by omega)
          · exact zk_ret (by omega)
        · exact zk_ret (by omega)
      · exact zk_ret (by omega)
    · exact zk_ret (by omega)
  · exact zk_ret (by omega)
