/-! images -/
def zIM (kp im : Nat → Int) : Prop := ∀ k : Nat, k < 2 → kp k ≠ 0 → RI (fun j => im (5580 * k + j))
theorem s_HM_image_23 (i_row : Nat → Int) (h_i_row : RI i_row) : ∀ (n : Nat) (x1 x2 i_thrown i_status : Int) (i_refusals i_images i_isKept : Nat → Int), (0 ≤ x1 ∧ x1 ≤ 1) → (0 ≤ x2 ∧ x2 ≤ 5580) → zR i_isKept 0 1 → (∀ j : Nat, (j : Int) < x2 → i_images (5580 * x1.toNat + j) = i_row j) → (∀ k : Nat, k < 2 → k ≠ x1.toNat → i_isKept k ≠ 0 → RI (fun j => i_images (5580 * k + j))) → 5581 - x2 < (n : Int) → zok (f_HM_image_23 i_row n x1 x2 i_thrown i_status i_refusals i_images i_isKept) (fun o => zR o.2.2.2.2.2 0 1 ∧ zIM o.2.2.2.2.2 o.2.2.2.2.1) := by
  intro n
  induction n with
  | zero => intro x1 x2 i_thrown i_status i_refusals i_images i_isKept b1 b2 hk hp hq hm; exfalso; omega
  | succ n ih =>
    intro x1 x2 i_thrown i_status i_refusals i_images i_isKept b1 b2 hk hp hq hm
    show zok (f_HM_image_23_b i_row (f_HM_image_23 i_row n) x1 x2 i_thrown i_status i_refusals i_images i_isKept) _
    unfold f_HM_image_23_b
    refine zk_ifc (zci_le (by omega) (by omega)) (fun hc => ?_) (fun hc => ?_)
    · refine zk_gb (by omega) ?_
      refine zk_sv (by omega) (by decide) (fun a1 h_a1 => ?_)
      have i_a1 : zR a1 0 1 := by rw [h_a1]; exact zR_zu hk (by decide) (by decide) (by omega)
      refine zk_d3 (s_HM_tell _ _ _ (by omega)) (fun v2 v3 a4 hq2 => ?_)
      refine zk_ret ⟨i_a1, fun k k1 k2 => ?_⟩
      dsimp only at k2 ⊢
      by_cases e : k = x1.toNat
      · refine RI_ext h_i_row (fun j hj => ?_)
        rw [e]
        exact hp j (by omega)
      · refine hq k k1 e ?_
        have z := zu_rd h_a1 k
        omega
    · refine zk_n ?_
      refine zk_n ?_
      refine zk_gv (by omega) (by decide) (fun v7 h_v7 => ?_)
      refine zk_sv (by omega) (by decide) (fun a8 h_a8 => ?_)
      refine zk_n ?_
      refine ih _ _ _ _ _ _ _ b1 (by omega) hk (fun j hj => ?_) (fun k k1 k2 k3 => ?_) (by omega)
      · have z := zu_rd h_a8 (5580 * x1.toNat + j)
        by_cases e : (j : Int) = x2
        · have e2 : x2.toNat = j := by omega
          rw [e2] at h_v7
          omega
        · have := hp j (by omega)
          omega
      · refine RI_ext (hq k k1 k2 k3) (fun j hj => ?_)
        have z := zu_rd h_a8 (5580 * k + j)
        have hk2 : k = 0 ∨ k = 1 := by omega
        have hx2 : x1.toNat = 0 ∨ x1.toNat = 1 := by omega
        rcases z with z | z
        · exfalso
          rcases hk2 with h1 | h1 <;> rcases hx2 with h2 | h2 <;> subst h1 <;> omega
        · exact z.2
theorem s_HM_back_39 (i_images i_isKept : Nat → Int) : ∀ (n : Nat) (x1 x2 i_thrown i_status : Int) (i_refusals i_row : Nat → Int), (0 ≤ x1 ∧ x1 ≤ 1) → (0 ≤ x2 ∧ x2 ≤ 5580) → RI (fun j => i_images (5580 * x1.toNat + j)) → (∀ j : Nat, (j : Int) < x2 → i_row j = i_images (5580 * x1.toNat + j)) → 5581 - x2 < (n : Int) → zok (f_HM_back_39 i_images i_isKept n x1 x2 i_thrown i_status i_refusals i_row) (fun o => RI o.2.2.2.2) := by
  intro n
  induction n with
  | zero => intro x1 x2 i_thrown i_status i_refusals i_row b1 b2 hr hp hm; exfalso; omega
  | succ n ih =>
    intro x1 x2 i_thrown i_status i_refusals i_row b1 b2 hr hp hm
    show zok (f_HM_back_39_b i_images i_isKept (f_HM_back_39 i_images i_isKept n) x1 x2 i_thrown i_status i_refusals i_row) _
    unfold f_HM_back_39_b
    refine zk_ifc (zci_le (by omega) (by omega)) (fun hc => ?_) (fun hc => ?_)
    · refine zk_d3 (s_HM_tell _ _ _ (by omega)) (fun v2 v3 a4 hq2 => ?_)
      exact zk_ret (RI_ext hr (fun j hj => hp j (by omega)))
    · refine zk_n ?_
      refine zk_n ?_
      refine zk_gv (by omega) (by decide) (fun v6 h_v6 => ?_)
      refine zk_sv (by omega) (by decide) (fun a7 h_a7 => ?_)
      refine zk_n ?_
      refine ih _ _ _ _ _ _ b1 (by omega) hr (fun j hj => ?_) (by omega)
      have z := zu_rd h_a7 j
      by_cases e : (j : Int) = x2
      · rw [show (5580 * x1 + x2).toNat = 5580 * x1.toNat + j from by omega] at h_v6
        omega
      · have := hp j (by omega)
        omega
theorem s_HM_image (x1 : Int) (i_row : Nat → Int) (i_thrown : Int) (i_status : Int) (i_refusals : Nat → Int) (i_images : Nat → Int) (i_isKept : Nat → Int) (b_x1 : (-2147483648) ≤ x1 ∧ x1 ≤ 2147483647) (h_i_row : RI i_row) (h_i_isKept : zR i_isKept 0 1) (p_0 : zIM i_isKept i_images) : zok (f_HM_image x1 i_row i_thrown i_status i_refusals i_images i_isKept) (fun o => zR o.2.2.2.2.2 0 1 ∧ (zIM o.2.2.2.2.2 o.2.2.2.2.1)) := by
  unfold f_HM_image
  refine zk_nE (fun v1 h_v1 => ?_)
  rw [zwi (by omega)] at h_v1
  refine zk_d1 (s_HM_in _ _ _ (by omega) (by omega) (by omega)) (fun v2 hp => ?_)
  try dsimp only at hp
  refine zk_ifc (zci_ner (by omega)) (fun hc => ?_) (fun hc => ?_)
  · exact s_HM_image_23 i_row h_i_row zfu _ _ _ _ _ _ _ (by omega) (by omega) h_i_isKept (fun j hj => absurd hj (by omega)) (fun k k1 k2 k3 => p_0 k k1 k3) (by unfold zfu; omega)
  · refine zk_d3 (s_HM_tell _ _ _ (by omega)) (fun v3 v4 a5 hq => ?_)
    exact zk_ret ⟨h_i_isKept, p_0⟩
theorem s_HM_back (x1 : Int) (i_images : Nat → Int) (i_isKept : Nat → Int) (i_thrown : Int) (i_status : Int) (i_refusals : Nat → Int) (i_row : Nat → Int) (b_x1 : (-2147483648) ≤ x1 ∧ x1 ≤ 2147483647) (h_i_isKept : zR i_isKept 0 1) (h_i_row : RI i_row) (p_0 : zIM i_isKept i_images) : zok (f_HM_back x1 i_images i_isKept i_thrown i_status i_refusals i_row) (fun o => RI o.2.2.2.2) := by
  unfold f_HM_back
  refine zk_nE (fun v1 h_v1 => ?_)
  rw [zwi (by omega)] at h_v1
  refine zk_d1 (s_HM_in _ _ _ (by omega) (by omega) (by omega)) (fun v2 hp => ?_)
  try dsimp only at hp
  refine zk_ifc (zci_ner (by omega)) (fun hc => ?_) (fun hc => ?_)
  · refine zk_gv (by omega) (by decide) (fun v3 h_v3 => ?_)
    have r_v3 := h_i_isKept x1.toNat
    refine zk_ifc (zci_ner (by omega)) (fun hc2 => ?_) (fun hc2 => ?_)
    · exact s_HM_back_39 i_images i_isKept zfu _ _ _ _ _ _ (by omega) (by omega) (p_0 x1.toNat (by omega) (by omega)) (fun j hj => absurd hj (by omega)) (by unfold zfu; omega)
    · refine zk_d3 (s_HM_tell _ _ _ (by omega)) (fun v3 v4 a5 hq => ?_)
      exact zk_ret h_i_row
  · refine zk_d3 (s_HM_tell _ _ _ (by omega)) (fun v3 v4 a5 hq => ?_)
    exact zk_ret h_i_row
theorem s_HM_bestToWeigh_9 (i_row : Nat → Int) (i_withOne : Nat → Int) (h_i_row : RI i_row) : ∀ (n : Nat) (x1 : Int) (x2 : Int) (x3 : Int) (x4 : Int), (0 ≤ x4 ∧ x4 ≤ 6) → (7 - x4) < (n : Int) → zok (f_HM_bestToWeigh_9 i_row i_withOne n x1 x2 x3 x4) (fun o => True) := by
  intro n
  induction n with
  | zero => intro x1 x2 x3 x4 b_x4 hm; exfalso; omega
  | succ n ih =>
    intro x1 x2 x3 x4 b_x4 hm
    show zok (f_HM_bestToWeigh_9_b i_row i_withOne (f_HM_bestToWeigh_9 i_row i_withOne n) x1 x2 x3 x4) _
    unfold f_HM_bestToWeigh_9_b
    refine zk_gl 1 rfl (by decide) (by decide) (fun v1 h_v1 => ?_)
    have r_v1 := RI_1 h_i_row
    refine zk_ifc (zci_le (by omega) (by omega)) (fun hc => ?_) (fun hc => ?_)
    · exact zk_ret trivial
    · refine zk_gv (by omega) (by decide) (fun v2 h_v2 => ?_)
      refine zk_gv (by omega) (by decide) (fun v3 h_v3 => ?_)
      refine zk_n ?_
      refine zk_if (fun hc_2 => ?_) (fun hc_2 => ?_)
      · refine zk_gv (by omega) (by decide) (fun v5 h_v5 => ?_)
        refine zk_n ?_
        unfold f_HM_bestToWeigh_58
        refine zk_if (fun hc_3 => ?_) (fun hc_3 => ?_)
        · unfold f_HM_bestToWeigh_72
          refine zk_if (fun hc_4 => ?_) (fun hc_4 => ?_)
          · unfold f_HM_bestToWeigh_85
            refine zk_n ?_
            exact ih _ _ _ _ (by omega) (by omega)
          · unfold f_HM_bestToWeigh_85
            refine zk_n ?_
            exact ih _ _ _ _ (by omega) (by omega)
        · unfold f_HM_bestToWeigh_72
          refine zk_if (fun hc_5 => ?_) (fun hc_5 => ?_)
          · unfold f_HM_bestToWeigh_85
            refine zk_n ?_
            exact ih _ _ _ _ (by omega) (by omega)
          · unfold f_HM_bestToWeigh_85
            refine zk_n ?_
            exact ih _ _ _ _ (by omega) (by omega)
      · refine zk_gv (by omega) (by decide) (fun v7 h_v7 => ?_)
        unfold f_HM_bestToWeigh_58
        refine zk_if (fun hc_6 => ?_) (fun hc_6 => ?_)
        · unfold f_HM_bestToWeigh_72
          refine zk_if (fun hc_7 => ?_) (fun hc_7 => ?_)
          · unfold f_HM_bestToWeigh_85
            refine zk_n ?_
            exact ih _ _ _ _ (by omega) (by omega)
          · unfold f_HM_bestToWeigh_85
            refine zk_n ?_
            exact ih _ _ _ _ (by omega) (by omega)
        · unfold f_HM_bestToWeigh_72
          refine zk_if (fun hc_8 => ?_) (fun hc_8 => ?_)
          · unfold f_HM_bestToWeigh_85
            refine zk_n ?_
            exact ih _ _ _ _ (by omega) (by omega)
          · unfold f_HM_bestToWeigh_85
            refine zk_n ?_
            exact ih _ _ _ _ (by omega) (by omega)
theorem s_HM_bestToWeigh (x1 : Int) (i_row : Nat → Int) (i_withOne : Nat → Int) (h_i_row : RI i_row) : zok (f_HM_bestToWeigh x1 i_row i_withOne) (fun o => True) := by
  unfold f_HM_bestToWeigh
  refine zk_n ?_
  exact s_HM_bestToWeigh_9 _ _ h_i_row zfu _ _ _ _ (by omega) (by unfold zfu; omega)
theorem s_HM_culprits_199 (i_row : Nat → Int) (k95 : Int → Int → Int → Int → Int → Int → Int → Int → Int → Int → (Nat → Int) → Option (Int × Int × (Nat → Int))) (Nk95 : Nat) (hk95 : ∀ (x1 : Int) (x2 : Int) (x3 : Int) (x4 : Int) (x5 : Int) (x6 : Int) (x7 : Int) (x8 : Int) (x9 : Int) (i_thrown : Int) (i_withOne : Nat → Int), (1 ≤ x1 ∧ x1 ≤ 9) → (0 ≤ x2 ∧ x2 ≤ 999) → (0 ≤ x3 ∧ x3 ≤ 4) → (0 ≤ x4 ∧ x4 ≤ 6) → (0 ≤ x5 ∧ x5 ≤ 64) → (0 ≤ x9 ∧ x9 ≤ 64) → (x5 ≤ x9) → (65 - x9) < (Nk95 : Int) → zok (k95 x1 x2 x3 x4 x5 x6 x7 x8 x9 i_thrown i_withOne) (fun o => True)) (h_i_row : RI i_row) : ∀ (n : Nat) (x1 : Int) (x2 : Int) (x3 : Int) (x4 : Int) (x5 : Int) (x6 : Int) (x7 : Int) (x8 : Int) (x9 : Int) (x11 : Int) (i_thrown : Int) (i_withOne : Nat → Int), (1 ≤ x1 ∧ x1 ≤ 9) → (0 ≤ x2 ∧ x2 ≤ 999) → (0 ≤ x3 ∧ x3 ≤ 4) → (0 ≤ x4 ∧ x4 ≤ 6) → (0 ≤ x5 ∧ x5 ≤ 64) → (0 ≤ x9 ∧ x9 ≤ 63) → (0 ≤ x11 ∧ x11 ≤ 6) → (x5 ≤ x9 + 1) → (65 - x9) < (Nk95 : Int) + 1 → (7 - x11) < (n : Int) → zok (f_HM_culprits_199 i_row k95 n x1 x2 x3 x4 x5 x6 x7 x8 x9 x11 i_thrown i_withOne) (fun o => True) := by
  intro n
  induction n with
  | zero => intro x1 x2 x3 x4 x5 x6 x7 x8 x9 x11 i_thrown i_withOne b_x1 b_x2 b_x3 b_x4 b_x5 b_x9 b_x11 p_0 mk95 hm; exfalso; omega
  | succ n ih =>
    intro x1 x2 x3 x4 x5 x6 x7 x8 x9 x11 i_thrown i_withOne b_x1 b_x2 b_x3 b_x4 b_x5 b_x9 b_x11 p_0 mk95 hm
    show zok (f_HM_culprits_199_b i_row k95 (f_HM_culprits_199 i_row k95 n) x1 x2 x3 x4 x5 x6 x7 x8 x9 x11 i_thrown i_withOne) _
    unfold f_HM_culprits_199_b
    refine zk_ifc (zci_le (by omega) (by omega)) (fun hc => ?_) (fun hc => ?_)
    · unfold f_HM_culprits_229
      refine zk_n ?_
      exact hk95 _ _ _ _ _ _ _ _ _ _ _ (by omega) (by omega) (by omega) (by omega) (by omega) (by omega) (by omega) (by omega)
    · refine zk_gv (by omega) (by decide) (fun v1_2 h_v1_2 => ?_)
      refine zk_nE (fun v2 h_v2 => ?_)
      have r_v2 := zi_shr_f x9 x11; rw [← h_v2] at r_v2
      refine zk_nE (fun v3 h_v3 => ?_)
      have r_v3 := zi_and_m v2 (m := 1) (by decide); rw [← h_v3] at r_v3
      refine zk_n ?_
      refine zk_sv (by omega) (by decide) (fun a5 h_a5 => ?_)
      refine zk_n ?_
      exact ih _ _ _ _ _ _ _ _ _ _ _ _ (by omega) (by omega) (by omega) (by omega) (by omega) (by omega) (by omega) (by omega) (by omega) (by omega)
theorem s_HM_culprits_110 (i_row : Nat → Int) (k95 : Int → Int → Int → Int → Int → Int → Int → Int → Int → Int → (Nat → Int) → Option (Int × Int × (Nat → Int))) (Nk95 : Nat) (hk95 : ∀ (x1 : Int) (x2 : Int) (x3 : Int) (x4 : Int) (x5 : Int) (x6 : Int) (x7 : Int) (x8 : Int) (x9 : Int) (i_thrown : Int) (i_withOne : Nat → Int), (1 ≤ x1 ∧ x1 ≤ 9) → (0 ≤ x2 ∧ x2 ≤ 999) → (0 ≤ x3 ∧ x3 ≤ 4) → (0 ≤ x4 ∧ x4 ≤ 6) → (0 ≤ x5 ∧ x5 ≤ 64) → (0 ≤ x9 ∧ x9 ≤ 64) → (x5 ≤ x9) → (65 - x9) < (Nk95 : Int) → zok (k95 x1 x2 x3 x4 x5 x6 x7 x8 x9 i_thrown i_withOne) (fun o => True)) (h_i_row : RI i_row) : ∀ (n : Nat) (x1 : Int) (x2 : Int) (x3 : Int) (x4 : Int) (x5 : Int) (x6 : Int) (x7 : Int) (x8 : Int) (x9 : Int) (x10 : Int) (x11 : Int) (i_thrown : Int) (i_withOne : Nat → Int), (1 ≤ x1 ∧ x1 ≤ 9) → (0 ≤ x2 ∧ x2 ≤ 999) → (0 ≤ x3 ∧ x3 ≤ 4) → (0 ≤ x4 ∧ x4 ≤ 6) → (0 ≤ x5 ∧ x5 ≤ 64) → (0 ≤ x9 ∧ x9 ≤ 63) → (0 ≤ x10 ∧ x10 ≤ 3240) → (0 ≤ x11 ∧ x11 ≤ 6) → (x5 ≤ x9) → (x10 ≤ 540 * x11) → (65 - x9) < (Nk95 : Int) + 1 → (7 - x11) < (n : Int) → zok (f_HM_culprits_110 i_row k95 n x1 x2 x3 x4 x5 x6 x7 x8 x9 x10 x11 i_thrown i_withOne) (fun o => True) := by
  intro n
  induction n with
  | zero => intro x1 x2 x3 x4 x5 x6 x7 x8 x9 x10 x11 i_thrown i_withOne b_x1 b_x2 b_x3 b_x4 b_x5 b_x9 b_x10 b_x11 p_0 p_1 mk95 hm; exfalso; omega
  | succ n ih =>
    intro x1 x2 x3 x4 x5 x6 x7 x8 x9 x10 x11 i_thrown i_withOne b_x1 b_x2 b_x3 b_x4 b_x5 b_x9 b_x10 b_x11 p_0 p_1 mk95 hm
    show zok (f_HM_culprits_110_b i_row k95 (f_HM_culprits_110 i_row k95 n) x1 x2 x3 x4 x5 x6 x7 x8 x9 x10 x11 i_thrown i_withOne) _
    unfold f_HM_culprits_110_b
    refine zk_ifc (zci_le (by omega) (by omega)) (fun hc => ?_) (fun hc => ?_)
    · refine zk_ifc (zci_ne (by omega) (by omega)) (fun hc_2 => ?_) (fun hc_2 => ?_)
      · unfold f_HM_culprits_229
        refine zk_n ?_
        exact hk95 _ _ _ _ _ _ _ _ _ _ _ (by omega) (by omega) (by omega) (by omega) (by omega) (by omega) (by omega) (by omega)
      · refine zk_ifc (zci_ner (by omega)) (fun hc_3 => ?_) (fun hc_3 => ?_)
        · unfold f_HM_culprits_177
          refine zk_n ?_
          refine zk_nE (fun v2 h_v2 => ?_)
          have r_v2 := zi_and_f x7 x9; rw [← h_v2] at r_v2
          refine zk_nE (fun v3 h_v3 => ?_)
          have r_v3 := zi_or_f x8 x9; rw [← h_v3] at r_v3
          exact s_HM_culprits_199 _ _ Nk95 hk95 h_i_row zfu _ _ _ _ _ _ _ _ _ _ _ _ (by omega) (by omega) (by omega) (by omega) (by omega) (by omega) (by omega) (by omega) (by omega) (by unfold zfu; omega)
        · unfold f_HM_culprits_177
          refine zk_n ?_
          refine zk_nE (fun v2_2 h_v2_2 => ?_)
          have r_v2_2 := zi_and_f x7 x9; rw [← h_v2_2] at r_v2_2
          refine zk_nE (fun v3_2 h_v3_2 => ?_)
          have r_v3_2 := zi_or_f x8 x9; rw [← h_v3_2] at r_v3_2
          exact s_HM_culprits_199 _ _ Nk95 hk95 h_i_row zfu _ _ _ _ _ _ _ _ _ _ _ _ (by omega) (by omega) (by omega) (by omega) (by omega) (by omega) (by omega) (by omega) (by omega) (by unfold zfu; omega)
    · refine zk_d1 (s_HM_is _ _ (by omega) (by omega)) (fun v1_4 hp => ?_)
      try dsimp only at hp
      have hpp0 := hp
      refine zk_ifc (zci_eqr (by omega)) (fun hc_4 => ?_) (fun hc_4 => ?_)
      · unfold f_HM_culprits_150
        refine zk_n ?_
        refine zk_n ?_
        exact ih _ _ _ _ _ _ _ _ _ _ _ _ _ (by omega) (by omega) (by omega) (by omega) (by omega) (by omega) (by omega) (by omega) (by omega) (by omega) (by omega) (by omega)
      · refine zk_n ?_
        refine zk_n ?_
        refine zk_n ?_
        refine zk_gv (by omega) (by decide) (fun v5 h_v5 => ?_)
        have r_v5 := RI_c h_i_row (i := ((153 + (3 * x11)) + 2)) (by omega)
        refine zk_nE (fun v6 h_v6 => ?_)
        have r_v6 := zmulb (a := x1) (b := v5) 9 60 (by omega) (by omega)
        unfold f_HM_culprits_150
        refine zk_n ?_
        refine zk_n ?_
        exact ih _ _ _ _ _ _ _ _ _ _ _ _ _ (by omega) (by omega) (by omega) (by omega) (by omega) (by omega) (by omega) (by omega) (by omega) (by omega) (by omega) (by omega)
theorem s_HM_culprits_95 (i_row : Nat → Int) (h_i_row : RI i_row) : ∀ (n : Nat) (x1 : Int) (x2 : Int) (x3 : Int) (x4 : Int) (x5 : Int) (x6 : Int) (x7 : Int) (x8 : Int) (x9 : Int) (i_thrown : Int) (i_withOne : Nat → Int), (1 ≤ x1 ∧ x1 ≤ 9) → (0 ≤ x2 ∧ x2 ≤ 999) → (0 ≤ x3 ∧ x3 ≤ 4) → (0 ≤ x4 ∧ x4 ≤ 6) → (0 ≤ x5 ∧ x5 ≤ 64) → (0 ≤ x9 ∧ x9 ≤ 64) → (x5 ≤ x9) → (65 - x9) < (n : Int) → zok (f_HM_culprits_95 i_row n x1 x2 x3 x4 x5 x6 x7 x8 x9 i_thrown i_withOne) (fun o => True) := by
  intro n
  induction n with
  | zero => intro x1 x2 x3 x4 x5 x6 x7 x8 x9 i_thrown i_withOne b_x1 b_x2 b_x3 b_x4 b_x5 b_x9 p_0 hm; exfalso; omega
  | succ n ih =>
    intro x1 x2 x3 x4 x5 x6 x7 x8 x9 i_thrown i_withOne b_x1 b_x2 b_x3 b_x4 b_x5 b_x9 p_0 hm
    show zok (f_HM_culprits_95_b i_row (f_HM_culprits_95 i_row n) x1 x2 x3 x4 x5 x6 x7 x8 x9 i_thrown i_withOne) _
    unfold f_HM_culprits_95_b
    refine zk_nE (fun v1 h_v1 => ?_)
    have r_v1 := zi_shl1 (y := x4) (by omega); rw [← h_v1] at r_v1
    refine zk_ifc (zci_le (by omega) (by omega)) (fun hc => ?_) (fun hc => ?_)
    · refine zk_ifc (zci_ner (by omega)) (fun hc_2 => ?_) (fun hc_2 => ?_)
      · refine zk_ifc (zci_ner (by omega)) (fun hc_3 => ?_) (fun hc_3 => ?_)
        · refine zk_ifc (zci_ne (by omega) (by omega)) (fun hc_4 => ?_) (fun hc_4 => ?_)
          · refine zk_ifc (zci_ne (by omega) (by omega)) (fun hc_5 => ?_) (fun hc_5 => ?_)
            · refine zk_ifc (zci_ne (by omega) (by omega)) (fun hc_6 => ?_) (fun hc_6 => ?_)
              · refine zk_d1 (s_HM_bestToWeigh _ _ _ h_i_row) (fun v2 hp => ?_)
                exact zk_ret trivial
              · refine zk_nE (fun v3 h_v3 => ?_)
                have r_v3 := zi_shl1 (y := x4) (by omega); rw [← h_v3] at r_v3
                refine zk_n ?_
                refine zk_nE (fun v5 h_v5 => ?_)
                have r_v5 := zi_xor_f x8 (-1); rw [← h_v5] at r_v5
                refine zk_nE (fun v6 h_v6 => ?_)
                have r_v6 := zi_and_f (v3 - 1) v5; rw [← h_v6] at r_v6
                exact zk_ret trivial
            · exact zk_ret trivial
          · exact zk_ret trivial
        · exact zk_ret trivial
      · exact zk_ret trivial
    · exact s_HM_culprits_110 _ _ n ih h_i_row zfu _ _ _ _ _ _ _ _ _ _ _ _ _ (by omega) (by omega) (by omega) (by omega) (by omega) (by omega) (by omega) (by omega) (by omega) (by omega) (by omega) (by unfold zfu; omega)
theorem s_HM_culprits_71 (i_row : Nat → Int) (h_i_row : RI i_row) : ∀ (n : Nat) (x1 : Int) (x2 : Int) (x3 : Int) (x4 : Int) (x5 : Int) (x6 : Int) (x7 : Int) (x8 : Int) (x9 : Int) (i_thrown : Int) (i_withOne : Nat → Int), (1 ≤ x1 ∧ x1 ≤ 9) → (0 ≤ x2 ∧ x2 ≤ 999) → (0 ≤ x3 ∧ x3 ≤ 4) → (0 ≤ x4 ∧ x4 ≤ 6) → (0 ≤ x5 ∧ x5 ≤ 0) → (0 ≤ x9 ∧ x9 ≤ 6) → (7 - x9) < (n : Int) → zok (f_HM_culprits_71 i_row n x1 x2 x3 x4 x5 x6 x7 x8 x9 i_thrown i_withOne) (fun o => True) := by
  intro n
  induction n with
  | zero => intro x1 x2 x3 x4 x5 x6 x7 x8 x9 i_thrown i_withOne b_x1 b_x2 b_x3 b_x4 b_x5 b_x9 hm; exfalso; omega
  | succ n ih =>
    intro x1 x2 x3 x4 x5 x6 x7 x8 x9 i_thrown i_withOne b_x1 b_x2 b_x3 b_x4 b_x5 b_x9 hm
    show zok (f_HM_culprits_71_b i_row (f_HM_culprits_71 i_row n) x1 x2 x3 x4 x5 x6 x7 x8 x9 i_thrown i_withOne) _
    unfold f_HM_culprits_71_b
    refine zk_ifc (zci_le (by omega) (by omega)) (fun hc => ?_) (fun hc => ?_)
    · exact s_HM_culprits_95 _ h_i_row zfu _ _ _ _ _ _ _ _ _ _ _ (by omega) (by omega) (by omega) (by omega) (by omega) (by omega) (by omega) (by unfold zfu; omega)
    · refine zk_sv (by omega) (by decide) (fun a1 h_a1 => ?_)
      refine zk_n ?_
      exact ih _ _ _ _ _ _ _ _ _ _ _ (by omega) (by omega) (by omega) (by omega) (by omega) (by omega) (by omega)
theorem s_HM_culprits (x1 : Int) (x2 : Int) (x3 : Int) (i_row : Nat → Int) (i_thrown : Int) (i_withOne : Nat → Int) (b_x1 : (-2147483648) ≤ x1 ∧ x1 ≤ 2147483647) (b_x2 : (-2147483648) ≤ x2 ∧ x2 ≤ 2147483647) (b_x3 : (-2147483648) ≤ x3 ∧ x3 ≤ 2147483647) (h_i_row : RI i_row) : zok (f_HM_culprits x1 x2 x3 i_row i_thrown i_withOne) (fun o => True) := by
  unfold f_HM_culprits
  refine zk_nE (fun v1 h_v1 => ?_)
  rw [zwi (by omega)] at h_v1
  replace h_v1 := h_v1.symm
  subst h_v1
  refine zk_d1 (s_HM_in _ _ _ (by omega) (by omega) (by omega)) (fun v2 hp => ?_)
  try dsimp only at hp
  have hpp0 := hp
  refine zk_ifc (zci_eqr (by omega)) (fun hc => ?_) (fun hc => ?_)
  · exact zk_ret trivial
  · refine zk_nE (fun v3 h_v3 => ?_)
    rw [zwi (by omega)] at h_v3
    replace h_v3 := h_v3.symm
    subst h_v3
    refine zk_d1 (s_HM_in _ _ _ (by omega) (by omega) (by omega)) (fun v4 hp_2 => ?_)
    try dsimp only at hp_2
    have hp_2p0 := hp_2
    refine zk_ifc (zci_eqr (by omega)) (fun hc_2 => ?_) (fun hc_2 => ?_)
    · exact zk_ret trivial
    · refine zk_nE (fun v5 h_v5 => ?_)
      rw [zwi (by omega)] at h_v5
      replace h_v5 := h_v5.symm
      subst h_v5
      refine zk_d1 (s_HM_in _ _ _ (by omega) (by omega) (by omega)) (fun v6 hp_3 => ?_)
      try dsimp only at hp_3
      have hp_3p0 := hp_3
      refine zk_ifc (zci_ner (by omega)) (fun hc_3 => ?_) (fun hc_3 => ?_)
      · refine zk_gl 1 rfl (by decide) (by decide) (fun v7 h_v7 => ?_)
        have r_v7 := RI_1 h_i_row
        refine zk_nE (fun v8 h_v8 => ?_)
        have r_v8 := zi_shl1 (y := v7) (by omega); rw [← h_v8] at r_v8
        refine zk_n ?_
        exact s_HM_culprits_71 _ h_i_row zfu _ _ _ _ _ _ _ _ _ _ _ (by omega) (by omega) (by omega) (by omega) (by omega) (by omega) (by unfold zfu; omega)
      · exact zk_ret trivial
