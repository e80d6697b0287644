/-! OUR OWN: the reference's laws are followed to their end -/
theorem s_HM_reckon (x1 x2 x4 i_broken : Int) (b1 : 20 ≤ x1 ∧ x1 ≤ 26) (b2 : -2147483648 ≤ x2 ∧ x2 ≤ 2147483649) (b4 : -2147483648 ≤ x4 ∧ x4 ≤ 2147483649) (hb : i_broken = 0) : zok (f_HM_reckon x1 x2 x4 i_broken) (fun o => (-9223372036854775808 ≤ o.1 ∧ o.1 ≤ 9223372036854775807) ∧ (o.2 = 0 ∨ o.2 = 1)) := by
  have m := zmulA (a := x2) (b := x4) 2147483649 2147483649 (by omega) (by omega)
  have dv := zl_div_f x2 x4
  unfold f_HM_reckon
  refine zk_ifc (zci_eqr (by omega)) (fun hc => ?_) (fun hc => ?_)
  · exact zk_ret ⟨by dsimp only; omega, by dsimp only; omega⟩
  · refine zk_ifc (zci_eqr (by omega)) (fun hc_2 => ?_) (fun hc_2 => ?_)
    · exact zk_ret ⟨by dsimp only; omega, by dsimp only; omega⟩
    · refine zk_ifc (zci_eqr (by omega)) (fun hc_3 => ?_) (fun hc_3 => ?_)
      · refine zk_nE (fun v3 h_v3 => ?_)
        exact zk_ret ⟨by dsimp only; omega, by dsimp only; omega⟩
      · refine zk_ifc (zci_eqr (by omega)) (fun hc_4 => ?_) (fun hc_4 => ?_)
        · refine zk_ifc (zcl_ne (by omega) (by omega)) (fun hc_5 => ?_) (fun hc_5 => ?_)
          · unfold f_HM_reckon_68
            refine zk_gb (by omega) ?_
            refine zk_ifc (zci_eqr (by omega)) (fun hc_6 => ?_) (fun hc_6 => ?_)
            · refine zk_g0zl_w (by omega) ?_
              refine zk_nE (fun v1_2 h_v1_2 => ?_)
              exact zk_ret ⟨by dsimp only; omega, by dsimp only; omega⟩
            · exact zk_ret ⟨by dsimp only; omega, by dsimp only; omega⟩
          · unfold f_HM_reckon_68
            refine zk_gb (by omega) ?_
            refine zk_ifc (zci_eqr (by omega)) (fun hc_7 => ?_) (fun hc_7 => ?_)
            · exfalso; omega
            · exact zk_ret ⟨by dsimp only; omega, by dsimp only; omega⟩
        · refine zk_ifc (zci_eqr (by omega)) (fun hc_8 => ?_) (fun hc_8 => ?_)
          · refine zk_ifc (zcl_le (by omega) (by omega)) (fun hc_9 => ?_) (fun hc_9 => ?_)
            · exact zk_ret ⟨by dsimp only; omega, by dsimp only; omega⟩
            · exact zk_ret ⟨by dsimp only; omega, by dsimp only; omega⟩
          · refine zk_ifc (zci_eqr (by omega)) (fun hc_10 => ?_) (fun hc_10 => ?_)
            · refine zk_ifc (zcl_le (by omega) (by omega)) (fun hc_11 => ?_) (fun hc_11 => ?_)
              · exact zk_ret ⟨by dsimp only; omega, by dsimp only; omega⟩
              · exact zk_ret ⟨by dsimp only; omega, by dsimp only; omega⟩
            · refine zk_ifc (zcl_ne (by omega) (by omega)) (fun hc_12 => ?_) (fun hc_12 => ?_)
              · exact zk_ret ⟨by dsimp only; omega, by dsimp only; omega⟩
              · exact zk_ret ⟨by dsimp only; omega, by dsimp only; omega⟩
theorem s_HM_reckonAll_10 (i_law : Int) (i_row i_set : Nat → Int) (L s e : Nat) (D : Nat → Nat) (hL : i_law = (L : Int)) (hL2 : L ≤ 4680) (he : e ≤ 400) (hD : ∀ k, s ≤ k → k ≤ e → D k ≤ 400) (hc : ∀ k, s ≤ k → k < e → zcs (fun j => i_row (L + j)) D e k) (hset : ∀ j, 1 ≤ j → j < 9 → -2147483648 ≤ i_set j ∧ i_set j ≤ 2147483647) : ∀ (n : Nat) (x2 x3 x4 i_broken i_value : Int) (i_rest : Nat → Int), x2 = (e : Int) → ((i_broken = 1 ∧ 1 ≤ n ∧ -1 ≤ x3 ∧ x3 ≤ 400 ∧ 0 ≤ x4 ∧ x4 ≤ 400) ∨ (i_broken = 0 ∧ ∃ k : Nat, x4 = (k : Int) ∧ s ≤ k ∧ k ≤ e ∧ x3 = (D k : Int) ∧ e + 2 ≤ n + k ∧ ∀ j, j < D k → -2147483648 ≤ i_rest j ∧ i_rest j ≤ 2147483649)) → zok (f_HM_reckonAll_10 i_law i_row i_set n x2 x3 x4 i_broken i_value i_rest) (fun o => (o.1 = 0 ∧ -2147483648 ≤ o.2.1 ∧ o.2.1 ≤ 2147483649) ∨ o.1 = 1) := by
  intro n
  induction n with
  | zero =>
    intro x2 x3 x4 i_broken i_value i_rest e2 h
    rcases h with ⟨_, h, _⟩ | ⟨_, k, _, _, _, _, _, _⟩ <;> (exfalso; omega)
  | succ n ih =>
    intro x2 x3 x4 i_broken i_value i_rest e2 h
    show zok (f_HM_reckonAll_10_b i_law i_row i_set (f_HM_reckonAll_10 i_law i_row i_set n) x2 x3 x4 i_broken i_value i_rest) _
    unfold f_HM_reckonAll_10_b
    rcases h with ⟨hb, hn, h3, h4, h5, h6⟩ | ⟨hb, k, hk, hsk, hke, hx3, hn, hr⟩
    · refine zk_ifc (zci_le (by omega) (by omega)) (fun hc => ?_) (fun hc => ?_)
      · unfold f_HM_reckonAll_245
        refine zk_ifc (zci_ler (by omega)) (fun hc_2 => ?_) (fun hc_2 => ?_)
        · exact zk_ret (Or.inr hb)
        · refine zk_gl 0 rfl (by decide) (by decide) (fun v1 h_v1 => ?_)
          exact zk_ret (Or.inr hb)
      · refine zk_ifc (zci_ner (by omega)) (fun hc_3 => ?_) (fun hc_3 => ?_)
        · unfold f_HM_reckonAll_245
          refine zk_ifc (zci_ler (by omega)) (fun hc_4 => ?_) (fun hc_4 => ?_)
          · exact zk_ret (Or.inr hb)
          · refine zk_gl 0 rfl (by decide) (by decide) (fun v1_2 h_v1_2 => ?_)
            exact zk_ret (Or.inr hb)
        · exfalso; omega
    · have hDk := hD k hsk hke
      refine zk_ifc (zci_le (by omega) (by omega)) (fun hq => ?_) (fun hq => ?_)
      · unfold f_HM_reckonAll_245
        refine zk_ifc (zci_ler (by omega)) (fun hc_2 => ?_) (fun hc_2 => ?_)
        · exact zk_ret (Or.inl ⟨hb, by dsimp only; omega, by dsimp only; omega⟩)
        · refine zk_gl 0 rfl (by decide) (by decide) (fun v1 h_v1 => ?_)
          have r0 := hr 0 (by omega)
          exact zk_ret (Or.inl ⟨hb, by dsimp only; omega, by dsimp only; omega⟩)
      · refine zk_ifc (zci_ner (by omega)) (fun hc_3 => ?_) (fun hc_3 => ?_)
        · exfalso; omega
        · have hz := hc k hsk (by omega)
          have hD1 := hD (k + 1) (by omega) (by omega)
          unfold zcs at hz
          dsimp only at hz
          refine zk_n ?_
          refine zk_n ?_
          refine zk_n ?_
          refine zk_gv (by omega) (by decide) (fun v4 h_v4 => ?_)
          rw [show (i_law + 98 + 2 * x4).toNat = L + (98 + 2 * k) from by omega] at h_v4
          refine zk_n ?_
          refine zk_n ?_
          refine zk_n ?_
          refine zk_n ?_
          refine zk_gv (by omega) (by decide) (fun v9 h_v9 => ?_)
          rw [show (i_law + 98 + 2 * x4 + 1).toNat = L + (99 + 2 * k) from by omega] at h_v9
          rw [← h_v4, ← h_v9] at hz
          refine zk_n ?_
          rcases hz with ⟨p1, p2, p3⟩ | ⟨p1, p2, p3, p4⟩ | ⟨p1, p2, p3⟩ | ⟨p1, p2, a, p3, p4, p5, p6⟩
          · refine zk_ifc (zci_le (by omega) (by omega)) (fun hc_5 => ?_) (fun hc_5 => ?_)
            · exfalso; omega
            · refine zk_ifc (zci_ner (by omega)) (fun hc_13 => ?_) (fun hc_13 => ?_)
              · refine zk_gv (by omega) (by decide) (fun v29 h_v29 => ?_)
                have r29 := hset v4.toNat (by omega) (by omega)
                unfold f_HM_reckonAll_96
                refine zk_sv (by omega) (by decide) (fun a1 h_a1 => ?_)
                refine zk_n ?_
                unfold f_HM_reckonAll_242
                refine ih _ _ _ _ _ _ e2 (Or.inr ⟨hb, k + 1, by omega, by omega, by omega, by omega, by omega, fun j hj => ?_⟩)
                have z1 := zu_rd h_a1 j
                have z2 := hr j
                omega
              · refine zk_nE (fun v30 h_v30 => ?_)
                have r30 := zi_r v9
                unfold f_HM_reckonAll_96
                refine zk_sv (by omega) (by decide) (fun a1_2 h_a1_2 => ?_)
                refine zk_n ?_
                unfold f_HM_reckonAll_242
                refine ih _ _ _ _ _ _ e2 (Or.inr ⟨hb, k + 1, by omega, by omega, by omega, by omega, by omega, fun j hj => ?_⟩)
                have z1 := zu_rd h_a1_2 j
                have z2 := hr j
                omega
          · refine zk_ifc (zci_le (by omega) (by omega)) (fun hc_5 => ?_) (fun hc_5 => ?_)
            · refine zk_ifc (zci_le (by omega) (by omega)) (fun hc_6 => ?_) (fun hc_6 => ?_)
              · exfalso; omega
              · refine zk_n ?_
                refine zk_n ?_
                refine zk_n ?_
                refine zk_gv (by omega) (by decide) (fun v21 h_v21 => ?_)
                refine zk_gv (by omega) (by decide) (fun v22 h_v22 => ?_)
                have r21 := hr (x3 + -1 - 1).toNat (by omega)
                have r22 := hr (x3 + -1).toNat (by omega)
                refine zk_d2 (s_HM_reckon _ _ _ _ (by omega) (by omega) (by omega) hb) (fun v23 v24 hp => ?_)
                dsimp only at hp
                obtain ⟨hp1, hp2⟩ := hp
                refine zk_sv (by omega) (by decide) (fun a25 h_a25 => ?_)
                refine zk_ifc (zci_ner (by omega)) (fun hc_11 => ?_) (fun hc_11 => ?_)
                · unfold f_HM_reckonAll_169
                  unfold f_HM_reckonAll_174
                  refine zk_gb (by omega) ?_
                  unfold f_HM_reckonAll_242
                  exact ih _ _ _ _ _ _ e2 (Or.inl ⟨rfl, by omega, by omega, by omega, by omega, by omega⟩)
                · refine zk_n ?_
                  refine zk_gv (by omega) (by decide) (fun v27 h_v27 => ?_)
                  have z_v27 := zu_rd h_a25 ((x3 + -1 - 1).toNat)
                  refine zk_d1 (s_HM_in _ _ _ (by omega) (by omega) (by omega)) (fun v28 hp_2 => ?_)
                  try dsimp only at hp_2
                  refine zk_ifc (zci_ner (by omega)) (fun hc_12 => ?_) (fun hc_12 => ?_)
                  · unfold f_HM_reckonAll_174
                    refine zk_gb (by omega) ?_
                    unfold f_HM_reckonAll_242
                    refine ih _ _ _ _ _ _ e2 (Or.inr ⟨rfl, k + 1, by omega, by omega, by omega, by omega, by omega, fun j hj => ?_⟩)
                    have z1 := zu_rd h_a25 j
                    have z2 := hr j
                    omega
                  · unfold f_HM_reckonAll_169
                    unfold f_HM_reckonAll_174
                    refine zk_gb (by omega) ?_
                    unfold f_HM_reckonAll_242
                    exact ih _ _ _ _ _ _ e2 (Or.inl ⟨rfl, by omega, by omega, by omega, by omega, by omega⟩)
            · exfalso; omega
          · refine zk_ifc (zci_le (by omega) (by omega)) (fun hc_5 => ?_) (fun hc_5 => ?_)
            · refine zk_ifc (zci_le (by omega) (by omega)) (fun hc_6 => ?_) (fun hc_6 => ?_)
              · refine zk_ifc (zci_ne (by omega) (by omega)) (fun hc_7 => ?_) (fun hc_7 => ?_)
                · exfalso; omega
                · refine zk_n ?_
                  refine zk_n ?_
                  refine zk_gv (by omega) (by decide) (fun v15 h_v15 => ?_)
                  have r15 := hr (x3 - 1).toNat (by omega)
                  refine zk_n ?_
                  refine zk_sv (by omega) (by decide) (fun a17 h_a17 => ?_)
                  unfold f_HM_reckonAll_242
                  refine ih _ _ _ _ _ _ e2 (Or.inr ⟨hb, k + 1, by omega, by omega, by omega, by omega, by omega, fun j hj => ?_⟩)
                  have z1 := zu_rd h_a17 j
                  have z2 := hr j
                  omega
              · exfalso; omega
            · exfalso; omega
          · have hD2 := hD a (by omega) (by omega)
            refine zk_ifc (zci_le (by omega) (by omega)) (fun hc_5 => ?_) (fun hc_5 => ?_)
            · refine zk_ifc (zci_le (by omega) (by omega)) (fun hc_6 => ?_) (fun hc_6 => ?_)
              · refine zk_ifc (zci_ne (by omega) (by omega)) (fun hc_7 => ?_) (fun hc_7 => ?_)
                · refine zk_n ?_
                  refine zk_gv (by omega) (by decide) (fun v12 h_v12 => ?_)
                  have r12 := hr (x3 - 1).toNat (by omega)
                  refine zk_ifc (zci_ne (by omega) (by omega)) (fun hc_8 => ?_) (fun hc_8 => ?_)
                  · unfold f_HM_reckonAll_228
                    refine zk_ifc (zcl_ne (by omega) (by omega)) (fun hc_9 => ?_) (fun hc_9 => ?_)
                    · refine zk_n ?_
                      unfold f_HM_reckonAll_242
                      exact ih _ _ _ _ _ _ e2 (Or.inr ⟨hb, k + 1, by omega, by omega, by omega, by omega, by omega, fun j hj => hr j (by omega)⟩)
                    · unfold f_HM_reckonAll_242
                      exact ih _ _ _ _ _ _ e2 (Or.inr ⟨hb, a, by omega, by omega, by omega, by omega, by omega, fun j hj => hr j (by omega)⟩)
                  · unfold f_HM_reckonAll_228
                    refine zk_ifc (zcl_ne (by omega) (by omega)) (fun hc_10 => ?_) (fun hc_10 => ?_)
                    · refine zk_n ?_
                      unfold f_HM_reckonAll_242
                      exact ih _ _ _ _ _ _ e2 (Or.inr ⟨hb, k + 1, by omega, by omega, by omega, by omega, by omega, fun j hj => hr j (by omega)⟩)
                    · unfold f_HM_reckonAll_242
                      exact ih _ _ _ _ _ _ e2 (Or.inr ⟨hb, a, by omega, by omega, by omega, by omega, by omega, fun j hj => hr j (by omega)⟩)
                · exfalso; omega
              · exfalso; omega
            · exfalso; omega
theorem s_HM_reckonAll (x1 x2 : Int) (i_law : Int) (i_row i_set : Nat → Int) (i_broken i_value : Int) (i_rest : Nat → Int) (L s e : Nat) (hL : i_law = (L : Int)) (hL2 : L ≤ 4680) (h1 : x1 = (s : Int)) (h2 : x2 = (e : Int)) (hw : CWF (fun j => i_row (L + j)) s e) (hset : ∀ j, 1 ≤ j → j < 9 → -2147483648 ≤ i_set j ∧ i_set j ≤ 2147483647) : zok (f_HM_reckonAll x1 x2 i_law i_row i_set i_broken i_value i_rest) (fun o => (o.1 = 0 ∧ -2147483648 ≤ o.2.1 ∧ o.2.1 ≤ 2147483649) ∨ o.1 = 1) := by
  obtain ⟨w1, w2, D, d0, d1, d2⟩ := hw
  unfold f_HM_reckonAll
  exact s_HM_reckonAll_10 i_law i_row i_set L s e D hL hL2 w2 d1 d2 hset zfu _ _ _ _ _ _ h2 (Or.inr ⟨rfl, s, h1, Nat.le_refl _, w1, by rw [d0]; rfl, by unfold zfu; omega, fun j hj => absurd hj (by omega)⟩)
theorem s_HM_isSo (x1 : Int) (i_law : Int) (i_row i_set : Nat → Int) (i_broken i_value i_sum : Int) (i_rest : Nat → Int) (L c : Nat) (hL : i_law = (L : Int)) (hL2 : L ≤ 4680) (hc : c < 12) (h1 : x1 = (L : Int) + 2 + 8 * (c : Int)) (hw : ∃ s1 e1 s2 e2 : Nat, (i_row (L + (2 + 8 * c)) = 0 ∨ i_row (L + (2 + 8 * c)) = 1) ∧ i_row (L + (5 + 8 * c)) = (s1 : Int) ∧ i_row (L + (6 + 8 * c)) = (e1 : Int) ∧ i_row (L + (7 + 8 * c)) = (s2 : Int) ∧ i_row (L + (8 + 8 * c)) = (e2 : Int) ∧ CWF (fun j => i_row (L + j)) s1 e1 ∧ CWF (fun j => i_row (L + j)) s2 e2) (hset : ∀ j, 1 ≤ j → j < 9 → -2147483648 ≤ i_set j ∧ i_set j ≤ 2147483647) : zok (f_HM_isSo x1 i_law i_row i_set i_broken i_value i_sum i_rest) (fun o => o.1 = 0 ∨ (o.1 = 1 ∧ (i_row (L + (2 + 8 * c)) = 1 ∨ (-2147483648 ≤ o.2.2.2.1 ∧ o.2.2.2.1 ≤ 2147483649)))) := by
  obtain ⟨s1, e1, s2, e2, q0, q1, q2, q3, q4, c1, c2⟩ := hw
  have k1 := c1.1
  have k2 := c1.2.1
  have k3 := c2.1
  have k4 := c2.2.1
  unfold f_HM_isSo
  refine zk_n ?_
  refine zk_gv (by omega) (by decide) (fun v2 h_v2 => ?_)
  rw [show (x1 + 5).toNat = L + (7 + 8 * c) from by omega] at h_v2
  refine zk_n ?_
  refine zk_gv (by omega) (by decide) (fun v4 h_v4 => ?_)
  rw [show (x1 + 6).toNat = L + (8 + 8 * c) from by omega] at h_v4
  have tail : ∀ (b v : Int) (r : Nat → Int), zok (f_HM_isSo_59 i_law i_row i_set x1 b v i_sum r) (fun o => o.1 = 0 ∨ (o.1 = 1 ∧ (i_row (L + (2 + 8 * c)) = 1 ∨ (-2147483648 ≤ o.2.2.2.1 ∧ o.2.2.2.1 ≤ 2147483649)))) := by
    intro b v r
    unfold f_HM_isSo_59
    refine zk_gv (by omega) (by decide) (fun v1_2 h_v1_2 => ?_)
    rw [show x1.toNat = L + (2 + 8 * c) from by omega] at h_v1_2
    refine zk_ifc (zci_ner (by omega)) (fun hc_2 => ?_) (fun hc_2 => ?_)
    · exact zk_ret (Or.inr ⟨rfl, Or.inl (by omega)⟩)
    · refine zk_n ?_
      refine zk_gv (by omega) (by decide) (fun v3_2 h_v3_2 => ?_)
      rw [show (x1 + 3).toNat = L + (5 + 8 * c) from by omega] at h_v3_2
      refine zk_n ?_
      refine zk_gv (by omega) (by decide) (fun v5 h_v5 => ?_)
      rw [show (x1 + 4).toNat = L + (6 + 8 * c) from by omega] at h_v5
      refine zk_d3 (s_HM_reckonAll _ _ _ _ _ _ _ _ L s1 e1 hL hL2 (by omega) (by omega) c1 hset) (fun v6 v7 a8 hp => ?_)
      dsimp only at hp
      refine zk_ifc (zci_ner (by omega)) (fun hc_3 => ?_) (fun hc_3 => ?_)
      · exact zk_ret (Or.inl rfl)
      · exact zk_ret (Or.inr ⟨rfl, Or.inr (by dsimp only; omega)⟩)
  refine zk_ifc (zci_le (by omega) (by omega)) (fun hc => ?_) (fun hc => ?_)
  · exact tail _ _ _
  · refine zk_n ?_
    refine zk_gv (by omega) (by decide) (fun v6_2 h_v6_2 => ?_)
    rw [show (x1 + 5).toNat = L + (7 + 8 * c) from by omega] at h_v6_2
    refine zk_n ?_
    refine zk_gv (by omega) (by decide) (fun v8 h_v8 => ?_)
    rw [show (x1 + 6).toNat = L + (8 + 8 * c) from by omega] at h_v8
    refine zk_d3 (s_HM_reckonAll _ _ _ _ _ _ _ _ L s2 e2 hL hL2 (by omega) (by omega) c2 hset) (fun v9 v10 a11 hp_2 => ?_)
    dsimp only at hp_2
    refine zk_ifc (zci_ner (by omega)) (fun hc_4 => ?_) (fun hc_4 => ?_)
    · exact zk_ret (Or.inl rfl)
    · refine zk_ifc (zcl_ne (by omega) (by omega)) (fun hc_5 => ?_) (fun hc_5 => ?_)
      · exact tail _ _ _
      · exact zk_ret (Or.inl rfl)
theorem s_HM_tiring_239 (i_row : Nat → Int) (x8 i_law i_broken i_value i_sum : Int) (i_set i_rest : Nat → Int) (h : -2147483648 ≤ x8 ∧ x8 ≤ 2147483649) : zok (f_HM_tiring_239 i_row x8 i_law i_broken i_value i_sum i_set i_rest) (fun o => 0 ≤ o.1 ∧ o.1 ≤ 99) := by
  unfold f_HM_tiring_239
  refine zk_ifc (zcl_le (by omega) (by omega)) (fun hc_2 => ?_) (fun hc_2 => ?_)
  · refine zk_ifc (zcl_le (by omega) (by omega)) (fun hc_3 => ?_) (fun hc_3 => ?_)
    · exact zk_ret ⟨by dsimp only; omega, by dsimp only; omega⟩
    · exact zk_ret ⟨by dsimp only; omega, by dsimp only; omega⟩
  · exact zk_ret ⟨by dsimp only; omega, by dsimp only; omega⟩
theorem s_HM_tiring_175 (i_row : Nat → Int) (L : Nat) (hL2 : L ≤ 4680) (hw : LWF (fun j => i_row (L + j))) : ∀ (n : Nat) (x8 x10 i_law i_broken i_value i_sum : Int) (i_set i_rest : Nat → Int), i_law = (L : Int) → (-2147483648 ≤ x8 ∧ x8 ≤ 2147483649) → (0 ≤ x10 ∧ x10 ≤ 12) → (∀ j, 1 ≤ j → j < 9 → -2147483648 ≤ i_set j ∧ i_set j ≤ 2147483647) → 13 - x10 < (n : Int) → zok (f_HM_tiring_175 i_row n x8 x10 i_law i_broken i_value i_sum i_set i_rest) (fun o => -1 ≤ o.1 ∧ o.1 ≤ 99) := by
  obtain ⟨w1, w2, w3⟩ := hw
  dsimp only at w1 w2 w3
  intro n
  induction n with
  | zero => intro x8 x10 i_law i_broken i_value i_sum i_set i_rest hL h8 h10 hs hm; exfalso; omega
  | succ n ih =>
    intro x8 x10 i_law i_broken i_value i_sum i_set i_rest hL h8 h10 hs hm
    show zok (f_HM_tiring_175_b i_row (f_HM_tiring_175 i_row n) x8 x10 i_law i_broken i_value i_sum i_set i_rest) _
    unfold f_HM_tiring_175_b
    refine zk_n ?_
    refine zk_gv (by omega) (by decide) (fun v2 h_v2 => ?_)
    rw [show (i_law + 1).toNat = L + 1 from by omega] at h_v2
    refine zk_ifc (zci_le (by omega) (by omega)) (fun hc => ?_) (fun hc => ?_)
    · exact zok_mono (s_HM_tiring_239 _ _ _ _ _ _ _ _ h8) (fun o ho => by omega)
    · refine zk_n ?_
      refine zk_n ?_
      refine zk_n ?_
      have hw3 := w3 x10.toNat (by omega)
      refine zk_d5 (s_HM_isSo _ _ _ _ _ _ _ _ L x10.toNat hL hL2 (by omega) (by omega) hw3 hs) (fun v6 v7 v8 v9 a10 hp => ?_)
      dsimp only at hp
      refine zk_ifc (zci_eqr (by omega)) (fun hc_4 => ?_) (fun hc_4 => ?_)
      · unfold f_HM_tiring_233
        refine zk_n ?_
        exact ih _ _ _ _ _ _ _ _ hL h8 (by omega) hs (by omega)
      · obtain ⟨s1, e1, s2, e2, q0, q1, q2, q3, q4, c1, c2⟩ := hw3
        refine zk_gv (by omega) (by decide) (fun v11 h_v11 => ?_)
        rw [show (i_law + 2 + 8 * x10).toNat = L + (2 + 8 * x10.toNat) from by omega] at h_v11
        refine zk_ifc (zci_ne (by omega) (by omega)) (fun hc_5 => ?_) (fun hc_5 => ?_)
        · unfold f_HM_tiring_233
          refine zk_n ?_
          exact ih _ _ _ _ _ _ _ _ hL (by omega) (by omega) hs (by omega)
        · exact zk_ret ⟨by dsimp only; omega, by dsimp only; omega⟩
theorem s_HM_tiring (x1 : Int) (x2 : Int) (x3 : Int) (x4 : Int) (x5 : Int) (x6 : Int) (i_row : Nat → Int) (i_law : Int) (i_broken : Int) (i_value : Int) (i_sum : Int) (i_set : Nat → Int) (i_rest : Nat → Int) (b_x1 : 0 ≤ x1 ∧ x1 ≤ 5) (b_x2 : (-2147483648) ≤ x2 ∧ x2 ≤ 2147483647) (b_x3 : 0 ≤ x3 ∧ x3 ≤ 11) (b_x4 : 0 ≤ x4 ∧ x4 ≤ 11) (b_x5 : (-2147483648) ≤ x5 ∧ x5 ≤ 2147483647) (b_x6 : (-2147483648) ≤ x6 ∧ x6 ≤ 2147483647) (h_i_row : RI i_row) : zok (f_HM_tiring x1 x2 x3 x4 x5 x6 i_row i_law i_broken i_value i_sum i_set i_rest) (fun o => (o.1 = -1 ∨ (0 ≤ o.1 ∧ o.1 ≤ 99 ∧ x5 ≠ 0 ∧ x6 ≤ 9 ∧ x3 ≠ x4))) := by
  unfold f_HM_tiring
  have q4 := RI_4 h_i_row
  have q3 := RI_3 h_i_row
  have q5 := RI_5 h_i_row
  refine zk_n ?_
  refine zk_n ?_
  refine zk_gv (by omega) (by decide) (fun v3 h_v3 => ?_)
  have r_v3 := RI_c h_i_row (i := 153 + 3 * x1) (by omega)
  refine zk_ifc (zci_eqr (by omega)) (fun hc => ?_) (fun hc => ?_)
  · exact zk_ret (Or.inl rfl)
  refine zk_ifc (zci_lt (by omega) (by omega)) (fun hc_2 => ?_) (fun hc_2 => ?_)
  · exact zk_ret (Or.inl rfl)
  refine zk_ifc (zci_eq (by omega) (by omega)) (fun hc_3 => ?_) (fun hc_3 => ?_)
  · exact zk_ret (Or.inl rfl)
  refine zk_n ?_
  refine zk_n ?_
  refine zk_n ?_
  refine zk_gv (by omega) (by decide) (fun v7 h_v7 => ?_)
  have r_v7 := RI_c h_i_row (i := 153 + 3 * x1 + 1) (by omega)
  refine zk_ifc (zci_eq (by omega) (by omega)) (fun hc_4 => ?_) (fun hc_4 => ?_)
  · exact zk_ret (Or.inl rfl)
  refine zk_ifc (zci_le (by omega) (by omega)) (fun hc_5 => ?_) (fun hc_5 => ?_)
  rotate_left
  · exact zk_ret (Or.inl rfl)
  refine zk_n ?_
  refine zk_d1 (s_HM_size _ (by omega)) (fun v9 hp => ?_)
  try dsimp only at hp
  refine zk_nE (fun v10 h_v10 => ?_)
  rw [zwi (by omega)] at h_v10
  refine zk_gl 4 rfl (by decide) (by decide) (fun v11 h_v11 => ?_)
  refine zk_ifc (zci_eq (by omega) (by omega)) (fun hc_6 => ?_) (fun hc_6 => ?_)
  · exact zok_mono (s_HM_tiring_239 _ _ _ _ _ _ _ _ (by omega)) (fun o ho => Or.inr ⟨ho.1, ho.2, hc, by omega, hc_3⟩)
  refine zk_gl 4 rfl (by decide) (by decide) (fun v12 h_v12 => ?_)
  refine zk_n ?_
  refine zk_n ?_
  refine zk_nE (fun v15 h_v15 => ?_)
  have r_v15 := zi_r x1
  rw [← h_v15] at r_v15
  refine zk_sl 1 rfl (by decide) (by decide) (fun a1 h_a1 => ?_)
  refine zk_nE (fun v17 h_v17 => ?_)
  have r_v17 := zi_r v3
  rw [← h_v17] at r_v17
  refine zk_sl 2 rfl (by decide) (by decide) (fun a2 h_a2 => ?_)
  refine zk_nE (fun v19 h_v19 => ?_)
  have r_v19 := zi_r x2
  rw [← h_v19] at r_v19
  refine zk_sl 3 rfl (by decide) (by decide) (fun a3 h_a3 => ?_)
  refine zk_nE (fun v21 h_v21 => ?_)
  have r_v21 := zi_r x3
  rw [← h_v21] at r_v21
  refine zk_sl 4 rfl (by decide) (by decide) (fun a4 h_a4 => ?_)
  refine zk_nE (fun v23 h_v23 => ?_)
  have r_v23 := zi_r x4
  rw [← h_v23] at r_v23
  refine zk_sl 5 rfl (by decide) (by decide) (fun a5 h_a5 => ?_)
  refine zk_nE (fun v25 h_v25 => ?_)
  have r_v25 := zi_r x5
  rw [← h_v25] at r_v25
  refine zk_sl 6 rfl (by decide) (by decide) (fun a6 h_a6 => ?_)
  refine zk_nE (fun v27 h_v27 => ?_)
  have r_v27 := zi_r x6
  rw [← h_v27] at r_v27
  refine zk_sl 7 rfl (by decide) (by decide) (fun a7 h_a7 => ?_)
  refine zk_gl 5 rfl (by decide) (by decide) (fun v29 h_v29 => ?_)
  refine zk_nE (fun v30 h_v30 => ?_)
  have r_v30 := zi_r v29
  rw [← h_v30] at r_v30
  refine zk_sl 8 rfl (by decide) (by decide) (fun a8 h_a8 => ?_)
  have hw := h_i_row.2.2 (i_row 4).toNat (by omega)
  refine zok_mono (s_HM_tiring_175 i_row (180 + 900 * (i_row 4).toNat) (by omega) hw zfu _ _ _ _ _ _ _ _ (by omega) (by omega) (by omega) ?_ (by unfold zfu; omega)) (fun o ho => ?_)
  · intro j j1 j2
    have e1 := zu_rd h_a1 j
    have e2 := zu_rd h_a2 j
    have e3 := zu_rd h_a3 j
    have e4 := zu_rd h_a4 j
    have e5 := zu_rd h_a5 j
    have e6 := zu_rd h_a6 j
    have e7 := zu_rd h_a7 j
    have e8 := zu_rd h_a8 j
    omega
  · rcases Int.lt_or_le o.1 0 with h0 | h0
    · exact Or.inl (by omega)
    · exact Or.inr ⟨h0, ho.2, hc, by omega, hc_3⟩
