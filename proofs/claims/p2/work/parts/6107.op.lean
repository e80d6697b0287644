section
noncomputable def f_OP_28 (N : Int) (a1 : Int) (a2 : Int) (s3 : Int) (s4 : Int) (s5 : Int) (s26 : Int) (s27 : Int) (s30 : Int) (s49 : Int) (t2 : Nat → Int) (t3 : Nat → Int) (t4 : Nat → Int) (t34 : Nat → Int) (t35 : Nat → Int) (t36 : Nat → Int) (t37 : Nat → Int) (t38 : Nat → Int) (t39 : Nat → Int) : Option (Int × Int × Int × Int × Int × Int × (Nat → Int) × (Nat → Int) × (Nat → Int) × (Nat → Int)) :=
  zd5 (f_HS_trips a1 a2 s26 s3 s30 t2 t36) fun v541 v542 v543 a544 a545 =>
  zd5 (f_HM_trips a1 a2 s4 s5 t3 t4) fun v550 v551 v552 a553 a554 =>
  some (v541, v550, v542, v551, v552, v543, a544, a553, a554, a545)
set_option maxHeartbeats 4000000 in
theorem s_OP_28 (N : Int) (a1 : Int) (a2 : Int) (s3 : Int) (s4 : Int) (s5 : Int) (s26 : Int) (s27 : Int) (s30 : Int) (s49 : Int) (t2 : Nat → Int) (t3 : Nat → Int) (t4 : Nat → Int) (t34 : Nat → Int) (t35 : Nat → Int) (t36 : Nat → Int) (t37 : Nat → Int) (t38 : Nat → Int) (t39 : Nat → Int) (b_a1 : (-2147483648) ≤ a1 ∧ a1 ≤ 2147483647) (b_a2 : (-2147483648) ≤ a2 ∧ a2 ≤ 2147483647) (b_s3 : (-6) ≤ s3 ∧ s3 ≤ 0) (b_s26 : 0 ≤ s26 ∧ s26 ≤ 6) (b_s27 : 0 ≤ s27 ∧ s27 ≤ 6) (b_s49 : 0 ≤ s49 ∧ s49 ≤ 12) (h_t4 : RI t4) (h_t34 : zR t34 0 60) (h_t35 : zR t35 0 1) (h_t36 : zR t36 0 20) (h_t37 : zR t37 0 11) (h_t38 : zR t38 0 99) (h_t39 : zR t39 (-1) 10) (I_s30 : 0 ≤ s30 ∧ s30 ≤ N) (R_many : s49 = t4 0) (R_ch : s26 = t4 1) (R_pa : s27 = t4 2) (R_st : RV 3 153 s26 t34 t4) (R_ex : RV 3 154 s26 t35 t4) (R_tr : RV 3 155 s26 t36 t4) (R_pl : RV 1 171 s27 t37 t4) (R_te : RV 1 5 4 t38 t4) (R_go : RV 1 141 s49 t39 t4) : zok (f_OP_28 N a1 a2 s3 s4 s5 s26 s27 s30 s49 t2 t3 t4 t34 t35 t36 t37 t38 t39) (fun o => (o.1 = o.2.1) ∧ ((-6) ≤ o.2.2.1 ∧ o.2.2.1 ≤ 0) ∧ (0 ≤ o.2.2.2.2.2.1 ∧ o.2.2.2.2.2.1 ≤ N + 6) ∧ zR o.2.2.2.2.2.2.2.2.2 0 20 ∧ RI o.2.2.2.2.2.2.2.2.1 ∧ (s49 = o.2.2.2.2.2.2.2.2.1 0) ∧ (s26 = o.2.2.2.2.2.2.2.2.1 1) ∧ (s27 = o.2.2.2.2.2.2.2.2.1 2) ∧ (RV 3 153 s26 t34 o.2.2.2.2.2.2.2.2.1) ∧ (RV 3 154 s26 t35 o.2.2.2.2.2.2.2.2.1) ∧ (RV 3 155 s26 o.2.2.2.2.2.2.2.2.2 o.2.2.2.2.2.2.2.2.1) ∧ (RV 1 171 s27 t37 o.2.2.2.2.2.2.2.2.1) ∧ (RV 1 5 4 t38 o.2.2.2.2.2.2.2.2.1) ∧ (RV 1 141 s49 t39 o.2.2.2.2.2.2.2.2.1)) := by
  unfold f_OP_28
  have q_tr : (a1 < 0 ∨ s26 ≤ a1) ∨ t36 a1.toNat = t4 (153 + 3 * a1 + 2).toNat := by
    by_cases h : a1 < 0 ∨ s26 ≤ a1
    · exact Or.inl h
    · exact Or.inr (RV_at R_tr (by omega) (by omega) (by omega))
  refine zk_dI5 ?_
  unfold f_HS_trips
  refine zk_ifc (zci_ltr (by omega)) (fun hc => ?_) (fun hc => ?_)
  · first
    | (exfalso; omega)
    | (skip
       unfold f_HS_trips_10
       refine zk_dI3 ?_
       unfold f_HS_refuse
       refine zk_nE (fun v1 h_v1 => ?_)
       refine zk_gv (by omega) (by decide) (fun v2 h_v2 => ?_)
       refine zk_n ?_
       refine zk_sv (by omega) (by decide) (fun a4 h_a4 => ?_)
       refine zk_rI3 ?_
       refine zk_rI5 ?_
       refine zk_dI5 ?_
       unfold f_HM_trips
       refine zk_nE (fun v1_2 h_v1_2 => ?_)
       rw [zwi (by omega)] at h_v1_2
       replace h_v1_2 := h_v1_2.symm
       subst h_v1_2
       refine zk_d1 (s_HM_in _ _ _ (by omega) (by omega) (by omega)) (fun v2_2 hp => ?_)
       try dsimp only at hp
       have hpp0 := hp
       refine zk_ifc (zci_ner (by omega)) (fun hc_2 => ?_) (fun hc_2 => ?_)
       · first
         | (exfalso; omega)
         | (skip
            refine zk_d1 (s_HM_isChild _ _ (by omega) h_t4) (fun v3_2 hp_2 => ?_)
            try dsimp only at hp_2
            obtain ⟨hp_2p0, hp_2p1⟩ := hp_2
            refine zk_ifc (zci_eqr (by omega)) (fun hc_3 => ?_) (fun hc_3 => ?_)
            · first
              | (exfalso; omega)
              | (skip
                 refine zk_d3 (s_HM_tell _ _ _ (by omega)) (fun v4 v5 a6 hp_3 => ?_)
                 try dsimp only at hp_3
                 obtain ⟨hp_3p0, hp_3p1⟩ := hp_3
                 refine zk_rI5 ?_
                 refine zk_ret ?_
                 try dsimp only
                 exact ⟨by omega, by omega, by omega, h_t36, h_t4, by first | omega | (simp only [h_a4, zu, ↓reduceIte]; (repeat' split) <;> omega), by first | omega | (simp only [h_a4, zu, ↓reduceIte]; (repeat' split) <;> omega), by first | omega | (simp only [h_a4, zu, ↓reduceIte]; (repeat' split) <;> omega), by (intro c hc; first | (have q := fun h => R_st c h; simp only [h_a4, zu, ↓reduceIte]; (repeat' split) <;> first | omega | (exact q (by omega))) | exact R_st c hc), by (intro c hc; first | (have q := fun h => R_ex c h; simp only [h_a4, zu, ↓reduceIte]; (repeat' split) <;> first | omega | (exact q (by omega))) | exact R_ex c hc), by (intro c hc; first | (have q := fun h => R_tr c h; simp only [h_a4, zu, ↓reduceIte]; (repeat' split) <;> first | omega | (exact q (by omega))) | exact R_tr c hc), by (intro c hc; first | (have q := fun h => R_pl c h; simp only [h_a4, zu, ↓reduceIte]; (repeat' split) <;> first | omega | (exact q (by omega))) | exact R_pl c hc), by (intro c hc; first | (have q := fun h => R_te c h; simp only [h_a4, zu, ↓reduceIte]; (repeat' split) <;> first | omega | (exact q (by omega))) | exact R_te c hc), by (intro c hc; first | (have q := fun h => R_go c h; simp only [h_a4, zu, ↓reduceIte]; (repeat' split) <;> first | omega | (exact q (by omega))) | exact R_go c hc)⟩)
            · first
              | (exfalso; omega)
              | (skip
                 refine zk_n ?_
                 refine zk_n ?_
                 refine zk_n ?_
                 refine zk_d3 (s_HM_change _ _ _ _ (by omega)) (fun v10 v11 a12 hp_4 => ?_)
                 try dsimp only at hp_4
                 obtain ⟨hp_4p0, hp_4p1, hp_4p2⟩ := hp_4
                 have i_a12 : RI a12 := by rw [hp_4p2]; exact RIz_c h_t4 (by omega) (by omega)
                 refine zk_rI5 ?_
                 refine zk_ret ?_
                 try dsimp only
                 exact ⟨by omega, by omega, by omega, h_t36, i_a12, by first | omega | (simp only [hp_4p2, h_a4, zu, ↓reduceIte]; (repeat' split) <;> omega), by first | omega | (simp only [hp_4p2, h_a4, zu, ↓reduceIte]; (repeat' split) <;> omega), by first | omega | (simp only [hp_4p2, h_a4, zu, ↓reduceIte]; (repeat' split) <;> omega), by (intro c hc; first | (have q := fun h => R_st c h; simp only [hp_4p2, h_a4, zu, ↓reduceIte]; (repeat' split) <;> first | omega | (exact q (by omega))) | exact R_st c hc), by (intro c hc; first | (have q := fun h => R_ex c h; simp only [hp_4p2, h_a4, zu, ↓reduceIte]; (repeat' split) <;> first | omega | (exact q (by omega))) | exact R_ex c hc), by (intro c hc; first | (have q := fun h => R_tr c h; simp only [hp_4p2, h_a4, zu, ↓reduceIte]; (repeat' split) <;> first | omega | (exact q (by omega))) | exact R_tr c hc), by (intro c hc; first | (have q := fun h => R_pl c h; simp only [hp_4p2, h_a4, zu, ↓reduceIte]; (repeat' split) <;> first | omega | (exact q (by omega))) | exact R_pl c hc), by (intro c hc; first | (have q := fun h => R_te c h; simp only [hp_4p2, h_a4, zu, ↓reduceIte]; (repeat' split) <;> first | omega | (exact q (by omega))) | exact R_te c hc), by (intro c hc; first | (have q := fun h => R_go c h; simp only [hp_4p2, h_a4, zu, ↓reduceIte]; (repeat' split) <;> first | omega | (exact q (by omega))) | exact R_go c hc)⟩))
       · first
         | (exfalso; omega)
         | (skip
            refine zk_d3 (s_HM_tell _ _ _ (by omega)) (fun v13 v14 a15 hp_5 => ?_)
            try dsimp only at hp_5
            obtain ⟨hp_5p0, hp_5p1⟩ := hp_5
            refine zk_rI5 ?_
            refine zk_ret ?_
            try dsimp only
            exact ⟨by omega, by omega, by omega, h_t36, h_t4, by first | omega | (simp only [h_a4, zu, ↓reduceIte]; (repeat' split) <;> omega), by first | omega | (simp only [h_a4, zu, ↓reduceIte]; (repeat' split) <;> omega), by first | omega | (simp only [h_a4, zu, ↓reduceIte]; (repeat' split) <;> omega), by (intro c hc; first | (have q := fun h => R_st c h; simp only [h_a4, zu, ↓reduceIte]; (repeat' split) <;> first | omega | (exact q (by omega))) | exact R_st c hc), by (intro c hc; first | (have q := fun h => R_ex c h; simp only [h_a4, zu, ↓reduceIte]; (repeat' split) <;> first | omega | (exact q (by omega))) | exact R_ex c hc), by (intro c hc; first | (have q := fun h => R_tr c h; simp only [h_a4, zu, ↓reduceIte]; (repeat' split) <;> first | omega | (exact q (by omega))) | exact R_tr c hc), by (intro c hc; first | (have q := fun h => R_pl c h; simp only [h_a4, zu, ↓reduceIte]; (repeat' split) <;> first | omega | (exact q (by omega))) | exact R_pl c hc), by (intro c hc; first | (have q := fun h => R_te c h; simp only [h_a4, zu, ↓reduceIte]; (repeat' split) <;> first | omega | (exact q (by omega))) | exact R_te c hc), by (intro c hc; first | (have q := fun h => R_go c h; simp only [h_a4, zu, ↓reduceIte]; (repeat' split) <;> first | omega | (exact q (by omega))) | exact R_go c hc)⟩))
  · first
    | (exfalso; omega)
    | (skip
       refine zk_ifc (zci_le (by omega) (by omega)) (fun hc_4 => ?_) (fun hc_4 => ?_)
       · first
         | (exfalso; omega)
         | (skip
            refine zk_d1 (s_Hill_hasChild _ _ (by omega) (by omega)) (fun v1_3 hp_6 => ?_)
            try dsimp only at hp_6
            obtain ⟨hp_6p0, hp_6p1⟩ := hp_6
            refine zk_ifc (zci_ner (by omega)) (fun hc_5 => ?_) (fun hc_5 => ?_)
            · first
              | (exfalso; omega)
              | (skip
                 refine zk_gv (by omega) (by decide) (fun v2_3 h_v2_3 => ?_)
                 have r_v2_3 := h_t36 (a1.toNat)
                 refine zk_sv (by omega) (by decide) (fun a3 h_a3 => ?_)
                 have i_a3 : zR a3 0 20 := by rw [h_a3]; exact zR_zu h_t36 (by decide) (by decide) (by omega)
                 refine zk_dI3 ?_
                 unfold f_HS_accept
                 refine zk_n ?_
                 refine zk_rI3 ?_
                 refine zk_rI5 ?_
                 refine zk_dI5 ?_
                 unfold f_HM_trips
                 refine zk_nE (fun v1_5 h_v1_5 => ?_)
                 rw [zwi (by omega)] at h_v1_5
                 replace h_v1_5 := h_v1_5.symm
                 subst h_v1_5
                 refine zk_d1 (s_HM_in _ _ _ (by omega) (by omega) (by omega)) (fun v2_4 hp_7 => ?_)
                 try dsimp only at hp_7
                 have hp_7p0 := hp_7
                 refine zk_ifc (zci_ner (by omega)) (fun hc_6 => ?_) (fun hc_6 => ?_)
                 · first
                   | (exfalso; omega)
                   | (skip
                      refine zk_d1 (s_HM_isChild _ _ (by omega) h_t4) (fun v3_3 hp_8 => ?_)
                      try dsimp only at hp_8
                      obtain ⟨hp_8p0, hp_8p1⟩ := hp_8
                      refine zk_ifc (zci_eqr (by omega)) (fun hc_7 => ?_) (fun hc_7 => ?_)
                      · first
                        | (exfalso; omega)
                        | (skip
                           refine zk_d3 (s_HM_tell _ _ _ (by omega)) (fun v4_2 v5_2 a6_2 hp_9 => ?_)
                           try dsimp only at hp_9
                           obtain ⟨hp_9p0, hp_9p1⟩ := hp_9
                           refine zk_rI5 ?_
                           refine zk_ret ?_
                           try dsimp only
                           exact ⟨by omega, by omega, by omega, i_a3, h_t4, by first | omega | (simp only [h_a3, zu, ↓reduceIte]; (repeat' split) <;> omega), by first | omega | (simp only [h_a3, zu, ↓reduceIte]; (repeat' split) <;> omega), by first | omega | (simp only [h_a3, zu, ↓reduceIte]; (repeat' split) <;> omega), by (intro c hc; first | (have q := fun h => R_st c h; simp only [h_a3, zu, ↓reduceIte]; (repeat' split) <;> first | omega | (exact q (by omega))) | exact R_st c hc), by (intro c hc; first | (have q := fun h => R_ex c h; simp only [h_a3, zu, ↓reduceIte]; (repeat' split) <;> first | omega | (exact q (by omega))) | exact R_ex c hc), by (intro c hc; first | (have q := fun h => R_tr c h; simp only [h_a3, zu, ↓reduceIte]; (repeat' split) <;> first | omega | (exact q (by omega))) | exact R_tr c hc), by (intro c hc; first | (have q := fun h => R_pl c h; simp only [h_a3, zu, ↓reduceIte]; (repeat' split) <;> first | omega | (exact q (by omega))) | exact R_pl c hc), by (intro c hc; first | (have q := fun h => R_te c h; simp only [h_a3, zu, ↓reduceIte]; (repeat' split) <;> first | omega | (exact q (by omega))) | exact R_te c hc), by (intro c hc; first | (have q := fun h => R_go c h; simp only [h_a3, zu, ↓reduceIte]; (repeat' split) <;> first | omega | (exact q (by omega))) | exact R_go c hc)⟩)
                      · first
                        | (exfalso; omega)
                        | (skip
                           refine zk_n ?_
                           refine zk_n ?_
                           refine zk_n ?_
                           refine zk_d3 (s_HM_change _ _ _ _ (by omega)) (fun v10_2 v11_2 a12_2 hp_10 => ?_)
                           try dsimp only at hp_10
                           obtain ⟨hp_10p0, hp_10p1, hp_10p2⟩ := hp_10
                           have i_a12_2 : RI a12_2 := by rw [hp_10p2]; exact RIz_c h_t4 (by omega) (by omega)
                           refine zk_rI5 ?_
                           refine zk_ret ?_
                           try dsimp only
                           exact ⟨by omega, by omega, by omega, i_a3, i_a12_2, by first | omega | (simp only [hp_10p2, h_a3, zu, ↓reduceIte]; (repeat' split) <;> omega), by first | omega | (simp only [hp_10p2, h_a3, zu, ↓reduceIte]; (repeat' split) <;> omega), by first | omega | (simp only [hp_10p2, h_a3, zu, ↓reduceIte]; (repeat' split) <;> omega), by (intro c hc; first | (have q := fun h => R_st c h; simp only [hp_10p2, h_a3, zu, ↓reduceIte]; (repeat' split) <;> first | omega | (exact q (by omega))) | exact R_st c hc), by (intro c hc; first | (have q := fun h => R_ex c h; simp only [hp_10p2, h_a3, zu, ↓reduceIte]; (repeat' split) <;> first | omega | (exact q (by omega))) | exact R_ex c hc), by (intro c hc; first | (have q := fun h => R_tr c h; simp only [hp_10p2, h_a3, zu, ↓reduceIte]; (repeat' split) <;> first | omega | (exact q (by omega))) | exact R_tr c hc), by (intro c hc; first | (have q := fun h => R_pl c h; simp only [hp_10p2, h_a3, zu, ↓reduceIte]; (repeat' split) <;> first | omega | (exact q (by omega))) | exact R_pl c hc), by (intro c hc; first | (have q := fun h => R_te c h; simp only [hp_10p2, h_a3, zu, ↓reduceIte]; (repeat' split) <;> first | omega | (exact q (by omega))) | exact R_te c hc), by (intro c hc; first | (have q := fun h => R_go c h; simp only [hp_10p2, h_a3, zu, ↓reduceIte]; (repeat' split) <;> first | omega | (exact q (by omega))) | exact R_go c hc)⟩))
                 · first
                   | (exfalso; omega)
                   | (skip
                      refine zk_d3 (s_HM_tell _ _ _ (by omega)) (fun v13_2 v14_2 a15_2 hp_11 => ?_)
                      try dsimp only at hp_11
                      obtain ⟨hp_11p0, hp_11p1⟩ := hp_11
                      refine zk_rI5 ?_
                      refine zk_ret ?_
                      try dsimp only
                      exact ⟨by omega, by omega, by omega, i_a3, h_t4, by first | omega | (simp only [h_a3, zu, ↓reduceIte]; (repeat' split) <;> omega), by first | omega | (simp only [h_a3, zu, ↓reduceIte]; (repeat' split) <;> omega), by first | omega | (simp only [h_a3, zu, ↓reduceIte]; (repeat' split) <;> omega), by (intro c hc; first | (have q := fun h => R_st c h; simp only [h_a3, zu, ↓reduceIte]; (repeat' split) <;> first | omega | (exact q (by omega))) | exact R_st c hc), by (intro c hc; first | (have q := fun h => R_ex c h; simp only [h_a3, zu, ↓reduceIte]; (repeat' split) <;> first | omega | (exact q (by omega))) | exact R_ex c hc), by (intro c hc; first | (have q := fun h => R_tr c h; simp only [h_a3, zu, ↓reduceIte]; (repeat' split) <;> first | omega | (exact q (by omega))) | exact R_tr c hc), by (intro c hc; first | (have q := fun h => R_pl c h; simp only [h_a3, zu, ↓reduceIte]; (repeat' split) <;> first | omega | (exact q (by omega))) | exact R_pl c hc), by (intro c hc; first | (have q := fun h => R_te c h; simp only [h_a3, zu, ↓reduceIte]; (repeat' split) <;> first | omega | (exact q (by omega))) | exact R_te c hc), by (intro c hc; first | (have q := fun h => R_go c h; simp only [h_a3, zu, ↓reduceIte]; (repeat' split) <;> first | omega | (exact q (by omega))) | exact R_go c hc)⟩))
            · first
              | (exfalso; omega)
              | (skip
                 refine zk_dI3 ?_
                 unfold f_HS_refuse
                 refine zk_nE (fun v1_6 h_v1_6 => ?_)
                 refine zk_gv (by omega) (by decide) (fun v2_5 h_v2_5 => ?_)
                 refine zk_n ?_
                 refine zk_sv (by omega) (by decide) (fun a4_2 h_a4_2 => ?_)
                 refine zk_rI3 ?_
                 refine zk_rI5 ?_
                 refine zk_dI5 ?_
                 unfold f_HM_trips
                 refine zk_nE (fun v1_7 h_v1_7 => ?_)
                 rw [zwi (by omega)] at h_v1_7
                 replace h_v1_7 := h_v1_7.symm
                 subst h_v1_7
                 refine zk_d1 (s_HM_in _ _ _ (by omega) (by omega) (by omega)) (fun v2_6 hp_12 => ?_)
                 try dsimp only at hp_12
                 have hp_12p0 := hp_12
                 refine zk_ifc (zci_ner (by omega)) (fun hc_8 => ?_) (fun hc_8 => ?_)
                 · first
                   | (exfalso; omega)
                   | (skip
                      refine zk_d1 (s_HM_isChild _ _ (by omega) h_t4) (fun v3_5 hp_13 => ?_)
                      try dsimp only at hp_13
                      obtain ⟨hp_13p0, hp_13p1⟩ := hp_13
                      refine zk_ifc (zci_eqr (by omega)) (fun hc_9 => ?_) (fun hc_9 => ?_)
                      · first
                        | (exfalso; omega)
                        | (skip
                           refine zk_d3 (s_HM_tell _ _ _ (by omega)) (fun v4_3 v5_3 a6_3 hp_14 => ?_)
                           try dsimp only at hp_14
                           obtain ⟨hp_14p0, hp_14p1⟩ := hp_14
                           refine zk_rI5 ?_
                           refine zk_ret ?_
                           try dsimp only
                           exact ⟨by omega, by omega, by omega, h_t36, h_t4, by first | omega | (simp only [h_a4_2, zu, ↓reduceIte]; (repeat' split) <;> omega), by first | omega | (simp only [h_a4_2, zu, ↓reduceIte]; (repeat' split) <;> omega), by first | omega | (simp only [h_a4_2, zu, ↓reduceIte]; (repeat' split) <;> omega), by (intro c hc; first | (have q := fun h => R_st c h; simp only [h_a4_2, zu, ↓reduceIte]; (repeat' split) <;> first | omega | (exact q (by omega))) | exact R_st c hc), by (intro c hc; first | (have q := fun h => R_ex c h; simp only [h_a4_2, zu, ↓reduceIte]; (repeat' split) <;> first | omega | (exact q (by omega))) | exact R_ex c hc), by (intro c hc; first | (have q := fun h => R_tr c h; simp only [h_a4_2, zu, ↓reduceIte]; (repeat' split) <;> first | omega | (exact q (by omega))) | exact R_tr c hc), by (intro c hc; first | (have q := fun h => R_pl c h; simp only [h_a4_2, zu, ↓reduceIte]; (repeat' split) <;> first | omega | (exact q (by omega))) | exact R_pl c hc), by (intro c hc; first | (have q := fun h => R_te c h; simp only [h_a4_2, zu, ↓reduceIte]; (repeat' split) <;> first | omega | (exact q (by omega))) | exact R_te c hc), by (intro c hc; first | (have q := fun h => R_go c h; simp only [h_a4_2, zu, ↓reduceIte]; (repeat' split) <;> first | omega | (exact q (by omega))) | exact R_go c hc)⟩)
                      · first
                        | (exfalso; omega)
                        | (skip
                           refine zk_n ?_
                           refine zk_n ?_
                           refine zk_n ?_
                           refine zk_d3 (s_HM_change _ _ _ _ (by omega)) (fun v10_3 v11_3 a12_3 hp_15 => ?_)
                           try dsimp only at hp_15
                           obtain ⟨hp_15p0, hp_15p1, hp_15p2⟩ := hp_15
                           have i_a12_3 : RI a12_3 := by rw [hp_15p2]; exact RIz_c h_t4 (by omega) (by omega)
                           refine zk_rI5 ?_
                           refine zk_ret ?_
                           try dsimp only
                           exact ⟨by omega, by omega, by omega, h_t36, i_a12_3, by first | omega | (simp only [hp_15p2, h_a4_2, zu, ↓reduceIte]; (repeat' split) <;> omega), by first | omega | (simp only [hp_15p2, h_a4_2, zu, ↓reduceIte]; (repeat' split) <;> omega), by first | omega | (simp only [hp_15p2, h_a4_2, zu, ↓reduceIte]; (repeat' split) <;> omega), by (intro c hc; first | (have q := fun h => R_st c h; simp only [hp_15p2, h_a4_2, zu, ↓reduceIte]; (repeat' split) <;> first | omega | (exact q (by omega))) | exact R_st c hc), by (intro c hc; first | (have q := fun h => R_ex c h; simp only [hp_15p2, h_a4_2, zu, ↓reduceIte]; (repeat' split) <;> first | omega | (exact q (by omega))) | exact R_ex c hc), by (intro c hc; first | (have q := fun h => R_tr c h; simp only [hp_15p2, h_a4_2, zu, ↓reduceIte]; (repeat' split) <;> first | omega | (exact q (by omega))) | exact R_tr c hc), by (intro c hc; first | (have q := fun h => R_pl c h; simp only [hp_15p2, h_a4_2, zu, ↓reduceIte]; (repeat' split) <;> first | omega | (exact q (by omega))) | exact R_pl c hc), by (intro c hc; first | (have q := fun h => R_te c h; simp only [hp_15p2, h_a4_2, zu, ↓reduceIte]; (repeat' split) <;> first | omega | (exact q (by omega))) | exact R_te c hc), by (intro c hc; first | (have q := fun h => R_go c h; simp only [hp_15p2, h_a4_2, zu, ↓reduceIte]; (repeat' split) <;> first | omega | (exact q (by omega))) | exact R_go c hc)⟩))
                 · first
                   | (exfalso; omega)
                   | (skip
                      refine zk_d3 (s_HM_tell _ _ _ (by omega)) (fun v13_3 v14_3 a15_3 hp_16 => ?_)
                      try dsimp only at hp_16
                      obtain ⟨hp_16p0, hp_16p1⟩ := hp_16
                      refine zk_rI5 ?_
                      refine zk_ret ?_
                      try dsimp only
                      exact ⟨by omega, by omega, by omega, h_t36, h_t4, by first | omega | (simp only [h_a4_2, zu, ↓reduceIte]; (repeat' split) <;> omega), by first | omega | (simp only [h_a4_2, zu, ↓reduceIte]; (repeat' split) <;> omega), by first | omega | (simp only [h_a4_2, zu, ↓reduceIte]; (repeat' split) <;> omega), by (intro c hc; first | (have q := fun h => R_st c h; simp only [h_a4_2, zu, ↓reduceIte]; (repeat' split) <;> first | omega | (exact q (by omega))) | exact R_st c hc), by (intro c hc; first | (have q := fun h => R_ex c h; simp only [h_a4_2, zu, ↓reduceIte]; (repeat' split) <;> first | omega | (exact q (by omega))) | exact R_ex c hc), by (intro c hc; first | (have q := fun h => R_tr c h; simp only [h_a4_2, zu, ↓reduceIte]; (repeat' split) <;> first | omega | (exact q (by omega))) | exact R_tr c hc), by (intro c hc; first | (have q := fun h => R_pl c h; simp only [h_a4_2, zu, ↓reduceIte]; (repeat' split) <;> first | omega | (exact q (by omega))) | exact R_pl c hc), by (intro c hc; first | (have q := fun h => R_te c h; simp only [h_a4_2, zu, ↓reduceIte]; (repeat' split) <;> first | omega | (exact q (by omega))) | exact R_te c hc), by (intro c hc; first | (have q := fun h => R_go c h; simp only [h_a4_2, zu, ↓reduceIte]; (repeat' split) <;> first | omega | (exact q (by omega))) | exact R_go c hc)⟩)))
       · first
         | (exfalso; omega)
         | (skip
            unfold f_HS_trips_10
            refine zk_dI3 ?_
            unfold f_HS_refuse
            refine zk_nE (fun v1_8 h_v1_8 => ?_)
            refine zk_gv (by omega) (by decide) (fun v2_7 h_v2_7 => ?_)
            refine zk_n ?_
            refine zk_sv (by omega) (by decide) (fun a4_3 h_a4_3 => ?_)
            refine zk_rI3 ?_
            refine zk_rI5 ?_
            refine zk_dI5 ?_
            unfold f_HM_trips
            refine zk_nE (fun v1_9 h_v1_9 => ?_)
            rw [zwi (by omega)] at h_v1_9
            replace h_v1_9 := h_v1_9.symm
            subst h_v1_9
            refine zk_d1 (s_HM_in _ _ _ (by omega) (by omega) (by omega)) (fun v2_8 hp_17 => ?_)
            try dsimp only at hp_17
            have hp_17p0 := hp_17
            refine zk_ifc (zci_ner (by omega)) (fun hc_10 => ?_) (fun hc_10 => ?_)
            · first
              | (exfalso; omega)
              | (skip
                 refine zk_d1 (s_HM_isChild _ _ (by omega) h_t4) (fun v3_7 hp_18 => ?_)
                 try dsimp only at hp_18
                 obtain ⟨hp_18p0, hp_18p1⟩ := hp_18
                 refine zk_ifc (zci_eqr (by omega)) (fun hc_11 => ?_) (fun hc_11 => ?_)
                 · first
                   | (exfalso; omega)
                   | (skip
                      refine zk_d3 (s_HM_tell _ _ _ (by omega)) (fun v4_4 v5_4 a6_4 hp_19 => ?_)
                      try dsimp only at hp_19
                      obtain ⟨hp_19p0, hp_19p1⟩ := hp_19
                      refine zk_rI5 ?_
                      refine zk_ret ?_
                      try dsimp only
                      exact ⟨by omega, by omega, by omega, h_t36, h_t4, by first | omega | (simp only [h_a4_3, zu, ↓reduceIte]; (repeat' split) <;> omega), by first | omega | (simp only [h_a4_3, zu, ↓reduceIte]; (repeat' split) <;> omega), by first | omega | (simp only [h_a4_3, zu, ↓reduceIte]; (repeat' split) <;> omega), by (intro c hc; first | (have q := fun h => R_st c h; simp only [h_a4_3, zu, ↓reduceIte]; (repeat' split) <;> first | omega | (exact q (by omega))) | exact R_st c hc), by (intro c hc; first | (have q := fun h => R_ex c h; simp only [h_a4_3, zu, ↓reduceIte]; (repeat' split) <;> first | omega | (exact q (by omega))) | exact R_ex c hc), by (intro c hc; first | (have q := fun h => R_tr c h; simp only [h_a4_3, zu, ↓reduceIte]; (repeat' split) <;> first | omega | (exact q (by omega))) | exact R_tr c hc), by (intro c hc; first | (have q := fun h => R_pl c h; simp only [h_a4_3, zu, ↓reduceIte]; (repeat' split) <;> first | omega | (exact q (by omega))) | exact R_pl c hc), by (intro c hc; first | (have q := fun h => R_te c h; simp only [h_a4_3, zu, ↓reduceIte]; (repeat' split) <;> first | omega | (exact q (by omega))) | exact R_te c hc), by (intro c hc; first | (have q := fun h => R_go c h; simp only [h_a4_3, zu, ↓reduceIte]; (repeat' split) <;> first | omega | (exact q (by omega))) | exact R_go c hc)⟩)
                 · first
                   | (exfalso; omega)
                   | (skip
                      refine zk_n ?_
                      refine zk_n ?_
                      refine zk_n ?_
                      refine zk_d3 (s_HM_change _ _ _ _ (by omega)) (fun v10_4 v11_4 a12_4 hp_20 => ?_)
                      try dsimp only at hp_20
                      obtain ⟨hp_20p0, hp_20p1, hp_20p2⟩ := hp_20
                      have i_a12_4 : RI a12_4 := by rw [hp_20p2]; exact RIz_c h_t4 (by omega) (by omega)
                      refine zk_rI5 ?_
                      refine zk_ret ?_
                      try dsimp only
                      exact ⟨by omega, by omega, by omega, h_t36, i_a12_4, by first | omega | (simp only [hp_20p2, h_a4_3, zu, ↓reduceIte]; (repeat' split) <;> omega), by first | omega | (simp only [hp_20p2, h_a4_3, zu, ↓reduceIte]; (repeat' split) <;> omega), by first | omega | (simp only [hp_20p2, h_a4_3, zu, ↓reduceIte]; (repeat' split) <;> omega), by (intro c hc; first | (have q := fun h => R_st c h; simp only [hp_20p2, h_a4_3, zu, ↓reduceIte]; (repeat' split) <;> first | omega | (exact q (by omega))) | exact R_st c hc), by (intro c hc; first | (have q := fun h => R_ex c h; simp only [hp_20p2, h_a4_3, zu, ↓reduceIte]; (repeat' split) <;> first | omega | (exact q (by omega))) | exact R_ex c hc), by (intro c hc; first | (have q := fun h => R_tr c h; simp only [hp_20p2, h_a4_3, zu, ↓reduceIte]; (repeat' split) <;> first | omega | (exact q (by omega))) | exact R_tr c hc), by (intro c hc; first | (have q := fun h => R_pl c h; simp only [hp_20p2, h_a4_3, zu, ↓reduceIte]; (repeat' split) <;> first | omega | (exact q (by omega))) | exact R_pl c hc), by (intro c hc; first | (have q := fun h => R_te c h; simp only [hp_20p2, h_a4_3, zu, ↓reduceIte]; (repeat' split) <;> first | omega | (exact q (by omega))) | exact R_te c hc), by (intro c hc; first | (have q := fun h => R_go c h; simp only [hp_20p2, h_a4_3, zu, ↓reduceIte]; (repeat' split) <;> first | omega | (exact q (by omega))) | exact R_go c hc)⟩))
            · first
              | (exfalso; omega)
              | (skip
                 refine zk_d3 (s_HM_tell _ _ _ (by omega)) (fun v13_4 v14_4 a15_4 hp_21 => ?_)
                 try dsimp only at hp_21
                 obtain ⟨hp_21p0, hp_21p1⟩ := hp_21
                 refine zk_rI5 ?_
                 refine zk_ret ?_
                 try dsimp only
                 exact ⟨by omega, by omega, by omega, h_t36, h_t4, by first | omega | (simp only [h_a4_3, zu, ↓reduceIte]; (repeat' split) <;> omega), by first | omega | (simp only [h_a4_3, zu, ↓reduceIte]; (repeat' split) <;> omega), by first | omega | (simp only [h_a4_3, zu, ↓reduceIte]; (repeat' split) <;> omega), by (intro c hc; first | (have q := fun h => R_st c h; simp only [h_a4_3, zu, ↓reduceIte]; (repeat' split) <;> first | omega | (exact q (by omega))) | exact R_st c hc), by (intro c hc; first | (have q := fun h => R_ex c h; simp only [h_a4_3, zu, ↓reduceIte]; (repeat' split) <;> first | omega | (exact q (by omega))) | exact R_ex c hc), by (intro c hc; first | (have q := fun h => R_tr c h; simp only [h_a4_3, zu, ↓reduceIte]; (repeat' split) <;> first | omega | (exact q (by omega))) | exact R_tr c hc), by (intro c hc; first | (have q := fun h => R_pl c h; simp only [h_a4_3, zu, ↓reduceIte]; (repeat' split) <;> first | omega | (exact q (by omega))) | exact R_pl c hc), by (intro c hc; first | (have q := fun h => R_te c h; simp only [h_a4_3, zu, ↓reduceIte]; (repeat' split) <;> first | omega | (exact q (by omega))) | exact R_te c hc), by (intro c hc; first | (have q := fun h => R_go c h; simp only [h_a4_3, zu, ↓reduceIte]; (repeat' split) <;> first | omega | (exact q (by omega))) | exact R_go c hc)⟩)))
set_option maxHeartbeats 4000000 in
set_option maxRecDepth 10000 in
theorem st_28 (N : Int) (σ : Nat → Int) (τ : Nat → Nat → Int) (hI : INV N σ τ) (a1 : Int) (a2 : Int) (b_a1 : (-2147483648) ≤ a1 ∧ a1 ≤ 2147483647) (b_a2 : (-2147483648) ≤ a2 ∧ a2 ≤ 2147483647) : zok (f_OP_28 N a1 a2 (σ 3) (σ 4) (σ 5) (σ 26) (σ 27) (σ 30) (σ 49) (τ 2) (τ 3) (τ 4) (τ 34) (τ 35) (τ 36) (τ 37) (τ 38) (τ 39)) (fun o => (o.1 = o.2.1) ∧ INV (N + 6) (zst σ [(3, o.2.2.1), (4, o.2.2.2.1), (5, o.2.2.2.2.1), (30, o.2.2.2.2.2.1)]) (zta τ [(2, o.2.2.2.2.2.2.1), (3, o.2.2.2.2.2.2.2.1), (4, o.2.2.2.2.2.2.2.2.1), (36, o.2.2.2.2.2.2.2.2.2)])) := by
  have zg1 := hI.2
  have zg2 := zg1.2
  have zg3 := zg2.2
  have zg4 := zg3.2
  have zg5 := zg4.2
  have zg6 := zg5.2
  have zg7 := zg6.2
  have zg8 := zg7.2
  have zg9 := zg8.2
  have zg10 := zg9.2
  have zg11 := zg10.2
  have zg12 := zg11.2
  have zg13 := zg12.2
  have zg14 := zg13.2
  have zg15 := zg14.2
  have zg16 := zg15.2
  have zg17 := zg16.2
  have zg18 := zg17.2
  have zg19 := zg18.2
  have zg20 := zg19.2
  have zg21 := zg20.2
  have zg22 := zg21.2
  have zg23 := zg22.2
  have zg24 := zg23.2
  have zg25 := zg24.2
  have zg26 := zg25.2
  have zg27 := zg26.2
  have zg28 := zg27.2
  have zg29 := zg28.2
  have zg30 := zg29.2
  have zg31 := zg30.2
  have zg32 := zg31.2
  have zg33 := zg32.2
  have zg34 := zg33.2
  have zg35 := zg34.2
  have zg36 := zg35.2
  have zg37 := zg36.2
  have zg38 := zg37.2
  have zg39 := zg38.2
  have zg40 := zg39.2
  have zg41 := zg40.2
  have zg42 := zg41.2
  have zg43 := zg42.2
  have zg44 := zg43.2
  have zg45 := zg44.2
  have zg46 := zg45.2
  have zg47 := zg46.2
  have zg48 := zg47.2
  have zg49 := zg48.2
  have zg50 := zg49.2
  have zg51 := zg50.2
  have zg52 := zg51.2
  have zg53 := zg52.2
  have zg54 := zg53.2
  have zg55 := zg54.2
  have zg56 := zg55.2
  have zg57 := zg56.2
  have zg58 := zg57.2
  have zg59 := zg58.2
  have zg60 := zg59.2
  have zg61 := zg60.2
  have zg62 := zg61.2
  have zg63 := zg62.2
  have zg64 := zg63.2
  have zg65 := zg64.2
  have zg66 := zg65.2
  have zg67 := zg66.2
  have zg68 := zg67.2
  have zg69 := zg68.2
  have zg70 := zg69.2
  have zg71 := zg70.2
  have zg72 := zg71.2
  have zg73 := zg72.2
  have zg74 := zg73.2
  have zg75 := zg74.2
  have zg76 := zg75.2
  have zg77 := zg76.2
  have zg78 := zg77.2
  have zg79 := zg78.2
  have zg80 := zg79.2
  have zg81 := zg80.2
  have zg82 := zg81.2
  have zg83 := zg82.2
  have zg84 := zg83.2
  have zg85 := zg84.2
  have zg86 := zg85.2
  have zg87 := zg86.2
  have zg88 := zg87.2
  have zg89 := zg88.2
  have zg90 := zg89.2
  have zg91 := zg90.2
  have zg92 := zg91.2
  have zg93 := zg92.2
  have zg94 := zg93.2
  have zg95 := zg94.2
  have zg96 := zg95.2
  have zg97 := zg96.2
  have zg98 := zg97.2
  have zg99 := zg98.2
  have zg100 := zg99.2
  have zg101 := zg100.2
  have zg102 := zg101.2
  have zg103 := zg102.2
  have zg104 := zg103.2
  have zg105 := zg104.2
  have zg106 := zg105.2
  have zg107 := zg106.2
  have zg108 := zg107.2
  have zg109 := zg108.2
  have zg110 := zg109.2
  have zg111 := zg110.2
  have zg112 := zg111.2
  have zg113 := zg112.2
  have zg114 := zg113.2
  have zg115 := zg114.2
  have zg116 := zg115.2
  have zg117 := zg116.2
  have zg118 := zg117.2
  have zg119 := zg118.2
  have zg120 := zg119.2
  have zg121 := zg120.2
  have zg122 := zg121.2
  have zg123 := zg122.2
  have zg124 := zg123.2
  have zg125 := zg124.2
  have I_s3 := zg2.1
  have I_s26 := zg3.1
  have I_s27 := zg4.1
  have I_s49 := zg21.1
  have I_t4 := zg99.1
  have I_t34 := zg45.1
  have I_t35 := zg46.1
  have I_t36 := zg47.1
  have I_t37 := zg48.1
  have I_t38 := zg49.1
  have I_t39 := zg50.1
  have I_s30 := zg42.1
  have R_many := zg113.1
  have R_ch := zg114.1
  have R_pa := zg115.1
  have R_st := zg116.1
  have R_ex := zg117.1
  have R_tr := zg118.1
  have R_pl := zg119.1
  have R_te := zg120.1
  have R_go := zg121.1
  refine zok_mono (s_OP_28 N a1 a2 (σ 3) (σ 4) (σ 5) (σ 26) (σ 27) (σ 30) (σ 49) (τ 2) (τ 3) (τ 4) (τ 34) (τ 35) (τ 36) (τ 37) (τ 38) (τ 39) b_a1 b_a2 I_s3 I_s26 I_s27 I_s49 I_t4 I_t34 I_t35 I_t36 I_t37 I_t38 I_t39 I_s30 R_many R_ch R_pa R_st R_ex R_tr R_pl R_te R_go) (fun o ho => ?_)
  obtain ⟨p0, p1, p2, p3, p4, p5, p6, p7, p8, p9, p10, p11, p12, p13⟩ := ho
  exact ⟨p0, ⟨hI.1, zg1.1, p1, zg3.1, zg4.1, zg5.1, zg6.1, zg7.1, zg8.1, zg9.1, zg10.1, zg11.1, zg12.1, zg13.1, zg14.1, zg15.1, zg16.1, zg17.1, zg18.1, zg19.1, zg20.1, zg21.1, zg22.1, zg23.1, zg24.1, zg25.1, zg26.1, zg27.1, zg28.1, zg29.1, zg30.1, zg31.1, zg32.1, zg33.1, zg34.1, zg35.1, zg36.1, zg37.1, zg38.1, zg39.1, zg40.1, zg41.1, p2, zg43.1, zg44.1, zg45.1, zg46.1, p3, zg48.1, zg49.1, zg50.1, zg51.1, zg52.1, zg53.1, zg54.1, zg55.1, zg56.1, zg57.1, zg58.1, zg59.1, zg60.1, zg61.1, zg62.1, zg63.1, zg64.1, zg65.1, zg66.1, zg67.1, zg68.1, zg69.1, zg70.1, zg71.1, zg72.1, zg73.1, zg74.1, zg75.1, zg76.1, zg77.1, zg78.1, zg79.1, zg80.1, zg81.1, zg82.1, zg83.1, zg84.1, zg85.1, zg86.1, zg87.1, zg88.1, zg89.1, zg90.1, zg91.1, zg92.1, zg93.1, zg94.1, zg95.1, zg96.1, zg97.1, zg98.1, p4, zg100.1, zg101.1, zg102.1, zg103.1, zg104.1, zg105.1, zg106.1, zg107.1, zg108.1, zg109.1, zg110.1, zg111.1, zg112.1, p5, p6, p7, p8, p9, p10, p11, p12, p13, zg122.1, zg123.1, zg124.1, zg125⟩⟩
noncomputable def f_OP_29 (N : Int) (a1 : Int) (a2 : Int) (a3 : Int) (s4 : Int) (s26 : Int) (s45 : Int) (s46 : Int) (s47 : Int) (s48 : Int) (t4 : Nat → Int) (t29 : Nat → Int) (t36 : Nat → Int) (t62 : Nat → Int) : Option (Int × Int × Int × Int × Int × Int × Int × (Nat → Int) × (Nat → Int)) :=
  zd6 (f_HS_culprits a1 a2 a3 s26 t36 s45 s46 s47 s48 t62) fun v561 v562 v563 v564 v565 a566 =>
  zd3 (f_HM_culprits a1 a2 a3 t4 s4 t29) fun v573 v574 a575 =>
  some (v561, v573, v574, v562, v563, v564, v565, a575, a566)
set_option maxHeartbeats 4000000 in
theorem s_OP_29 (N : Int) (a1 : Int) (a2 : Int) (a3 : Int) (s4 : Int) (s26 : Int) (s45 : Int) (s46 : Int) (s47 : Int) (s48 : Int) (t4 : Nat → Int) (t29 : Nat → Int) (t36 : Nat → Int) (t62 : Nat → Int) (b_a1 : (-2147483648) ≤ a1 ∧ a1 ≤ 2147483647) (b_a2 : (-2147483648) ≤ a2 ∧ a2 ≤ 2147483647) (b_a3 : (-2147483648) ≤ a3 ∧ a3 ≤ 2147483647) (b_s26 : 0 ≤ s26 ∧ s26 ≤ 6) (b_s46 : (-1) ≤ s46 ∧ s46 ≤ 63) (b_s47 : 0 ≤ s47 ∧ s47 ≤ 63) (b_s48 : 0 ≤ s48 ∧ s48 ≤ 63) (h_t4 : RI t4) (h_t36 : zR t36 0 20) (R_ch : s26 = t4 1) (R_tr : RV 3 155 s26 t36 t4) : zok (f_OP_29 N a1 a2 a3 s4 s26 s45 s46 s47 s48 t4 t29 t36 t62) (fun o => ((-1) ≤ o.2.2.2.2.1 ∧ o.2.2.2.2.1 ≤ 63) ∧ (0 ≤ o.2.2.2.2.2.1 ∧ o.2.2.2.2.2.1 ≤ 63) ∧ (0 ≤ o.2.2.2.2.2.2.1 ∧ o.2.2.2.2.2.2.1 ≤ 63)) := by
  unfold f_OP_29
  refine zk_dI6 ?_
  unfold f_HS_culprits
  refine zk_ifc (zci_lt (by omega) (by omega)) (fun hc => ?_) (fun hc => ?_)
  · first
    | (exfalso; omega)
    | (skip
       refine zk_rI6 ?_
       refine zk_d3 (s_HM_culprits _ _ _ _ _ _ (by omega) (by omega) (by omega) h_t4) (fun v573 v574 a575 hp => ?_)
       refine zk_ret ?_
       try dsimp only
       exact ⟨by omega, by omega, by omega⟩)
  · first
    | (exfalso; omega)
    | (skip
       refine zk_ifc (zci_lt (by omega) (by omega)) (fun hc_2 => ?_) (fun hc_2 => ?_)
       · first
         | (exfalso; omega)
         | (skip
            refine zk_rI6 ?_
            refine zk_d3 (s_HM_culprits _ _ _ _ _ _ (by omega) (by omega) (by omega) h_t4) (fun v573_2 v574_2 a575_2 hp_2 => ?_)
            refine zk_ret ?_
            try dsimp only
            exact ⟨by omega, by omega, by omega⟩)
       · first
         | (exfalso; omega)
         | (skip
            refine zk_ifc (zci_ltr (by omega)) (fun hc_3 => ?_) (fun hc_3 => ?_)
            · first
              | (exfalso; omega)
              | (skip
                 refine zk_rI6 ?_
                 refine zk_d3 (s_HM_culprits _ _ _ _ _ _ (by omega) (by omega) (by omega) h_t4) (fun v573_3 v574_3 a575_3 hp_3 => ?_)
                 refine zk_ret ?_
                 try dsimp only
                 exact ⟨by omega, by omega, by omega⟩)
            · first
              | (exfalso; omega)
              | (skip
                 refine zk_ifc (zci_le (by omega) (by omega)) (fun hc_4 => ?_) (fun hc_4 => ?_)
                 · first
                   | (exfalso; omega)
                   | (skip
                      refine zk_d5 (s_Scales_suspect _ _ _ _ _ _ _ _ _ (by omega) (by omega) (by omega) h_t36 (by omega) (by omega) (by omega)) (fun v1 v2 v3 v4 a5 hp_4 => ?_)
                      try dsimp only at hp_4
                      obtain ⟨hp_4p0, hp_4p1, hp_4p2⟩ := hp_4
                      refine zk_d1 (s_Scales_finding _ _ _ _ _ _ _ (by omega) (by omega) (by omega) (by omega) (by omega)) (fun v6 hp_5 => ?_)
                      refine zk_rI6 ?_
                      refine zk_d3 (s_HM_culprits _ _ _ _ _ _ (by omega) (by omega) (by omega) h_t4) (fun v573_4 v574_4 a575_4 hp_6 => ?_)
                      refine zk_ret ?_
                      try dsimp only
                      exact ⟨by omega, by omega, by omega⟩)
                 · first
                   | (exfalso; omega)
                   | (skip
                      refine zk_rI6 ?_
                      refine zk_d3 (s_HM_culprits _ _ _ _ _ _ (by omega) (by omega) (by omega) h_t4) (fun v573_5 v574_5 a575_5 hp_7 => ?_)
                      refine zk_ret ?_
                      try dsimp only
                      exact ⟨by omega, by omega, by omega⟩))))
set_option maxHeartbeats 4000000 in
set_option maxRecDepth 10000 in
theorem st_29 (N : Int) (σ : Nat → Int) (τ : Nat → Nat → Int) (hI : INV N σ τ) (a1 : Int) (a2 : Int) (a3 : Int) (b_a1 : (-2147483648) ≤ a1 ∧ a1 ≤ 2147483647) (b_a2 : (-2147483648) ≤ a2 ∧ a2 ≤ 2147483647) (b_a3 : (-2147483648) ≤ a3 ∧ a3 ≤ 2147483647) : zok (f_OP_29 N a1 a2 a3 (σ 4) (σ 26) (σ 45) (σ 46) (σ 47) (σ 48) (τ 4) (τ 29) (τ 36) (τ 62)) (fun o => (True) ∧ INV (N + 6) (zst σ [(4, o.2.2.1), (45, o.2.2.2.1), (46, o.2.2.2.2.1), (47, o.2.2.2.2.2.1), (48, o.2.2.2.2.2.2.1)]) (zta τ [(29, o.2.2.2.2.2.2.2.1), (62, o.2.2.2.2.2.2.2.2)])) := by
  have zg1 := hI.2
  have zg2 := zg1.2
  have zg3 := zg2.2
  have zg4 := zg3.2
  have zg5 := zg4.2
  have zg6 := zg5.2
  have zg7 := zg6.2
  have zg8 := zg7.2
  have zg9 := zg8.2
  have zg10 := zg9.2
  have zg11 := zg10.2
  have zg12 := zg11.2
  have zg13 := zg12.2
  have zg14 := zg13.2
  have zg15 := zg14.2
  have zg16 := zg15.2
  have zg17 := zg16.2
  have zg18 := zg17.2
  have zg19 := zg18.2
  have zg20 := zg19.2
  have zg21 := zg20.2
  have zg22 := zg21.2
  have zg23 := zg22.2
  have zg24 := zg23.2
  have zg25 := zg24.2
  have zg26 := zg25.2
  have zg27 := zg26.2
  have zg28 := zg27.2
  have zg29 := zg28.2
  have zg30 := zg29.2
  have zg31 := zg30.2
  have zg32 := zg31.2
  have zg33 := zg32.2
  have zg34 := zg33.2
  have zg35 := zg34.2
  have zg36 := zg35.2
  have zg37 := zg36.2
  have zg38 := zg37.2
  have zg39 := zg38.2
  have zg40 := zg39.2
  have zg41 := zg40.2
  have zg42 := zg41.2
  have zg43 := zg42.2
  have zg44 := zg43.2
  have zg45 := zg44.2
  have zg46 := zg45.2
  have zg47 := zg46.2
  have zg48 := zg47.2
  have zg49 := zg48.2
  have zg50 := zg49.2
  have zg51 := zg50.2
  have zg52 := zg51.2
  have zg53 := zg52.2
  have zg54 := zg53.2
  have zg55 := zg54.2
  have zg56 := zg55.2
  have zg57 := zg56.2
  have zg58 := zg57.2
  have zg59 := zg58.2
  have zg60 := zg59.2
  have zg61 := zg60.2
  have zg62 := zg61.2
  have zg63 := zg62.2
  have zg64 := zg63.2
  have zg65 := zg64.2
  have zg66 := zg65.2
  have zg67 := zg66.2
  have zg68 := zg67.2
  have zg69 := zg68.2
  have zg70 := zg69.2
  have zg71 := zg70.2
  have zg72 := zg71.2
  have zg73 := zg72.2
  have zg74 := zg73.2
  have zg75 := zg74.2
  have zg76 := zg75.2
  have zg77 := zg76.2
  have zg78 := zg77.2
  have zg79 := zg78.2
  have zg80 := zg79.2
  have zg81 := zg80.2
  have zg82 := zg81.2
  have zg83 := zg82.2
  have zg84 := zg83.2
  have zg85 := zg84.2
  have zg86 := zg85.2
  have zg87 := zg86.2
  have zg88 := zg87.2
  have zg89 := zg88.2
  have zg90 := zg89.2
  have zg91 := zg90.2
  have zg92 := zg91.2
  have zg93 := zg92.2
  have zg94 := zg93.2
  have zg95 := zg94.2
  have zg96 := zg95.2
  have zg97 := zg96.2
  have zg98 := zg97.2
  have zg99 := zg98.2
  have zg100 := zg99.2
  have zg101 := zg100.2
  have zg102 := zg101.2
  have zg103 := zg102.2
  have zg104 := zg103.2
  have zg105 := zg104.2
  have zg106 := zg105.2
  have zg107 := zg106.2
  have zg108 := zg107.2
  have zg109 := zg108.2
  have zg110 := zg109.2
  have zg111 := zg110.2
  have zg112 := zg111.2
  have zg113 := zg112.2
  have zg114 := zg113.2
  have zg115 := zg114.2
  have zg116 := zg115.2
  have zg117 := zg116.2
  have zg118 := zg117.2
  have zg119 := zg118.2
  have zg120 := zg119.2
  have zg121 := zg120.2
  have zg122 := zg121.2
  have zg123 := zg122.2
  have zg124 := zg123.2
  have zg125 := zg124.2
  have I_s26 := zg3.1
  have I_s46 := zg18.1
  have I_s47 := zg19.1
  have I_s48 := zg20.1
  have I_t4 := zg99.1
  have I_t36 := zg47.1
  have R_ch := zg114.1
  have R_tr := zg118.1
  refine zok_mono (s_OP_29 N a1 a2 a3 (σ 4) (σ 26) (σ 45) (σ 46) (σ 47) (σ 48) (τ 4) (τ 29) (τ 36) (τ 62) b_a1 b_a2 b_a3 I_s26 I_s46 I_s47 I_s48 I_t4 I_t36 R_ch R_tr) (fun o ho => ?_)
  obtain ⟨p0, p1, p2⟩ := ho
  exact ⟨trivial, ⟨hI.1, zg1.1, zg2.1, zg3.1, zg4.1, zg5.1, zg6.1, zg7.1, zg8.1, zg9.1, zg10.1, zg11.1, zg12.1, zg13.1, zg14.1, zg15.1, zg16.1, zg17.1, p0, p1, p2, zg21.1, zg22.1, zg23.1, zg24.1, zg25.1, zg26.1, zg27.1, zg28.1, zg29.1, zg30.1, zg31.1, zg32.1, zg33.1, zg34.1, zg35.1, zg36.1, zg37.1, zg38.1, zg39.1, zg40.1, zg41.1, ⟨zg42.1.1, Int.le_trans zg42.1.2 (Int.le_add_of_nonneg_right (by decide))⟩, zg43.1, zg44.1, zg45.1, zg46.1, zg47.1, zg48.1, zg49.1, zg50.1, zg51.1, zg52.1, zg53.1, zg54.1, zg55.1, zg56.1, zg57.1, zg58.1, zg59.1, zg60.1, zg61.1, zg62.1, zg63.1, zg64.1, zg65.1, zg66.1, zg67.1, zg68.1, zg69.1, zg70.1, zg71.1, zg72.1, zg73.1, zg74.1, zg75.1, zg76.1, zg77.1, zg78.1, zg79.1, zg80.1, zg81.1, zg82.1, zg83.1, zg84.1, zg85.1, zg86.1, zg87.1, zg88.1, zg89.1, zg90.1, zg91.1, zg92.1, zg93.1, zg94.1, zg95.1, zg96.1, zg97.1, zg98.1, zg99.1, zg100.1, zg101.1, zg102.1, zg103.1, zg104.1, zg105.1, zg106.1, zg107.1, zg108.1, zg109.1, zg110.1, zg111.1, zg112.1, zg113.1, zg114.1, zg115.1, zg116.1, zg117.1, zg118.1, zg119.1, zg120.1, zg121.1, zg122.1, zg123.1, zg124.1, zg125⟩⟩
noncomputable def f_OP_30 (N : Int) (a1 : Int) (a2 : Int) (a3 : Int) (s4 : Int) (s19 : Int) (s20 : Int) (s21 : Int) (s22 : Int) (s26 : Int) (s27 : Int) (s28 : Int) (s29 : Int) (s30 : Int) (s34 : Int) (s35 : Int) (s36 : Int) (s40 : Int) (s41 : Int) (s42 : Int) (s43 : Int) (s49 : Int) (s60 : Int) (t4 : Nat → Int) (t14 : Nat → Int) (t15 : Nat → Int) (t16 : Nat → Int) (t17 : Nat → Int) (t30 : Nat → Int) (t31 : Nat → Int) (t32 : Nat → Int) (t34 : Nat → Int) (t35 : Nat → Int) (t37 : Nat → Int) (t38 : Nat → Int) (t40 : Nat → Int) (t41 : Nat → Int) (t46 : Nat → Int) (t47 : Nat → Int) (t48 : Nat → Int) (t59 : Nat → Int) (t60 : Nat → Int) (t63 : Nat → Int) (t64 : Nat → Int) (t81 : Nat → Int) (t82 : Nat → Int) : Option (Int × Int × Int × Int × Int × Int × Int × Int × Int × Int × Int × Int × Int × Int × Int × (Nat → Int) × (Nat → Int) × (Nat → Int) × (Nat → Int) × (Nat → Int) × (Nat → Int) × (Nat → Int) × (Nat → Int) × (Nat → Int) × (Nat → Int) × (Nat → Int) × (Nat → Int) × (Nat → Int) × (Nat → Int)) :=
  zd16 (f_HS_duel a1 a2 a3 s26 s27 s28 s29 s30 s49 t34 t35 t37 t38 t40 t41 t63 t64 s34 s35 s36 s40 s41 s42 s43 t46 t47 t48 s60 t59 t60 t81 t82) fun v582 v583 v584 v585 v586 v587 v588 v589 a590 a591 a592 v593 a594 a595 a596 a597 =>
  zd13 (f_HM_duel a1 a2 a3 t4 s4 s19 s20 s21 s22 t14 t15 t16 t17 t30 t31 t32) fun v604 v605 v606 v607 v608 v609 a610 a611 a612 a613 a614 a615 a616 =>
  some (v582, v604, v605, v606, v607, v608, v609, v583, v584, v585, v586, v587, v588, v589, v593, a610, a611, a612, a613, a614, a615, a616, a590, a591, a592, a594, a595, a596, a597)
set_option maxHeartbeats 4000000 in
theorem s_OP_30 (N : Int) (a1 : Int) (a2 : Int) (a3 : Int) (s4 : Int) (s19 : Int) (s20 : Int) (s21 : Int) (s22 : Int) (s26 : Int) (s27 : Int) (s28 : Int) (s29 : Int) (s30 : Int) (s34 : Int) (s35 : Int) (s36 : Int) (s40 : Int) (s41 : Int) (s42 : Int) (s43 : Int) (s49 : Int) (s60 : Int) (t4 : Nat → Int) (t14 : Nat → Int) (t15 : Nat → Int) (t16 : Nat → Int) (t17 : Nat → Int) (t30 : Nat → Int) (t31 : Nat → Int) (t32 : Nat → Int) (t34 : Nat → Int) (t35 : Nat → Int) (t37 : Nat → Int) (t38 : Nat → Int) (t40 : Nat → Int) (t41 : Nat → Int) (t46 : Nat → Int) (t47 : Nat → Int) (t48 : Nat → Int) (t59 : Nat → Int) (t60 : Nat → Int) (t63 : Nat → Int) (t64 : Nat → Int) (t81 : Nat → Int) (t82 : Nat → Int) (b_a1 : (-2147483648) ≤ a1 ∧ a1 ≤ 2147483647) (b_a2 : (-2147483648) ≤ a2 ∧ a2 ≤ 2147483647) (b_a3 : (-2147483648) ≤ a3 ∧ a3 ≤ 2147483647) (b_s26 : 0 ≤ s26 ∧ s26 ≤ 6) (b_s27 : 0 ≤ s27 ∧ s27 ≤ 6) (b_s28 : 0 ≤ s28 ∧ s28 ≤ 6) (b_s29 : (-1) ≤ s29 ∧ s29 ≤ 5) (b_s34 : 0 ≤ s34 ∧ s34 ≤ 32) (b_s35 : 0 ≤ s35 ∧ s35 ≤ 2147483647) (b_s36 : 0 ≤ s36 ∧ s36 ≤ 1) (b_s41 : 0 ≤ s41 ∧ s41 ≤ 4) (b_s42 : 0 ≤ s42 ∧ s42 ≤ 1) (b_s49 : 0 ≤ s49 ∧ s49 ≤ 12) (b_s60 : 0 ≤ s60 ∧ s60 ≤ 12) (h_t4 : RI t4) (h_t16 : zR t16 0 10) (h_t17 : zR t17 0 30) (h_t30 : zR t30 (-1) 17) (h_t31 : zR t31 (-1000) 60) (h_t32 : zR t32 (-1) 17) (h_t34 : zR t34 0 60) (h_t35 : zR t35 0 1) (h_t37 : zR t37 0 11) (h_t38 : zR t38 0 99) (h_t40 : zR t40 (-2147483648) 2147483647) (h_t41 : zR t41 0 424) (h_t46 : zR t46 0 99) (h_t48 : zR t48 (-2147483648) 2147483647) (h_t59 : zR t59 (-1) 11) (h_t60 : zR t60 (-1) 11) (h_t63 : zR t63 0 10) (h_t64 : zR t64 0 30) (h_t81 : zR t81 0 10) (h_t82 : zR t82 0 30) (I_s30 : 0 ≤ s30 ∧ s30 ≤ N) (R_many : s49 = t4 0) (R_ch : s26 = t4 1) (R_pa : s27 = t4 2) (R_st : RV 3 153 s26 t34 t4) (R_ex : RV 3 154 s26 t35 t4) (R_pl : RV 1 171 s27 t37 t4) (R_te : RV 1 5 4 t38 t4) : zok (f_OP_30 N a1 a2 a3 s4 s19 s20 s21 s22 s26 s27 s28 s29 s30 s34 s35 s36 s40 s41 s42 s43 s49 s60 t4 t14 t15 t16 t17 t30 t31 t32 t34 t35 t37 t38 t40 t41 t46 t47 t48 t59 t60 t63 t64 t81 t82) (fun o => (0 ≤ o.2.2.2.2.2.2.2.1 ∧ o.2.2.2.2.2.2.2.1 ≤ 32) ∧ (0 ≤ o.2.2.2.2.2.2.2.2.1 ∧ o.2.2.2.2.2.2.2.2.1 ≤ 2147483647) ∧ (0 ≤ o.2.2.2.2.2.2.2.2.2.1 ∧ o.2.2.2.2.2.2.2.2.2.1 ≤ 1) ∧ (0 ≤ o.2.2.2.2.2.2.2.2.2.2.2.1 ∧ o.2.2.2.2.2.2.2.2.2.2.2.1 ≤ 4) ∧ (0 ≤ o.2.2.2.2.2.2.2.2.2.2.2.2.1 ∧ o.2.2.2.2.2.2.2.2.2.2.2.2.1 ≤ 1) ∧ (0 ≤ o.2.2.2.2.2.2.2.2.2.2.2.2.2.2.1 ∧ o.2.2.2.2.2.2.2.2.2.2.2.2.2.2.1 ≤ 12) ∧ zR o.2.2.2.2.2.2.2.2.2.2.2.2.2.2.2.2.2.2.2.2.2.2.1 0 99 ∧ zR o.2.2.2.2.2.2.2.2.2.2.2.2.2.2.2.2.2.2.2.2.2.2.2.2.1 (-2147483648) 2147483647 ∧ zR o.2.2.2.2.2.2.2.2.2.2.2.2.2.2.2.2.2.2.2.2.2.2.2.2.2.1 (-1) 11 ∧ zR o.2.2.2.2.2.2.2.2.2.2.2.2.2.2.2.2.2.2.2.2.2.2.2.2.2.2.1 (-1) 11 ∧ zR o.2.2.2.2.2.2.2.2.2.2.2.2.2.2.2.2.2.2.2.2.2.2.2.2.2.2.2.1 0 10 ∧ zR o.2.2.2.2.2.2.2.2.2.2.2.2.2.2.2.2.2.2.2.2.2.2.2.2.2.2.2.2 0 30 ∧ zR o.2.2.2.2.2.2.2.2.2.2.2.2.2.2.2.2.2.1 0 10 ∧ zR o.2.2.2.2.2.2.2.2.2.2.2.2.2.2.2.2.2.2.1 0 30 ∧ zR o.2.2.2.2.2.2.2.2.2.2.2.2.2.2.2.2.2.2.2.1 (-1) 17 ∧ zR o.2.2.2.2.2.2.2.2.2.2.2.2.2.2.2.2.2.2.2.2.1 (-1000) 60 ∧ zR o.2.2.2.2.2.2.2.2.2.2.2.2.2.2.2.2.2.2.2.2.2.1 (-1) 17) := by
  unfold f_OP_30
  refine zk_dI16 ?_
  unfold f_HS_duel
  refine zk_ifc (zci_lt (by omega) (by omega)) (fun hc => ?_) (fun hc => ?_)
  · first
    | (exfalso; omega)
    | (skip
       refine zk_rI16 ?_
       refine zk_d13 (ww_HM_duel _ _ _ _ _ _ _ _ _ _ _ _ _ _ _ _ (by omega) (by omega) (by omega) h_t4 h_t16 h_t17 h_t30 h_t31 h_t32) (fun v604 v605 v606 v607 v608 v609 a610 a611 a612 a613 a614 a615 a616 hp => ?_)
       try dsimp only at hp
       obtain ⟨hpp0, hpp1, hpp2, hpp3, hpp4⟩ := hp
       refine zk_ret ?_
       try dsimp only
       exact ⟨by omega, by omega, by omega, by omega, by omega, by omega, h_t46, h_t48, h_t59, h_t60, h_t81, h_t82, hpp0, hpp1, hpp2, hpp3, hpp4⟩)
  · first
    | (exfalso; omega)
    | (skip
       refine zk_ifc (zci_lt (by omega) (by omega)) (fun hc_2 => ?_) (fun hc_2 => ?_)
       · first
         | (exfalso; omega)
         | (skip
            refine zk_rI16 ?_
            refine zk_d13 (ww_HM_duel _ _ _ _ _ _ _ _ _ _ _ _ _ _ _ _ (by omega) (by omega) (by omega) h_t4 h_t16 h_t17 h_t30 h_t31 h_t32) (fun v604_2 v605_2 v606_2 v607_2 v608_2 v609_2 a610_2 a611_2 a612_2 a613_2 a614_2 a615_2 a616_2 hp_2 => ?_)
            try dsimp only at hp_2
            obtain ⟨hp_2p0, hp_2p1, hp_2p2, hp_2p3, hp_2p4⟩ := hp_2
            refine zk_ret ?_
            try dsimp only
            exact ⟨by omega, by omega, by omega, by omega, by omega, by omega, h_t46, h_t48, h_t59, h_t60, h_t81, h_t82, hp_2p0, hp_2p1, hp_2p2, hp_2p3, hp_2p4⟩)
       · first
         | (exfalso; omega)
         | (skip
            refine zk_ifc (zci_ltr (by omega)) (fun hc_3 => ?_) (fun hc_3 => ?_)
            · first
              | (exfalso; omega)
              | (skip
                 refine zk_rI16 ?_
                 refine zk_d13 (ww_HM_duel _ _ _ _ _ _ _ _ _ _ _ _ _ _ _ _ (by omega) (by omega) (by omega) h_t4 h_t16 h_t17 h_t30 h_t31 h_t32) (fun v604_3 v605_3 v606_3 v607_3 v608_3 v609_3 a610_3 a611_3 a612_3 a613_3 a614_3 a615_3 a616_3 hp_3 => ?_)
                 try dsimp only at hp_3
                 obtain ⟨hp_3p0, hp_3p1, hp_3p2, hp_3p3, hp_3p4⟩ := hp_3
                 refine zk_ret ?_
                 try dsimp only
                 exact ⟨by omega, by omega, by omega, by omega, by omega, by omega, h_t46, h_t48, h_t59, h_t60, h_t81, h_t82, hp_3p0, hp_3p1, hp_3p2, hp_3p3, hp_3p4⟩)
            · first
              | (exfalso; omega)
              | (skip
                 refine zk_ifc (zci_lt (by omega) (by omega)) (fun hc_4 => ?_) (fun hc_4 => ?_)
                 · first
                   | (exfalso; omega)
                   | (skip
                      refine zk_rI16 ?_
                      refine zk_d13 (ww_HM_duel _ _ _ _ _ _ _ _ _ _ _ _ _ _ _ _ (by omega) (by omega) (by omega) h_t4 h_t16 h_t17 h_t30 h_t31 h_t32) (fun v604_4 v605_4 v606_4 v607_4 v608_4 v609_4 a610_4 a611_4 a612_4 a613_4 a614_4 a615_4 a616_4 hp_4 => ?_)
                      try dsimp only at hp_4
                      obtain ⟨hp_4p0, hp_4p1, hp_4p2, hp_4p3, hp_4p4⟩ := hp_4
                      refine zk_ret ?_
                      try dsimp only
                      exact ⟨by omega, by omega, by omega, by omega, by omega, by omega, h_t46, h_t48, h_t59, h_t60, h_t81, h_t82, hp_4p0, hp_4p1, hp_4p2, hp_4p3, hp_4p4⟩)
                 · first
                   | (exfalso; omega)
                   | (skip
                      refine zk_ifc (zci_le (by omega) (by omega)) (fun hc_5 => ?_) (fun hc_5 => ?_)
                      · first
                        | (exfalso; omega)
                        | (skip
                           refine zk_d16 (s_Schools_outcome _ _ _ _ _ _ _ _ _ _ _ _ _ _ _ _ _ _ _ _ _ _ _ _ _ _ _ _ _ _ _ _ (by omega) (by omega) (by omega) (by omega) (by omega) (by omega) (by omega) (by omega) h_t34 h_t35 h_t37 h_t38 h_t40 h_t41 h_t63 h_t64 (by omega) (by omega) (by omega) h_t59 h_t60 (by omega) (by omega) (by omega) h_t48 h_t81 h_t82 h_t46) (fun v1 v2 v3 v4 v5 v6 a7 a8 v9 v10 v11 a12 a13 a14 a15 a16 hp_5 => ?_)
                           try dsimp only at hp_5
                           obtain ⟨hp_5p0, hp_5p1, hp_5p2, hp_5p3, hp_5p4, hp_5p5, hp_5p6, hp_5p7, hp_5p8, hp_5p9, hp_5p10, hp_5p11⟩ := hp_5
                           refine zk_rI16 ?_
                           refine zk_d13 (ww_HM_duel _ _ _ _ _ _ _ _ _ _ _ _ _ _ _ _ (by omega) (by omega) (by omega) h_t4 h_t16 h_t17 h_t30 h_t31 h_t32) (fun v604_5 v605_5 v606_5 v607_5 v608_5 v609_5 a610_5 a611_5 a612_5 a613_5 a614_5 a615_5 a616_5 hp_6 => ?_)
                           try dsimp only at hp_6
                           obtain ⟨hp_6p0, hp_6p1, hp_6p2, hp_6p3, hp_6p4⟩ := hp_6
                           refine zk_ret ?_
                           try dsimp only
                           exact ⟨by omega, by omega, by omega, by omega, by omega, by omega, hp_5p11, hp_5p8, hp_5p6, hp_5p7, hp_5p9, hp_5p10, hp_6p0, hp_6p1, hp_6p2, hp_6p3, hp_6p4⟩)
                      · first
                        | (exfalso; omega)
                        | (skip
                           refine zk_rI16 ?_
                           refine zk_d13 (ww_HM_duel _ _ _ _ _ _ _ _ _ _ _ _ _ _ _ _ (by omega) (by omega) (by omega) h_t4 h_t16 h_t17 h_t30 h_t31 h_t32) (fun v604_6 v605_6 v606_6 v607_6 v608_6 v609_6 a610_6 a611_6 a612_6 a613_6 a614_6 a615_6 a616_6 hp_7 => ?_)
                           try dsimp only at hp_7
                           obtain ⟨hp_7p0, hp_7p1, hp_7p2, hp_7p3, hp_7p4⟩ := hp_7
                           refine zk_ret ?_
                           try dsimp only
                           exact ⟨by omega, by omega, by omega, by omega, by omega, by omega, h_t46, h_t48, h_t59, h_t60, h_t81, h_t82, hp_7p0, hp_7p1, hp_7p2, hp_7p3, hp_7p4⟩)))))
set_option maxHeartbeats 4000000 in
set_option maxRecDepth 10000 in
theorem st_30 (N : Int) (σ : Nat → Int) (τ : Nat → Nat → Int) (hI : INV N σ τ) (a1 : Int) (a2 : Int) (a3 : Int) (b_a1 : (-2147483648) ≤ a1 ∧ a1 ≤ 2147483647) (b_a2 : (-2147483648) ≤ a2 ∧ a2 ≤ 2147483647) (b_a3 : (-2147483648) ≤ a3 ∧ a3 ≤ 2147483647) : zok (f_OP_30 N a1 a2 a3 (σ 4) (σ 19) (σ 20) (σ 21) (σ 22) (σ 26) (σ 27) (σ 28) (σ 29) (σ 30) (σ 34) (σ 35) (σ 36) (σ 40) (σ 41) (σ 42) (σ 43) (σ 49) (σ 60) (τ 4) (τ 14) (τ 15) (τ 16) (τ 17) (τ 30) (τ 31) (τ 32) (τ 34) (τ 35) (τ 37) (τ 38) (τ 40) (τ 41) (τ 46) (τ 47) (τ 48) (τ 59) (τ 60) (τ 63) (τ 64) (τ 81) (τ 82)) (fun o => (True) ∧ INV (N + 6) (zst σ [(4, o.2.2.1), (19, o.2.2.2.1), (20, o.2.2.2.2.1), (21, o.2.2.2.2.2.1), (22, o.2.2.2.2.2.2.1), (34, o.2.2.2.2.2.2.2.1), (35, o.2.2.2.2.2.2.2.2.1), (36, o.2.2.2.2.2.2.2.2.2.1), (40, o.2.2.2.2.2.2.2.2.2.2.1), (41, o.2.2.2.2.2.2.2.2.2.2.2.1), (42, o.2.2.2.2.2.2.2.2.2.2.2.2.1), (43, o.2.2.2.2.2.2.2.2.2.2.2.2.2.1), (60, o.2.2.2.2.2.2.2.2.2.2.2.2.2.2.1)]) (zta τ [(14, o.2.2.2.2.2.2.2.2.2.2.2.2.2.2.2.1), (15, o.2.2.2.2.2.2.2.2.2.2.2.2.2.2.2.2.1), (16, o.2.2.2.2.2.2.2.2.2.2.2.2.2.2.2.2.2.1), (17, o.2.2.2.2.2.2.2.2.2.2.2.2.2.2.2.2.2.2.1), (30, o.2.2.2.2.2.2.2.2.2.2.2.2.2.2.2.2.2.2.2.1), (31, o.2.2.2.2.2.2.2.2.2.2.2.2.2.2.2.2.2.2.2.2.1), (32, o.2.2.2.2.2.2.2.2.2.2.2.2.2.2.2.2.2.2.2.2.2.1), (46, o.2.2.2.2.2.2.2.2.2.2.2.2.2.2.2.2.2.2.2.2.2.2.1), (47, o.2.2.2.2.2.2.2.2.2.2.2.2.2.2.2.2.2.2.2.2.2.2.2.1), (48, o.2.2.2.2.2.2.2.2.2.2.2.2.2.2.2.2.2.2.2.2.2.2.2.2.1), (59, o.2.2.2.2.2.2.2.2.2.2.2.2.2.2.2.2.2.2.2.2.2.2.2.2.2.1), (60, o.2.2.2.2.2.2.2.2.2.2.2.2.2.2.2.2.2.2.2.2.2.2.2.2.2.2.1), (81, o.2.2.2.2.2.2.2.2.2.2.2.2.2.2.2.2.2.2.2.2.2.2.2.2.2.2.2.1), (82, o.2.2.2.2.2.2.2.2.2.2.2.2.2.2.2.2.2.2.2.2.2.2.2.2.2.2.2.2)])) := by
  have zg1 := hI.2
  have zg2 := zg1.2
  have zg3 := zg2.2
  have zg4 := zg3.2
  have zg5 := zg4.2
  have zg6 := zg5.2
  have zg7 := zg6.2
  have zg8 := zg7.2
  have zg9 := zg8.2
  have zg10 := zg9.2
  have zg11 := zg10.2
  have zg12 := zg11.2
  have zg13 := zg12.2
  have zg14 := zg13.2
  have zg15 := zg14.2
  have zg16 := zg15.2
  have zg17 := zg16.2
  have zg18 := zg17.2
  have zg19 := zg18.2
  have zg20 := zg19.2
  have zg21 := zg20.2
  have zg22 := zg21.2
  have zg23 := zg22.2
  have zg24 := zg23.2
  have zg25 := zg24.2
  have zg26 := zg25.2
  have zg27 := zg26.2
  have zg28 := zg27.2
  have zg29 := zg28.2
  have zg30 := zg29.2
  have zg31 := zg30.2
  have zg32 := zg31.2
  have zg33 := zg32.2
  have zg34 := zg33.2
  have zg35 := zg34.2
  have zg36 := zg35.2
  have zg37 := zg36.2
  have zg38 := zg37.2
  have zg39 := zg38.2
  have zg40 := zg39.2
  have zg41 := zg40.2
  have zg42 := zg41.2
  have zg43 := zg42.2
  have zg44 := zg43.2
  have zg45 := zg44.2
  have zg46 := zg45.2
  have zg47 := zg46.2
  have zg48 := zg47.2
  have zg49 := zg48.2
  have zg50 := zg49.2
  have zg51 := zg50.2
  have zg52 := zg51.2
  have zg53 := zg52.2
  have zg54 := zg53.2
  have zg55 := zg54.2
  have zg56 := zg55.2
  have zg57 := zg56.2
  have zg58 := zg57.2
  have zg59 := zg58.2
  have zg60 := zg59.2
  have zg61 := zg60.2
  have zg62 := zg61.2
  have zg63 := zg62.2
  have zg64 := zg63.2
  have zg65 := zg64.2
  have zg66 := zg65.2
  have zg67 := zg66.2
  have zg68 := zg67.2
  have zg69 := zg68.2
  have zg70 := zg69.2
  have zg71 := zg70.2
  have zg72 := zg71.2
  have zg73 := zg72.2
  have zg74 := zg73.2
  have zg75 := zg74.2
  have zg76 := zg75.2
  have zg77 := zg76.2
  have zg78 := zg77.2
  have zg79 := zg78.2
  have zg80 := zg79.2
  have zg81 := zg80.2
  have zg82 := zg81.2
  have zg83 := zg82.2
  have zg84 := zg83.2
  have zg85 := zg84.2
  have zg86 := zg85.2
  have zg87 := zg86.2
  have zg88 := zg87.2
  have zg89 := zg88.2
  have zg90 := zg89.2
  have zg91 := zg90.2
  have zg92 := zg91.2
  have zg93 := zg92.2
  have zg94 := zg93.2
  have zg95 := zg94.2
  have zg96 := zg95.2
  have zg97 := zg96.2
  have zg98 := zg97.2
  have zg99 := zg98.2
  have zg100 := zg99.2
  have zg101 := zg100.2
  have zg102 := zg101.2
  have zg103 := zg102.2
  have zg104 := zg103.2
  have zg105 := zg104.2
  have zg106 := zg105.2
  have zg107 := zg106.2
  have zg108 := zg107.2
  have zg109 := zg108.2
  have zg110 := zg109.2
  have zg111 := zg110.2
  have zg112 := zg111.2
  have zg113 := zg112.2
  have zg114 := zg113.2
  have zg115 := zg114.2
  have zg116 := zg115.2
  have zg117 := zg116.2
  have zg118 := zg117.2
  have zg119 := zg118.2
  have zg120 := zg119.2
  have zg121 := zg120.2
  have zg122 := zg121.2
  have zg123 := zg122.2
  have zg124 := zg123.2
  have zg125 := zg124.2
  have I_s26 := zg3.1
  have I_s27 := zg4.1
  have I_s28 := zg5.1
  have I_s29 := zg6.1
  have I_s34 := zg10.1
  have I_s35 := zg11.1
  have I_s36 := zg12.1
  have I_s41 := zg16.1
  have I_s42 := zg17.1
  have I_s49 := zg21.1
  have I_s60 := zg32.1
  have I_t4 := zg99.1
  have I_t16 := zg104.1
  have I_t17 := zg105.1
  have I_t30 := zg107.1
  have I_t31 := zg108.1
  have I_t32 := zg109.1
  have I_t34 := zg45.1
  have I_t35 := zg46.1
  have I_t37 := zg48.1
  have I_t38 := zg49.1
  have I_t40 := zg51.1
  have I_t41 := zg52.1
  have I_t46 := zg56.1
  have I_t48 := zg57.1
  have I_t59 := zg67.1
  have I_t60 := zg68.1
  have I_t63 := zg70.1
  have I_t64 := zg71.1
  have I_t81 := zg88.1
  have I_t82 := zg89.1
  have I_s30 := zg42.1
  have R_many := zg113.1
  have R_ch := zg114.1
  have R_pa := zg115.1
  have R_st := zg116.1
  have R_ex := zg117.1
  have R_pl := zg119.1
  have R_te := zg120.1
  refine zok_mono (s_OP_30 N a1 a2 a3 (σ 4) (σ 19) (σ 20) (σ 21) (σ 22) (σ 26) (σ 27) (σ 28) (σ 29) (σ 30) (σ 34) (σ 35) (σ 36) (σ 40) (σ 41) (σ 42) (σ 43) (σ 49) (σ 60) (τ 4) (τ 14) (τ 15) (τ 16) (τ 17) (τ 30) (τ 31) (τ 32) (τ 34) (τ 35) (τ 37) (τ 38) (τ 40) (τ 41) (τ 46) (τ 47) (τ 48) (τ 59) (τ 60) (τ 63) (τ 64) (τ 81) (τ 82) b_a1 b_a2 b_a3 I_s26 I_s27 I_s28 I_s29 I_s34 I_s35 I_s36 I_s41 I_s42 I_s49 I_s60 I_t4 I_t16 I_t17 I_t30 I_t31 I_t32 I_t34 I_t35 I_t37 I_t38 I_t40 I_t41 I_t46 I_t48 I_t59 I_t60 I_t63 I_t64 I_t81 I_t82 I_s30 R_many R_ch R_pa R_st R_ex R_pl R_te) (fun o ho => ?_)
  obtain ⟨p0, p1, p2, p3, p4, p5, p6, p7, p8, p9, p10, p11, p12, p13, p14, p15, p16⟩ := ho
  exact ⟨trivial, ⟨hI.1, zg1.1, zg2.1, zg3.1, zg4.1, zg5.1, zg6.1, zg7.1, zg8.1, zg9.1, p0, p1, p2, zg13.1, zg14.1, zg15.1, p3, p4, zg18.1, zg19.1, zg20.1, zg21.1, zg22.1, zg23.1, zg24.1, zg25.1, zg26.1, zg27.1, zg28.1, zg29.1, zg30.1, zg31.1, p5, zg33.1, zg34.1, zg35.1, zg36.1, zg37.1, zg38.1, zg39.1, zg40.1, zg41.1, ⟨zg42.1.1, Int.le_trans zg42.1.2 (Int.le_add_of_nonneg_right (by decide))⟩, zg43.1, zg44.1, zg45.1, zg46.1, zg47.1, zg48.1, zg49.1, zg50.1, zg51.1, zg52.1, zg53.1, zg54.1, zg55.1, p6, p7, zg58.1, zg59.1, zg60.1, zg61.1, zg62.1, zg63.1, zg64.1, zg65.1, zg66.1, p8, p9, zg69.1, zg70.1, zg71.1, zg72.1, zg73.1, zg74.1, zg75.1, zg76.1, zg77.1, zg78.1, zg79.1, zg80.1, zg81.1, zg82.1, zg83.1, zg84.1, zg85.1, zg86.1, zg87.1, p10, p11, zg90.1, zg91.1, zg92.1, zg93.1, zg94.1, zg95.1, zg96.1, zg97.1, zg98.1, zg99.1, zg100.1, zg101.1, zg102.1, zg103.1, p12, p13, zg106.1, p14, p15, p16, zg110.1, zg111.1, zg112.1, zg113.1, zg114.1, zg115.1, zg116.1, zg117.1, zg118.1, zg119.1, zg120.1, zg121.1, zg122.1, zg123.1, zg124.1, zg125⟩⟩
noncomputable def f_OP_31 (N : Int) (a1 : Int) (s4 : Int) (s49 : Int) (t4 : Nat → Int) (t63 : Nat → Int) (t64 : Nat → Int) : Option (Int × Int × Int) :=
  zd1 (f_HS_layers a1 s49 t63 t64) fun v619 =>
  zd2 (f_HM_layers a1 t4 s4) fun v622 v623 =>
  some (v619, v622, v623)
set_option maxHeartbeats 4000000 in
theorem s_OP_31 (N : Int) (a1 : Int) (s4 : Int) (s49 : Int) (t4 : Nat → Int) (t63 : Nat → Int) (t64 : Nat → Int) (b_a1 : (-2147483648) ≤ a1 ∧ a1 ≤ 2147483647) (b_s49 : 0 ≤ s49 ∧ s49 ≤ 12) (h_t4 : RI t4) (h_t63 : zR t63 0 10) (h_t64 : zR t64 0 30) (R_many : s49 = t4 0) : zok (f_OP_31 N a1 s4 s49 t4 t63 t64) (fun o => True) := by
  unfold f_OP_31
  refine zk_dI1 ?_
  unfold f_HS_layers
  refine zk_d1 (s_Columns_has _ _ (by omega) (by omega)) (fun v1 hp => ?_)
  try dsimp only at hp
  obtain ⟨hpp0, hpp1⟩ := hp
  refine zk_ifc (zci_eqr (by omega)) (fun hc => ?_) (fun hc => ?_)
  · first
    | (exfalso; omega)
    | (skip
       refine zk_rI1 ?_
       refine zk_d2 (s_HM_layers _ _ _ (by omega) h_t4) (fun v622 v623 hp_2 => ?_)
       exact zk_ret trivial)
  · first
    | (exfalso; omega)
    | (skip
       refine zk_d1 (s_Scales_layersOf _ _ _ _ (by omega) (by omega) h_t63 h_t64) (fun v2 hp_3 => ?_)
       refine zk_rI1 ?_
       refine zk_d2 (s_HM_layers _ _ _ (by omega) h_t4) (fun v622_2 v623_2 hp_4 => ?_)
       exact zk_ret trivial)
set_option maxHeartbeats 4000000 in
set_option maxRecDepth 10000 in
theorem st_31 (N : Int) (σ : Nat → Int) (τ : Nat → Nat → Int) (hI : INV N σ τ) (a1 : Int) (b_a1 : (-2147483648) ≤ a1 ∧ a1 ≤ 2147483647) : zok (f_OP_31 N a1 (σ 4) (σ 49) (τ 4) (τ 63) (τ 64)) (fun o => (True) ∧ INV (N + 6) (zst σ [(4, o.2.2)]) τ) := by
  have zg1 := hI.2
  have zg2 := zg1.2
  have zg3 := zg2.2
  have zg4 := zg3.2
  have zg5 := zg4.2
  have zg6 := zg5.2
  have zg7 := zg6.2
  have zg8 := zg7.2
  have zg9 := zg8.2
  have zg10 := zg9.2
  have zg11 := zg10.2
  have zg12 := zg11.2
  have zg13 := zg12.2
  have zg14 := zg13.2
  have zg15 := zg14.2
  have zg16 := zg15.2
  have zg17 := zg16.2
  have zg18 := zg17.2
  have zg19 := zg18.2
  have zg20 := zg19.2
  have zg21 := zg20.2
  have zg22 := zg21.2
  have zg23 := zg22.2
  have zg24 := zg23.2
  have zg25 := zg24.2
  have zg26 := zg25.2
  have zg27 := zg26.2
  have zg28 := zg27.2
  have zg29 := zg28.2
  have zg30 := zg29.2
  have zg31 := zg30.2
  have zg32 := zg31.2
  have zg33 := zg32.2
  have zg34 := zg33.2
  have zg35 := zg34.2
  have zg36 := zg35.2
  have zg37 := zg36.2
  have zg38 := zg37.2
  have zg39 := zg38.2
  have zg40 := zg39.2
  have zg41 := zg40.2
  have zg42 := zg41.2
  have zg43 := zg42.2
  have zg44 := zg43.2
  have zg45 := zg44.2
  have zg46 := zg45.2
  have zg47 := zg46.2
  have zg48 := zg47.2
  have zg49 := zg48.2
  have zg50 := zg49.2
  have zg51 := zg50.2
  have zg52 := zg51.2
  have zg53 := zg52.2
  have zg54 := zg53.2
  have zg55 := zg54.2
  have zg56 := zg55.2
  have zg57 := zg56.2
  have zg58 := zg57.2
  have zg59 := zg58.2
  have zg60 := zg59.2
  have zg61 := zg60.2
  have zg62 := zg61.2
  have zg63 := zg62.2
  have zg64 := zg63.2
  have zg65 := zg64.2
  have zg66 := zg65.2
  have zg67 := zg66.2
  have zg68 := zg67.2
  have zg69 := zg68.2
  have zg70 := zg69.2
  have zg71 := zg70.2
  have zg72 := zg71.2
  have zg73 := zg72.2
  have zg74 := zg73.2
  have zg75 := zg74.2
  have zg76 := zg75.2
  have zg77 := zg76.2
  have zg78 := zg77.2
  have zg79 := zg78.2
  have zg80 := zg79.2
  have zg81 := zg80.2
  have zg82 := zg81.2
  have zg83 := zg82.2
  have zg84 := zg83.2
  have zg85 := zg84.2
  have zg86 := zg85.2
  have zg87 := zg86.2
  have zg88 := zg87.2
  have zg89 := zg88.2
  have zg90 := zg89.2
  have zg91 := zg90.2
  have zg92 := zg91.2
  have zg93 := zg92.2
  have zg94 := zg93.2
  have zg95 := zg94.2
  have zg96 := zg95.2
  have zg97 := zg96.2
  have zg98 := zg97.2
  have zg99 := zg98.2
  have zg100 := zg99.2
  have zg101 := zg100.2
  have zg102 := zg101.2
  have zg103 := zg102.2
  have zg104 := zg103.2
  have zg105 := zg104.2
  have zg106 := zg105.2
  have zg107 := zg106.2
  have zg108 := zg107.2
  have zg109 := zg108.2
  have zg110 := zg109.2
  have zg111 := zg110.2
  have zg112 := zg111.2
  have zg113 := zg112.2
  have zg114 := zg113.2
  have zg115 := zg114.2
  have zg116 := zg115.2
  have zg117 := zg116.2
  have zg118 := zg117.2
  have zg119 := zg118.2
  have zg120 := zg119.2
  have zg121 := zg120.2
  have zg122 := zg121.2
  have zg123 := zg122.2
  have zg124 := zg123.2
  have zg125 := zg124.2
  have I_s49 := zg21.1
  have I_t4 := zg99.1
  have I_t63 := zg70.1
  have I_t64 := zg71.1
  have R_many := zg113.1
  refine zok_mono (s_OP_31 N a1 (σ 4) (σ 49) (τ 4) (τ 63) (τ 64) b_a1 I_s49 I_t4 I_t63 I_t64 R_many) (fun o ho => ?_)
  skip
  exact ⟨trivial, ⟨hI.1, zg1.1, zg2.1, zg3.1, zg4.1, zg5.1, zg6.1, zg7.1, zg8.1, zg9.1, zg10.1, zg11.1, zg12.1, zg13.1, zg14.1, zg15.1, zg16.1, zg17.1, zg18.1, zg19.1, zg20.1, zg21.1, zg22.1, zg23.1, zg24.1, zg25.1, zg26.1, zg27.1, zg28.1, zg29.1, zg30.1, zg31.1, zg32.1, zg33.1, zg34.1, zg35.1, zg36.1, zg37.1, zg38.1, zg39.1, zg40.1, zg41.1, ⟨zg42.1.1, Int.le_trans zg42.1.2 (Int.le_add_of_nonneg_right (by decide))⟩, zg43.1, zg44.1, zg45.1, zg46.1, zg47.1, zg48.1, zg49.1, zg50.1, zg51.1, zg52.1, zg53.1, zg54.1, zg55.1, zg56.1, zg57.1, zg58.1, zg59.1, zg60.1, zg61.1, zg62.1, zg63.1, zg64.1, zg65.1, zg66.1, zg67.1, zg68.1, zg69.1, zg70.1, zg71.1, zg72.1, zg73.1, zg74.1, zg75.1, zg76.1, zg77.1, zg78.1, zg79.1, zg80.1, zg81.1, zg82.1, zg83.1, zg84.1, zg85.1, zg86.1, zg87.1, zg88.1, zg89.1, zg90.1, zg91.1, zg92.1, zg93.1, zg94.1, zg95.1, zg96.1, zg97.1, zg98.1, zg99.1, zg100.1, zg101.1, zg102.1, zg103.1, zg104.1, zg105.1, zg106.1, zg107.1, zg108.1, zg109.1, zg110.1, zg111.1, zg112.1, zg113.1, zg114.1, zg115.1, zg116.1, zg117.1, zg118.1, zg119.1, zg120.1, zg121.1, zg122.1, zg123.1, zg124.1, zg125⟩⟩
end
section
noncomputable def f_OP_32 (N : Int) (a1 : Int) (a2 : Int) (s3 : Int) (s4 : Int) (s5 : Int) (s24 : Int) (s25 : Int) (s30 : Int) (s49 : Int) (s61 : Int) (t2 : Nat → Int) (t3 : Nat → Int) (t4 : Nat → Int) (t16 : Nat → Int) (t17 : Nat → Int) (t33 : Nat → Int) (t38 : Nat → Int) (t63 : Nat → Int) (t64 : Nat → Int) (t83 : Nat → Int) (t84 : Nat → Int) : Option (Int × Int × Int × Int × Int × Int × Int × Int × Int × (Nat → Int) × (Nat → Int) × (Nat → Int) × (Nat → Int) × (Nat → Int) × (Nat → Int) × (Nat → Int)) :=
  zd7 (f_HS_rain a1 a2 s49 t38 t63 t64 s3 s30 t2 s61 t83 t84) fun v628 v629 v630 a631 v632 a633 a634 =>
  zd9 (f_HM_rain a1 a2 t4 s4 s5 s24 s25 t3 t16 t17 t33) fun v639 v640 v641 v642 v643 a644 a645 a646 a647 =>
  some (v628, v639, v629, v640, v641, v642, v643, v630, v632, a631, a644, a645, a646, a647, a633, a634)
set_option maxHeartbeats 4000000 in
theorem s_OP_32 (N : Int) (a1 : Int) (a2 : Int) (s3 : Int) (s4 : Int) (s5 : Int) (s24 : Int) (s25 : Int) (s30 : Int) (s49 : Int) (s61 : Int) (t2 : Nat → Int) (t3 : Nat → Int) (t4 : Nat → Int) (t16 : Nat → Int) (t17 : Nat → Int) (t33 : Nat → Int) (t38 : Nat → Int) (t63 : Nat → Int) (t64 : Nat → Int) (t83 : Nat → Int) (t84 : Nat → Int) (b_a1 : (-2147483648) ≤ a1 ∧ a1 ≤ 2147483647) (b_a2 : (-2147483648) ≤ a2 ∧ a2 ≤ 2147483647) (b_s3 : (-6) ≤ s3 ∧ s3 ≤ 0) (b_s25 : 0 ≤ s25 ∧ s25 ≤ 12) (b_s49 : 0 ≤ s49 ∧ s49 ≤ 12) (b_s61 : 0 ≤ s61 ∧ s61 ≤ 12) (h_t4 : RI t4) (h_t16 : zR t16 0 10) (h_t17 : zR t17 0 30) (h_t38 : zR t38 0 99) (h_t63 : zR t63 0 10) (h_t64 : zR t64 0 30) (h_t83 : zR t83 0 10) (h_t84 : zR t84 0 30) (I_s30 : 0 ≤ s30 ∧ s30 ≤ N) (R_many : s49 = t4 0) (R_te : RV 1 5 4 t38 t4) : zok (f_OP_32 N a1 a2 s3 s4 s5 s24 s25 s30 s49 s61 t2 t3 t4 t16 t17 t33 t38 t63 t64 t83 t84) (fun o => ((-6) ≤ o.2.2.1 ∧ o.2.2.1 ≤ 0) ∧ (0 ≤ o.2.2.2.2.2.2.2.2.1 ∧ o.2.2.2.2.2.2.2.2.1 ≤ 12) ∧ (0 ≤ o.2.2.2.2.2.2.2.1 ∧ o.2.2.2.2.2.2.2.1 ≤ N + 6) ∧ zR o.2.2.2.2.2.2.2.2.2.2.2.2.2.2.1 0 10 ∧ zR o.2.2.2.2.2.2.2.2.2.2.2.2.2.2.2 0 30 ∧ (0 ≤ o.2.2.2.2.2.2.1 ∧ o.2.2.2.2.2.2.1 ≤ 12) ∧ zR o.2.2.2.2.2.2.2.2.2.2.2.1 0 10 ∧ zR o.2.2.2.2.2.2.2.2.2.2.2.2.1 0 30) := by
  unfold f_OP_32
  refine zk_dI7 ?_
  unfold f_HS_rain
  refine zk_ifc (zci_ltr (by omega)) (fun hc => ?_) (fun hc => ?_)
  · first
    | (exfalso; omega)
    | (skip
       unfold f_HS_rain_22
       refine zk_dI3 ?_
       unfold f_HS_refuse
       refine zk_nE (fun v1 h_v1 => ?_)
       refine zk_gv (by omega) (by decide) (fun v2 h_v2 => ?_)
       refine zk_n ?_
       refine zk_sv (by omega) (by decide) (fun a4 h_a4 => ?_)
       refine zk_rI3 ?_
       refine zk_rI7 ?_
       refine zk_d9 (s_HM_rain _ _ _ _ _ _ _ _ _ _ _ (by omega) (by omega) h_t4 (by omega) h_t16 h_t17) (fun v639 v640 v641 v642 v643 a644 a645 a646 a647 hp => ?_)
       try dsimp only at hp
       obtain ⟨hpp0, hpp1, hpp2⟩ := hp
       refine zk_ret ?_
       try dsimp only
       exact ⟨by omega, by omega, by omega, h_t83, h_t84, by omega, hpp1, hpp2⟩)
  · first
    | (exfalso; omega)
    | (skip
       refine zk_ifc (zci_lt (by omega) (by omega)) (fun hc_2 => ?_) (fun hc_2 => ?_)
       · first
         | (exfalso; omega)
         | (skip
            unfold f_HS_rain_22
            refine zk_dI3 ?_
            unfold f_HS_refuse
            refine zk_nE (fun v1_2 h_v1_2 => ?_)
            refine zk_gv (by omega) (by decide) (fun v2_2 h_v2_2 => ?_)
            refine zk_n ?_
            refine zk_sv (by omega) (by decide) (fun a4_2 h_a4_2 => ?_)
            refine zk_rI3 ?_
            refine zk_rI7 ?_
            refine zk_d9 (s_HM_rain _ _ _ _ _ _ _ _ _ _ _ (by omega) (by omega) h_t4 (by omega) h_t16 h_t17) (fun v639_2 v640_2 v641_2 v642_2 v643_2 a644_2 a645_2 a646_2 a647_2 hp_2 => ?_)
            try dsimp only at hp_2
            obtain ⟨hp_2p0, hp_2p1, hp_2p2⟩ := hp_2
            refine zk_ret ?_
            try dsimp only
            exact ⟨by omega, by omega, by omega, h_t83, h_t84, by omega, hp_2p1, hp_2p2⟩)
       · first
         | (exfalso; omega)
         | (skip
            refine zk_ifc (zci_lt (by omega) (by omega)) (fun hc_3 => ?_) (fun hc_3 => ?_)
            · first
              | (exfalso; omega)
              | (skip
                 unfold f_HS_rain_22
                 refine zk_dI3 ?_
                 unfold f_HS_refuse
                 refine zk_nE (fun v1_3 h_v1_3 => ?_)
                 refine zk_gv (by omega) (by decide) (fun v2_3 h_v2_3 => ?_)
                 refine zk_n ?_
                 refine zk_sv (by omega) (by decide) (fun a4_3 h_a4_3 => ?_)
                 refine zk_rI3 ?_
                 refine zk_rI7 ?_
                 refine zk_d9 (s_HM_rain _ _ _ _ _ _ _ _ _ _ _ (by omega) (by omega) h_t4 (by omega) h_t16 h_t17) (fun v639_3 v640_3 v641_3 v642_3 v643_3 a644_3 a645_3 a646_3 a647_3 hp_3 => ?_)
                 try dsimp only at hp_3
                 obtain ⟨hp_3p0, hp_3p1, hp_3p2⟩ := hp_3
                 refine zk_ret ?_
                 try dsimp only
                 exact ⟨by omega, by omega, by omega, h_t83, h_t84, by omega, hp_3p1, hp_3p2⟩)
            · first
              | (exfalso; omega)
              | (skip
                 refine zk_ifc (zci_le (by omega) (by omega)) (fun hc_4 => ?_) (fun hc_4 => ?_)
                 · first
                   | (exfalso; omega)
                   | (skip
                      refine zk_gl 2 rfl (by decide) (by decide) (fun v1_4 h_v1_4 => ?_)
                      have r_v1_4 := h_t38 (2)
                      refine zk_d4 (s_Paper_pour _ _ _ _ _ _ _ _ _ (by omega) (by omega) (by omega) (by omega) h_t63 h_t64 (by omega) h_t83 h_t84) (fun v2_4 v3_4 a4_4 a5 hp_4 => ?_)
                      try dsimp only at hp_4
                      obtain ⟨hp_4p0, hp_4p1, hp_4p2⟩ := hp_4
                      refine zk_dI3 ?_
                      unfold f_HS_accept
                      refine zk_n ?_
                      refine zk_rI3 ?_
                      refine zk_rI7 ?_
                      refine zk_d9 (s_HM_rain _ _ _ _ _ _ _ _ _ _ _ (by omega) (by omega) h_t4 (by omega) h_t16 h_t17) (fun v639_4 v640_4 v641_4 v642_4 v643_4 a644_4 a645_4 a646_4 a647_4 hp_5 => ?_)
                      try dsimp only at hp_5
                      obtain ⟨hp_5p0, hp_5p1, hp_5p2⟩ := hp_5
                      refine zk_ret ?_
                      try dsimp only
                      exact ⟨by omega, by omega, by omega, hp_4p1, hp_4p2, by omega, hp_5p1, hp_5p2⟩)
                 · first
                   | (exfalso; omega)
                   | (skip
                      unfold f_HS_rain_22
                      refine zk_dI3 ?_
                      unfold f_HS_refuse
                      refine zk_nE (fun v1_6 h_v1_6 => ?_)
                      refine zk_gv (by omega) (by decide) (fun v2_5 h_v2_5 => ?_)
                      refine zk_n ?_
                      refine zk_sv (by omega) (by decide) (fun a4_5 h_a4_5 => ?_)
                      refine zk_rI3 ?_
                      refine zk_rI7 ?_
                      refine zk_d9 (s_HM_rain _ _ _ _ _ _ _ _ _ _ _ (by omega) (by omega) h_t4 (by omega) h_t16 h_t17) (fun v639_5 v640_5 v641_5 v642_5 v643_5 a644_5 a645_5 a646_5 a647_5 hp_6 => ?_)
                      try dsimp only at hp_6
                      obtain ⟨hp_6p0, hp_6p1, hp_6p2⟩ := hp_6
                      refine zk_ret ?_
                      try dsimp only
                      exact ⟨by omega, by omega, by omega, h_t83, h_t84, by omega, hp_6p1, hp_6p2⟩))))
set_option maxHeartbeats 4000000 in
set_option maxRecDepth 10000 in
theorem st_32 (N : Int) (σ : Nat → Int) (τ : Nat → Nat → Int) (hI : INV N σ τ) (a1 : Int) (a2 : Int) (b_a1 : (-2147483648) ≤ a1 ∧ a1 ≤ 2147483647) (b_a2 : (-2147483648) ≤ a2 ∧ a2 ≤ 2147483647) : zok (f_OP_32 N a1 a2 (σ 3) (σ 4) (σ 5) (σ 24) (σ 25) (σ 30) (σ 49) (σ 61) (τ 2) (τ 3) (τ 4) (τ 16) (τ 17) (τ 33) (τ 38) (τ 63) (τ 64) (τ 83) (τ 84)) (fun o => (True) ∧ INV (N + 6) (zst σ [(3, o.2.2.1), (4, o.2.2.2.1), (5, o.2.2.2.2.1), (24, o.2.2.2.2.2.1), (25, o.2.2.2.2.2.2.1), (30, o.2.2.2.2.2.2.2.1), (61, o.2.2.2.2.2.2.2.2.1)]) (zta τ [(2, o.2.2.2.2.2.2.2.2.2.1), (3, o.2.2.2.2.2.2.2.2.2.2.1), (16, o.2.2.2.2.2.2.2.2.2.2.2.1), (17, o.2.2.2.2.2.2.2.2.2.2.2.2.1), (33, o.2.2.2.2.2.2.2.2.2.2.2.2.2.1), (83, o.2.2.2.2.2.2.2.2.2.2.2.2.2.2.1), (84, o.2.2.2.2.2.2.2.2.2.2.2.2.2.2.2)])) := by
  have zg1 := hI.2
  have zg2 := zg1.2
  have zg3 := zg2.2
  have zg4 := zg3.2
  have zg5 := zg4.2
  have zg6 := zg5.2
  have zg7 := zg6.2
  have zg8 := zg7.2
  have zg9 := zg8.2
  have zg10 := zg9.2
  have zg11 := zg10.2
  have zg12 := zg11.2
  have zg13 := zg12.2
  have zg14 := zg13.2
  have zg15 := zg14.2
  have zg16 := zg15.2
  have zg17 := zg16.2
  have zg18 := zg17.2
  have zg19 := zg18.2
  have zg20 := zg19.2
  have zg21 := zg20.2
  have zg22 := zg21.2
  have zg23 := zg22.2
  have zg24 := zg23.2
  have zg25 := zg24.2
  have zg26 := zg25.2
  have zg27 := zg26.2
  have zg28 := zg27.2
  have zg29 := zg28.2
  have zg30 := zg29.2
  have zg31 := zg30.2
  have zg32 := zg31.2
  have zg33 := zg32.2
  have zg34 := zg33.2
  have zg35 := zg34.2
  have zg36 := zg35.2
  have zg37 := zg36.2
  have zg38 := zg37.2
  have zg39 := zg38.2
  have zg40 := zg39.2
  have zg41 := zg40.2
  have zg42 := zg41.2
  have zg43 := zg42.2
  have zg44 := zg43.2
  have zg45 := zg44.2
  have zg46 := zg45.2
  have zg47 := zg46.2
  have zg48 := zg47.2
  have zg49 := zg48.2
  have zg50 := zg49.2
  have zg51 := zg50.2
  have zg52 := zg51.2
  have zg53 := zg52.2
  have zg54 := zg53.2
  have zg55 := zg54.2
  have zg56 := zg55.2
  have zg57 := zg56.2
  have zg58 := zg57.2
  have zg59 := zg58.2
  have zg60 := zg59.2
  have zg61 := zg60.2
  have zg62 := zg61.2
  have zg63 := zg62.2
  have zg64 := zg63.2
  have zg65 := zg64.2
  have zg66 := zg65.2
  have zg67 := zg66.2
  have zg68 := zg67.2
  have zg69 := zg68.2
  have zg70 := zg69.2
  have zg71 := zg70.2
  have zg72 := zg71.2
  have zg73 := zg72.2
  have zg74 := zg73.2
  have zg75 := zg74.2
  have zg76 := zg75.2
  have zg77 := zg76.2
  have zg78 := zg77.2
  have zg79 := zg78.2
  have zg80 := zg79.2
  have zg81 := zg80.2
  have zg82 := zg81.2
  have zg83 := zg82.2
  have zg84 := zg83.2
  have zg85 := zg84.2
  have zg86 := zg85.2
  have zg87 := zg86.2
  have zg88 := zg87.2
  have zg89 := zg88.2
  have zg90 := zg89.2
  have zg91 := zg90.2
  have zg92 := zg91.2
  have zg93 := zg92.2
  have zg94 := zg93.2
  have zg95 := zg94.2
  have zg96 := zg95.2
  have zg97 := zg96.2
  have zg98 := zg97.2
  have zg99 := zg98.2
  have zg100 := zg99.2
  have zg101 := zg100.2
  have zg102 := zg101.2
  have zg103 := zg102.2
  have zg104 := zg103.2
  have zg105 := zg104.2
  have zg106 := zg105.2
  have zg107 := zg106.2
  have zg108 := zg107.2
  have zg109 := zg108.2
  have zg110 := zg109.2
  have zg111 := zg110.2
  have zg112 := zg111.2
  have zg113 := zg112.2
  have zg114 := zg113.2
  have zg115 := zg114.2
  have zg116 := zg115.2
  have zg117 := zg116.2
  have zg118 := zg117.2
  have zg119 := zg118.2
  have zg120 := zg119.2
  have zg121 := zg120.2
  have zg122 := zg121.2
  have zg123 := zg122.2
  have zg124 := zg123.2
  have zg125 := zg124.2
  have I_s3 := zg2.1
  have I_s25 := zg101.1
  have I_s49 := zg21.1
  have I_s61 := zg33.1
  have I_t4 := zg99.1
  have I_t16 := zg104.1
  have I_t17 := zg105.1
  have I_t38 := zg49.1
  have I_t63 := zg70.1
  have I_t64 := zg71.1
  have I_t83 := zg90.1
  have I_t84 := zg91.1
  have I_s30 := zg42.1
  have R_many := zg113.1
  have R_te := zg120.1
  refine zok_mono (s_OP_32 N a1 a2 (σ 3) (σ 4) (σ 5) (σ 24) (σ 25) (σ 30) (σ 49) (σ 61) (τ 2) (τ 3) (τ 4) (τ 16) (τ 17) (τ 33) (τ 38) (τ 63) (τ 64) (τ 83) (τ 84) b_a1 b_a2 I_s3 I_s25 I_s49 I_s61 I_t4 I_t16 I_t17 I_t38 I_t63 I_t64 I_t83 I_t84 I_s30 R_many R_te) (fun o ho => ?_)
  obtain ⟨p0, p1, p2, p3, p4, p5, p6, p7⟩ := ho
  exact ⟨trivial, ⟨hI.1, zg1.1, p0, zg3.1, zg4.1, zg5.1, zg6.1, zg7.1, zg8.1, zg9.1, zg10.1, zg11.1, zg12.1, zg13.1, zg14.1, zg15.1, zg16.1, zg17.1, zg18.1, zg19.1, zg20.1, zg21.1, zg22.1, zg23.1, zg24.1, zg25.1, zg26.1, zg27.1, zg28.1, zg29.1, zg30.1, zg31.1, zg32.1, p1, zg34.1, zg35.1, zg36.1, zg37.1, zg38.1, zg39.1, zg40.1, zg41.1, p2, zg43.1, zg44.1, zg45.1, zg46.1, zg47.1, zg48.1, zg49.1, zg50.1, zg51.1, zg52.1, zg53.1, zg54.1, zg55.1, zg56.1, zg57.1, zg58.1, zg59.1, zg60.1, zg61.1, zg62.1, zg63.1, zg64.1, zg65.1, zg66.1, zg67.1, zg68.1, zg69.1, zg70.1, zg71.1, zg72.1, zg73.1, zg74.1, zg75.1, zg76.1, zg77.1, zg78.1, zg79.1, zg80.1, zg81.1, zg82.1, zg83.1, zg84.1, zg85.1, zg86.1, zg87.1, zg88.1, zg89.1, p3, p4, zg92.1, zg93.1, zg94.1, zg95.1, zg96.1, zg97.1, zg98.1, zg99.1, zg100.1, p5, zg102.1, zg103.1, p6, p7, zg106.1, zg107.1, zg108.1, zg109.1, zg110.1, zg111.1, zg112.1, zg113.1, zg114.1, zg115.1, zg116.1, zg117.1, zg118.1, zg119.1, zg120.1, zg121.1, zg122.1, zg123.1, zg124.1, zg125⟩⟩
noncomputable def f_OP_33 (N : Int) (a1 : Int) (a2 : Int) (s4 : Int) (s25 : Int) (s61 : Int) (t33 : Nat → Int) (t83 : Nat → Int) (t84 : Nat → Int) : Option (Int × Int × Int) :=
  zd1 (f_HS_rained a1 a2 s61 t83 t84) fun v652 =>
  zd2 (f_HM_rained a1 a2 s25 t33 s4) fun v657 v658 =>
  some (v652, v657, v658)
set_option maxHeartbeats 4000000 in
theorem s_OP_33 (N : Int) (a1 : Int) (a2 : Int) (s4 : Int) (s25 : Int) (s61 : Int) (t33 : Nat → Int) (t83 : Nat → Int) (t84 : Nat → Int) (b_a1 : (-2147483648) ≤ a1 ∧ a1 ≤ 2147483647) (b_a2 : (-2147483648) ≤ a2 ∧ a2 ≤ 2147483647) (b_s25 : 0 ≤ s25 ∧ s25 ≤ 12) (b_s61 : 0 ≤ s61 ∧ s61 ≤ 12) (h_t83 : zR t83 0 10) (h_t84 : zR t84 0 30) : zok (f_OP_33 N a1 a2 s4 s25 s61 t33 t83 t84) (fun o => True) := by
  unfold f_OP_33
  refine zk_dI1 ?_
  unfold f_HS_rained
  refine zk_d1 (s_Columns_has _ _ (by omega) (by omega)) (fun v1 hp => ?_)
  try dsimp only at hp
  obtain ⟨hpp0, hpp1⟩ := hp
  refine zk_ifc (zci_eqr (by omega)) (fun hc => ?_) (fun hc => ?_)
  · first
    | (exfalso; omega)
    | (skip
       refine zk_rI1 ?_
       refine zk_d2 (s_HM_rained _ _ _ _ _ (by omega) (by omega) (by omega)) (fun v657 v658 hp_2 => ?_)
       exact zk_ret trivial)
  · first
    | (exfalso; omega)
    | (skip
       refine zk_ifc (zci_ltr (by omega)) (fun hc_2 => ?_) (fun hc_2 => ?_)
       · first
         | (exfalso; omega)
         | (skip
            refine zk_rI1 ?_
            refine zk_d2 (s_HM_rained _ _ _ _ _ (by omega) (by omega) (by omega)) (fun v657_2 v658_2 hp_3 => ?_)
            exact zk_ret trivial)
       · first
         | (exfalso; omega)
         | (skip
            refine zk_ifc (zci_le (by omega) (by omega)) (fun hc_3 => ?_) (fun hc_3 => ?_)
            · first
              | (exfalso; omega)
              | (skip
                 refine zk_ifc (zci_ner (by omega)) (fun hc_4 => ?_) (fun hc_4 => ?_)
                 · first
                   | (exfalso; omega)
                   | (skip
                      refine zk_d1 (s_Columns_load _ _ _ _ (by omega) (by omega) h_t83 h_t84) (fun v2 hp_4 => ?_)
                      refine zk_rI1 ?_
                      refine zk_d2 (s_HM_rained _ _ _ _ _ (by omega) (by omega) (by omega)) (fun v657_3 v658_3 hp_5 => ?_)
                      exact zk_ret trivial)
                 · first
                   | (exfalso; omega)
                   | (skip
                      refine zk_d1 (s_Columns_high _ _ _ (by omega) (by omega) h_t83) (fun v3 hp_6 => ?_)
                      try dsimp only at hp_6
                      obtain ⟨hp_6p0, hp_6p1⟩ := hp_6
                      refine zk_rI1 ?_
                      refine zk_d2 (s_HM_rained _ _ _ _ _ (by omega) (by omega) (by omega)) (fun v657_4 v658_4 hp_7 => ?_)
                      exact zk_ret trivial))
            · first
              | (exfalso; omega)
              | (skip
                 refine zk_rI1 ?_
                 refine zk_d2 (s_HM_rained _ _ _ _ _ (by omega) (by omega) (by omega)) (fun v657_5 v658_5 hp_8 => ?_)
                 exact zk_ret trivial)))
set_option maxHeartbeats 4000000 in
set_option maxRecDepth 10000 in
theorem st_33 (N : Int) (σ : Nat → Int) (τ : Nat → Nat → Int) (hI : INV N σ τ) (a1 : Int) (a2 : Int) (b_a1 : (-2147483648) ≤ a1 ∧ a1 ≤ 2147483647) (b_a2 : (-2147483648) ≤ a2 ∧ a2 ≤ 2147483647) : zok (f_OP_33 N a1 a2 (σ 4) (σ 25) (σ 61) (τ 33) (τ 83) (τ 84)) (fun o => (True) ∧ INV (N + 6) (zst σ [(4, o.2.2)]) τ) := by
  have zg1 := hI.2
  have zg2 := zg1.2
  have zg3 := zg2.2
  have zg4 := zg3.2
  have zg5 := zg4.2
  have zg6 := zg5.2
  have zg7 := zg6.2
  have zg8 := zg7.2
  have zg9 := zg8.2
  have zg10 := zg9.2
  have zg11 := zg10.2
  have zg12 := zg11.2
  have zg13 := zg12.2
  have zg14 := zg13.2
  have zg15 := zg14.2
  have zg16 := zg15.2
  have zg17 := zg16.2
  have zg18 := zg17.2
  have zg19 := zg18.2
  have zg20 := zg19.2
  have zg21 := zg20.2
  have zg22 := zg21.2
  have zg23 := zg22.2
  have zg24 := zg23.2
  have zg25 := zg24.2
  have zg26 := zg25.2
  have zg27 := zg26.2
  have zg28 := zg27.2
  have zg29 := zg28.2
  have zg30 := zg29.2
  have zg31 := zg30.2
  have zg32 := zg31.2
  have zg33 := zg32.2
  have zg34 := zg33.2
  have zg35 := zg34.2
  have zg36 := zg35.2
  have zg37 := zg36.2
  have zg38 := zg37.2
  have zg39 := zg38.2
  have zg40 := zg39.2
  have zg41 := zg40.2
  have zg42 := zg41.2
  have zg43 := zg42.2
  have zg44 := zg43.2
  have zg45 := zg44.2
  have zg46 := zg45.2
  have zg47 := zg46.2
  have zg48 := zg47.2
  have zg49 := zg48.2
  have zg50 := zg49.2
  have zg51 := zg50.2
  have zg52 := zg51.2
  have zg53 := zg52.2
  have zg54 := zg53.2
  have zg55 := zg54.2
  have zg56 := zg55.2
  have zg57 := zg56.2
  have zg58 := zg57.2
  have zg59 := zg58.2
  have zg60 := zg59.2
  have zg61 := zg60.2
  have zg62 := zg61.2
  have zg63 := zg62.2
  have zg64 := zg63.2
  have zg65 := zg64.2
  have zg66 := zg65.2
  have zg67 := zg66.2
  have zg68 := zg67.2
  have zg69 := zg68.2
  have zg70 := zg69.2
  have zg71 := zg70.2
  have zg72 := zg71.2
  have zg73 := zg72.2
  have zg74 := zg73.2
  have zg75 := zg74.2
  have zg76 := zg75.2
  have zg77 := zg76.2
  have zg78 := zg77.2
  have zg79 := zg78.2
  have zg80 := zg79.2
  have zg81 := zg80.2
  have zg82 := zg81.2
  have zg83 := zg82.2
  have zg84 := zg83.2
  have zg85 := zg84.2
  have zg86 := zg85.2
  have zg87 := zg86.2
  have zg88 := zg87.2
  have zg89 := zg88.2
  have zg90 := zg89.2
  have zg91 := zg90.2
  have zg92 := zg91.2
  have zg93 := zg92.2
  have zg94 := zg93.2
  have zg95 := zg94.2
  have zg96 := zg95.2
  have zg97 := zg96.2
  have zg98 := zg97.2
  have zg99 := zg98.2
  have zg100 := zg99.2
  have zg101 := zg100.2
  have zg102 := zg101.2
  have zg103 := zg102.2
  have zg104 := zg103.2
  have zg105 := zg104.2
  have zg106 := zg105.2
  have zg107 := zg106.2
  have zg108 := zg107.2
  have zg109 := zg108.2
  have zg110 := zg109.2
  have zg111 := zg110.2
  have zg112 := zg111.2
  have zg113 := zg112.2
  have zg114 := zg113.2
  have zg115 := zg114.2
  have zg116 := zg115.2
  have zg117 := zg116.2
  have zg118 := zg117.2
  have zg119 := zg118.2
  have zg120 := zg119.2
  have zg121 := zg120.2
  have zg122 := zg121.2
  have zg123 := zg122.2
  have zg124 := zg123.2
  have zg125 := zg124.2
  have I_s25 := zg101.1
  have I_s61 := zg33.1
  have I_t83 := zg90.1
  have I_t84 := zg91.1
  refine zok_mono (s_OP_33 N a1 a2 (σ 4) (σ 25) (σ 61) (τ 33) (τ 83) (τ 84) b_a1 b_a2 I_s25 I_s61 I_t83 I_t84) (fun o ho => ?_)
  skip
  exact ⟨trivial, ⟨hI.1, zg1.1, zg2.1, zg3.1, zg4.1, zg5.1, zg6.1, zg7.1, zg8.1, zg9.1, zg10.1, zg11.1, zg12.1, zg13.1, zg14.1, zg15.1, zg16.1, zg17.1, zg18.1, zg19.1, zg20.1, zg21.1, zg22.1, zg23.1, zg24.1, zg25.1, zg26.1, zg27.1, zg28.1, zg29.1, zg30.1, zg31.1, zg32.1, zg33.1, zg34.1, zg35.1, zg36.1, zg37.1, zg38.1, zg39.1, zg40.1, zg41.1, ⟨zg42.1.1, Int.le_trans zg42.1.2 (Int.le_add_of_nonneg_right (by decide))⟩, zg43.1, zg44.1, zg45.1, zg46.1, zg47.1, zg48.1, zg49.1, zg50.1, zg51.1, zg52.1, zg53.1, zg54.1, zg55.1, zg56.1, zg57.1, zg58.1, zg59.1, zg60.1, zg61.1, zg62.1, zg63.1, zg64.1, zg65.1, zg66.1, zg67.1, zg68.1, zg69.1, zg70.1, zg71.1, zg72.1, zg73.1, zg74.1, zg75.1, zg76.1, zg77.1, zg78.1, zg79.1, zg80.1, zg81.1, zg82.1, zg83.1, zg84.1, zg85.1, zg86.1, zg87.1, zg88.1, zg89.1, zg90.1, zg91.1, zg92.1, zg93.1, zg94.1, zg95.1, zg96.1, zg97.1, zg98.1, zg99.1, zg100.1, zg101.1, zg102.1, zg103.1, zg104.1, zg105.1, zg106.1, zg107.1, zg108.1, zg109.1, zg110.1, zg111.1, zg112.1, zg113.1, zg114.1, zg115.1, zg116.1, zg117.1, zg118.1, zg119.1, zg120.1, zg121.1, zg122.1, zg123.1, zg124.1, zg125⟩⟩
noncomputable def f_OP_34 (N : Int) (a1 : Int) (s3 : Int) (s4 : Int) (s5 : Int) (s26 : Int) (s27 : Int) (s28 : Int) (s29 : Int) (s30 : Int) (s49 : Int) (s50 : Int) (s51 : Int) (s52 : Int) (s53 : Int) (s55 : Int) (s56 : Int) (s57 : Int) (s58 : Int) (s62 : Int) (s63 : Int) (t0 : Nat → Int) (t2 : Nat → Int) (t3 : Nat → Int) (t4 : Nat → Int) (t5 : Nat → Int) (t6 : Nat → Int) (t34 : Nat → Int) (t35 : Nat → Int) (t36 : Nat → Int) (t37 : Nat → Int) (t38 : Nat → Int) (t39 : Nat → Int) (t40 : Nat → Int) (t41 : Nat → Int) (t63 : Nat → Int) (t64 : Nat → Int) (t65 : Nat → Int) (t66 : Nat → Int) (t67 : Nat → Int) (t68 : Nat → Int) (t69 : Nat → Int) (t70 : Nat → Int) (t71 : Nat → Int) (t72 : Nat → Int) (t73 : Nat → Int) (t74 : Nat → Int) (t75 : Nat → Int) (t76 : Nat → Int) (t77 : Nat → Int) (t78 : Nat → Int) (t79 : Nat → Int) (t80 : Nat → Int) (t85 : Nat → Int) (t86 : Nat → Int) (t87 : Nat → Int) (t88 : Nat → Int) : Option (Int × Int × Int × Int × Int × Int × Int × Int × Int × Int × Int × Int × Int × Int × Int × Int × (Nat → Int) × (Nat → Int) × (Nat → Int) × (Nat → Int) × (Nat → Int) × (Nat → Int) × (Nat → Int) × (Nat → Int) × (Nat → Int) × (Nat → Int) × (Nat → Int) × (Nat → Int) × (Nat → Int) × (Nat → Int) × (Nat → Int) × (Nat → Int) × (Nat → Int) × (Nat → Int) × (Nat → Int) × (Nat → Int) × (Nat → Int) × (Nat → Int) × (Nat → Int) × (Nat → Int) × (Nat → Int)) :=
  zd35 (f_HS_image a1 s26 s27 s28 s29 s49 t34 t35 t36 t37 t38 t39 t40 t41 t63 t64 s3 s30 t0 t2 s50 s51 s52 s53 s55 s56 s57 s58 s62 t65 t66 t67 t68 t69 t70 t71 t72 s63 t73 t74 t75 t76 t77 t78 t79 t80 t85 t86 t87 t88) fun v661 v662 v663 a664 a665 v666 v667 v668 v669 v670 v671 v672 v673 v674 a675 a676 a677 a678 a679 a680 a681 a682 v683 a684 a685 a686 a687 a688 a689 a690 a691 a692 a693 a694 a695 =>
  zd6 (f_HM_image a1 t4 s4 s5 t3 t5 t6) fun v698 v699 v700 a701 a702 a703 =>
  some (v661, v698, v662, v699, v700, v663, v666, v667, v668, v669, v670, v671, v672, v673, v674, v683, a664, a665, a701, a702, a703, a675, a676, a677, a678, a679, a680, a681, a682, a684, a685, a686, a687, a688, a689, a690, a691, a692, a693, a694, a695)
set_option maxHeartbeats 4000000 in
theorem s_OP_34 (N : Int) (a1 : Int) (s3 : Int) (s4 : Int) (s5 : Int) (s26 : Int) (s27 : Int) (s28 : Int) (s29 : Int) (s30 : Int) (s49 : Int) (s50 : Int) (s51 : Int) (s52 : Int) (s53 : Int) (s55 : Int) (s56 : Int) (s57 : Int) (s58 : Int) (s62 : Int) (s63 : Int) (t0 : Nat → Int) (t2 : Nat → Int) (t3 : Nat → Int) (t4 : Nat → Int) (t5 : Nat → Int) (t6 : Nat → Int) (t34 : Nat → Int) (t35 : Nat → Int) (t36 : Nat → Int) (t37 : Nat → Int) (t38 : Nat → Int) (t39 : Nat → Int) (t40 : Nat → Int) (t41 : Nat → Int) (t63 : Nat → Int) (t64 : Nat → Int) (t65 : Nat → Int) (t66 : Nat → Int) (t67 : Nat → Int) (t68 : Nat → Int) (t69 : Nat → Int) (t70 : Nat → Int) (t71 : Nat → Int) (t72 : Nat → Int) (t73 : Nat → Int) (t74 : Nat → Int) (t75 : Nat → Int) (t76 : Nat → Int) (t77 : Nat → Int) (t78 : Nat → Int) (t79 : Nat → Int) (t80 : Nat → Int) (t85 : Nat → Int) (t86 : Nat → Int) (t87 : Nat → Int) (t88 : Nat → Int) (b_a1 : (-2147483648) ≤ a1 ∧ a1 ≤ 2147483647) (b_s3 : (-6) ≤ s3 ∧ s3 ≤ 0) (b_s26 : 0 ≤ s26 ∧ s26 ≤ 6) (b_s27 : 0 ≤ s27 ∧ s27 ≤ 6) (b_s28 : 0 ≤ s28 ∧ s28 ≤ 6) (b_s29 : (-1) ≤ s29 ∧ s29 ≤ 5) (b_s49 : 0 ≤ s49 ∧ s49 ≤ 12) (b_s50 : 0 ≤ s50 ∧ s50 ≤ 6) (b_s51 : 0 ≤ s51 ∧ s51 ≤ 6) (b_s52 : 0 ≤ s52 ∧ s52 ≤ 6) (b_s53 : (-1) ≤ s53 ∧ s53 ≤ 5) (b_s55 : 0 ≤ s55 ∧ s55 ≤ 6) (b_s56 : 0 ≤ s56 ∧ s56 ≤ 6) (b_s57 : 0 ≤ s57 ∧ s57 ≤ 6) (b_s58 : (-1) ≤ s58 ∧ s58 ≤ 5) (b_s62 : 0 ≤ s62 ∧ s62 ≤ 12) (b_s63 : 0 ≤ s63 ∧ s63 ≤ 12) (h_t0 : zR t0 0 1) (h_t4 : RI t4) (h_t6 : zR t6 0 1) (h_t34 : zR t34 0 60) (h_t35 : zR t35 0 1) (h_t36 : zR t36 0 20) (h_t37 : zR t37 0 11) (h_t38 : zR t38 0 99) (h_t39 : zR t39 (-1) 10) (h_t40 : zR t40 (-2147483648) 2147483647) (h_t41 : zR t41 0 424) (h_t63 : zR t63 0 10) (h_t64 : zR t64 0 30) (h_t65 : zR t65 0 60) (h_t66 : zR t66 0 1) (h_t67 : zR t67 0 20) (h_t68 : zR t68 0 11) (h_t69 : zR t69 0 99) (h_t70 : zR t70 (-1) 10) (h_t71 : zR t71 (-2147483648) 2147483647) (h_t72 : zR t72 0 424) (h_t73 : zR t73 0 60) (h_t74 : zR t74 0 1) (h_t75 : zR t75 0 20) (h_t76 : zR t76 0 11) (h_t77 : zR t77 0 99) (h_t78 : zR t78 (-1) 10) (h_t79 : zR t79 (-2147483648) 2147483647) (h_t80 : zR t80 0 424) (h_t85 : zR t85 0 10) (h_t86 : zR t86 0 30) (h_t87 : zR t87 0 10) (h_t88 : zR t88 0 30) (I_s30 : 0 ≤ s30 ∧ s30 ≤ N) (I_im : zIM t6 t5) (R_many : s49 = t4 0) (R_ch : s26 = t4 1) (R_pa : s27 = t4 2) (R_st : RV 3 153 s26 t34 t4) (R_ex : RV 3 154 s26 t35 t4) (R_tr : RV 3 155 s26 t36 t4) (R_pl : RV 1 171 s27 t37 t4) (R_te : RV 1 5 4 t38 t4) (R_go : RV 1 141 s49 t39 t4) (R_kp : t0 0 = t6 0 ∧ t0 1 = t6 1) (R_i0 : t6 0 ≠ 0 → HR1 s62 s50 s51 t65 t66 t67 t68 t69 t70 (fun j => t5 (5580 * 0 + j))) (R_i1 : t6 1 ≠ 0 → HR1 s63 s55 s56 t73 t74 t75 t76 t77 t78 (fun j => t5 (5580 * 1 + j))) : zok (f_OP_34 N a1 s3 s4 s5 s26 s27 s28 s29 s30 s49 s50 s51 s52 s53 s55 s56 s57 s58 s62 s63 t0 t2 t3 t4 t5 t6 t34 t35 t36 t37 t38 t39 t40 t41 t63 t64 t65 t66 t67 t68 t69 t70 t71 t72 t73 t74 t75 t76 t77 t78 t79 t80 t85 t86 t87 t88) (fun o => (o.1 = o.2.1) ∧ ((-6) ≤ o.2.2.1 ∧ o.2.2.1 ≤ 0) ∧ (0 ≤ o.2.2.2.2.2.2.1 ∧ o.2.2.2.2.2.2.1 ≤ 6) ∧ (0 ≤ o.2.2.2.2.2.2.2.1 ∧ o.2.2.2.2.2.2.2.1 ≤ 6) ∧ (0 ≤ o.2.2.2.2.2.2.2.2.1 ∧ o.2.2.2.2.2.2.2.2.1 ≤ 6) ∧ ((-1) ≤ o.2.2.2.2.2.2.2.2.2.1 ∧ o.2.2.2.2.2.2.2.2.2.1 ≤ 5) ∧ (0 ≤ o.2.2.2.2.2.2.2.2.2.2.1 ∧ o.2.2.2.2.2.2.2.2.2.2.1 ≤ 6) ∧ (0 ≤ o.2.2.2.2.2.2.2.2.2.2.2.1 ∧ o.2.2.2.2.2.2.2.2.2.2.2.1 ≤ 6) ∧ (0 ≤ o.2.2.2.2.2.2.2.2.2.2.2.2.1 ∧ o.2.2.2.2.2.2.2.2.2.2.2.2.1 ≤ 6) ∧ ((-1) ≤ o.2.2.2.2.2.2.2.2.2.2.2.2.2.1 ∧ o.2.2.2.2.2.2.2.2.2.2.2.2.2.1 ≤ 5) ∧ (0 ≤ o.2.2.2.2.2.2.2.2.2.2.2.2.2.2.1 ∧ o.2.2.2.2.2.2.2.2.2.2.2.2.2.2.1 ≤ 12) ∧ (0 ≤ o.2.2.2.2.2.2.2.2.2.2.2.2.2.2.2.1 ∧ o.2.2.2.2.2.2.2.2.2.2.2.2.2.2.2.1 ≤ 12) ∧ (0 ≤ o.2.2.2.2.2.1 ∧ o.2.2.2.2.2.1 ≤ N + 6) ∧ zR o.2.2.2.2.2.2.2.2.2.2.2.2.2.2.2.2.1 0 1 ∧ zR o.2.2.2.2.2.2.2.2.2.2.2.2.2.2.2.2.2.2.2.2.2.1 0 60 ∧ zR o.2.2.2.2.2.2.2.2.2.2.2.2.2.2.2.2.2.2.2.2.2.2.1 0 1 ∧ zR o.2.2.2.2.2.2.2.2.2.2.2.2.2.2.2.2.2.2.2.2.2.2.2.1 0 20 ∧ zR o.2.2.2.2.2.2.2.2.2.2.2.2.2.2.2.2.2.2.2.2.2.2.2.2.1 0 11 ∧ zR o.2.2.2.2.2.2.2.2.2.2.2.2.2.2.2.2.2.2.2.2.2.2.2.2.2.1 0 99 ∧ zR o.2.2.2.2.2.2.2.2.2.2.2.2.2.2.2.2.2.2.2.2.2.2.2.2.2.2.1 (-1) 10 ∧ zR o.2.2.2.2.2.2.2.2.2.2.2.2.2.2.2.2.2.2.2.2.2.2.2.2.2.2.2.1 (-2147483648) 2147483647 ∧ zR o.2.2.2.2.2.2.2.2.2.2.2.2.2.2.2.2.2.2.2.2.2.2.2.2.2.2.2.2.1 0 424 ∧ zR o.2.2.2.2.2.2.2.2.2.2.2.2.2.2.2.2.2.2.2.2.2.2.2.2.2.2.2.2.2.1 0 60 ∧ zR o.2.2.2.2.2.2.2.2.2.2.2.2.2.2.2.2.2.2.2.2.2.2.2.2.2.2.2.2.2.2.1 0 1 ∧ zR o.2.2.2.2.2.2.2.2.2.2.2.2.2.2.2.2.2.2.2.2.2.2.2.2.2.2.2.2.2.2.2.1 0 20 ∧ zR o.2.2.2.2.2.2.2.2.2.2.2.2.2.2.2.2.2.2.2.2.2.2.2.2.2.2.2.2.2.2.2.2.1 0 11 ∧ zR o.2.2.2.2.2.2.2.2.2.2.2.2.2.2.2.2.2.2.2.2.2.2.2.2.2.2.2.2.2.2.2.2.2.1 0 99 ∧ zR o.2.2.2.2.2.2.2.2.2.2.2.2.2.2.2.2.2.2.2.2.2.2.2.2.2.2.2.2.2.2.2.2.2.2.1 (-1) 10 ∧ zR o.2.2.2.2.2.2.2.2.2.2.2.2.2.2.2.2.2.2.2.2.2.2.2.2.2.2.2.2.2.2.2.2.2.2.2.1 (-2147483648) 2147483647 ∧ zR o.2.2.2.2.2.2.2.2.2.2.2.2.2.2.2.2.2.2.2.2.2.2.2.2.2.2.2.2.2.2.2.2.2.2.2.2.1 0 424 ∧ zR o.2.2.2.2.2.2.2.2.2.2.2.2.2.2.2.2.2.2.2.2.2.2.2.2.2.2.2.2.2.2.2.2.2.2.2.2.2.1 0 10 ∧ zR o.2.2.2.2.2.2.2.2.2.2.2.2.2.2.2.2.2.2.2.2.2.2.2.2.2.2.2.2.2.2.2.2.2.2.2.2.2.2.1 0 30 ∧ zR o.2.2.2.2.2.2.2.2.2.2.2.2.2.2.2.2.2.2.2.2.2.2.2.2.2.2.2.2.2.2.2.2.2.2.2.2.2.2.2.1 0 10 ∧ zR o.2.2.2.2.2.2.2.2.2.2.2.2.2.2.2.2.2.2.2.2.2.2.2.2.2.2.2.2.2.2.2.2.2.2.2.2.2.2.2.2 0 30 ∧ zR o.2.2.2.2.2.2.2.2.2.2.2.2.2.2.2.2.2.2.2.2.1 0 1 ∧ (zIM o.2.2.2.2.2.2.2.2.2.2.2.2.2.2.2.2.2.2.2.2.1 o.2.2.2.2.2.2.2.2.2.2.2.2.2.2.2.2.2.2.2.1) ∧ (o.2.2.2.2.2.2.2.2.2.2.2.2.2.2.2.2.1 0 = o.2.2.2.2.2.2.2.2.2.2.2.2.2.2.2.2.2.2.2.2.1 0 ∧ o.2.2.2.2.2.2.2.2.2.2.2.2.2.2.2.2.1 1 = o.2.2.2.2.2.2.2.2.2.2.2.2.2.2.2.2.2.2.2.2.1 1) ∧ (o.2.2.2.2.2.2.2.2.2.2.2.2.2.2.2.2.2.2.2.2.1 0 ≠ 0 → HR1 o.2.2.2.2.2.2.2.2.2.2.2.2.2.2.1 o.2.2.2.2.2.2.1 o.2.2.2.2.2.2.2.1 o.2.2.2.2.2.2.2.2.2.2.2.2.2.2.2.2.2.2.2.2.2.1 o.2.2.2.2.2.2.2.2.2.2.2.2.2.2.2.2.2.2.2.2.2.2.1 o.2.2.2.2.2.2.2.2.2.2.2.2.2.2.2.2.2.2.2.2.2.2.2.1 o.2.2.2.2.2.2.2.2.2.2.2.2.2.2.2.2.2.2.2.2.2.2.2.2.1 o.2.2.2.2.2.2.2.2.2.2.2.2.2.2.2.2.2.2.2.2.2.2.2.2.2.1 o.2.2.2.2.2.2.2.2.2.2.2.2.2.2.2.2.2.2.2.2.2.2.2.2.2.2.1 (fun j => o.2.2.2.2.2.2.2.2.2.2.2.2.2.2.2.2.2.2.2.1 (5580 * 0 + j))) ∧ (o.2.2.2.2.2.2.2.2.2.2.2.2.2.2.2.2.2.2.2.2.1 1 ≠ 0 → HR1 o.2.2.2.2.2.2.2.2.2.2.2.2.2.2.2.1 o.2.2.2.2.2.2.2.2.2.2.1 o.2.2.2.2.2.2.2.2.2.2.2.1 o.2.2.2.2.2.2.2.2.2.2.2.2.2.2.2.2.2.2.2.2.2.2.2.2.2.2.2.2.2.1 o.2.2.2.2.2.2.2.2.2.2.2.2.2.2.2.2.2.2.2.2.2.2.2.2.2.2.2.2.2.2.1 o.2.2.2.2.2.2.2.2.2.2.2.2.2.2.2.2.2.2.2.2.2.2.2.2.2.2.2.2.2.2.2.1 o.2.2.2.2.2.2.2.2.2.2.2.2.2.2.2.2.2.2.2.2.2.2.2.2.2.2.2.2.2.2.2.2.1 o.2.2.2.2.2.2.2.2.2.2.2.2.2.2.2.2.2.2.2.2.2.2.2.2.2.2.2.2.2.2.2.2.2.1 o.2.2.2.2.2.2.2.2.2.2.2.2.2.2.2.2.2.2.2.2.2.2.2.2.2.2.2.2.2.2.2.2.2.2.1 (fun j => o.2.2.2.2.2.2.2.2.2.2.2.2.2.2.2.2.2.2.2.1 (5580 * 1 + j)))) := by
  unfold f_OP_34
  refine zk_dI35 ?_
  unfold f_HS_image
  refine zk_ifc (zci_ltr (by omega)) (fun hc => ?_) (fun hc => ?_)
  · first
    | (exfalso; omega)
    | (skip
       unfold f_HS_image_9
       refine zk_dI3 ?_
       unfold f_HS_refuse
       refine zk_nE (fun v1 h_v1 => ?_)
       refine zk_gv (by omega) (by decide) (fun v2 h_v2 => ?_)
       refine zk_n ?_
       refine zk_sv (by omega) (by decide) (fun a4 h_a4 => ?_)
       refine zk_rI3 ?_
       refine zk_rI35 ?_
       refine zk_d6 (ww_HM_image _ _ _ _ _ _ _ (by omega) h_t4 h_t6 (by assumption)) (fun v698 v699 v700 a701 a702 a703 hp => ?_)
       try dsimp only at hp
       obtain ⟨hpp0, hpp1, hpp2, hpp3, hpp4, hpp5⟩ := hp
       refine zk_ret ?_
       try dsimp only
       exact ⟨by omega, by omega, by omega, by omega, by omega, by omega, by omega, by omega, by omega, by omega, by omega, by omega, by omega, h_t0, h_t65, h_t66, h_t67, h_t68, h_t69, h_t70, h_t71, h_t72, h_t73, h_t74, h_t75, h_t76, h_t77, h_t78, h_t79, h_t80, h_t85, h_t86, h_t87, h_t88, hpp0, by exact hpp1, by (have z0 := hpp5 0 (by decide); have z1 := hpp5 1 (by decide); have k0 := R_kp.1; have k1 := R_kp.2; split at z0 <;> split at z1 <;> first | omega | (constructor <;> (simp only [h_a4, zu, ↓reduceIte]; (repeat' split) <;> omega))), by first | (intro hk; have z0 := hpp5 0 (by decide); refine HR1_ext (R_i0 (by first | omega | (split at z0 <;> omega))) (by omega) (by omega) (by omega) (fun j hj => ?_); exact hpp4 0 (by decide) (by omega) j (by omega)) | (intro hk; refine HR1_cp (r := t4) ⟨R_many, R_ch, R_pa, R_st, R_ex, R_tr, R_pl, R_te, R_go⟩ (by omega) (by omega) (by omega) (fun j hj => by simp only [h_a4]; exact cpy_lt hj) (fun j hj => by simp only [h_a4]; exact cpy_lt hj) (fun j hj => by simp only [h_a4]; exact cpy_lt hj) (fun j hj => by simp only [h_a4]; exact cpy_lt hj) (fun j hj => by simp only [h_a4]; exact cpy_lt hj) (fun j hj => by simp only [h_a4]; exact cpy_lt hj) (fun j hj => ?_); have q := hpp3 (by omega) j (by omega); rw [show a1.toNat = 0 from by omega] at q; exact q), by first | (intro hk; have z0 := hpp5 1 (by decide); refine HR1_ext (R_i1 (by first | omega | (split at z0 <;> omega))) (by omega) (by omega) (by omega) (fun j hj => ?_); exact hpp4 1 (by decide) (by omega) j (by omega)) | (intro hk; refine HR1_cp (r := t4) ⟨R_many, R_ch, R_pa, R_st, R_ex, R_tr, R_pl, R_te, R_go⟩ (by omega) (by omega) (by omega) (fun j hj => by simp only [h_a4]; exact cpy_lt hj) (fun j hj => by simp only [h_a4]; exact cpy_lt hj) (fun j hj => by simp only [h_a4]; exact cpy_lt hj) (fun j hj => by simp only [h_a4]; exact cpy_lt hj) (fun j hj => by simp only [h_a4]; exact cpy_lt hj) (fun j hj => by simp only [h_a4]; exact cpy_lt hj) (fun j hj => ?_); have q := hpp3 (by omega) j (by omega); rw [show a1.toNat = 1 from by omega] at q; exact q)⟩)
  · first
    | (exfalso; omega)
    | (skip
       refine zk_ifc (zci_lt (by omega) (by omega)) (fun hc_2 => ?_) (fun hc_2 => ?_)
       · first
         | (exfalso; omega)
         | (skip
            refine zk_ifc (zci_eqr (by omega)) (fun hc_3 => ?_) (fun hc_3 => ?_)
            · first
              | (exfalso; omega)
              | (skip
                 refine zk_dI15 ?_
                 unfold f_Hill_become
                 refine zk_dI3 ?_
                 unfold f_Columns_become
                 refine zk_cp (by omega) (fun a1_2 h_a1_2 => ?_)
                 have i_a1_2 : zR a1_2 0 10 := by rw [h_a1_2]; exact zR_cp h_t63 h_t85
                 refine zk_cp (by omega) (fun a2 h_a2 => ?_)
                 have i_a2 : zR a2 0 30 := by rw [h_a2]; exact zR_cp h_t64 h_t86
                 refine zk_rI3 ?_
                 refine zk_cp (by omega) (fun a4_2 h_a4_2 => ?_)
                 have i_a4_2 : zR a4_2 0 60 := by rw [h_a4_2]; exact zR_cp h_t34 h_t65
                 refine zk_cp (by omega) (fun a5 h_a5 => ?_)
                 have i_a5 : zR a5 0 1 := by rw [h_a5]; exact zR_cp h_t35 h_t66
                 refine zk_cp (by omega) (fun a6 h_a6 => ?_)
                 have i_a6 : zR a6 0 20 := by rw [h_a6]; exact zR_cp h_t36 h_t67
                 refine zk_cp (by omega) (fun a7 h_a7 => ?_)
                 have i_a7 : zR a7 0 11 := by rw [h_a7]; exact zR_cp h_t37 h_t68
                 refine zk_cp (by omega) (fun a8 h_a8 => ?_)
                 have i_a8 : zR a8 0 99 := by rw [h_a8]; exact zR_cp h_t38 h_t69
                 refine zk_cp (by omega) (fun a9 h_a9 => ?_)
                 have i_a9 : zR a9 (-1) 10 := by rw [h_a9]; exact zR_cp h_t39 h_t70
                 refine zk_cp (by omega) (fun a10 h_a10 => ?_)
                 have i_a10 : zR a10 (-2147483648) 2147483647 := by rw [h_a10]; exact zR_cp h_t40 h_t71
                 refine zk_cp (by omega) (fun a11 h_a11 => ?_)
                 have i_a11 : zR a11 0 424 := by rw [h_a11]; exact zR_cp h_t41 h_t72
                 refine zk_rI15 ?_
                 unfold f_HS_image_28
                 refine zk_gb (by omega) ?_
                 refine zk_sv (by omega) (by decide) (fun a1_3 h_a1_3 => ?_)
                 have i_a1_3 : zR a1_3 0 1 := by rw [h_a1_3]; exact zR_zu h_t0 (by decide) (by decide) (by omega)
                 refine zk_dI3 ?_
                 unfold f_HS_accept
                 refine zk_n ?_
                 refine zk_rI3 ?_
                 refine zk_rI35 ?_
                 refine zk_d6 (ww_HM_image _ _ _ _ _ _ _ (by omega) h_t4 h_t6 (by assumption)) (fun v698_2 v699_2 v700_2 a701_2 a702_2 a703_2 hp_2 => ?_)
                 try dsimp only at hp_2
                 obtain ⟨hp_2p0, hp_2p1, hp_2p2, hp_2p3, hp_2p4, hp_2p5⟩ := hp_2
                 refine zk_ret ?_
                 try dsimp only
                 exact ⟨by omega, by omega, by omega, by omega, by omega, by omega, by omega, by omega, by omega, by omega, by omega, by omega, by omega, i_a1_3, i_a4_2, i_a5, i_a6, i_a7, i_a8, i_a9, i_a10, i_a11, h_t73, h_t74, h_t75, h_t76, h_t77, h_t78, h_t79, h_t80, i_a1_2, i_a2, h_t87, h_t88, hp_2p0, by exact hp_2p1, by (have z0 := hp_2p5 0 (by decide); have z1 := hp_2p5 1 (by decide); have k0 := R_kp.1; have k1 := R_kp.2; split at z0 <;> split at z1 <;> first | omega | (constructor <;> (simp only [h_a1_3, h_a11, h_a10, h_a9, h_a8, h_a7, h_a6, h_a5, h_a4_2, h_a2, h_a1_2, zu, ↓reduceIte]; (repeat' split) <;> omega))), by first | (intro hk; have z0 := hp_2p5 0 (by decide); refine HR1_ext (R_i0 (by first | omega | (split at z0 <;> omega))) (by omega) (by omega) (by omega) (fun j hj => ?_); exact hp_2p4 0 (by decide) (by omega) j (by omega)) | (intro hk; refine HR1_cp (r := t4) ⟨R_many, R_ch, R_pa, R_st, R_ex, R_tr, R_pl, R_te, R_go⟩ (by omega) (by omega) (by omega) (fun j hj => by simp only [h_a1_3, h_a11, h_a10, h_a9, h_a8, h_a7, h_a6, h_a5, h_a4_2, h_a2, h_a1_2]; exact cpy_lt hj) (fun j hj => by simp only [h_a1_3, h_a11, h_a10, h_a9, h_a8, h_a7, h_a6, h_a5, h_a4_2, h_a2, h_a1_2]; exact cpy_lt hj) (fun j hj => by simp only [h_a1_3, h_a11, h_a10, h_a9, h_a8, h_a7, h_a6, h_a5, h_a4_2, h_a2, h_a1_2]; exact cpy_lt hj) (fun j hj => by simp only [h_a1_3, h_a11, h_a10, h_a9, h_a8, h_a7, h_a6, h_a5, h_a4_2, h_a2, h_a1_2]; exact cpy_lt hj) (fun j hj => by simp only [h_a1_3, h_a11, h_a10, h_a9, h_a8, h_a7, h_a6, h_a5, h_a4_2, h_a2, h_a1_2]; exact cpy_lt hj) (fun j hj => by simp only [h_a1_3, h_a11, h_a10, h_a9, h_a8, h_a7, h_a6, h_a5, h_a4_2, h_a2, h_a1_2]; exact cpy_lt hj) (fun j hj => ?_); have q := hp_2p3 (by omega) j (by omega); rw [show a1.toNat = 0 from by omega] at q; exact q), by first | (intro hk; have z0 := hp_2p5 1 (by decide); refine HR1_ext (R_i1 (by first | omega | (split at z0 <;> omega))) (by omega) (by omega) (by omega) (fun j hj => ?_); exact hp_2p4 1 (by decide) (by omega) j (by omega)) | (intro hk; refine HR1_cp (r := t4) ⟨R_many, R_ch, R_pa, R_st, R_ex, R_tr, R_pl, R_te, R_go⟩ (by omega) (by omega) (by omega) (fun j hj => by simp only [h_a1_3, h_a11, h_a10, h_a9, h_a8, h_a7, h_a6, h_a5, h_a4_2, h_a2, h_a1_2]; exact cpy_lt hj) (fun j hj => by simp only [h_a1_3, h_a11, h_a10, h_a9, h_a8, h_a7, h_a6, h_a5, h_a4_2, h_a2, h_a1_2]; exact cpy_lt hj) (fun j hj => by simp only [h_a1_3, h_a11, h_a10, h_a9, h_a8, h_a7, h_a6, h_a5, h_a4_2, h_a2, h_a1_2]; exact cpy_lt hj) (fun j hj => by simp only [h_a1_3, h_a11, h_a10, h_a9, h_a8, h_a7, h_a6, h_a5, h_a4_2, h_a2, h_a1_2]; exact cpy_lt hj) (fun j hj => by simp only [h_a1_3, h_a11, h_a10, h_a9, h_a8, h_a7, h_a6, h_a5, h_a4_2, h_a2, h_a1_2]; exact cpy_lt hj) (fun j hj => by simp only [h_a1_3, h_a11, h_a10, h_a9, h_a8, h_a7, h_a6, h_a5, h_a4_2, h_a2, h_a1_2]; exact cpy_lt hj) (fun j hj => ?_); have q := hp_2p3 (by omega) j (by omega); rw [show a1.toNat = 1 from by omega] at q; exact q)⟩)
            · first
              | (exfalso; omega)
              | (skip
                 refine zk_ifc (zci_eqr (by omega)) (fun hc_4 => ?_) (fun hc_4 => ?_)
                 · first
                   | (exfalso; omega)
                   | (skip
                      refine zk_dI15 ?_
                      unfold f_Hill_become
                      refine zk_dI3 ?_
                      unfold f_Columns_become
                      refine zk_cp (by omega) (fun a1_4 h_a1_4 => ?_)
                      have i_a1_4 : zR a1_4 0 10 := by rw [h_a1_4]; exact zR_cp h_t63 h_t87
                      refine zk_cp (by omega) (fun a2_2 h_a2_2 => ?_)
                      have i_a2_2 : zR a2_2 0 30 := by rw [h_a2_2]; exact zR_cp h_t64 h_t88
                      refine zk_rI3 ?_
                      refine zk_cp (by omega) (fun a4_3 h_a4_3 => ?_)
                      have i_a4_3 : zR a4_3 0 60 := by rw [h_a4_3]; exact zR_cp h_t34 h_t73
                      refine zk_cp (by omega) (fun a5_2 h_a5_2 => ?_)
                      have i_a5_2 : zR a5_2 0 1 := by rw [h_a5_2]; exact zR_cp h_t35 h_t74
                      refine zk_cp (by omega) (fun a6_2 h_a6_2 => ?_)
                      have i_a6_2 : zR a6_2 0 20 := by rw [h_a6_2]; exact zR_cp h_t36 h_t75
                      refine zk_cp (by omega) (fun a7_2 h_a7_2 => ?_)
                      have i_a7_2 : zR a7_2 0 11 := by rw [h_a7_2]; exact zR_cp h_t37 h_t76
                      refine zk_cp (by omega) (fun a8_2 h_a8_2 => ?_)
                      have i_a8_2 : zR a8_2 0 99 := by rw [h_a8_2]; exact zR_cp h_t38 h_t77
                      refine zk_cp (by omega) (fun a9_2 h_a9_2 => ?_)
                      have i_a9_2 : zR a9_2 (-1) 10 := by rw [h_a9_2]; exact zR_cp h_t39 h_t78
                      refine zk_cp (by omega) (fun a10_2 h_a10_2 => ?_)
                      have i_a10_2 : zR a10_2 (-2147483648) 2147483647 := by rw [h_a10_2]; exact zR_cp h_t40 h_t79
                      refine zk_cp (by omega) (fun a11_2 h_a11_2 => ?_)
                      have i_a11_2 : zR a11_2 0 424 := by rw [h_a11_2]; exact zR_cp h_t41 h_t80
                      refine zk_rI15 ?_
                      unfold f_HS_image_28
                      refine zk_gb (by omega) ?_
                      refine zk_sv (by omega) (by decide) (fun a1_5 h_a1_5 => ?_)
                      have i_a1_5 : zR a1_5 0 1 := by rw [h_a1_5]; exact zR_zu h_t0 (by decide) (by decide) (by omega)
                      refine zk_dI3 ?_
                      unfold f_HS_accept
                      refine zk_n ?_
                      refine zk_rI3 ?_
                      refine zk_rI35 ?_
                      refine zk_d6 (ww_HM_image _ _ _ _ _ _ _ (by omega) h_t4 h_t6 (by assumption)) (fun v698_3 v699_3 v700_3 a701_3 a702_3 a703_3 hp_3 => ?_)
                      try dsimp only at hp_3
                      obtain ⟨hp_3p0, hp_3p1, hp_3p2, hp_3p3, hp_3p4, hp_3p5⟩ := hp_3
                      refine zk_ret ?_
                      try dsimp only
                      exact ⟨by omega, by omega, by omega, by omega, by omega, by omega, by omega, by omega, by omega, by omega, by omega, by omega, by omega, i_a1_5, h_t65, h_t66, h_t67, h_t68, h_t69, h_t70, h_t71, h_t72, i_a4_3, i_a5_2, i_a6_2, i_a7_2, i_a8_2, i_a9_2, i_a10_2, i_a11_2, h_t85, h_t86, i_a1_4, i_a2_2, hp_3p0, by exact hp_3p1, by (have z0 := hp_3p5 0 (by decide); have z1 := hp_3p5 1 (by decide); have k0 := R_kp.1; have k1 := R_kp.2; split at z0 <;> split at z1 <;> first | omega | (constructor <;> (simp only [h_a1_5, h_a11_2, h_a10_2, h_a9_2, h_a8_2, h_a7_2, h_a6_2, h_a5_2, h_a4_3, h_a2_2, h_a1_4, zu, ↓reduceIte]; (repeat' split) <;> omega))), by first | (intro hk; have z0 := hp_3p5 0 (by decide); refine HR1_ext (R_i0 (by first | omega | (split at z0 <;> omega))) (by omega) (by omega) (by omega) (fun j hj => ?_); exact hp_3p4 0 (by decide) (by omega) j (by omega)) | (intro hk; refine HR1_cp (r := t4) ⟨R_many, R_ch, R_pa, R_st, R_ex, R_tr, R_pl, R_te, R_go⟩ (by omega) (by omega) (by omega) (fun j hj => by simp only [h_a1_5, h_a11_2, h_a10_2, h_a9_2, h_a8_2, h_a7_2, h_a6_2, h_a5_2, h_a4_3, h_a2_2, h_a1_4]; exact cpy_lt hj) (fun j hj => by simp only [h_a1_5, h_a11_2, h_a10_2, h_a9_2, h_a8_2, h_a7_2, h_a6_2, h_a5_2, h_a4_3, h_a2_2, h_a1_4]; exact cpy_lt hj) (fun j hj => by simp only [h_a1_5, h_a11_2, h_a10_2, h_a9_2, h_a8_2, h_a7_2, h_a6_2, h_a5_2, h_a4_3, h_a2_2, h_a1_4]; exact cpy_lt hj) (fun j hj => by simp only [h_a1_5, h_a11_2, h_a10_2, h_a9_2, h_a8_2, h_a7_2, h_a6_2, h_a5_2, h_a4_3, h_a2_2, h_a1_4]; exact cpy_lt hj) (fun j hj => by simp only [h_a1_5, h_a11_2, h_a10_2, h_a9_2, h_a8_2, h_a7_2, h_a6_2, h_a5_2, h_a4_3, h_a2_2, h_a1_4]; exact cpy_lt hj) (fun j hj => by simp only [h_a1_5, h_a11_2, h_a10_2, h_a9_2, h_a8_2, h_a7_2, h_a6_2, h_a5_2, h_a4_3, h_a2_2, h_a1_4]; exact cpy_lt hj) (fun j hj => ?_); have q := hp_3p3 (by omega) j (by omega); rw [show a1.toNat = 0 from by omega] at q; exact q), by first | (intro hk; have z0 := hp_3p5 1 (by decide); refine HR1_ext (R_i1 (by first | omega | (split at z0 <;> omega))) (by omega) (by omega) (by omega) (fun j hj => ?_); exact hp_3p4 1 (by decide) (by omega) j (by omega)) | (intro hk; refine HR1_cp (r := t4) ⟨R_many, R_ch, R_pa, R_st, R_ex, R_tr, R_pl, R_te, R_go⟩ (by omega) (by omega) (by omega) (fun j hj => by simp only [h_a1_5, h_a11_2, h_a10_2, h_a9_2, h_a8_2, h_a7_2, h_a6_2, h_a5_2, h_a4_3, h_a2_2, h_a1_4]; exact cpy_lt hj) (fun j hj => by simp only [h_a1_5, h_a11_2, h_a10_2, h_a9_2, h_a8_2, h_a7_2, h_a6_2, h_a5_2, h_a4_3, h_a2_2, h_a1_4]; exact cpy_lt hj) (fun j hj => by simp only [h_a1_5, h_a11_2, h_a10_2, h_a9_2, h_a8_2, h_a7_2, h_a6_2, h_a5_2, h_a4_3, h_a2_2, h_a1_4]; exact cpy_lt hj) (fun j hj => by simp only [h_a1_5, h_a11_2, h_a10_2, h_a9_2, h_a8_2, h_a7_2, h_a6_2, h_a5_2, h_a4_3, h_a2_2, h_a1_4]; exact cpy_lt hj) (fun j hj => by simp only [h_a1_5, h_a11_2, h_a10_2, h_a9_2, h_a8_2, h_a7_2, h_a6_2, h_a5_2, h_a4_3, h_a2_2, h_a1_4]; exact cpy_lt hj) (fun j hj => by simp only [h_a1_5, h_a11_2, h_a10_2, h_a9_2, h_a8_2, h_a7_2, h_a6_2, h_a5_2, h_a4_3, h_a2_2, h_a1_4]; exact cpy_lt hj) (fun j hj => ?_); have q := hp_3p3 (by omega) j (by omega); rw [show a1.toNat = 1 from by omega] at q; exact q)⟩)
                 · exfalso; omega))
       · first
         | (exfalso; omega)
         | (skip
            unfold f_HS_image_9
            refine zk_dI3 ?_
            unfold f_HS_refuse
            refine zk_nE (fun v1_4 h_v1_4 => ?_)
            refine zk_gv (by omega) (by decide) (fun v2_2 h_v2_2 => ?_)
            refine zk_n ?_
            refine zk_sv (by omega) (by decide) (fun a4_4 h_a4_4 => ?_)
            refine zk_rI3 ?_
            refine zk_rI35 ?_
            refine zk_d6 (ww_HM_image _ _ _ _ _ _ _ (by omega) h_t4 h_t6 (by assumption)) (fun v698_4 v699_4 v700_4 a701_4 a702_4 a703_4 hp_4 => ?_)
            try dsimp only at hp_4
            obtain ⟨hp_4p0, hp_4p1, hp_4p2, hp_4p3, hp_4p4, hp_4p5⟩ := hp_4
            refine zk_ret ?_
            try dsimp only
            exact ⟨by omega, by omega, by omega, by omega, by omega, by omega, by omega, by omega, by omega, by omega, by omega, by omega, by omega, h_t0, h_t65, h_t66, h_t67, h_t68, h_t69, h_t70, h_t71, h_t72, h_t73, h_t74, h_t75, h_t76, h_t77, h_t78, h_t79, h_t80, h_t85, h_t86, h_t87, h_t88, hp_4p0, by exact hp_4p1, by (have z0 := hp_4p5 0 (by decide); have z1 := hp_4p5 1 (by decide); have k0 := R_kp.1; have k1 := R_kp.2; split at z0 <;> split at z1 <;> first | omega | (constructor <;> (simp only [h_a4_4, zu, ↓reduceIte]; (repeat' split) <;> omega))), by first | (intro hk; have z0 := hp_4p5 0 (by decide); refine HR1_ext (R_i0 (by first | omega | (split at z0 <;> omega))) (by omega) (by omega) (by omega) (fun j hj => ?_); exact hp_4p4 0 (by decide) (by omega) j (by omega)) | (intro hk; refine HR1_cp (r := t4) ⟨R_many, R_ch, R_pa, R_st, R_ex, R_tr, R_pl, R_te, R_go⟩ (by omega) (by omega) (by omega) (fun j hj => by simp only [h_a4_4]; exact cpy_lt hj) (fun j hj => by simp only [h_a4_4]; exact cpy_lt hj) (fun j hj => by simp only [h_a4_4]; exact cpy_lt hj) (fun j hj => by simp only [h_a4_4]; exact cpy_lt hj) (fun j hj => by simp only [h_a4_4]; exact cpy_lt hj) (fun j hj => by simp only [h_a4_4]; exact cpy_lt hj) (fun j hj => ?_); have q := hp_4p3 (by omega) j (by omega); rw [show a1.toNat = 0 from by omega] at q; exact q), by first | (intro hk; have z0 := hp_4p5 1 (by decide); refine HR1_ext (R_i1 (by first | omega | (split at z0 <;> omega))) (by omega) (by omega) (by omega) (fun j hj => ?_); exact hp_4p4 1 (by decide) (by omega) j (by omega)) | (intro hk; refine HR1_cp (r := t4) ⟨R_many, R_ch, R_pa, R_st, R_ex, R_tr, R_pl, R_te, R_go⟩ (by omega) (by omega) (by omega) (fun j hj => by simp only [h_a4_4]; exact cpy_lt hj) (fun j hj => by simp only [h_a4_4]; exact cpy_lt hj) (fun j hj => by simp only [h_a4_4]; exact cpy_lt hj) (fun j hj => by simp only [h_a4_4]; exact cpy_lt hj) (fun j hj => by simp only [h_a4_4]; exact cpy_lt hj) (fun j hj => by simp only [h_a4_4]; exact cpy_lt hj) (fun j hj => ?_); have q := hp_4p3 (by omega) j (by omega); rw [show a1.toNat = 1 from by omega] at q; exact q)⟩))
set_option maxHeartbeats 4000000 in
set_option maxRecDepth 10000 in
theorem st_34 (N : Int) (σ : Nat → Int) (τ : Nat → Nat → Int) (hI : INV N σ τ) (a1 : Int) (b_a1 : (-2147483648) ≤ a1 ∧ a1 ≤ 2147483647) : zok (f_OP_34 N a1 (σ 3) (σ 4) (σ 5) (σ 26) (σ 27) (σ 28) (σ 29) (σ 30) (σ 49) (σ 50) (σ 51) (σ 52) (σ 53) (σ 55) (σ 56) (σ 57) (σ 58) (σ 62) (σ 63) (τ 0) (τ 2) (τ 3) (τ 4) (τ 5) (τ 6) (τ 34) (τ 35) (τ 36) (τ 37) (τ 38) (τ 39) (τ 40) (τ 41) (τ 63) (τ 64) (τ 65) (τ 66) (τ 67) (τ 68) (τ 69) (τ 70) (τ 71) (τ 72) (τ 73) (τ 74) (τ 75) (τ 76) (τ 77) (τ 78) (τ 79) (τ 80) (τ 85) (τ 86) (τ 87) (τ 88)) (fun o => (o.1 = o.2.1) ∧ INV (N + 6) (zst σ [(3, o.2.2.1), (4, o.2.2.2.1), (5, o.2.2.2.2.1), (30, o.2.2.2.2.2.1), (50, o.2.2.2.2.2.2.1), (51, o.2.2.2.2.2.2.2.1), (52, o.2.2.2.2.2.2.2.2.1), (53, o.2.2.2.2.2.2.2.2.2.1), (55, o.2.2.2.2.2.2.2.2.2.2.1), (56, o.2.2.2.2.2.2.2.2.2.2.2.1), (57, o.2.2.2.2.2.2.2.2.2.2.2.2.1), (58, o.2.2.2.2.2.2.2.2.2.2.2.2.2.1), (62, o.2.2.2.2.2.2.2.2.2.2.2.2.2.2.1), (63, o.2.2.2.2.2.2.2.2.2.2.2.2.2.2.2.1)]) (zta τ [(0, o.2.2.2.2.2.2.2.2.2.2.2.2.2.2.2.2.1), (2, o.2.2.2.2.2.2.2.2.2.2.2.2.2.2.2.2.2.1), (3, o.2.2.2.2.2.2.2.2.2.2.2.2.2.2.2.2.2.2.1), (5, o.2.2.2.2.2.2.2.2.2.2.2.2.2.2.2.2.2.2.2.1), (6, o.2.2.2.2.2.2.2.2.2.2.2.2.2.2.2.2.2.2.2.2.1), (65, o.2.2.2.2.2.2.2.2.2.2.2.2.2.2.2.2.2.2.2.2.2.1), (66, o.2.2.2.2.2.2.2.2.2.2.2.2.2.2.2.2.2.2.2.2.2.2.1), (67, o.2.2.2.2.2.2.2.2.2.2.2.2.2.2.2.2.2.2.2.2.2.2.2.1), (68, o.2.2.2.2.2.2.2.2.2.2.2.2.2.2.2.2.2.2.2.2.2.2.2.2.1), (69, o.2.2.2.2.2.2.2.2.2.2.2.2.2.2.2.2.2.2.2.2.2.2.2.2.2.1), (70, o.2.2.2.2.2.2.2.2.2.2.2.2.2.2.2.2.2.2.2.2.2.2.2.2.2.2.1), (71, o.2.2.2.2.2.2.2.2.2.2.2.2.2.2.2.2.2.2.2.2.2.2.2.2.2.2.2.1), (72, o.2.2.2.2.2.2.2.2.2.2.2.2.2.2.2.2.2.2.2.2.2.2.2.2.2.2.2.2.1), (73, o.2.2.2.2.2.2.2.2.2.2.2.2.2.2.2.2.2.2.2.2.2.2.2.2.2.2.2.2.2.1), (74, o.2.2.2.2.2.2.2.2.2.2.2.2.2.2.2.2.2.2.2.2.2.2.2.2.2.2.2.2.2.2.1), (75, o.2.2.2.2.2.2.2.2.2.2.2.2.2.2.2.2.2.2.2.2.2.2.2.2.2.2.2.2.2.2.2.1), (76, o.2.2.2.2.2.2.2.2.2.2.2.2.2.2.2.2.2.2.2.2.2.2.2.2.2.2.2.2.2.2.2.2.1), (77, o.2.2.2.2.2.2.2.2.2.2.2.2.2.2.2.2.2.2.2.2.2.2.2.2.2.2.2.2.2.2.2.2.2.1), (78, o.2.2.2.2.2.2.2.2.2.2.2.2.2.2.2.2.2.2.2.2.2.2.2.2.2.2.2.2.2.2.2.2.2.2.1), (79, o.2.2.2.2.2.2.2.2.2.2.2.2.2.2.2.2.2.2.2.2.2.2.2.2.2.2.2.2.2.2.2.2.2.2.2.1), (80, o.2.2.2.2.2.2.2.2.2.2.2.2.2.2.2.2.2.2.2.2.2.2.2.2.2.2.2.2.2.2.2.2.2.2.2.2.1), (85, o.2.2.2.2.2.2.2.2.2.2.2.2.2.2.2.2.2.2.2.2.2.2.2.2.2.2.2.2.2.2.2.2.2.2.2.2.2.1), (86, o.2.2.2.2.2.2.2.2.2.2.2.2.2.2.2.2.2.2.2.2.2.2.2.2.2.2.2.2.2.2.2.2.2.2.2.2.2.2.1), (87, o.2.2.2.2.2.2.2.2.2.2.2.2.2.2.2.2.2.2.2.2.2.2.2.2.2.2.2.2.2.2.2.2.2.2.2.2.2.2.2.1), (88, o.2.2.2.2.2.2.2.2.2.2.2.2.2.2.2.2.2.2.2.2.2.2.2.2.2.2.2.2.2.2.2.2.2.2.2.2.2.2.2.2)])) := by
  have zg1 := hI.2
  have zg2 := zg1.2
  have zg3 := zg2.2
  have zg4 := zg3.2
  have zg5 := zg4.2
  have zg6 := zg5.2
  have zg7 := zg6.2
  have zg8 := zg7.2
  have zg9 := zg8.2
  have zg10 := zg9.2
  have zg11 := zg10.2
  have zg12 := zg11.2
  have zg13 := zg12.2
  have zg14 := zg13.2
  have zg15 := zg14.2
  have zg16 := zg15.2
  have zg17 := zg16.2
  have zg18 := zg17.2
  have zg19 := zg18.2
  have zg20 := zg19.2
  have zg21 := zg20.2
  have zg22 := zg21.2
  have zg23 := zg22.2
  have zg24 := zg23.2
  have zg25 := zg24.2
  have zg26 := zg25.2
  have zg27 := zg26.2
  have zg28 := zg27.2
  have zg29 := zg28.2
  have zg30 := zg29.2
  have zg31 := zg30.2
  have zg32 := zg31.2
  have zg33 := zg32.2
  have zg34 := zg33.2
  have zg35 := zg34.2
  have zg36 := zg35.2
  have zg37 := zg36.2
  have zg38 := zg37.2
  have zg39 := zg38.2
  have zg40 := zg39.2
  have zg41 := zg40.2
  have zg42 := zg41.2
  have zg43 := zg42.2
  have zg44 := zg43.2
  have zg45 := zg44.2
  have zg46 := zg45.2
  have zg47 := zg46.2
  have zg48 := zg47.2
  have zg49 := zg48.2
  have zg50 := zg49.2
  have zg51 := zg50.2
  have zg52 := zg51.2
  have zg53 := zg52.2
  have zg54 := zg53.2
  have zg55 := zg54.2
  have zg56 := zg55.2
  have zg57 := zg56.2
  have zg58 := zg57.2
  have zg59 := zg58.2
  have zg60 := zg59.2
  have zg61 := zg60.2
  have zg62 := zg61.2
  have zg63 := zg62.2
  have zg64 := zg63.2
  have zg65 := zg64.2
  have zg66 := zg65.2
  have zg67 := zg66.2
  have zg68 := zg67.2
  have zg69 := zg68.2
  have zg70 := zg69.2
  have zg71 := zg70.2
  have zg72 := zg71.2
  have zg73 := zg72.2
  have zg74 := zg73.2
  have zg75 := zg74.2
  have zg76 := zg75.2
  have zg77 := zg76.2
  have zg78 := zg77.2
  have zg79 := zg78.2
  have zg80 := zg79.2
  have zg81 := zg80.2
  have zg82 := zg81.2
  have zg83 := zg82.2
  have zg84 := zg83.2
  have zg85 := zg84.2
  have zg86 := zg85.2
  have zg87 := zg86.2
  have zg88 := zg87.2
  have zg89 := zg88.2
  have zg90 := zg89.2
  have zg91 := zg90.2
  have zg92 := zg91.2
  have zg93 := zg92.2
  have zg94 := zg93.2
  have zg95 := zg94.2
  have zg96 := zg95.2
  have zg97 := zg96.2
  have zg98 := zg97.2
  have zg99 := zg98.2
  have zg100 := zg99.2
  have zg101 := zg100.2
  have zg102 := zg101.2
  have zg103 := zg102.2
  have zg104 := zg103.2
  have zg105 := zg104.2
  have zg106 := zg105.2
  have zg107 := zg106.2
  have zg108 := zg107.2
  have zg109 := zg108.2
  have zg110 := zg109.2
  have zg111 := zg110.2
  have zg112 := zg111.2
  have zg113 := zg112.2
  have zg114 := zg113.2
  have zg115 := zg114.2
  have zg116 := zg115.2
  have zg117 := zg116.2
  have zg118 := zg117.2
  have zg119 := zg118.2
  have zg120 := zg119.2
  have zg121 := zg120.2
  have zg122 := zg121.2
  have zg123 := zg122.2
  have zg124 := zg123.2
  have zg125 := zg124.2
  have I_s3 := zg2.1
  have I_s26 := zg3.1
  have I_s27 := zg4.1
  have I_s28 := zg5.1
  have I_s29 := zg6.1
  have I_s49 := zg21.1
  have I_s50 := zg22.1
  have I_s51 := zg23.1
  have I_s52 := zg24.1
  have I_s53 := zg25.1
  have I_s55 := zg27.1
  have I_s56 := zg28.1
  have I_s57 := zg29.1
  have I_s58 := zg30.1
  have I_s62 := zg34.1
  have I_s63 := zg35.1
  have I_t0 := zg43.1
  have I_t4 := zg99.1
  have I_t6 := zg103.1
  have I_t34 := zg45.1
  have I_t35 := zg46.1
  have I_t36 := zg47.1
  have I_t37 := zg48.1
  have I_t38 := zg49.1
  have I_t39 := zg50.1
  have I_t40 := zg51.1
  have I_t41 := zg52.1
  have I_t63 := zg70.1
  have I_t64 := zg71.1
  have I_t65 := zg72.1
  have I_t66 := zg73.1
  have I_t67 := zg74.1
  have I_t68 := zg75.1
  have I_t69 := zg76.1
  have I_t70 := zg77.1
  have I_t71 := zg78.1
  have I_t72 := zg79.1
  have I_t73 := zg80.1
  have I_t74 := zg81.1
  have I_t75 := zg82.1
  have I_t76 := zg83.1
  have I_t77 := zg84.1
  have I_t78 := zg85.1
  have I_t79 := zg86.1
  have I_t80 := zg87.1
  have I_t85 := zg92.1
  have I_t86 := zg93.1
  have I_t87 := zg94.1
  have I_t88 := zg95.1
  have I_s30 := zg42.1
  have I_im := zg112.1
  have R_many := zg113.1
  have R_ch := zg114.1
  have R_pa := zg115.1
  have R_st := zg116.1
  have R_ex := zg117.1
  have R_tr := zg118.1
  have R_pl := zg119.1
  have R_te := zg120.1
  have R_go := zg121.1
  have R_kp := zg123.1
  have R_i0 := zg124.1
  have R_i1 := zg125
  refine zok_mono (s_OP_34 N a1 (σ 3) (σ 4) (σ 5) (σ 26) (σ 27) (σ 28) (σ 29) (σ 30) (σ 49) (σ 50) (σ 51) (σ 52) (σ 53) (σ 55) (σ 56) (σ 57) (σ 58) (σ 62) (σ 63) (τ 0) (τ 2) (τ 3) (τ 4) (τ 5) (τ 6) (τ 34) (τ 35) (τ 36) (τ 37) (τ 38) (τ 39) (τ 40) (τ 41) (τ 63) (τ 64) (τ 65) (τ 66) (τ 67) (τ 68) (τ 69) (τ 70) (τ 71) (τ 72) (τ 73) (τ 74) (τ 75) (τ 76) (τ 77) (τ 78) (τ 79) (τ 80) (τ 85) (τ 86) (τ 87) (τ 88) b_a1 I_s3 I_s26 I_s27 I_s28 I_s29 I_s49 I_s50 I_s51 I_s52 I_s53 I_s55 I_s56 I_s57 I_s58 I_s62 I_s63 I_t0 I_t4 I_t6 I_t34 I_t35 I_t36 I_t37 I_t38 I_t39 I_t40 I_t41 I_t63 I_t64 I_t65 I_t66 I_t67 I_t68 I_t69 I_t70 I_t71 I_t72 I_t73 I_t74 I_t75 I_t76 I_t77 I_t78 I_t79 I_t80 I_t85 I_t86 I_t87 I_t88 I_s30 I_im R_many R_ch R_pa R_st R_ex R_tr R_pl R_te R_go R_kp R_i0 R_i1) (fun o ho => ?_)
  obtain ⟨p0, p1, p2, p3, p4, p5, p6, p7, p8, p9, p10, p11, p12, p13, p14, p15, p16, p17, p18, p19, p20, p21, p22, p23, p24, p25, p26, p27, p28, p29, p30, p31, p32, p33, p34, p35, p36, p37, p38⟩ := ho
  exact ⟨p0, ⟨hI.1, zg1.1, p1, zg3.1, zg4.1, zg5.1, zg6.1, zg7.1, zg8.1, zg9.1, zg10.1, zg11.1, zg12.1, zg13.1, zg14.1, zg15.1, zg16.1, zg17.1, zg18.1, zg19.1, zg20.1, zg21.1, p2, p3, p4, p5, zg26.1, p6, p7, p8, p9, zg31.1, zg32.1, zg33.1, p10, p11, zg36.1, zg37.1, zg38.1, zg39.1, zg40.1, zg41.1, p12, p13, zg44.1, zg45.1, zg46.1, zg47.1, zg48.1, zg49.1, zg50.1, zg51.1, zg52.1, zg53.1, zg54.1, zg55.1, zg56.1, zg57.1, zg58.1, zg59.1, zg60.1, zg61.1, zg62.1, zg63.1, zg64.1, zg65.1, zg66.1, zg67.1, zg68.1, zg69.1, zg70.1, zg71.1, p14, p15, p16, p17, p18, p19, p20, p21, p22, p23, p24, p25, p26, p27, p28, p29, zg88.1, zg89.1, zg90.1, zg91.1, p30, p31, p32, p33, zg96.1, zg97.1, zg98.1, zg99.1, zg100.1, zg101.1, zg102.1, p34, zg104.1, zg105.1, zg106.1, zg107.1, zg108.1, zg109.1, zg110.1, zg111.1, p35, zg113.1, zg114.1, zg115.1, zg116.1, zg117.1, zg118.1, zg119.1, zg120.1, zg121.1, zg122.1, p36, p37, p38⟩⟩
noncomputable def f_OP_35 (N : Int) (a1 : Int) (s3 : Int) (s4 : Int) (s5 : Int) (s26 : Int) (s27 : Int) (s28 : Int) (s29 : Int) (s30 : Int) (s49 : Int) (s50 : Int) (s51 : Int) (s52 : Int) (s53 : Int) (s55 : Int) (s56 : Int) (s57 : Int) (s58 : Int) (s62 : Int) (s63 : Int) (t0 : Nat → Int) (t2 : Nat → Int) (t3 : Nat → Int) (t4 : Nat → Int) (t5 : Nat → Int) (t6 : Nat → Int) (t34 : Nat → Int) (t35 : Nat → Int) (t36 : Nat → Int) (t37 : Nat → Int) (t38 : Nat → Int) (t39 : Nat → Int) (t40 : Nat → Int) (t41 : Nat → Int) (t63 : Nat → Int) (t64 : Nat → Int) (t65 : Nat → Int) (t66 : Nat → Int) (t67 : Nat → Int) (t68 : Nat → Int) (t69 : Nat → Int) (t70 : Nat → Int) (t71 : Nat → Int) (t72 : Nat → Int) (t73 : Nat → Int) (t74 : Nat → Int) (t75 : Nat → Int) (t76 : Nat → Int) (t77 : Nat → Int) (t78 : Nat → Int) (t79 : Nat → Int) (t80 : Nat → Int) (t85 : Nat → Int) (t86 : Nat → Int) (t87 : Nat → Int) (t88 : Nat → Int) : Option (Int × Int × Int × Int × Int × Int × Int × Int × Int × Int × Int × (Nat → Int) × (Nat → Int) × (Nat → Int) × (Nat → Int) × (Nat → Int) × (Nat → Int) × (Nat → Int) × (Nat → Int) × (Nat → Int) × (Nat → Int) × (Nat → Int) × (Nat → Int) × (Nat → Int)) :=
  zd19 (f_HS_back a1 t0 s50 s51 s52 s53 s55 s56 s57 s58 s62 t65 t66 t67 t68 t69 t70 t71 t72 s63 t73 t74 t75 t76 t77 t78 t79 t80 t85 t86 t87 t88 s3 s26 s27 s28 s29 s30 t2 s49 t34 t35 t36 t37 t38 t39 t40 t41 t63 t64) fun v706 v707 v708 v709 v710 v711 v712 a713 v714 a715 a716 a717 a718 a719 a720 a721 a722 a723 a724 =>
  zd5 (f_HM_back a1 t5 t6 s4 s5 t3 t4) fun v727 v728 v729 a730 a731 =>
  some (v706, v727, v707, v728, v729, v708, v709, v710, v711, v712, v714, a713, a730, a731, a715, a716, a717, a718, a719, a720, a721, a722, a723, a724)
set_option maxHeartbeats 4000000 in
theorem s_OP_35 (N : Int) (a1 : Int) (s3 : Int) (s4 : Int) (s5 : Int) (s26 : Int) (s27 : Int) (s28 : Int) (s29 : Int) (s30 : Int) (s49 : Int) (s50 : Int) (s51 : Int) (s52 : Int) (s53 : Int) (s55 : Int) (s56 : Int) (s57 : Int) (s58 : Int) (s62 : Int) (s63 : Int) (t0 : Nat → Int) (t2 : Nat → Int) (t3 : Nat → Int) (t4 : Nat → Int) (t5 : Nat → Int) (t6 : Nat → Int) (t34 : Nat → Int) (t35 : Nat → Int) (t36 : Nat → Int) (t37 : Nat → Int) (t38 : Nat → Int) (t39 : Nat → Int) (t40 : Nat → Int) (t41 : Nat → Int) (t63 : Nat → Int) (t64 : Nat → Int) (t65 : Nat → Int) (t66 : Nat → Int) (t67 : Nat → Int) (t68 : Nat → Int) (t69 : Nat → Int) (t70 : Nat → Int) (t71 : Nat → Int) (t72 : Nat → Int) (t73 : Nat → Int) (t74 : Nat → Int) (t75 : Nat → Int) (t76 : Nat → Int) (t77 : Nat → Int) (t78 : Nat → Int) (t79 : Nat → Int) (t80 : Nat → Int) (t85 : Nat → Int) (t86 : Nat → Int) (t87 : Nat → Int) (t88 : Nat → Int) (b_a1 : (-2147483648) ≤ a1 ∧ a1 ≤ 2147483647) (b_s3 : (-6) ≤ s3 ∧ s3 ≤ 0) (b_s26 : 0 ≤ s26 ∧ s26 ≤ 6) (b_s27 : 0 ≤ s27 ∧ s27 ≤ 6) (b_s28 : 0 ≤ s28 ∧ s28 ≤ 6) (b_s29 : (-1) ≤ s29 ∧ s29 ≤ 5) (b_s49 : 0 ≤ s49 ∧ s49 ≤ 12) (b_s50 : 0 ≤ s50 ∧ s50 ≤ 6) (b_s51 : 0 ≤ s51 ∧ s51 ≤ 6) (b_s52 : 0 ≤ s52 ∧ s52 ≤ 6) (b_s53 : (-1) ≤ s53 ∧ s53 ≤ 5) (b_s55 : 0 ≤ s55 ∧ s55 ≤ 6) (b_s56 : 0 ≤ s56 ∧ s56 ≤ 6) (b_s57 : 0 ≤ s57 ∧ s57 ≤ 6) (b_s58 : (-1) ≤ s58 ∧ s58 ≤ 5) (b_s62 : 0 ≤ s62 ∧ s62 ≤ 12) (b_s63 : 0 ≤ s63 ∧ s63 ≤ 12) (h_t0 : zR t0 0 1) (h_t4 : RI t4) (h_t6 : zR t6 0 1) (h_t34 : zR t34 0 60) (h_t35 : zR t35 0 1) (h_t36 : zR t36 0 20) (h_t37 : zR t37 0 11) (h_t38 : zR t38 0 99) (h_t39 : zR t39 (-1) 10) (h_t40 : zR t40 (-2147483648) 2147483647) (h_t41 : zR t41 0 424) (h_t63 : zR t63 0 10) (h_t64 : zR t64 0 30) (h_t65 : zR t65 0 60) (h_t66 : zR t66 0 1) (h_t67 : zR t67 0 20) (h_t68 : zR t68 0 11) (h_t69 : zR t69 0 99) (h_t70 : zR t70 (-1) 10) (h_t71 : zR t71 (-2147483648) 2147483647) (h_t72 : zR t72 0 424) (h_t73 : zR t73 0 60) (h_t74 : zR t74 0 1) (h_t75 : zR t75 0 20) (h_t76 : zR t76 0 11) (h_t77 : zR t77 0 99) (h_t78 : zR t78 (-1) 10) (h_t79 : zR t79 (-2147483648) 2147483647) (h_t80 : zR t80 0 424) (h_t85 : zR t85 0 10) (h_t86 : zR t86 0 30) (h_t87 : zR t87 0 10) (h_t88 : zR t88 0 30) (I_s30 : 0 ≤ s30 ∧ s30 ≤ N) (I_im : zIM t6 t5) (R_many : s49 = t4 0) (R_ch : s26 = t4 1) (R_pa : s27 = t4 2) (R_st : RV 3 153 s26 t34 t4) (R_ex : RV 3 154 s26 t35 t4) (R_tr : RV 3 155 s26 t36 t4) (R_pl : RV 1 171 s27 t37 t4) (R_te : RV 1 5 4 t38 t4) (R_go : RV 1 141 s49 t39 t4) (R_kp : t0 0 = t6 0 ∧ t0 1 = t6 1) (R_i0 : t6 0 ≠ 0 → HR1 s62 s50 s51 t65 t66 t67 t68 t69 t70 (fun j => t5 (5580 * 0 + j))) (R_i1 : t6 1 ≠ 0 → HR1 s63 s55 s56 t73 t74 t75 t76 t77 t78 (fun j => t5 (5580 * 1 + j))) : zok (f_OP_35 N a1 s3 s4 s5 s26 s27 s28 s29 s30 s49 s50 s51 s52 s53 s55 s56 s57 s58 s62 s63 t0 t2 t3 t4 t5 t6 t34 t35 t36 t37 t38 t39 t40 t41 t63 t64 t65 t66 t67 t68 t69 t70 t71 t72 t73 t74 t75 t76 t77 t78 t79 t80 t85 t86 t87 t88) (fun o => (o.1 = o.2.1) ∧ ((-6) ≤ o.2.2.1 ∧ o.2.2.1 ≤ 0) ∧ (0 ≤ o.2.2.2.2.2.1 ∧ o.2.2.2.2.2.1 ≤ 6) ∧ (0 ≤ o.2.2.2.2.2.2.1 ∧ o.2.2.2.2.2.2.1 ≤ 6) ∧ (0 ≤ o.2.2.2.2.2.2.2.1 ∧ o.2.2.2.2.2.2.2.1 ≤ 6) ∧ ((-1) ≤ o.2.2.2.2.2.2.2.2.1 ∧ o.2.2.2.2.2.2.2.2.1 ≤ 5) ∧ (0 ≤ o.2.2.2.2.2.2.2.2.2.2.1 ∧ o.2.2.2.2.2.2.2.2.2.2.1 ≤ 12) ∧ (0 ≤ o.2.2.2.2.2.2.2.2.2.1 ∧ o.2.2.2.2.2.2.2.2.2.1 ≤ N + 6) ∧ zR o.2.2.2.2.2.2.2.2.2.2.2.2.2.2.1 0 60 ∧ zR o.2.2.2.2.2.2.2.2.2.2.2.2.2.2.2.1 0 1 ∧ zR o.2.2.2.2.2.2.2.2.2.2.2.2.2.2.2.2.1 0 20 ∧ zR o.2.2.2.2.2.2.2.2.2.2.2.2.2.2.2.2.2.1 0 11 ∧ zR o.2.2.2.2.2.2.2.2.2.2.2.2.2.2.2.2.2.2.1 0 99 ∧ zR o.2.2.2.2.2.2.2.2.2.2.2.2.2.2.2.2.2.2.2.1 (-1) 10 ∧ zR o.2.2.2.2.2.2.2.2.2.2.2.2.2.2.2.2.2.2.2.2.1 (-2147483648) 2147483647 ∧ zR o.2.2.2.2.2.2.2.2.2.2.2.2.2.2.2.2.2.2.2.2.2.1 0 424 ∧ zR o.2.2.2.2.2.2.2.2.2.2.2.2.2.2.2.2.2.2.2.2.2.2.1 0 10 ∧ zR o.2.2.2.2.2.2.2.2.2.2.2.2.2.2.2.2.2.2.2.2.2.2.2 0 30 ∧ RI o.2.2.2.2.2.2.2.2.2.2.2.2.2.1 ∧ (o.2.2.2.2.2.2.2.2.2.2.1 = o.2.2.2.2.2.2.2.2.2.2.2.2.2.1 0) ∧ (o.2.2.2.2.2.1 = o.2.2.2.2.2.2.2.2.2.2.2.2.2.1 1) ∧ (o.2.2.2.2.2.2.1 = o.2.2.2.2.2.2.2.2.2.2.2.2.2.1 2) ∧ (RV 3 153 o.2.2.2.2.2.1 o.2.2.2.2.2.2.2.2.2.2.2.2.2.2.1 o.2.2.2.2.2.2.2.2.2.2.2.2.2.1) ∧ (RV 3 154 o.2.2.2.2.2.1 o.2.2.2.2.2.2.2.2.2.2.2.2.2.2.2.1 o.2.2.2.2.2.2.2.2.2.2.2.2.2.1) ∧ (RV 3 155 o.2.2.2.2.2.1 o.2.2.2.2.2.2.2.2.2.2.2.2.2.2.2.2.1 o.2.2.2.2.2.2.2.2.2.2.2.2.2.1) ∧ (RV 1 171 o.2.2.2.2.2.2.1 o.2.2.2.2.2.2.2.2.2.2.2.2.2.2.2.2.2.1 o.2.2.2.2.2.2.2.2.2.2.2.2.2.1) ∧ (RV 1 5 4 o.2.2.2.2.2.2.2.2.2.2.2.2.2.2.2.2.2.2.1 o.2.2.2.2.2.2.2.2.2.2.2.2.2.1) ∧ (RV 1 141 o.2.2.2.2.2.2.2.2.2.2.1 o.2.2.2.2.2.2.2.2.2.2.2.2.2.2.2.2.2.2.2.1 o.2.2.2.2.2.2.2.2.2.2.2.2.2.1)) := by
  unfold f_OP_35
  have R_kx : t0 a1.toNat = t6 a1.toNat ∨ a1 < 0 ∨ 1 < a1 := by
    by_cases e : a1 < 0 ∨ 1 < a1
    · exact Or.inr e
    · have e2 : a1.toNat = 0 ∨ a1.toNat = 1 := by omega
      rcases e2 with e2 | e2
      · rw [e2]; exact Or.inl R_kp.1
      · rw [e2]; exact Or.inl R_kp.2
  refine zk_dI19 ?_
  unfold f_HS_back
  refine zk_ifc (zci_ltr (by omega)) (fun hc => ?_) (fun hc => ?_)
  · first
    | (exfalso; omega)
    | (skip
       unfold f_HS_back_9
       refine zk_dI3 ?_
       unfold f_HS_refuse
       refine zk_nE (fun v1 h_v1 => ?_)
       refine zk_gv (by omega) (by decide) (fun v2 h_v2 => ?_)
       refine zk_n ?_
       refine zk_sv (by omega) (by decide) (fun a4 h_a4 => ?_)
       refine zk_rI3 ?_
       refine zk_rI19 ?_
       refine zk_d5 (ww_HM_back _ _ _ _ _ _ _ (by omega) h_t6 h_t4 (by assumption)) (fun v727 v728 v729 a730 a731 hp => ?_)
       try dsimp only at hp
       obtain ⟨hpp0, hpp1, hpp2, hpp3, hpp4⟩ := hp
       refine zk_ret ?_
       try dsimp only
       exact ⟨by omega, by omega, by omega, by omega, by omega, by omega, by omega, by omega, h_t34, h_t35, h_t36, h_t37, h_t38, h_t39, h_t40, h_t41, h_t63, h_t64, hpp0, by first | (rw [hpp3 (by omega)]; exact R_many) | exact (R_i0 (by have q := hpp4 (by omega); rw [show a1.toNat = 0 from by omega] at q; exact q)).1.trans (Eq.symm (by have q := hpp2 (by omega) 0 (by omega); rw [show a1.toNat = 0 from by omega] at q; exact q)) | exact (R_i1 (by have q := hpp4 (by omega); rw [show a1.toNat = 1 from by omega] at q; exact q)).1.trans (Eq.symm (by have q := hpp2 (by omega) 0 (by omega); rw [show a1.toNat = 1 from by omega] at q; exact q)), by first | (rw [hpp3 (by omega)]; exact R_ch) | exact (R_i0 (by have q := hpp4 (by omega); rw [show a1.toNat = 0 from by omega] at q; exact q)).2.1.trans (Eq.symm (by have q := hpp2 (by omega) 1 (by omega); rw [show a1.toNat = 0 from by omega] at q; exact q)) | exact (R_i1 (by have q := hpp4 (by omega); rw [show a1.toNat = 1 from by omega] at q; exact q)).2.1.trans (Eq.symm (by have q := hpp2 (by omega) 1 (by omega); rw [show a1.toNat = 1 from by omega] at q; exact q)), by first | (rw [hpp3 (by omega)]; exact R_pa) | exact (R_i0 (by have q := hpp4 (by omega); rw [show a1.toNat = 0 from by omega] at q; exact q)).2.2.1.trans (Eq.symm (by have q := hpp2 (by omega) 2 (by omega); rw [show a1.toNat = 0 from by omega] at q; exact q)) | exact (R_i1 (by have q := hpp4 (by omega); rw [show a1.toNat = 1 from by omega] at q; exact q)).2.2.1.trans (Eq.symm (by have q := hpp2 (by omega) 2 (by omega); rw [show a1.toNat = 1 from by omega] at q; exact q)), by first | (rw [hpp3 (by omega)]; exact R_st) | exact RV_cp (R_i0 (by have q := hpp4 (by omega); rw [show a1.toNat = 0 from by omega] at q; exact q)).2.2.2.1 (fun c q => by simp only [h_a4]; exact cpy_lt (by omega)) (fun c q => (by have q := hpp2 (by omega) (153 + 3 * c) (by omega); rw [show a1.toNat = 0 from by omega] at q; exact q)) | exact RV_cp (R_i1 (by have q := hpp4 (by omega); rw [show a1.toNat = 1 from by omega] at q; exact q)).2.2.2.1 (fun c q => by simp only [h_a4]; exact cpy_lt (by omega)) (fun c q => (by have q := hpp2 (by omega) (153 + 3 * c) (by omega); rw [show a1.toNat = 1 from by omega] at q; exact q)), by first | (rw [hpp3 (by omega)]; exact R_ex) | exact RV_cp (R_i0 (by have q := hpp4 (by omega); rw [show a1.toNat = 0 from by omega] at q; exact q)).2.2.2.2.1 (fun c q => by simp only [h_a4]; exact cpy_lt (by omega)) (fun c q => (by have q := hpp2 (by omega) (154 + 3 * c) (by omega); rw [show a1.toNat = 0 from by omega] at q; exact q)) | exact RV_cp (R_i1 (by have q := hpp4 (by omega); rw [show a1.toNat = 1 from by omega] at q; exact q)).2.2.2.2.1 (fun c q => by simp only [h_a4]; exact cpy_lt (by omega)) (fun c q => (by have q := hpp2 (by omega) (154 + 3 * c) (by omega); rw [show a1.toNat = 1 from by omega] at q; exact q)), by first | (rw [hpp3 (by omega)]; exact R_tr) | exact RV_cp (R_i0 (by have q := hpp4 (by omega); rw [show a1.toNat = 0 from by omega] at q; exact q)).2.2.2.2.2.1 (fun c q => by simp only [h_a4]; exact cpy_lt (by omega)) (fun c q => (by have q := hpp2 (by omega) (155 + 3 * c) (by omega); rw [show a1.toNat = 0 from by omega] at q; exact q)) | exact RV_cp (R_i1 (by have q := hpp4 (by omega); rw [show a1.toNat = 1 from by omega] at q; exact q)).2.2.2.2.2.1 (fun c q => by simp only [h_a4]; exact cpy_lt (by omega)) (fun c q => (by have q := hpp2 (by omega) (155 + 3 * c) (by omega); rw [show a1.toNat = 1 from by omega] at q; exact q)), by first | (rw [hpp3 (by omega)]; exact R_pl) | exact RV_cp (R_i0 (by have q := hpp4 (by omega); rw [show a1.toNat = 0 from by omega] at q; exact q)).2.2.2.2.2.2.1 (fun c q => by simp only [h_a4]; exact cpy_lt (by omega)) (fun c q => (by have q := hpp2 (by omega) (171 + 1 * c) (by omega); rw [show a1.toNat = 0 from by omega] at q; exact q)) | exact RV_cp (R_i1 (by have q := hpp4 (by omega); rw [show a1.toNat = 1 from by omega] at q; exact q)).2.2.2.2.2.2.1 (fun c q => by simp only [h_a4]; exact cpy_lt (by omega)) (fun c q => (by have q := hpp2 (by omega) (171 + 1 * c) (by omega); rw [show a1.toNat = 1 from by omega] at q; exact q)), by first | (rw [hpp3 (by omega)]; exact R_te) | exact RV_cp (R_i0 (by have q := hpp4 (by omega); rw [show a1.toNat = 0 from by omega] at q; exact q)).2.2.2.2.2.2.2.1 (fun c q => by simp only [h_a4]; exact cpy_lt (by omega)) (fun c q => (by have q := hpp2 (by omega) (5 + 1 * c) (by omega); rw [show a1.toNat = 0 from by omega] at q; exact q)) | exact RV_cp (R_i1 (by have q := hpp4 (by omega); rw [show a1.toNat = 1 from by omega] at q; exact q)).2.2.2.2.2.2.2.1 (fun c q => by simp only [h_a4]; exact cpy_lt (by omega)) (fun c q => (by have q := hpp2 (by omega) (5 + 1 * c) (by omega); rw [show a1.toNat = 1 from by omega] at q; exact q)), by first | (rw [hpp3 (by omega)]; exact R_go) | exact RV_cp (R_i0 (by have q := hpp4 (by omega); rw [show a1.toNat = 0 from by omega] at q; exact q)).2.2.2.2.2.2.2.2 (fun c q => by simp only [h_a4]; exact cpy_lt (by omega)) (fun c q => (by have q := hpp2 (by omega) (141 + 1 * c) (by omega); rw [show a1.toNat = 0 from by omega] at q; exact q)) | exact RV_cp (R_i1 (by have q := hpp4 (by omega); rw [show a1.toNat = 1 from by omega] at q; exact q)).2.2.2.2.2.2.2.2 (fun c q => by simp only [h_a4]; exact cpy_lt (by omega)) (fun c q => (by have q := hpp2 (by omega) (141 + 1 * c) (by omega); rw [show a1.toNat = 1 from by omega] at q; exact q))⟩)
  · first
    | (exfalso; omega)
    | (skip
       refine zk_ifc (zci_lt (by omega) (by omega)) (fun hc_2 => ?_) (fun hc_2 => ?_)
       · first
         | (exfalso; omega)
         | (skip
            refine zk_gv (by omega) (by decide) (fun v1_2 h_v1_2 => ?_)
            have r_v1_2 := h_t0 (a1.toNat)
            refine zk_ifc (zci_ner (by omega)) (fun hc_3 => ?_) (fun hc_3 => ?_)
            · first
              | (exfalso; omega)
              | (skip
                 refine zk_ifc (zci_eqr (by omega)) (fun hc_4 => ?_) (fun hc_4 => ?_)
                 · first
                   | (exfalso; omega)
                   | (skip
                      refine zk_dI15 ?_
                      unfold f_Hill_become
                      refine zk_dI3 ?_
                      unfold f_Columns_become
                      refine zk_cp (by omega) (fun a1_2 h_a1_2 => ?_)
                      have i_a1_2 : zR a1_2 0 10 := by rw [h_a1_2]; exact zR_cp h_t85 h_t63
                      refine zk_cp (by omega) (fun a2 h_a2 => ?_)
                      have i_a2 : zR a2 0 30 := by rw [h_a2]; exact zR_cp h_t86 h_t64
                      refine zk_rI3 ?_
                      refine zk_cp (by omega) (fun a4_2 h_a4_2 => ?_)
                      have i_a4_2 : zR a4_2 0 60 := by rw [h_a4_2]; exact zR_cp h_t65 h_t34
                      refine zk_cp (by omega) (fun a5 h_a5 => ?_)
                      have i_a5 : zR a5 0 1 := by rw [h_a5]; exact zR_cp h_t66 h_t35
                      refine zk_cp (by omega) (fun a6 h_a6 => ?_)
                      have i_a6 : zR a6 0 20 := by rw [h_a6]; exact zR_cp h_t67 h_t36
                      refine zk_cp (by omega) (fun a7 h_a7 => ?_)
                      have i_a7 : zR a7 0 11 := by rw [h_a7]; exact zR_cp h_t68 h_t37
                      refine zk_cp (by omega) (fun a8 h_a8 => ?_)
                      have i_a8 : zR a8 0 99 := by rw [h_a8]; exact zR_cp h_t69 h_t38
                      refine zk_cp (by omega) (fun a9 h_a9 => ?_)
                      have i_a9 : zR a9 (-1) 10 := by rw [h_a9]; exact zR_cp h_t70 h_t39
                      refine zk_cp (by omega) (fun a10 h_a10 => ?_)
                      have i_a10 : zR a10 (-2147483648) 2147483647 := by rw [h_a10]; exact zR_cp h_t71 h_t40
                      refine zk_cp (by omega) (fun a11 h_a11 => ?_)
                      have i_a11 : zR a11 0 424 := by rw [h_a11]; exact zR_cp h_t72 h_t41
                      refine zk_rI15 ?_
                      unfold f_HS_back_44
                      refine zk_dI3 ?_
                      unfold f_HS_accept
                      refine zk_n ?_
                      refine zk_rI3 ?_
                      refine zk_rI19 ?_
                      refine zk_d5 (ww_HM_back _ _ _ _ _ _ _ (by omega) h_t6 h_t4 (by assumption)) (fun v727_2 v728_2 v729_2 a730_2 a731_2 hp_2 => ?_)
                      try dsimp only at hp_2
                      obtain ⟨hp_2p0, hp_2p1, hp_2p2, hp_2p3, hp_2p4⟩ := hp_2
                      refine zk_ret ?_
                      try dsimp only
                      exact ⟨by omega, by omega, by omega, by omega, by omega, by omega, by omega, by omega, i_a4_2, i_a5, i_a6, i_a7, i_a8, i_a9, i_a10, i_a11, i_a1_2, i_a2, hp_2p0, by first | (rw [hp_2p3 (by omega)]; exact R_many) | exact (R_i0 (by have q := hp_2p4 (by omega); rw [show a1.toNat = 0 from by omega] at q; exact q)).1.trans (Eq.symm (by have q := hp_2p2 (by omega) 0 (by omega); rw [show a1.toNat = 0 from by omega] at q; exact q)) | exact (R_i1 (by have q := hp_2p4 (by omega); rw [show a1.toNat = 1 from by omega] at q; exact q)).1.trans (Eq.symm (by have q := hp_2p2 (by omega) 0 (by omega); rw [show a1.toNat = 1 from by omega] at q; exact q)), by first | (rw [hp_2p3 (by omega)]; exact R_ch) | exact (R_i0 (by have q := hp_2p4 (by omega); rw [show a1.toNat = 0 from by omega] at q; exact q)).2.1.trans (Eq.symm (by have q := hp_2p2 (by omega) 1 (by omega); rw [show a1.toNat = 0 from by omega] at q; exact q)) | exact (R_i1 (by have q := hp_2p4 (by omega); rw [show a1.toNat = 1 from by omega] at q; exact q)).2.1.trans (Eq.symm (by have q := hp_2p2 (by omega) 1 (by omega); rw [show a1.toNat = 1 from by omega] at q; exact q)), by first | (rw [hp_2p3 (by omega)]; exact R_pa) | exact (R_i0 (by have q := hp_2p4 (by omega); rw [show a1.toNat = 0 from by omega] at q; exact q)).2.2.1.trans (Eq.symm (by have q := hp_2p2 (by omega) 2 (by omega); rw [show a1.toNat = 0 from by omega] at q; exact q)) | exact (R_i1 (by have q := hp_2p4 (by omega); rw [show a1.toNat = 1 from by omega] at q; exact q)).2.2.1.trans (Eq.symm (by have q := hp_2p2 (by omega) 2 (by omega); rw [show a1.toNat = 1 from by omega] at q; exact q)), by first | (rw [hp_2p3 (by omega)]; exact R_st) | exact RV_cp (R_i0 (by have q := hp_2p4 (by omega); rw [show a1.toNat = 0 from by omega] at q; exact q)).2.2.2.1 (fun c q => by simp only [h_a11, h_a10, h_a9, h_a8, h_a7, h_a6, h_a5, h_a4_2, h_a2, h_a1_2]; exact cpy_lt (by omega)) (fun c q => (by have q := hp_2p2 (by omega) (153 + 3 * c) (by omega); rw [show a1.toNat = 0 from by omega] at q; exact q)) | exact RV_cp (R_i1 (by have q := hp_2p4 (by omega); rw [show a1.toNat = 1 from by omega] at q; exact q)).2.2.2.1 (fun c q => by simp only [h_a11, h_a10, h_a9, h_a8, h_a7, h_a6, h_a5, h_a4_2, h_a2, h_a1_2]; exact cpy_lt (by omega)) (fun c q => (by have q := hp_2p2 (by omega) (153 + 3 * c) (by omega); rw [show a1.toNat = 1 from by omega] at q; exact q)), by first | (rw [hp_2p3 (by omega)]; exact R_ex) | exact RV_cp (R_i0 (by have q := hp_2p4 (by omega); rw [show a1.toNat = 0 from by omega] at q; exact q)).2.2.2.2.1 (fun c q => by simp only [h_a11, h_a10, h_a9, h_a8, h_a7, h_a6, h_a5, h_a4_2, h_a2, h_a1_2]; exact cpy_lt (by omega)) (fun c q => (by have q := hp_2p2 (by omega) (154 + 3 * c) (by omega); rw [show a1.toNat = 0 from by omega] at q; exact q)) | exact RV_cp (R_i1 (by have q := hp_2p4 (by omega); rw [show a1.toNat = 1 from by omega] at q; exact q)).2.2.2.2.1 (fun c q => by simp only [h_a11, h_a10, h_a9, h_a8, h_a7, h_a6, h_a5, h_a4_2, h_a2, h_a1_2]; exact cpy_lt (by omega)) (fun c q => (by have q := hp_2p2 (by omega) (154 + 3 * c) (by omega); rw [show a1.toNat = 1 from by omega] at q; exact q)), by first | (rw [hp_2p3 (by omega)]; exact R_tr) | exact RV_cp (R_i0 (by have q := hp_2p4 (by omega); rw [show a1.toNat = 0 from by omega] at q; exact q)).2.2.2.2.2.1 (fun c q => by simp only [h_a11, h_a10, h_a9, h_a8, h_a7, h_a6, h_a5, h_a4_2, h_a2, h_a1_2]; exact cpy_lt (by omega)) (fun c q => (by have q := hp_2p2 (by omega) (155 + 3 * c) (by omega); rw [show a1.toNat = 0 from by omega] at q; exact q)) | exact RV_cp (R_i1 (by have q := hp_2p4 (by omega); rw [show a1.toNat = 1 from by omega] at q; exact q)).2.2.2.2.2.1 (fun c q => by simp only [h_a11, h_a10, h_a9, h_a8, h_a7, h_a6, h_a5, h_a4_2, h_a2, h_a1_2]; exact cpy_lt (by omega)) (fun c q => (by have q := hp_2p2 (by omega) (155 + 3 * c) (by omega); rw [show a1.toNat = 1 from by omega] at q; exact q)), by first | (rw [hp_2p3 (by omega)]; exact R_pl) | exact RV_cp (R_i0 (by have q := hp_2p4 (by omega); rw [show a1.toNat = 0 from by omega] at q; exact q)).2.2.2.2.2.2.1 (fun c q => by simp only [h_a11, h_a10, h_a9, h_a8, h_a7, h_a6, h_a5, h_a4_2, h_a2, h_a1_2]; exact cpy_lt (by omega)) (fun c q => (by have q := hp_2p2 (by omega) (171 + 1 * c) (by omega); rw [show a1.toNat = 0 from by omega] at q; exact q)) | exact RV_cp (R_i1 (by have q := hp_2p4 (by omega); rw [show a1.toNat = 1 from by omega] at q; exact q)).2.2.2.2.2.2.1 (fun c q => by simp only [h_a11, h_a10, h_a9, h_a8, h_a7, h_a6, h_a5, h_a4_2, h_a2, h_a1_2]; exact cpy_lt (by omega)) (fun c q => (by have q := hp_2p2 (by omega) (171 + 1 * c) (by omega); rw [show a1.toNat = 1 from by omega] at q; exact q)), by first | (rw [hp_2p3 (by omega)]; exact R_te) | exact RV_cp (R_i0 (by have q := hp_2p4 (by omega); rw [show a1.toNat = 0 from by omega] at q; exact q)).2.2.2.2.2.2.2.1 (fun c q => by simp only [h_a11, h_a10, h_a9, h_a8, h_a7, h_a6, h_a5, h_a4_2, h_a2, h_a1_2]; exact cpy_lt (by omega)) (fun c q => (by have q := hp_2p2 (by omega) (5 + 1 * c) (by omega); rw [show a1.toNat = 0 from by omega] at q; exact q)) | exact RV_cp (R_i1 (by have q := hp_2p4 (by omega); rw [show a1.toNat = 1 from by omega] at q; exact q)).2.2.2.2.2.2.2.1 (fun c q => by simp only [h_a11, h_a10, h_a9, h_a8, h_a7, h_a6, h_a5, h_a4_2, h_a2, h_a1_2]; exact cpy_lt (by omega)) (fun c q => (by have q := hp_2p2 (by omega) (5 + 1 * c) (by omega); rw [show a1.toNat = 1 from by omega] at q; exact q)), by first | (rw [hp_2p3 (by omega)]; exact R_go) | exact RV_cp (R_i0 (by have q := hp_2p4 (by omega); rw [show a1.toNat = 0 from by omega] at q; exact q)).2.2.2.2.2.2.2.2 (fun c q => by simp only [h_a11, h_a10, h_a9, h_a8, h_a7, h_a6, h_a5, h_a4_2, h_a2, h_a1_2]; exact cpy_lt (by omega)) (fun c q => (by have q := hp_2p2 (by omega) (141 + 1 * c) (by omega); rw [show a1.toNat = 0 from by omega] at q; exact q)) | exact RV_cp (R_i1 (by have q := hp_2p4 (by omega); rw [show a1.toNat = 1 from by omega] at q; exact q)).2.2.2.2.2.2.2.2 (fun c q => by simp only [h_a11, h_a10, h_a9, h_a8, h_a7, h_a6, h_a5, h_a4_2, h_a2, h_a1_2]; exact cpy_lt (by omega)) (fun c q => (by have q := hp_2p2 (by omega) (141 + 1 * c) (by omega); rw [show a1.toNat = 1 from by omega] at q; exact q))⟩)
                 · first
                   | (exfalso; omega)
                   | (skip
                      refine zk_ifc (zci_eqr (by omega)) (fun hc_5 => ?_) (fun hc_5 => ?_)
                      · first
                        | (exfalso; omega)
                        | (skip
                           refine zk_dI15 ?_
                           unfold f_Hill_become
                           refine zk_dI3 ?_
                           unfold f_Columns_become
                           refine zk_cp (by omega) (fun a1_3 h_a1_3 => ?_)
                           have i_a1_3 : zR a1_3 0 10 := by rw [h_a1_3]; exact zR_cp h_t87 h_t63
                           refine zk_cp (by omega) (fun a2_2 h_a2_2 => ?_)
                           have i_a2_2 : zR a2_2 0 30 := by rw [h_a2_2]; exact zR_cp h_t88 h_t64
                           refine zk_rI3 ?_
                           refine zk_cp (by omega) (fun a4_3 h_a4_3 => ?_)
                           have i_a4_3 : zR a4_3 0 60 := by rw [h_a4_3]; exact zR_cp h_t73 h_t34
                           refine zk_cp (by omega) (fun a5_2 h_a5_2 => ?_)
                           have i_a5_2 : zR a5_2 0 1 := by rw [h_a5_2]; exact zR_cp h_t74 h_t35
                           refine zk_cp (by omega) (fun a6_2 h_a6_2 => ?_)
                           have i_a6_2 : zR a6_2 0 20 := by rw [h_a6_2]; exact zR_cp h_t75 h_t36
                           refine zk_cp (by omega) (fun a7_2 h_a7_2 => ?_)
                           have i_a7_2 : zR a7_2 0 11 := by rw [h_a7_2]; exact zR_cp h_t76 h_t37
                           refine zk_cp (by omega) (fun a8_2 h_a8_2 => ?_)
                           have i_a8_2 : zR a8_2 0 99 := by rw [h_a8_2]; exact zR_cp h_t77 h_t38
                           refine zk_cp (by omega) (fun a9_2 h_a9_2 => ?_)
                           have i_a9_2 : zR a9_2 (-1) 10 := by rw [h_a9_2]; exact zR_cp h_t78 h_t39
                           refine zk_cp (by omega) (fun a10_2 h_a10_2 => ?_)
                           have i_a10_2 : zR a10_2 (-2147483648) 2147483647 := by rw [h_a10_2]; exact zR_cp h_t79 h_t40
                           refine zk_cp (by omega) (fun a11_2 h_a11_2 => ?_)
                           have i_a11_2 : zR a11_2 0 424 := by rw [h_a11_2]; exact zR_cp h_t80 h_t41
                           refine zk_rI15 ?_
                           unfold f_HS_back_44
                           refine zk_dI3 ?_
                           unfold f_HS_accept
                           refine zk_n ?_
                           refine zk_rI3 ?_
                           refine zk_rI19 ?_
                           refine zk_d5 (ww_HM_back _ _ _ _ _ _ _ (by omega) h_t6 h_t4 (by assumption)) (fun v727_3 v728_3 v729_3 a730_3 a731_3 hp_3 => ?_)
                           try dsimp only at hp_3
                           obtain ⟨hp_3p0, hp_3p1, hp_3p2, hp_3p3, hp_3p4⟩ := hp_3
                           refine zk_ret ?_
                           try dsimp only
                           exact ⟨by omega, by omega, by omega, by omega, by omega, by omega, by omega, by omega, i_a4_3, i_a5_2, i_a6_2, i_a7_2, i_a8_2, i_a9_2, i_a10_2, i_a11_2, i_a1_3, i_a2_2, hp_3p0, by first | (rw [hp_3p3 (by omega)]; exact R_many) | exact (R_i0 (by have q := hp_3p4 (by omega); rw [show a1.toNat = 0 from by omega] at q; exact q)).1.trans (Eq.symm (by have q := hp_3p2 (by omega) 0 (by omega); rw [show a1.toNat = 0 from by omega] at q; exact q)) | exact (R_i1 (by have q := hp_3p4 (by omega); rw [show a1.toNat = 1 from by omega] at q; exact q)).1.trans (Eq.symm (by have q := hp_3p2 (by omega) 0 (by omega); rw [show a1.toNat = 1 from by omega] at q; exact q)), by first | (rw [hp_3p3 (by omega)]; exact R_ch) | exact (R_i0 (by have q := hp_3p4 (by omega); rw [show a1.toNat = 0 from by omega] at q; exact q)).2.1.trans (Eq.symm (by have q := hp_3p2 (by omega) 1 (by omega); rw [show a1.toNat = 0 from by omega] at q; exact q)) | exact (R_i1 (by have q := hp_3p4 (by omega); rw [show a1.toNat = 1 from by omega] at q; exact q)).2.1.trans (Eq.symm (by have q := hp_3p2 (by omega) 1 (by omega); rw [show a1.toNat = 1 from by omega] at q; exact q)), by first | (rw [hp_3p3 (by omega)]; exact R_pa) | exact (R_i0 (by have q := hp_3p4 (by omega); rw [show a1.toNat = 0 from by omega] at q; exact q)).2.2.1.trans (Eq.symm (by have q := hp_3p2 (by omega) 2 (by omega); rw [show a1.toNat = 0 from by omega] at q; exact q)) | exact (R_i1 (by have q := hp_3p4 (by omega); rw [show a1.toNat = 1 from by omega] at q; exact q)).2.2.1.trans (Eq.symm (by have q := hp_3p2 (by omega) 2 (by omega); rw [show a1.toNat = 1 from by omega] at q; exact q)), by first | (rw [hp_3p3 (by omega)]; exact R_st) | exact RV_cp (R_i0 (by have q := hp_3p4 (by omega); rw [show a1.toNat = 0 from by omega] at q; exact q)).2.2.2.1 (fun c q => by simp only [h_a11_2, h_a10_2, h_a9_2, h_a8_2, h_a7_2, h_a6_2, h_a5_2, h_a4_3, h_a2_2, h_a1_3]; exact cpy_lt (by omega)) (fun c q => (by have q := hp_3p2 (by omega) (153 + 3 * c) (by omega); rw [show a1.toNat = 0 from by omega] at q; exact q)) | exact RV_cp (R_i1 (by have q := hp_3p4 (by omega); rw [show a1.toNat = 1 from by omega] at q; exact q)).2.2.2.1 (fun c q => by simp only [h_a11_2, h_a10_2, h_a9_2, h_a8_2, h_a7_2, h_a6_2, h_a5_2, h_a4_3, h_a2_2, h_a1_3]; exact cpy_lt (by omega)) (fun c q => (by have q := hp_3p2 (by omega) (153 + 3 * c) (by omega); rw [show a1.toNat = 1 from by omega] at q; exact q)), by first | (rw [hp_3p3 (by omega)]; exact R_ex) | exact RV_cp (R_i0 (by have q := hp_3p4 (by omega); rw [show a1.toNat = 0 from by omega] at q; exact q)).2.2.2.2.1 (fun c q => by simp only [h_a11_2, h_a10_2, h_a9_2, h_a8_2, h_a7_2, h_a6_2, h_a5_2, h_a4_3, h_a2_2, h_a1_3]; exact cpy_lt (by omega)) (fun c q => (by have q := hp_3p2 (by omega) (154 + 3 * c) (by omega); rw [show a1.toNat = 0 from by omega] at q; exact q)) | exact RV_cp (R_i1 (by have q := hp_3p4 (by omega); rw [show a1.toNat = 1 from by omega] at q; exact q)).2.2.2.2.1 (fun c q => by simp only [h_a11_2, h_a10_2, h_a9_2, h_a8_2, h_a7_2, h_a6_2, h_a5_2, h_a4_3, h_a2_2, h_a1_3]; exact cpy_lt (by omega)) (fun c q => (by have q := hp_3p2 (by omega) (154 + 3 * c) (by omega); rw [show a1.toNat = 1 from by omega] at q; exact q)), by first | (rw [hp_3p3 (by omega)]; exact R_tr) | exact RV_cp (R_i0 (by have q := hp_3p4 (by omega); rw [show a1.toNat = 0 from by omega] at q; exact q)).2.2.2.2.2.1 (fun c q => by simp only [h_a11_2, h_a10_2, h_a9_2, h_a8_2, h_a7_2, h_a6_2, h_a5_2, h_a4_3, h_a2_2, h_a1_3]; exact cpy_lt (by omega)) (fun c q => (by have q := hp_3p2 (by omega) (155 + 3 * c) (by omega); rw [show a1.toNat = 0 from by omega] at q; exact q)) | exact RV_cp (R_i1 (by have q := hp_3p4 (by omega); rw [show a1.toNat = 1 from by omega] at q; exact q)).2.2.2.2.2.1 (fun c q => by simp only [h_a11_2, h_a10_2, h_a9_2, h_a8_2, h_a7_2, h_a6_2, h_a5_2, h_a4_3, h_a2_2, h_a1_3]; exact cpy_lt (by omega)) (fun c q => (by have q := hp_3p2 (by omega) (155 + 3 * c) (by omega); rw [show a1.toNat = 1 from by omega] at q; exact q)), by first | (rw [hp_3p3 (by omega)]; exact R_pl) | exact RV_cp (R_i0 (by have q := hp_3p4 (by omega); rw [show a1.toNat = 0 from by omega] at q; exact q)).2.2.2.2.2.2.1 (fun c q => by simp only [h_a11_2, h_a10_2, h_a9_2, h_a8_2, h_a7_2, h_a6_2, h_a5_2, h_a4_3, h_a2_2, h_a1_3]; exact cpy_lt (by omega)) (fun c q => (by have q := hp_3p2 (by omega) (171 + 1 * c) (by omega); rw [show a1.toNat = 0 from by omega] at q; exact q)) | exact RV_cp (R_i1 (by have q := hp_3p4 (by omega); rw [show a1.toNat = 1 from by omega] at q; exact q)).2.2.2.2.2.2.1 (fun c q => by simp only [h_a11_2, h_a10_2, h_a9_2, h_a8_2, h_a7_2, h_a6_2, h_a5_2, h_a4_3, h_a2_2, h_a1_3]; exact cpy_lt (by omega)) (fun c q => (by have q := hp_3p2 (by omega) (171 + 1 * c) (by omega); rw [show a1.toNat = 1 from by omega] at q; exact q)), by first | (rw [hp_3p3 (by omega)]; exact R_te) | exact RV_cp (R_i0 (by have q := hp_3p4 (by omega); rw [show a1.toNat = 0 from by omega] at q; exact q)).2.2.2.2.2.2.2.1 (fun c q => by simp only [h_a11_2, h_a10_2, h_a9_2, h_a8_2, h_a7_2, h_a6_2, h_a5_2, h_a4_3, h_a2_2, h_a1_3]; exact cpy_lt (by omega)) (fun c q => (by have q := hp_3p2 (by omega) (5 + 1 * c) (by omega); rw [show a1.toNat = 0 from by omega] at q; exact q)) | exact RV_cp (R_i1 (by have q := hp_3p4 (by omega); rw [show a1.toNat = 1 from by omega] at q; exact q)).2.2.2.2.2.2.2.1 (fun c q => by simp only [h_a11_2, h_a10_2, h_a9_2, h_a8_2, h_a7_2, h_a6_2, h_a5_2, h_a4_3, h_a2_2, h_a1_3]; exact cpy_lt (by omega)) (fun c q => (by have q := hp_3p2 (by omega) (5 + 1 * c) (by omega); rw [show a1.toNat = 1 from by omega] at q; exact q)), by first | (rw [hp_3p3 (by omega)]; exact R_go) | exact RV_cp (R_i0 (by have q := hp_3p4 (by omega); rw [show a1.toNat = 0 from by omega] at q; exact q)).2.2.2.2.2.2.2.2 (fun c q => by simp only [h_a11_2, h_a10_2, h_a9_2, h_a8_2, h_a7_2, h_a6_2, h_a5_2, h_a4_3, h_a2_2, h_a1_3]; exact cpy_lt (by omega)) (fun c q => (by have q := hp_3p2 (by omega) (141 + 1 * c) (by omega); rw [show a1.toNat = 0 from by omega] at q; exact q)) | exact RV_cp (R_i1 (by have q := hp_3p4 (by omega); rw [show a1.toNat = 1 from by omega] at q; exact q)).2.2.2.2.2.2.2.2 (fun c q => by simp only [h_a11_2, h_a10_2, h_a9_2, h_a8_2, h_a7_2, h_a6_2, h_a5_2, h_a4_3, h_a2_2, h_a1_3]; exact cpy_lt (by omega)) (fun c q => (by have q := hp_3p2 (by omega) (141 + 1 * c) (by omega); rw [show a1.toNat = 1 from by omega] at q; exact q))⟩)
                      · exfalso; omega))
            · first
              | (exfalso; omega)
              | (skip
                 refine zk_dI3 ?_
                 unfold f_HS_refuse
                 refine zk_nE (fun v1_5 h_v1_5 => ?_)
                 refine zk_gv (by omega) (by decide) (fun v2_2 h_v2_2 => ?_)
                 refine zk_n ?_
                 refine zk_sv (by omega) (by decide) (fun a4_4 h_a4_4 => ?_)
                 refine zk_rI3 ?_
                 refine zk_rI19 ?_
                 refine zk_d5 (ww_HM_back _ _ _ _ _ _ _ (by omega) h_t6 h_t4 (by assumption)) (fun v727_4 v728_4 v729_4 a730_4 a731_4 hp_4 => ?_)
                 try dsimp only at hp_4
                 obtain ⟨hp_4p0, hp_4p1, hp_4p2, hp_4p3, hp_4p4⟩ := hp_4
                 refine zk_ret ?_
                 try dsimp only
                 exact ⟨by omega, by omega, by omega, by omega, by omega, by omega, by omega, by omega, h_t34, h_t35, h_t36, h_t37, h_t38, h_t39, h_t40, h_t41, h_t63, h_t64, hp_4p0, by first | (rw [hp_4p3 (by omega)]; exact R_many) | exact (R_i0 (by have q := hp_4p4 (by omega); rw [show a1.toNat = 0 from by omega] at q; exact q)).1.trans (Eq.symm (by have q := hp_4p2 (by omega) 0 (by omega); rw [show a1.toNat = 0 from by omega] at q; exact q)) | exact (R_i1 (by have q := hp_4p4 (by omega); rw [show a1.toNat = 1 from by omega] at q; exact q)).1.trans (Eq.symm (by have q := hp_4p2 (by omega) 0 (by omega); rw [show a1.toNat = 1 from by omega] at q; exact q)), by first | (rw [hp_4p3 (by omega)]; exact R_ch) | exact (R_i0 (by have q := hp_4p4 (by omega); rw [show a1.toNat = 0 from by omega] at q; exact q)).2.1.trans (Eq.symm (by have q := hp_4p2 (by omega) 1 (by omega); rw [show a1.toNat = 0 from by omega] at q; exact q)) | exact (R_i1 (by have q := hp_4p4 (by omega); rw [show a1.toNat = 1 from by omega] at q; exact q)).2.1.trans (Eq.symm (by have q := hp_4p2 (by omega) 1 (by omega); rw [show a1.toNat = 1 from by omega] at q; exact q)), by first | (rw [hp_4p3 (by omega)]; exact R_pa) | exact (R_i0 (by have q := hp_4p4 (by omega); rw [show a1.toNat = 0 from by omega] at q; exact q)).2.2.1.trans (Eq.symm (by have q := hp_4p2 (by omega) 2 (by omega); rw [show a1.toNat = 0 from by omega] at q; exact q)) | exact (R_i1 (by have q := hp_4p4 (by omega); rw [show a1.toNat = 1 from by omega] at q; exact q)).2.2.1.trans (Eq.symm (by have q := hp_4p2 (by omega) 2 (by omega); rw [show a1.toNat = 1 from by omega] at q; exact q)), by first | (rw [hp_4p3 (by omega)]; exact R_st) | exact RV_cp (R_i0 (by have q := hp_4p4 (by omega); rw [show a1.toNat = 0 from by omega] at q; exact q)).2.2.2.1 (fun c q => by simp only [h_a4_4]; exact cpy_lt (by omega)) (fun c q => (by have q := hp_4p2 (by omega) (153 + 3 * c) (by omega); rw [show a1.toNat = 0 from by omega] at q; exact q)) | exact RV_cp (R_i1 (by have q := hp_4p4 (by omega); rw [show a1.toNat = 1 from by omega] at q; exact q)).2.2.2.1 (fun c q => by simp only [h_a4_4]; exact cpy_lt (by omega)) (fun c q => (by have q := hp_4p2 (by omega) (153 + 3 * c) (by omega); rw [show a1.toNat = 1 from by omega] at q; exact q)), by first | (rw [hp_4p3 (by omega)]; exact R_ex) | exact RV_cp (R_i0 (by have q := hp_4p4 (by omega); rw [show a1.toNat = 0 from by omega] at q; exact q)).2.2.2.2.1 (fun c q => by simp only [h_a4_4]; exact cpy_lt (by omega)) (fun c q => (by have q := hp_4p2 (by omega) (154 + 3 * c) (by omega); rw [show a1.toNat = 0 from by omega] at q; exact q)) | exact RV_cp (R_i1 (by have q := hp_4p4 (by omega); rw [show a1.toNat = 1 from by omega] at q; exact q)).2.2.2.2.1 (fun c q => by simp only [h_a4_4]; exact cpy_lt (by omega)) (fun c q => (by have q := hp_4p2 (by omega) (154 + 3 * c) (by omega); rw [show a1.toNat = 1 from by omega] at q; exact q)), by first | (rw [hp_4p3 (by omega)]; exact R_tr) | exact RV_cp (R_i0 (by have q := hp_4p4 (by omega); rw [show a1.toNat = 0 from by omega] at q; exact q)).2.2.2.2.2.1 (fun c q => by simp only [h_a4_4]; exact cpy_lt (by omega)) (fun c q => (by have q := hp_4p2 (by omega) (155 + 3 * c) (by omega); rw [show a1.toNat = 0 from by omega] at q; exact q)) | exact RV_cp (R_i1 (by have q := hp_4p4 (by omega); rw [show a1.toNat = 1 from by omega] at q; exact q)).2.2.2.2.2.1 (fun c q => by simp only [h_a4_4]; exact cpy_lt (by omega)) (fun c q => (by have q := hp_4p2 (by omega) (155 + 3 * c) (by omega); rw [show a1.toNat = 1 from by omega] at q; exact q)), by first | (rw [hp_4p3 (by omega)]; exact R_pl) | exact RV_cp (R_i0 (by have q := hp_4p4 (by omega); rw [show a1.toNat = 0 from by omega] at q; exact q)).2.2.2.2.2.2.1 (fun c q => by simp only [h_a4_4]; exact cpy_lt (by omega)) (fun c q => (by have q := hp_4p2 (by omega) (171 + 1 * c) (by omega); rw [show a1.toNat = 0 from by omega] at q; exact q)) | exact RV_cp (R_i1 (by have q := hp_4p4 (by omega); rw [show a1.toNat = 1 from by omega] at q; exact q)).2.2.2.2.2.2.1 (fun c q => by simp only [h_a4_4]; exact cpy_lt (by omega)) (fun c q => (by have q := hp_4p2 (by omega) (171 + 1 * c) (by omega); rw [show a1.toNat = 1 from by omega] at q; exact q)), by first | (rw [hp_4p3 (by omega)]; exact R_te) | exact RV_cp (R_i0 (by have q := hp_4p4 (by omega); rw [show a1.toNat = 0 from by omega] at q; exact q)).2.2.2.2.2.2.2.1 (fun c q => by simp only [h_a4_4]; exact cpy_lt (by omega)) (fun c q => (by have q := hp_4p2 (by omega) (5 + 1 * c) (by omega); rw [show a1.toNat = 0 from by omega] at q; exact q)) | exact RV_cp (R_i1 (by have q := hp_4p4 (by omega); rw [show a1.toNat = 1 from by omega] at q; exact q)).2.2.2.2.2.2.2.1 (fun c q => by simp only [h_a4_4]; exact cpy_lt (by omega)) (fun c q => (by have q := hp_4p2 (by omega) (5 + 1 * c) (by omega); rw [show a1.toNat = 1 from by omega] at q; exact q)), by first | (rw [hp_4p3 (by omega)]; exact R_go) | exact RV_cp (R_i0 (by have q := hp_4p4 (by omega); rw [show a1.toNat = 0 from by omega] at q; exact q)).2.2.2.2.2.2.2.2 (fun c q => by simp only [h_a4_4]; exact cpy_lt (by omega)) (fun c q => (by have q := hp_4p2 (by omega) (141 + 1 * c) (by omega); rw [show a1.toNat = 0 from by omega] at q; exact q)) | exact RV_cp (R_i1 (by have q := hp_4p4 (by omega); rw [show a1.toNat = 1 from by omega] at q; exact q)).2.2.2.2.2.2.2.2 (fun c q => by simp only [h_a4_4]; exact cpy_lt (by omega)) (fun c q => (by have q := hp_4p2 (by omega) (141 + 1 * c) (by omega); rw [show a1.toNat = 1 from by omega] at q; exact q))⟩))
       · first
         | (exfalso; omega)
         | (skip
            unfold f_HS_back_9
            refine zk_dI3 ?_
            unfold f_HS_refuse
            refine zk_nE (fun v1_6 h_v1_6 => ?_)
            refine zk_gv (by omega) (by decide) (fun v2_3 h_v2_3 => ?_)
            refine zk_n ?_
            refine zk_sv (by omega) (by decide) (fun a4_5 h_a4_5 => ?_)
            refine zk_rI3 ?_
            refine zk_rI19 ?_
            refine zk_d5 (ww_HM_back _ _ _ _ _ _ _ (by omega) h_t6 h_t4 (by assumption)) (fun v727_5 v728_5 v729_5 a730_5 a731_5 hp_5 => ?_)
            try dsimp only at hp_5
            obtain ⟨hp_5p0, hp_5p1, hp_5p2, hp_5p3, hp_5p4⟩ := hp_5
            refine zk_ret ?_
            try dsimp only
            exact ⟨by omega, by omega, by omega, by omega, by omega, by omega, by omega, by omega, h_t34, h_t35, h_t36, h_t37, h_t38, h_t39, h_t40, h_t41, h_t63, h_t64, hp_5p0, by first | (rw [hp_5p3 (by omega)]; exact R_many) | exact (R_i0 (by have q := hp_5p4 (by omega); rw [show a1.toNat = 0 from by omega] at q; exact q)).1.trans (Eq.symm (by have q := hp_5p2 (by omega) 0 (by omega); rw [show a1.toNat = 0 from by omega] at q; exact q)) | exact (R_i1 (by have q := hp_5p4 (by omega); rw [show a1.toNat = 1 from by omega] at q; exact q)).1.trans (Eq.symm (by have q := hp_5p2 (by omega) 0 (by omega); rw [show a1.toNat = 1 from by omega] at q; exact q)), by first | (rw [hp_5p3 (by omega)]; exact R_ch) | exact (R_i0 (by have q := hp_5p4 (by omega); rw [show a1.toNat = 0 from by omega] at q; exact q)).2.1.trans (Eq.symm (by have q := hp_5p2 (by omega) 1 (by omega); rw [show a1.toNat = 0 from by omega] at q; exact q)) | exact (R_i1 (by have q := hp_5p4 (by omega); rw [show a1.toNat = 1 from by omega] at q; exact q)).2.1.trans (Eq.symm (by have q := hp_5p2 (by omega) 1 (by omega); rw [show a1.toNat = 1 from by omega] at q; exact q)), by first | (rw [hp_5p3 (by omega)]; exact R_pa) | exact (R_i0 (by have q := hp_5p4 (by omega); rw [show a1.toNat = 0 from by omega] at q; exact q)).2.2.1.trans (Eq.symm (by have q := hp_5p2 (by omega) 2 (by omega); rw [show a1.toNat = 0 from by omega] at q; exact q)) | exact (R_i1 (by have q := hp_5p4 (by omega); rw [show a1.toNat = 1 from by omega] at q; exact q)).2.2.1.trans (Eq.symm (by have q := hp_5p2 (by omega) 2 (by omega); rw [show a1.toNat = 1 from by omega] at q; exact q)), by first | (rw [hp_5p3 (by omega)]; exact R_st) | exact RV_cp (R_i0 (by have q := hp_5p4 (by omega); rw [show a1.toNat = 0 from by omega] at q; exact q)).2.2.2.1 (fun c q => by simp only [h_a4_5]; exact cpy_lt (by omega)) (fun c q => (by have q := hp_5p2 (by omega) (153 + 3 * c) (by omega); rw [show a1.toNat = 0 from by omega] at q; exact q)) | exact RV_cp (R_i1 (by have q := hp_5p4 (by omega); rw [show a1.toNat = 1 from by omega] at q; exact q)).2.2.2.1 (fun c q => by simp only [h_a4_5]; exact cpy_lt (by omega)) (fun c q => (by have q := hp_5p2 (by omega) (153 + 3 * c) (by omega); rw [show a1.toNat = 1 from by omega] at q; exact q)), by first | (rw [hp_5p3 (by omega)]; exact R_ex) | exact RV_cp (R_i0 (by have q := hp_5p4 (by omega); rw [show a1.toNat = 0 from by omega] at q; exact q)).2.2.2.2.1 (fun c q => by simp only [h_a4_5]; exact cpy_lt (by omega)) (fun c q => (by have q := hp_5p2 (by omega) (154 + 3 * c) (by omega); rw [show a1.toNat = 0 from by omega] at q; exact q)) | exact RV_cp (R_i1 (by have q := hp_5p4 (by omega); rw [show a1.toNat = 1 from by omega] at q; exact q)).2.2.2.2.1 (fun c q => by simp only [h_a4_5]; exact cpy_lt (by omega)) (fun c q => (by have q := hp_5p2 (by omega) (154 + 3 * c) (by omega); rw [show a1.toNat = 1 from by omega] at q; exact q)), by first | (rw [hp_5p3 (by omega)]; exact R_tr) | exact RV_cp (R_i0 (by have q := hp_5p4 (by omega); rw [show a1.toNat = 0 from by omega] at q; exact q)).2.2.2.2.2.1 (fun c q => by simp only [h_a4_5]; exact cpy_lt (by omega)) (fun c q => (by have q := hp_5p2 (by omega) (155 + 3 * c) (by omega); rw [show a1.toNat = 0 from by omega] at q; exact q)) | exact RV_cp (R_i1 (by have q := hp_5p4 (by omega); rw [show a1.toNat = 1 from by omega] at q; exact q)).2.2.2.2.2.1 (fun c q => by simp only [h_a4_5]; exact cpy_lt (by omega)) (fun c q => (by have q := hp_5p2 (by omega) (155 + 3 * c) (by omega); rw [show a1.toNat = 1 from by omega] at q; exact q)), by first | (rw [hp_5p3 (by omega)]; exact R_pl) | exact RV_cp (R_i0 (by have q := hp_5p4 (by omega); rw [show a1.toNat = 0 from by omega] at q; exact q)).2.2.2.2.2.2.1 (fun c q => by simp only [h_a4_5]; exact cpy_lt (by omega)) (fun c q => (by have q := hp_5p2 (by omega) (171 + 1 * c) (by omega); rw [show a1.toNat = 0 from by omega] at q; exact q)) | exact RV_cp (R_i1 (by have q := hp_5p4 (by omega); rw [show a1.toNat = 1 from by omega] at q; exact q)).2.2.2.2.2.2.1 (fun c q => by simp only [h_a4_5]; exact cpy_lt (by omega)) (fun c q => (by have q := hp_5p2 (by omega) (171 + 1 * c) (by omega); rw [show a1.toNat = 1 from by omega] at q; exact q)), by first | (rw [hp_5p3 (by omega)]; exact R_te) | exact RV_cp (R_i0 (by have q := hp_5p4 (by omega); rw [show a1.toNat = 0 from by omega] at q; exact q)).2.2.2.2.2.2.2.1 (fun c q => by simp only [h_a4_5]; exact cpy_lt (by omega)) (fun c q => (by have q := hp_5p2 (by omega) (5 + 1 * c) (by omega); rw [show a1.toNat = 0 from by omega] at q; exact q)) | exact RV_cp (R_i1 (by have q := hp_5p4 (by omega); rw [show a1.toNat = 1 from by omega] at q; exact q)).2.2.2.2.2.2.2.1 (fun c q => by simp only [h_a4_5]; exact cpy_lt (by omega)) (fun c q => (by have q := hp_5p2 (by omega) (5 + 1 * c) (by omega); rw [show a1.toNat = 1 from by omega] at q; exact q)), by first | (rw [hp_5p3 (by omega)]; exact R_go) | exact RV_cp (R_i0 (by have q := hp_5p4 (by omega); rw [show a1.toNat = 0 from by omega] at q; exact q)).2.2.2.2.2.2.2.2 (fun c q => by simp only [h_a4_5]; exact cpy_lt (by omega)) (fun c q => (by have q := hp_5p2 (by omega) (141 + 1 * c) (by omega); rw [show a1.toNat = 0 from by omega] at q; exact q)) | exact RV_cp (R_i1 (by have q := hp_5p4 (by omega); rw [show a1.toNat = 1 from by omega] at q; exact q)).2.2.2.2.2.2.2.2 (fun c q => by simp only [h_a4_5]; exact cpy_lt (by omega)) (fun c q => (by have q := hp_5p2 (by omega) (141 + 1 * c) (by omega); rw [show a1.toNat = 1 from by omega] at q; exact q))⟩))
set_option maxHeartbeats 4000000 in
set_option maxRecDepth 10000 in
theorem st_35 (N : Int) (σ : Nat → Int) (τ : Nat → Nat → Int) (hI : INV N σ τ) (a1 : Int) (b_a1 : (-2147483648) ≤ a1 ∧ a1 ≤ 2147483647) : zok (f_OP_35 N a1 (σ 3) (σ 4) (σ 5) (σ 26) (σ 27) (σ 28) (σ 29) (σ 30) (σ 49) (σ 50) (σ 51) (σ 52) (σ 53) (σ 55) (σ 56) (σ 57) (σ 58) (σ 62) (σ 63) (τ 0) (τ 2) (τ 3) (τ 4) (τ 5) (τ 6) (τ 34) (τ 35) (τ 36) (τ 37) (τ 38) (τ 39) (τ 40) (τ 41) (τ 63) (τ 64) (τ 65) (τ 66) (τ 67) (τ 68) (τ 69) (τ 70) (τ 71) (τ 72) (τ 73) (τ 74) (τ 75) (τ 76) (τ 77) (τ 78) (τ 79) (τ 80) (τ 85) (τ 86) (τ 87) (τ 88)) (fun o => (o.1 = o.2.1) ∧ INV (N + 6) (zst σ [(3, o.2.2.1), (4, o.2.2.2.1), (5, o.2.2.2.2.1), (26, o.2.2.2.2.2.1), (27, o.2.2.2.2.2.2.1), (28, o.2.2.2.2.2.2.2.1), (29, o.2.2.2.2.2.2.2.2.1), (30, o.2.2.2.2.2.2.2.2.2.1), (49, o.2.2.2.2.2.2.2.2.2.2.1)]) (zta τ [(2, o.2.2.2.2.2.2.2.2.2.2.2.1), (3, o.2.2.2.2.2.2.2.2.2.2.2.2.1), (4, o.2.2.2.2.2.2.2.2.2.2.2.2.2.1), (34, o.2.2.2.2.2.2.2.2.2.2.2.2.2.2.1), (35, o.2.2.2.2.2.2.2.2.2.2.2.2.2.2.2.1), (36, o.2.2.2.2.2.2.2.2.2.2.2.2.2.2.2.2.1), (37, o.2.2.2.2.2.2.2.2.2.2.2.2.2.2.2.2.2.1), (38, o.2.2.2.2.2.2.2.2.2.2.2.2.2.2.2.2.2.2.1), (39, o.2.2.2.2.2.2.2.2.2.2.2.2.2.2.2.2.2.2.2.1), (40, o.2.2.2.2.2.2.2.2.2.2.2.2.2.2.2.2.2.2.2.2.1), (41, o.2.2.2.2.2.2.2.2.2.2.2.2.2.2.2.2.2.2.2.2.2.1), (63, o.2.2.2.2.2.2.2.2.2.2.2.2.2.2.2.2.2.2.2.2.2.2.1), (64, o.2.2.2.2.2.2.2.2.2.2.2.2.2.2.2.2.2.2.2.2.2.2.2)])) := by
  have zg1 := hI.2
  have zg2 := zg1.2
  have zg3 := zg2.2
  have zg4 := zg3.2
  have zg5 := zg4.2
  have zg6 := zg5.2
  have zg7 := zg6.2
  have zg8 := zg7.2
  have zg9 := zg8.2
  have zg10 := zg9.2
  have zg11 := zg10.2
  have zg12 := zg11.2
  have zg13 := zg12.2
  have zg14 := zg13.2
  have zg15 := zg14.2
  have zg16 := zg15.2
  have zg17 := zg16.2
  have zg18 := zg17.2
  have zg19 := zg18.2
  have zg20 := zg19.2
  have zg21 := zg20.2
  have zg22 := zg21.2
  have zg23 := zg22.2
  have zg24 := zg23.2
  have zg25 := zg24.2
  have zg26 := zg25.2
  have zg27 := zg26.2
  have zg28 := zg27.2
  have zg29 := zg28.2
  have zg30 := zg29.2
  have zg31 := zg30.2
  have zg32 := zg31.2
  have zg33 := zg32.2
  have zg34 := zg33.2
  have zg35 := zg34.2
  have zg36 := zg35.2
  have zg37 := zg36.2
  have zg38 := zg37.2
  have zg39 := zg38.2
  have zg40 := zg39.2
  have zg41 := zg40.2
  have zg42 := zg41.2
  have zg43 := zg42.2
  have zg44 := zg43.2
  have zg45 := zg44.2
  have zg46 := zg45.2
  have zg47 := zg46.2
  have zg48 := zg47.2
  have zg49 := zg48.2
  have zg50 := zg49.2
  have zg51 := zg50.2
  have zg52 := zg51.2
  have zg53 := zg52.2
  have zg54 := zg53.2
  have zg55 := zg54.2
  have zg56 := zg55.2
  have zg57 := zg56.2
  have zg58 := zg57.2
  have zg59 := zg58.2
  have zg60 := zg59.2
  have zg61 := zg60.2
  have zg62 := zg61.2
  have zg63 := zg62.2
  have zg64 := zg63.2
  have zg65 := zg64.2
  have zg66 := zg65.2
  have zg67 := zg66.2
  have zg68 := zg67.2
  have zg69 := zg68.2
  have zg70 := zg69.2
  have zg71 := zg70.2
  have zg72 := zg71.2
  have zg73 := zg72.2
  have zg74 := zg73.2
  have zg75 := zg74.2
  have zg76 := zg75.2
  have zg77 := zg76.2
  have zg78 := zg77.2
  have zg79 := zg78.2
  have zg80 := zg79.2
  have zg81 := zg80.2
  have zg82 := zg81.2
  have zg83 := zg82.2
  have zg84 := zg83.2
  have zg85 := zg84.2
  have zg86 := zg85.2
  have zg87 := zg86.2
  have zg88 := zg87.2
  have zg89 := zg88.2
  have zg90 := zg89.2
  have zg91 := zg90.2
  have zg92 := zg91.2
  have zg93 := zg92.2
  have zg94 := zg93.2
  have zg95 := zg94.2
  have zg96 := zg95.2
  have zg97 := zg96.2
  have zg98 := zg97.2
  have zg99 := zg98.2
  have zg100 := zg99.2
  have zg101 := zg100.2
  have zg102 := zg101.2
  have zg103 := zg102.2
  have zg104 := zg103.2
  have zg105 := zg104.2
  have zg106 := zg105.2
  have zg107 := zg106.2
  have zg108 := zg107.2
  have zg109 := zg108.2
  have zg110 := zg109.2
  have zg111 := zg110.2
  have zg112 := zg111.2
  have zg113 := zg112.2
  have zg114 := zg113.2
  have zg115 := zg114.2
  have zg116 := zg115.2
  have zg117 := zg116.2
  have zg118 := zg117.2
  have zg119 := zg118.2
  have zg120 := zg119.2
  have zg121 := zg120.2
  have zg122 := zg121.2
  have zg123 := zg122.2
  have zg124 := zg123.2
  have zg125 := zg124.2
  have I_s3 := zg2.1
  have I_s26 := zg3.1
  have I_s27 := zg4.1
  have I_s28 := zg5.1
  have I_s29 := zg6.1
  have I_s49 := zg21.1
  have I_s50 := zg22.1
  have I_s51 := zg23.1
  have I_s52 := zg24.1
  have I_s53 := zg25.1
  have I_s55 := zg27.1
  have I_s56 := zg28.1
  have I_s57 := zg29.1
  have I_s58 := zg30.1
  have I_s62 := zg34.1
  have I_s63 := zg35.1
  have I_t0 := zg43.1
  have I_t4 := zg99.1
  have I_t6 := zg103.1
  have I_t34 := zg45.1
  have I_t35 := zg46.1
  have I_t36 := zg47.1
  have I_t37 := zg48.1
  have I_t38 := zg49.1
  have I_t39 := zg50.1
  have I_t40 := zg51.1
  have I_t41 := zg52.1
  have I_t63 := zg70.1
  have I_t64 := zg71.1
  have I_t65 := zg72.1
  have I_t66 := zg73.1
  have I_t67 := zg74.1
  have I_t68 := zg75.1
  have I_t69 := zg76.1
  have I_t70 := zg77.1
  have I_t71 := zg78.1
  have I_t72 := zg79.1
  have I_t73 := zg80.1
  have I_t74 := zg81.1
  have I_t75 := zg82.1
  have I_t76 := zg83.1
  have I_t77 := zg84.1
  have I_t78 := zg85.1
  have I_t79 := zg86.1
  have I_t80 := zg87.1
  have I_t85 := zg92.1
  have I_t86 := zg93.1
  have I_t87 := zg94.1
  have I_t88 := zg95.1
  have I_s30 := zg42.1
  have I_im := zg112.1
  have R_many := zg113.1
  have R_ch := zg114.1
  have R_pa := zg115.1
  have R_st := zg116.1
  have R_ex := zg117.1
  have R_tr := zg118.1
  have R_pl := zg119.1
  have R_te := zg120.1
  have R_go := zg121.1
  have R_kp := zg123.1
  have R_i0 := zg124.1
  have R_i1 := zg125
  refine zok_mono (s_OP_35 N a1 (σ 3) (σ 4) (σ 5) (σ 26) (σ 27) (σ 28) (σ 29) (σ 30) (σ 49) (σ 50) (σ 51) (σ 52) (σ 53) (σ 55) (σ 56) (σ 57) (σ 58) (σ 62) (σ 63) (τ 0) (τ 2) (τ 3) (τ 4) (τ 5) (τ 6) (τ 34) (τ 35) (τ 36) (τ 37) (τ 38) (τ 39) (τ 40) (τ 41) (τ 63) (τ 64) (τ 65) (τ 66) (τ 67) (τ 68) (τ 69) (τ 70) (τ 71) (τ 72) (τ 73) (τ 74) (τ 75) (τ 76) (τ 77) (τ 78) (τ 79) (τ 80) (τ 85) (τ 86) (τ 87) (τ 88) b_a1 I_s3 I_s26 I_s27 I_s28 I_s29 I_s49 I_s50 I_s51 I_s52 I_s53 I_s55 I_s56 I_s57 I_s58 I_s62 I_s63 I_t0 I_t4 I_t6 I_t34 I_t35 I_t36 I_t37 I_t38 I_t39 I_t40 I_t41 I_t63 I_t64 I_t65 I_t66 I_t67 I_t68 I_t69 I_t70 I_t71 I_t72 I_t73 I_t74 I_t75 I_t76 I_t77 I_t78 I_t79 I_t80 I_t85 I_t86 I_t87 I_t88 I_s30 I_im R_many R_ch R_pa R_st R_ex R_tr R_pl R_te R_go R_kp R_i0 R_i1) (fun o ho => ?_)
  obtain ⟨p0, p1, p2, p3, p4, p5, p6, p7, p8, p9, p10, p11, p12, p13, p14, p15, p16, p17, p18, p19, p20, p21, p22, p23, p24, p25, p26, p27⟩ := ho
  exact ⟨p0, ⟨hI.1, zg1.1, p1, p2, p3, p4, p5, zg7.1, zg8.1, zg9.1, zg10.1, zg11.1, zg12.1, zg13.1, zg14.1, zg15.1, zg16.1, zg17.1, zg18.1, zg19.1, zg20.1, p6, zg22.1, zg23.1, zg24.1, zg25.1, zg26.1, zg27.1, zg28.1, zg29.1, zg30.1, zg31.1, zg32.1, zg33.1, zg34.1, zg35.1, zg36.1, zg37.1, zg38.1, zg39.1, zg40.1, zg41.1, p7, zg43.1, zg44.1, p8, p9, p10, p11, p12, p13, p14, p15, zg53.1, zg54.1, zg55.1, zg56.1, zg57.1, zg58.1, zg59.1, zg60.1, zg61.1, zg62.1, zg63.1, zg64.1, zg65.1, zg66.1, zg67.1, zg68.1, zg69.1, p16, p17, zg72.1, zg73.1, zg74.1, zg75.1, zg76.1, zg77.1, zg78.1, zg79.1, zg80.1, zg81.1, zg82.1, zg83.1, zg84.1, zg85.1, zg86.1, zg87.1, zg88.1, zg89.1, zg90.1, zg91.1, zg92.1, zg93.1, zg94.1, zg95.1, zg96.1, zg97.1, zg98.1, p18, zg100.1, zg101.1, zg102.1, zg103.1, zg104.1, zg105.1, zg106.1, zg107.1, zg108.1, zg109.1, zg110.1, zg111.1, zg112.1, p19, p20, p21, p22, p23, p24, p25, p26, p27, zg122.1, zg123.1, zg124.1, zg125⟩⟩
end
section
noncomputable def f_OP_36 (N : Int) (a1 : Int) (s0 : Int) (s4 : Int) (s7 : Int) (s26 : Int) (s27 : Int) (s28 : Int) (s29 : Int) (s49 : Int) (t2 : Nat → Int) (t3 : Nat → Int) (t4 : Nat → Int) (t38 : Nat → Int) (t63 : Nat → Int) : Option (Int × Int × Int) :=
  zd1 (f_HS_count a1 s0 s26 s27 s28 s29 t2 s49 t38 t63) fun v734 =>
  zd2 (f_HM_count a1 s7 t3 t4 s4) fun v737 v738 =>
  some (v734, v737, v738)
set_option maxHeartbeats 4000000 in
theorem s_OP_36 (N : Int) (a1 : Int) (s0 : Int) (s4 : Int) (s7 : Int) (s26 : Int) (s27 : Int) (s28 : Int) (s29 : Int) (s49 : Int) (t2 : Nat → Int) (t3 : Nat → Int) (t4 : Nat → Int) (t38 : Nat → Int) (t63 : Nat → Int) (b_a1 : (-2147483648) ≤ a1 ∧ a1 ≤ 2147483647) (b_s0 : 0 ≤ s0 ∧ s0 ≤ 400) (b_s7 : 0 ≤ s7 ∧ s7 ≤ 400) (b_s26 : 0 ≤ s26 ∧ s26 ≤ 6) (b_s27 : 0 ≤ s27 ∧ s27 ≤ 6) (b_s28 : 0 ≤ s28 ∧ s28 ≤ 6) (b_s29 : (-1) ≤ s29 ∧ s29 ≤ 5) (b_s49 : 0 ≤ s49 ∧ s49 ≤ 12) (h_t4 : RI t4) (h_t38 : zR t38 0 99) (h_t63 : zR t63 0 10) (R_many : s49 = t4 0) (R_ch : s26 = t4 1) (R_pa : s27 = t4 2) (R_te : RV 1 5 4 t38 t4) (R_tp : s0 = s7) : zok (f_OP_36 N a1 s0 s4 s7 s26 s27 s28 s29 s49 t2 t3 t4 t38 t63) (fun o => True) := by
  unfold f_OP_36
  refine zk_dI1 ?_
  unfold f_HS_count
  refine zk_ifc (zci_eqr (by omega)) (fun hc => ?_) (fun hc => ?_)
  · first
    | (exfalso; omega)
    | (skip
       refine zk_rI1 ?_
       refine zk_d2 (s_HM_count _ _ _ _ _ (by omega) h_t4) (fun v737 v738 hp => ?_)
       exact zk_ret trivial)
  · first
    | (exfalso; omega)
    | (skip
       refine zk_ifc (zci_eqr (by omega)) (fun hc_2 => ?_) (fun hc_2 => ?_)
       · first
         | (exfalso; omega)
         | (skip
            refine zk_d1 (s_Columns_stones _ _ (by omega) h_t63) (fun v1 hp_2 => ?_)
            refine zk_rI1 ?_
            refine zk_d2 (s_HM_count _ _ _ _ _ (by omega) h_t4) (fun v737_2 v738_2 hp_3 => ?_)
            exact zk_ret trivial)
       · first
         | (exfalso; omega)
         | (skip
            refine zk_ifc (zci_eqr (by omega)) (fun hc_3 => ?_) (fun hc_3 => ?_)
            · first
              | (exfalso; omega)
              | (skip
                 refine zk_rI1 ?_
                 refine zk_d2 (s_HM_count _ _ _ _ _ (by omega) h_t4) (fun v737_3 v738_3 hp_4 => ?_)
                 exact zk_ret trivial)
            · first
              | (exfalso; omega)
              | (skip
                 refine zk_ifc (zci_eqr (by omega)) (fun hc_4 => ?_) (fun hc_4 => ?_)
                 · first
                   | (exfalso; omega)
                   | (skip
                      refine zk_rI1 ?_
                      refine zk_d2 (s_HM_count _ _ _ _ _ (by omega) h_t4) (fun v737_4 v738_4 hp_5 => ?_)
                      exact zk_ret trivial)
                 · first
                   | (exfalso; omega)
                   | (skip
                      refine zk_ifc (zci_eqr (by omega)) (fun hc_5 => ?_) (fun hc_5 => ?_)
                      · first
                        | (exfalso; omega)
                        | (skip
                           refine zk_rI1 ?_
                           refine zk_d2 (s_HM_count _ _ _ _ _ (by omega) h_t4) (fun v737_5 v738_5 hp_6 => ?_)
                           exact zk_ret trivial)
                      · first
                        | (exfalso; omega)
                        | (skip
                           refine zk_ifc (zci_eqr (by omega)) (fun hc_6 => ?_) (fun hc_6 => ?_)
                           · first
                             | (exfalso; omega)
                             | (skip
                                refine zk_rI1 ?_
                                refine zk_d2 (s_HM_count _ _ _ _ _ (by omega) h_t4) (fun v737_6 v738_6 hp_7 => ?_)
                                exact zk_ret trivial)
                           · first
                             | (exfalso; omega)
                             | (skip
                                refine zk_ifc (zci_eqr (by omega)) (fun hc_7 => ?_) (fun hc_7 => ?_)
                                · first
                                  | (exfalso; omega)
                                  | (skip
                                     refine zk_gl 1 rfl (by decide) (by decide) (fun v2 h_v2 => ?_)
                                     refine zk_rI1 ?_
                                     refine zk_d2 (s_HM_count _ _ _ _ _ (by omega) h_t4) (fun v737_7 v738_7 hp_8 => ?_)
                                     exact zk_ret trivial)
                                · first
                                  | (exfalso; omega)
                                  | (skip
                                     refine zk_ifc (zci_eqr (by omega)) (fun hc_8 => ?_) (fun hc_8 => ?_)
                                     · first
                                       | (exfalso; omega)
                                       | (skip
                                          refine zk_gl 2 rfl (by decide) (by decide) (fun v3 h_v3 => ?_)
                                          refine zk_rI1 ?_
                                          refine zk_d2 (s_HM_count _ _ _ _ _ (by omega) h_t4) (fun v737_8 v738_8 hp_9 => ?_)
                                          exact zk_ret trivial)
                                     · first
                                       | (exfalso; omega)
                                       | (skip
                                          refine zk_ifc (zci_eqr (by omega)) (fun hc_9 => ?_) (fun hc_9 => ?_)
                                          · first
                                            | (exfalso; omega)
                                            | (skip
                                               refine zk_gl 3 rfl (by decide) (by decide) (fun v4 h_v4 => ?_)
                                               refine zk_rI1 ?_
                                               refine zk_d2 (s_HM_count _ _ _ _ _ (by omega) h_t4) (fun v737_9 v738_9 hp_10 => ?_)
                                               exact zk_ret trivial)
                                          · first
                                            | (exfalso; omega)
                                            | (skip
                                               refine zk_ifc (zci_eqr (by omega)) (fun hc_10 => ?_) (fun hc_10 => ?_)
                                               · first
                                                 | (exfalso; omega)
                                                 | (skip
                                                    refine zk_gl 5 rfl (by decide) (by decide) (fun v5 h_v5 => ?_)
                                                    refine zk_rI1 ?_
                                                    refine zk_d2 (s_HM_count _ _ _ _ _ (by omega) h_t4) (fun v737_10 v738_10 hp_11 => ?_)
                                                    exact zk_ret trivial)
                                               · first
                                                 | (exfalso; omega)
                                                 | (skip
                                                    refine zk_ifc (zci_eqr (by omega)) (fun hc_11 => ?_) (fun hc_11 => ?_)
                                                    · first
                                                      | (exfalso; omega)
                                                      | (skip
                                                         refine zk_gl 6 rfl (by decide) (by decide) (fun v6 h_v6 => ?_)
                                                         refine zk_rI1 ?_
                                                         refine zk_d2 (s_HM_count _ _ _ _ _ (by omega) h_t4) (fun v737_11 v738_11 hp_12 => ?_)
                                                         exact zk_ret trivial)
                                                    · first
                                                      | (exfalso; omega)
                                                      | (skip
                                                         refine zk_ifc (zci_eqr (by omega)) (fun hc_12 => ?_) (fun hc_12 => ?_)
                                                         · first
                                                           | (exfalso; omega)
                                                           | (skip
                                                              refine zk_rI1 ?_
                                                              refine zk_d2 (s_HM_count _ _ _ _ _ (by omega) h_t4) (fun v737_12 v738_12 hp_13 => ?_)
                                                              exact zk_ret trivial)
                                                         · first
                                                           | (exfalso; omega)
                                                           | (skip
                                                              refine zk_ifc (zci_eqr (by omega)) (fun hc_13 => ?_) (fun hc_13 => ?_)
                                                              · first
                                                                | (exfalso; omega)
                                                                | (skip
                                                                   refine zk_gl 0 rfl (by decide) (by decide) (fun v7 h_v7 => ?_)
                                                                   have r_v7 := h_t38 (0)
                                                                   refine zk_rI1 ?_
                                                                   refine zk_d2 (s_HM_count _ _ _ _ _ (by omega) h_t4) (fun v737_13 v738_13 hp_14 => ?_)
                                                                   exact zk_ret trivial)
                                                              · first
                                                                | (exfalso; omega)
                                                                | (skip
                                                                   refine zk_ifc (zci_eqr (by omega)) (fun hc_14 => ?_) (fun hc_14 => ?_)
                                                                   · first
                                                                     | (exfalso; omega)
                                                                     | (skip
                                                                        refine zk_gl 1 rfl (by decide) (by decide) (fun v8 h_v8 => ?_)
                                                                        have r_v8 := h_t38 (1)
                                                                        refine zk_rI1 ?_
                                                                        refine zk_d2 (s_HM_count _ _ _ _ _ (by omega) h_t4) (fun v737_14 v738_14 hp_15 => ?_)
                                                                        exact zk_ret trivial)
                                                                   · first
                                                                     | (exfalso; omega)
                                                                     | (skip
                                                                        refine zk_ifc (zci_eqr (by omega)) (fun hc_15 => ?_) (fun hc_15 => ?_)
                                                                        · first
                                                                          | (exfalso; omega)
                                                                          | (skip
                                                                             refine zk_gl 2 rfl (by decide) (by decide) (fun v9 h_v9 => ?_)
                                                                             have r_v9 := h_t38 (2)
                                                                             refine zk_rI1 ?_
                                                                             refine zk_d2 (s_HM_count _ _ _ _ _ (by omega) h_t4) (fun v737_15 v738_15 hp_16 => ?_)
                                                                             exact zk_ret trivial)
                                                                        · first
                                                                          | (exfalso; omega)
                                                                          | (skip
                                                                             refine zk_ifc (zci_eqr (by omega)) (fun hc_16 => ?_) (fun hc_16 => ?_)
                                                                             · first
                                                                               | (exfalso; omega)
                                                                               | (skip
                                                                                  refine zk_gl 3 rfl (by decide) (by decide) (fun v10 h_v10 => ?_)
                                                                                  have r_v10 := h_t38 (3)
                                                                                  refine zk_rI1 ?_
                                                                                  refine zk_d2 (s_HM_count _ _ _ _ _ (by omega) h_t4) (fun v737_16 v738_16 hp_17 => ?_)
                                                                                  exact zk_ret trivial)
                                                                             · first
                                                                               | (exfalso; omega)
                                                                               | (skip
                                                                                  refine zk_rI1 ?_
                                                                                  refine zk_d2 (s_HM_count _ _ _ _ _ (by omega) h_t4) (fun v737_17 v738_17 hp_18 => ?_)
                                                                                  exact zk_ret trivial))))))))))))))))
set_option maxHeartbeats 4000000 in
set_option maxRecDepth 10000 in
theorem st_36 (N : Int) (σ : Nat → Int) (τ : Nat → Nat → Int) (hI : INV N σ τ) (a1 : Int) (b_a1 : (-2147483648) ≤ a1 ∧ a1 ≤ 2147483647) : zok (f_OP_36 N a1 (σ 0) (σ 4) (σ 7) (σ 26) (σ 27) (σ 28) (σ 29) (σ 49) (τ 2) (τ 3) (τ 4) (τ 38) (τ 63)) (fun o => (True) ∧ INV (N + 6) (zst σ [(4, o.2.2)]) τ) := by
  have zg1 := hI.2
  have zg2 := zg1.2
  have zg3 := zg2.2
  have zg4 := zg3.2
  have zg5 := zg4.2
  have zg6 := zg5.2
  have zg7 := zg6.2
  have zg8 := zg7.2
  have zg9 := zg8.2
  have zg10 := zg9.2
  have zg11 := zg10.2
  have zg12 := zg11.2
  have zg13 := zg12.2
  have zg14 := zg13.2
  have zg15 := zg14.2
  have zg16 := zg15.2
  have zg17 := zg16.2
  have zg18 := zg17.2
  have zg19 := zg18.2
  have zg20 := zg19.2
  have zg21 := zg20.2
  have zg22 := zg21.2
  have zg23 := zg22.2
  have zg24 := zg23.2
  have zg25 := zg24.2
  have zg26 := zg25.2
  have zg27 := zg26.2
  have zg28 := zg27.2
  have zg29 := zg28.2
  have zg30 := zg29.2
  have zg31 := zg30.2
  have zg32 := zg31.2
  have zg33 := zg32.2
  have zg34 := zg33.2
  have zg35 := zg34.2
  have zg36 := zg35.2
  have zg37 := zg36.2
  have zg38 := zg37.2
  have zg39 := zg38.2
  have zg40 := zg39.2
  have zg41 := zg40.2
  have zg42 := zg41.2
  have zg43 := zg42.2
  have zg44 := zg43.2
  have zg45 := zg44.2
  have zg46 := zg45.2
  have zg47 := zg46.2
  have zg48 := zg47.2
  have zg49 := zg48.2
  have zg50 := zg49.2
  have zg51 := zg50.2
  have zg52 := zg51.2
  have zg53 := zg52.2
  have zg54 := zg53.2
  have zg55 := zg54.2
  have zg56 := zg55.2
  have zg57 := zg56.2
  have zg58 := zg57.2
  have zg59 := zg58.2
  have zg60 := zg59.2
  have zg61 := zg60.2
  have zg62 := zg61.2
  have zg63 := zg62.2
  have zg64 := zg63.2
  have zg65 := zg64.2
  have zg66 := zg65.2
  have zg67 := zg66.2
  have zg68 := zg67.2
  have zg69 := zg68.2
  have zg70 := zg69.2
  have zg71 := zg70.2
  have zg72 := zg71.2
  have zg73 := zg72.2
  have zg74 := zg73.2
  have zg75 := zg74.2
  have zg76 := zg75.2
  have zg77 := zg76.2
  have zg78 := zg77.2
  have zg79 := zg78.2
  have zg80 := zg79.2
  have zg81 := zg80.2
  have zg82 := zg81.2
  have zg83 := zg82.2
  have zg84 := zg83.2
  have zg85 := zg84.2
  have zg86 := zg85.2
  have zg87 := zg86.2
  have zg88 := zg87.2
  have zg89 := zg88.2
  have zg90 := zg89.2
  have zg91 := zg90.2
  have zg92 := zg91.2
  have zg93 := zg92.2
  have zg94 := zg93.2
  have zg95 := zg94.2
  have zg96 := zg95.2
  have zg97 := zg96.2
  have zg98 := zg97.2
  have zg99 := zg98.2
  have zg100 := zg99.2
  have zg101 := zg100.2
  have zg102 := zg101.2
  have zg103 := zg102.2
  have zg104 := zg103.2
  have zg105 := zg104.2
  have zg106 := zg105.2
  have zg107 := zg106.2
  have zg108 := zg107.2
  have zg109 := zg108.2
  have zg110 := zg109.2
  have zg111 := zg110.2
  have zg112 := zg111.2
  have zg113 := zg112.2
  have zg114 := zg113.2
  have zg115 := zg114.2
  have zg116 := zg115.2
  have zg117 := zg116.2
  have zg118 := zg117.2
  have zg119 := zg118.2
  have zg120 := zg119.2
  have zg121 := zg120.2
  have zg122 := zg121.2
  have zg123 := zg122.2
  have zg124 := zg123.2
  have zg125 := zg124.2
  have I_s0 := hI.1
  have I_s7 := zg100.1
  have I_s26 := zg3.1
  have I_s27 := zg4.1
  have I_s28 := zg5.1
  have I_s29 := zg6.1
  have I_s49 := zg21.1
  have I_t4 := zg99.1
  have I_t38 := zg49.1
  have I_t63 := zg70.1
  have R_many := zg113.1
  have R_ch := zg114.1
  have R_pa := zg115.1
  have R_te := zg120.1
  have R_tp := zg122.1
  refine zok_mono (s_OP_36 N a1 (σ 0) (σ 4) (σ 7) (σ 26) (σ 27) (σ 28) (σ 29) (σ 49) (τ 2) (τ 3) (τ 4) (τ 38) (τ 63) b_a1 I_s0 I_s7 I_s26 I_s27 I_s28 I_s29 I_s49 I_t4 I_t38 I_t63 R_many R_ch R_pa R_te R_tp) (fun o ho => ?_)
  skip
  exact ⟨trivial, ⟨hI.1, zg1.1, zg2.1, zg3.1, zg4.1, zg5.1, zg6.1, zg7.1, zg8.1, zg9.1, zg10.1, zg11.1, zg12.1, zg13.1, zg14.1, zg15.1, zg16.1, zg17.1, zg18.1, zg19.1, zg20.1, zg21.1, zg22.1, zg23.1, zg24.1, zg25.1, zg26.1, zg27.1, zg28.1, zg29.1, zg30.1, zg31.1, zg32.1, zg33.1, zg34.1, zg35.1, zg36.1, zg37.1, zg38.1, zg39.1, zg40.1, zg41.1, ⟨zg42.1.1, Int.le_trans zg42.1.2 (Int.le_add_of_nonneg_right (by decide))⟩, zg43.1, zg44.1, zg45.1, zg46.1, zg47.1, zg48.1, zg49.1, zg50.1, zg51.1, zg52.1, zg53.1, zg54.1, zg55.1, zg56.1, zg57.1, zg58.1, zg59.1, zg60.1, zg61.1, zg62.1, zg63.1, zg64.1, zg65.1, zg66.1, zg67.1, zg68.1, zg69.1, zg70.1, zg71.1, zg72.1, zg73.1, zg74.1, zg75.1, zg76.1, zg77.1, zg78.1, zg79.1, zg80.1, zg81.1, zg82.1, zg83.1, zg84.1, zg85.1, zg86.1, zg87.1, zg88.1, zg89.1, zg90.1, zg91.1, zg92.1, zg93.1, zg94.1, zg95.1, zg96.1, zg97.1, zg98.1, zg99.1, zg100.1, zg101.1, zg102.1, zg103.1, zg104.1, zg105.1, zg106.1, zg107.1, zg108.1, zg109.1, zg110.1, zg111.1, zg112.1, zg113.1, zg114.1, zg115.1, zg116.1, zg117.1, zg118.1, zg119.1, zg120.1, zg121.1, zg122.1, zg123.1, zg124.1, zg125⟩⟩
noncomputable def f_OP_37 (N : Int) (s3 : Int) (s4 : Int) (s5 : Int) : Option (Int × Int × Int) :=
  zd1 (f_HS_status s3) fun v739 =>
  zd2 (f_HM_status s5 s4) fun v740 v741 =>
  some (v739, v740, v741)
set_option maxHeartbeats 4000000 in
theorem s_OP_37 (N : Int) (s3 : Int) (s4 : Int) (s5 : Int) (b_s3 : (-6) ≤ s3 ∧ s3 ≤ 0) : zok (f_OP_37 N s3 s4 s5) (fun o => True) := by
  unfold f_OP_37
  refine zk_dI1 ?_
  unfold f_HS_status
  refine zk_rI1 ?_
  refine zk_d2 (s_HM_status _ _) (fun v740 v741 hp => ?_)
  exact zk_ret trivial
set_option maxHeartbeats 4000000 in
set_option maxRecDepth 10000 in
theorem st_37 (N : Int) (σ : Nat → Int) (τ : Nat → Nat → Int) (hI : INV N σ τ)   : zok (f_OP_37 N (σ 3) (σ 4) (σ 5)) (fun o => (True) ∧ INV (N + 6) (zst σ [(4, o.2.2)]) τ) := by
  have zg1 := hI.2
  have zg2 := zg1.2
  have zg3 := zg2.2
  have zg4 := zg3.2
  have zg5 := zg4.2
  have zg6 := zg5.2
  have zg7 := zg6.2
  have zg8 := zg7.2
  have zg9 := zg8.2
  have zg10 := zg9.2
  have zg11 := zg10.2
  have zg12 := zg11.2
  have zg13 := zg12.2
  have zg14 := zg13.2
  have zg15 := zg14.2
  have zg16 := zg15.2
  have zg17 := zg16.2
  have zg18 := zg17.2
  have zg19 := zg18.2
  have zg20 := zg19.2
  have zg21 := zg20.2
  have zg22 := zg21.2
  have zg23 := zg22.2
  have zg24 := zg23.2
  have zg25 := zg24.2
  have zg26 := zg25.2
  have zg27 := zg26.2
  have zg28 := zg27.2
  have zg29 := zg28.2
  have zg30 := zg29.2
  have zg31 := zg30.2
  have zg32 := zg31.2
  have zg33 := zg32.2
  have zg34 := zg33.2
  have zg35 := zg34.2
  have zg36 := zg35.2
  have zg37 := zg36.2
  have zg38 := zg37.2
  have zg39 := zg38.2
  have zg40 := zg39.2
  have zg41 := zg40.2
  have zg42 := zg41.2
  have zg43 := zg42.2
  have zg44 := zg43.2
  have zg45 := zg44.2
  have zg46 := zg45.2
  have zg47 := zg46.2
  have zg48 := zg47.2
  have zg49 := zg48.2
  have zg50 := zg49.2
  have zg51 := zg50.2
  have zg52 := zg51.2
  have zg53 := zg52.2
  have zg54 := zg53.2
  have zg55 := zg54.2
  have zg56 := zg55.2
  have zg57 := zg56.2
  have zg58 := zg57.2
  have zg59 := zg58.2
  have zg60 := zg59.2
  have zg61 := zg60.2
  have zg62 := zg61.2
  have zg63 := zg62.2
  have zg64 := zg63.2
  have zg65 := zg64.2
  have zg66 := zg65.2
  have zg67 := zg66.2
  have zg68 := zg67.2
  have zg69 := zg68.2
  have zg70 := zg69.2
  have zg71 := zg70.2
  have zg72 := zg71.2
  have zg73 := zg72.2
  have zg74 := zg73.2
  have zg75 := zg74.2
  have zg76 := zg75.2
  have zg77 := zg76.2
  have zg78 := zg77.2
  have zg79 := zg78.2
  have zg80 := zg79.2
  have zg81 := zg80.2
  have zg82 := zg81.2
  have zg83 := zg82.2
  have zg84 := zg83.2
  have zg85 := zg84.2
  have zg86 := zg85.2
  have zg87 := zg86.2
  have zg88 := zg87.2
  have zg89 := zg88.2
  have zg90 := zg89.2
  have zg91 := zg90.2
  have zg92 := zg91.2
  have zg93 := zg92.2
  have zg94 := zg93.2
  have zg95 := zg94.2
  have zg96 := zg95.2
  have zg97 := zg96.2
  have zg98 := zg97.2
  have zg99 := zg98.2
  have zg100 := zg99.2
  have zg101 := zg100.2
  have zg102 := zg101.2
  have zg103 := zg102.2
  have zg104 := zg103.2
  have zg105 := zg104.2
  have zg106 := zg105.2
  have zg107 := zg106.2
  have zg108 := zg107.2
  have zg109 := zg108.2
  have zg110 := zg109.2
  have zg111 := zg110.2
  have zg112 := zg111.2
  have zg113 := zg112.2
  have zg114 := zg113.2
  have zg115 := zg114.2
  have zg116 := zg115.2
  have zg117 := zg116.2
  have zg118 := zg117.2
  have zg119 := zg118.2
  have zg120 := zg119.2
  have zg121 := zg120.2
  have zg122 := zg121.2
  have zg123 := zg122.2
  have zg124 := zg123.2
  have zg125 := zg124.2
  have I_s3 := zg2.1
  refine zok_mono (s_OP_37 N (σ 3) (σ 4) (σ 5) I_s3) (fun o ho => ?_)
  skip
  exact ⟨trivial, ⟨hI.1, zg1.1, zg2.1, zg3.1, zg4.1, zg5.1, zg6.1, zg7.1, zg8.1, zg9.1, zg10.1, zg11.1, zg12.1, zg13.1, zg14.1, zg15.1, zg16.1, zg17.1, zg18.1, zg19.1, zg20.1, zg21.1, zg22.1, zg23.1, zg24.1, zg25.1, zg26.1, zg27.1, zg28.1, zg29.1, zg30.1, zg31.1, zg32.1, zg33.1, zg34.1, zg35.1, zg36.1, zg37.1, zg38.1, zg39.1, zg40.1, zg41.1, ⟨zg42.1.1, Int.le_trans zg42.1.2 (Int.le_add_of_nonneg_right (by decide))⟩, zg43.1, zg44.1, zg45.1, zg46.1, zg47.1, zg48.1, zg49.1, zg50.1, zg51.1, zg52.1, zg53.1, zg54.1, zg55.1, zg56.1, zg57.1, zg58.1, zg59.1, zg60.1, zg61.1, zg62.1, zg63.1, zg64.1, zg65.1, zg66.1, zg67.1, zg68.1, zg69.1, zg70.1, zg71.1, zg72.1, zg73.1, zg74.1, zg75.1, zg76.1, zg77.1, zg78.1, zg79.1, zg80.1, zg81.1, zg82.1, zg83.1, zg84.1, zg85.1, zg86.1, zg87.1, zg88.1, zg89.1, zg90.1, zg91.1, zg92.1, zg93.1, zg94.1, zg95.1, zg96.1, zg97.1, zg98.1, zg99.1, zg100.1, zg101.1, zg102.1, zg103.1, zg104.1, zg105.1, zg106.1, zg107.1, zg108.1, zg109.1, zg110.1, zg111.1, zg112.1, zg113.1, zg114.1, zg115.1, zg116.1, zg117.1, zg118.1, zg119.1, zg120.1, zg121.1, zg122.1, zg123.1, zg124.1, zg125⟩⟩
end
