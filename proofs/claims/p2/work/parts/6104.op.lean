section
noncomputable def f_OP_16 (N : Int) (a1 : Int) (s3 : Int) (s4 : Int) (s5 : Int) (s26 : Int) (s27 : Int) (s28 : Int) (s29 : Int) (s30 : Int) (s49 : Int) (t2 : Nat → Int) (t3 : Nat → Int) (t4 : Nat → Int) (t34 : Nat → Int) (t35 : Nat → Int) (t36 : Nat → Int) (t37 : Nat → Int) (t38 : Nat → Int) (t39 : Nat → Int) : Option (Int × Int × Int × Int × Int × Int × Int × (Nat → Int) × (Nat → Int) × (Nat → Int)) :=
  zd5 (f_HS_force a1 s28 s3 s29 s30 t2) fun v245 v246 v247 v248 a249 =>
  zd5 (f_HM_force a1 s4 s5 t3 t4) fun v252 v253 v254 a255 a256 =>
  some (v245, v252, v246, v253, v254, v247, v248, a249, a255, a256)
set_option maxHeartbeats 4000000 in
theorem s_OP_16 (N : Int) (a1 : Int) (s3 : Int) (s4 : Int) (s5 : Int) (s26 : Int) (s27 : Int) (s28 : Int) (s29 : Int) (s30 : Int) (s49 : Int) (t2 : Nat → Int) (t3 : Nat → Int) (t4 : Nat → Int) (t34 : Nat → Int) (t35 : Nat → Int) (t36 : Nat → Int) (t37 : Nat → Int) (t38 : Nat → Int) (t39 : Nat → Int) (b_a1 : (-2147483648) ≤ a1 ∧ a1 ≤ 2147483647) (b_s3 : (-6) ≤ s3 ∧ s3 ≤ 0) (b_s26 : 0 ≤ s26 ∧ s26 ≤ 6) (b_s27 : 0 ≤ s27 ∧ s27 ≤ 6) (b_s28 : 0 ≤ s28 ∧ s28 ≤ 6) (b_s29 : (-1) ≤ s29 ∧ s29 ≤ 5) (b_s49 : 0 ≤ s49 ∧ s49 ≤ 12) (h_t4 : RI t4) (h_t34 : zR t34 0 60) (h_t35 : zR t35 0 1) (h_t36 : zR t36 0 20) (h_t37 : zR t37 0 11) (h_t38 : zR t38 0 99) (h_t39 : zR t39 (-1) 10) (I_s30 : 0 ≤ s30 ∧ s30 ≤ N) (R_many : s49 = t4 0) (R_ch : s26 = t4 1) (R_pa : s27 = t4 2) (R_st : RV 3 153 s26 t34 t4) (R_ex : RV 3 154 s26 t35 t4) (R_tr : RV 3 155 s26 t36 t4) (R_pl : RV 1 171 s27 t37 t4) (R_te : RV 1 5 4 t38 t4) (R_go : RV 1 141 s49 t39 t4) : zok (f_OP_16 N a1 s3 s4 s5 s26 s27 s28 s29 s30 s49 t2 t3 t4 t34 t35 t36 t37 t38 t39) (fun o => ((-6) ≤ o.2.2.1 ∧ o.2.2.1 ≤ 0) ∧ ((-1) ≤ o.2.2.2.2.2.1 ∧ o.2.2.2.2.2.1 ≤ 5) ∧ (0 ≤ o.2.2.2.2.2.2.1 ∧ o.2.2.2.2.2.2.1 ≤ N + 6) ∧ RI o.2.2.2.2.2.2.2.2.2 ∧ (s49 = o.2.2.2.2.2.2.2.2.2 0) ∧ (s26 = o.2.2.2.2.2.2.2.2.2 1) ∧ (s27 = o.2.2.2.2.2.2.2.2.2 2) ∧ (RV 3 153 s26 t34 o.2.2.2.2.2.2.2.2.2) ∧ (RV 3 154 s26 t35 o.2.2.2.2.2.2.2.2.2) ∧ (RV 3 155 s26 t36 o.2.2.2.2.2.2.2.2.2) ∧ (RV 1 171 s27 t37 o.2.2.2.2.2.2.2.2.2) ∧ (RV 1 5 4 t38 o.2.2.2.2.2.2.2.2.2) ∧ (RV 1 141 s49 t39 o.2.2.2.2.2.2.2.2.2)) := by
  unfold f_OP_16
  have q3 := RI_3 h_t4
  refine zk_dI5 ?_
  unfold f_HS_force
  refine zk_ifc (zci_eq (by omega) (by omega)) (fun hc => ?_) (fun hc => ?_)
  · first
    | (exfalso; omega)
    | (skip
       unfold f_HS_force_27
       refine zk_dI3 ?_
       unfold f_HS_accept
       refine zk_n ?_
       refine zk_rI3 ?_
       refine zk_rI5 ?_
       refine zk_dI5 ?_
       unfold f_HM_force
       refine zk_ifc (zci_eq (by omega) (by omega)) (fun hc_2 => ?_) (fun hc_2 => ?_)
       · first
         | (exfalso; omega)
         | (skip
            unfold f_HM_force_28
            refine zk_d3 (s_HM_change _ _ _ _ (by omega)) (fun v1_2 v2 a3 hp => ?_)
            try dsimp only at hp
            obtain ⟨hpp0, hpp1, hpp2⟩ := hp
            have i_a3 : RI a3 := by rw [hpp2]; exact RIz_4 h_t4 (by omega)
            refine zk_rI5 ?_
            refine zk_ret ?_
            try dsimp only
            exact ⟨by omega, by omega, by omega, i_a3, by first | omega | (simp only [hpp2, zu, ↓reduceIte]; (repeat' split) <;> omega), by first | omega | (simp only [hpp2, zu, ↓reduceIte]; (repeat' split) <;> omega), by first | omega | (simp only [hpp2, zu, ↓reduceIte]; (repeat' split) <;> omega), by (intro c hc; first | (have q := fun h => R_st c h; simp only [hpp2, zu, ↓reduceIte]; (repeat' split) <;> first | omega | (exact q (by omega))) | exact R_st c hc), by (intro c hc; first | (have q := fun h => R_ex c h; simp only [hpp2, zu, ↓reduceIte]; (repeat' split) <;> first | omega | (exact q (by omega))) | exact R_ex c hc), by (intro c hc; first | (have q := fun h => R_tr c h; simp only [hpp2, zu, ↓reduceIte]; (repeat' split) <;> first | omega | (exact q (by omega))) | exact R_tr c hc), by (intro c hc; first | (have q := fun h => R_pl c h; simp only [hpp2, zu, ↓reduceIte]; (repeat' split) <;> first | omega | (exact q (by omega))) | exact R_pl c hc), by (intro c hc; first | (have q := fun h => R_te c h; simp only [hpp2, zu, ↓reduceIte]; (repeat' split) <;> first | omega | (exact q (by omega))) | exact R_te c hc), by (intro c hc; first | (have q := fun h => R_go c h; simp only [hpp2, zu, ↓reduceIte]; (repeat' split) <;> first | omega | (exact q (by omega))) | exact R_go c hc)⟩)
       · first
         | (exfalso; omega)
         | (skip
            refine zk_nE (fun v1_3 h_v1_3 => ?_)
            rw [zwi (by omega)] at h_v1_3
            replace h_v1_3 := h_v1_3.symm
            subst h_v1_3
            refine zk_gl 3 rfl (by decide) (by decide) (fun v2_2 h_v2_2 => ?_)
            have r_v2_2 := RI_3 h_t4
            refine zk_nE (fun v3 h_v3 => ?_)
            rw [zwi (by omega)] at h_v3
            replace h_v3 := h_v3.symm
            subst h_v3
            refine zk_n ?_
            refine zk_d1 (s_HM_in _ _ _ (by omega) (by omega) (by omega)) (fun v5 hp_2 => ?_)
            try dsimp only at hp_2
            have hp_2p0 := hp_2
            refine zk_ifc (zci_eqr (by omega)) (fun hc_3 => ?_) (fun hc_3 => ?_)
            · first
              | (exfalso; omega)
              | (skip
                 refine zk_d3 (s_HM_tell _ _ _ (by omega)) (fun v6 v7 a8 hp_3 => ?_)
                 try dsimp only at hp_3
                 obtain ⟨hp_3p0, hp_3p1⟩ := hp_3
                 refine zk_rI5 ?_
                 refine zk_ret ?_
                 try dsimp only
                 exact ⟨by omega, by omega, by omega, h_t4, by first | omega | (simp only [zu_eq, zu, ↓reduceIte]; (repeat' split) <;> omega), by first | omega | (simp only [zu_eq, zu, ↓reduceIte]; (repeat' split) <;> omega), by first | omega | (simp only [zu_eq, zu, ↓reduceIte]; (repeat' split) <;> omega), by (intro c hc; first | (have q := fun h => R_st c h; simp only [zu_eq, zu, ↓reduceIte]; (repeat' split) <;> first | omega | (exact q (by omega))) | exact R_st c hc), by (intro c hc; first | (have q := fun h => R_ex c h; simp only [zu_eq, zu, ↓reduceIte]; (repeat' split) <;> first | omega | (exact q (by omega))) | exact R_ex c hc), by (intro c hc; first | (have q := fun h => R_tr c h; simp only [zu_eq, zu, ↓reduceIte]; (repeat' split) <;> first | omega | (exact q (by omega))) | exact R_tr c hc), by (intro c hc; first | (have q := fun h => R_pl c h; simp only [zu_eq, zu, ↓reduceIte]; (repeat' split) <;> first | omega | (exact q (by omega))) | exact R_pl c hc), by (intro c hc; first | (have q := fun h => R_te c h; simp only [zu_eq, zu, ↓reduceIte]; (repeat' split) <;> first | omega | (exact q (by omega))) | exact R_te c hc), by (intro c hc; first | (have q := fun h => R_go c h; simp only [zu_eq, zu, ↓reduceIte]; (repeat' split) <;> first | omega | (exact q (by omega))) | exact R_go c hc)⟩)
            · first
              | (exfalso; omega)
              | (skip
                 unfold f_HM_force_28
                 refine zk_d3 (s_HM_change _ _ _ _ (by omega)) (fun v1_4 v2_3 a3_2 hp_4 => ?_)
                 try dsimp only at hp_4
                 obtain ⟨hp_4p0, hp_4p1, hp_4p2⟩ := hp_4
                 have i_a3_2 : RI a3_2 := by rw [hp_4p2]; exact RIz_4 h_t4 (by omega)
                 refine zk_rI5 ?_
                 refine zk_ret ?_
                 try dsimp only
                 exact ⟨by omega, by omega, by omega, i_a3_2, by first | omega | (simp only [hp_4p2, zu, ↓reduceIte]; (repeat' split) <;> omega), by first | omega | (simp only [hp_4p2, zu, ↓reduceIte]; (repeat' split) <;> omega), by first | omega | (simp only [hp_4p2, zu, ↓reduceIte]; (repeat' split) <;> omega), by (intro c hc; first | (have q := fun h => R_st c h; simp only [hp_4p2, zu, ↓reduceIte]; (repeat' split) <;> first | omega | (exact q (by omega))) | exact R_st c hc), by (intro c hc; first | (have q := fun h => R_ex c h; simp only [hp_4p2, zu, ↓reduceIte]; (repeat' split) <;> first | omega | (exact q (by omega))) | exact R_ex c hc), by (intro c hc; first | (have q := fun h => R_tr c h; simp only [hp_4p2, zu, ↓reduceIte]; (repeat' split) <;> first | omega | (exact q (by omega))) | exact R_tr c hc), by (intro c hc; first | (have q := fun h => R_pl c h; simp only [hp_4p2, zu, ↓reduceIte]; (repeat' split) <;> first | omega | (exact q (by omega))) | exact R_pl c hc), by (intro c hc; first | (have q := fun h => R_te c h; simp only [hp_4p2, zu, ↓reduceIte]; (repeat' split) <;> first | omega | (exact q (by omega))) | exact R_te c hc), by (intro c hc; first | (have q := fun h => R_go c h; simp only [hp_4p2, zu, ↓reduceIte]; (repeat' split) <;> first | omega | (exact q (by omega))) | exact R_go c hc)⟩)))
  · first
    | (exfalso; omega)
    | (skip
       refine zk_ifc (zci_ltr (by omega)) (fun hc_4 => ?_) (fun hc_4 => ?_)
       · first
         | (exfalso; omega)
         | (skip
            unfold f_HS_force_20
            refine zk_dI3 ?_
            unfold f_HS_refuse
            refine zk_nE (fun v1_5 h_v1_5 => ?_)
            refine zk_gv (by omega) (by decide) (fun v2_4 h_v2_4 => ?_)
            refine zk_n ?_
            refine zk_sv (by omega) (by decide) (fun a4 h_a4 => ?_)
            refine zk_rI3 ?_
            refine zk_rI5 ?_
            refine zk_dI5 ?_
            unfold f_HM_force
            refine zk_ifc (zci_eq (by omega) (by omega)) (fun hc_5 => ?_) (fun hc_5 => ?_)
            · first
              | (exfalso; omega)
              | (skip
                 unfold f_HM_force_28
                 refine zk_d3 (s_HM_change _ _ _ _ (by omega)) (fun v1_6 v2_5 a3_3 hp_5 => ?_)
                 try dsimp only at hp_5
                 obtain ⟨hp_5p0, hp_5p1, hp_5p2⟩ := hp_5
                 have i_a3_3 : RI a3_3 := by rw [hp_5p2]; exact RIz_4 h_t4 (by omega)
                 refine zk_rI5 ?_
                 refine zk_ret ?_
                 try dsimp only
                 exact ⟨by omega, by omega, by omega, i_a3_3, by first | omega | (simp only [hp_5p2, h_a4, zu, ↓reduceIte]; (repeat' split) <;> omega), by first | omega | (simp only [hp_5p2, h_a4, zu, ↓reduceIte]; (repeat' split) <;> omega), by first | omega | (simp only [hp_5p2, h_a4, zu, ↓reduceIte]; (repeat' split) <;> omega), by (intro c hc; first | (have q := fun h => R_st c h; simp only [hp_5p2, h_a4, zu, ↓reduceIte]; (repeat' split) <;> first | omega | (exact q (by omega))) | exact R_st c hc), by (intro c hc; first | (have q := fun h => R_ex c h; simp only [hp_5p2, h_a4, zu, ↓reduceIte]; (repeat' split) <;> first | omega | (exact q (by omega))) | exact R_ex c hc), by (intro c hc; first | (have q := fun h => R_tr c h; simp only [hp_5p2, h_a4, zu, ↓reduceIte]; (repeat' split) <;> first | omega | (exact q (by omega))) | exact R_tr c hc), by (intro c hc; first | (have q := fun h => R_pl c h; simp only [hp_5p2, h_a4, zu, ↓reduceIte]; (repeat' split) <;> first | omega | (exact q (by omega))) | exact R_pl c hc), by (intro c hc; first | (have q := fun h => R_te c h; simp only [hp_5p2, h_a4, zu, ↓reduceIte]; (repeat' split) <;> first | omega | (exact q (by omega))) | exact R_te c hc), by (intro c hc; first | (have q := fun h => R_go c h; simp only [hp_5p2, h_a4, zu, ↓reduceIte]; (repeat' split) <;> first | omega | (exact q (by omega))) | exact R_go c hc)⟩)
            · first
              | (exfalso; omega)
              | (skip
                 refine zk_nE (fun v1_7 h_v1_7 => ?_)
                 rw [zwi (by omega)] at h_v1_7
                 replace h_v1_7 := h_v1_7.symm
                 subst h_v1_7
                 refine zk_gl 3 rfl (by decide) (by decide) (fun v2_6 h_v2_6 => ?_)
                 have r_v2_6 := RI_3 h_t4
                 refine zk_nE (fun v3_3 h_v3_3 => ?_)
                 rw [zwi (by omega)] at h_v3_3
                 replace h_v3_3 := h_v3_3.symm
                 subst h_v3_3
                 refine zk_n ?_
                 refine zk_d1 (s_HM_in _ _ _ (by omega) (by omega) (by omega)) (fun v5_2 hp_6 => ?_)
                 try dsimp only at hp_6
                 have hp_6p0 := hp_6
                 refine zk_ifc (zci_eqr (by omega)) (fun hc_6 => ?_) (fun hc_6 => ?_)
                 · first
                   | (exfalso; omega)
                   | (skip
                      refine zk_d3 (s_HM_tell _ _ _ (by omega)) (fun v6_2 v7_2 a8_2 hp_7 => ?_)
                      try dsimp only at hp_7
                      obtain ⟨hp_7p0, hp_7p1⟩ := hp_7
                      refine zk_rI5 ?_
                      refine zk_ret ?_
                      try dsimp only
                      exact ⟨by omega, by omega, by omega, h_t4, by first | omega | (simp only [h_a4, zu, ↓reduceIte]; (repeat' split) <;> omega), by first | omega | (simp only [h_a4, zu, ↓reduceIte]; (repeat' split) <;> omega), by first | omega | (simp only [h_a4, zu, ↓reduceIte]; (repeat' split) <;> omega), by (intro c hc; first | (have q := fun h => R_st c h; simp only [h_a4, zu, ↓reduceIte]; (repeat' split) <;> first | omega | (exact q (by omega))) | exact R_st c hc), by (intro c hc; first | (have q := fun h => R_ex c h; simp only [h_a4, zu, ↓reduceIte]; (repeat' split) <;> first | omega | (exact q (by omega))) | exact R_ex c hc), by (intro c hc; first | (have q := fun h => R_tr c h; simp only [h_a4, zu, ↓reduceIte]; (repeat' split) <;> first | omega | (exact q (by omega))) | exact R_tr c hc), by (intro c hc; first | (have q := fun h => R_pl c h; simp only [h_a4, zu, ↓reduceIte]; (repeat' split) <;> first | omega | (exact q (by omega))) | exact R_pl c hc), by (intro c hc; first | (have q := fun h => R_te c h; simp only [h_a4, zu, ↓reduceIte]; (repeat' split) <;> first | omega | (exact q (by omega))) | exact R_te c hc), by (intro c hc; first | (have q := fun h => R_go c h; simp only [h_a4, zu, ↓reduceIte]; (repeat' split) <;> first | omega | (exact q (by omega))) | exact R_go c hc)⟩)
                 · first
                   | (exfalso; omega)
                   | (skip
                      unfold f_HM_force_28
                      refine zk_d3 (s_HM_change _ _ _ _ (by omega)) (fun v1_8 v2_7 a3_4 hp_8 => ?_)
                      try dsimp only at hp_8
                      obtain ⟨hp_8p0, hp_8p1, hp_8p2⟩ := hp_8
                      have i_a3_4 : RI a3_4 := by rw [hp_8p2]; exact RIz_4 h_t4 (by omega)
                      refine zk_rI5 ?_
                      refine zk_ret ?_
                      try dsimp only
                      exact ⟨by omega, by omega, by omega, i_a3_4, by first | omega | (simp only [hp_8p2, h_a4, zu, ↓reduceIte]; (repeat' split) <;> omega), by first | omega | (simp only [hp_8p2, h_a4, zu, ↓reduceIte]; (repeat' split) <;> omega), by first | omega | (simp only [hp_8p2, h_a4, zu, ↓reduceIte]; (repeat' split) <;> omega), by (intro c hc; first | (have q := fun h => R_st c h; simp only [hp_8p2, h_a4, zu, ↓reduceIte]; (repeat' split) <;> first | omega | (exact q (by omega))) | exact R_st c hc), by (intro c hc; first | (have q := fun h => R_ex c h; simp only [hp_8p2, h_a4, zu, ↓reduceIte]; (repeat' split) <;> first | omega | (exact q (by omega))) | exact R_ex c hc), by (intro c hc; first | (have q := fun h => R_tr c h; simp only [hp_8p2, h_a4, zu, ↓reduceIte]; (repeat' split) <;> first | omega | (exact q (by omega))) | exact R_tr c hc), by (intro c hc; first | (have q := fun h => R_pl c h; simp only [hp_8p2, h_a4, zu, ↓reduceIte]; (repeat' split) <;> first | omega | (exact q (by omega))) | exact R_pl c hc), by (intro c hc; first | (have q := fun h => R_te c h; simp only [hp_8p2, h_a4, zu, ↓reduceIte]; (repeat' split) <;> first | omega | (exact q (by omega))) | exact R_te c hc), by (intro c hc; first | (have q := fun h => R_go c h; simp only [hp_8p2, h_a4, zu, ↓reduceIte]; (repeat' split) <;> first | omega | (exact q (by omega))) | exact R_go c hc)⟩)))
       · first
         | (exfalso; omega)
         | (skip
            refine zk_ifc (zci_lt (by omega) (by omega)) (fun hc_7 => ?_) (fun hc_7 => ?_)
            · first
              | (exfalso; omega)
              | (skip
                 unfold f_HS_force_27
                 refine zk_dI3 ?_
                 unfold f_HS_accept
                 refine zk_n ?_
                 refine zk_rI3 ?_
                 refine zk_rI5 ?_
                 refine zk_dI5 ?_
                 unfold f_HM_force
                 refine zk_ifc (zci_eq (by omega) (by omega)) (fun hc_8 => ?_) (fun hc_8 => ?_)
                 · first
                   | (exfalso; omega)
                   | (skip
                      unfold f_HM_force_28
                      refine zk_d3 (s_HM_change _ _ _ _ (by omega)) (fun v1_10 v2_8 a3_5 hp_9 => ?_)
                      try dsimp only at hp_9
                      obtain ⟨hp_9p0, hp_9p1, hp_9p2⟩ := hp_9
                      have i_a3_5 : RI a3_5 := by rw [hp_9p2]; exact RIz_4 h_t4 (by omega)
                      refine zk_rI5 ?_
                      refine zk_ret ?_
                      try dsimp only
                      exact ⟨by omega, by omega, by omega, i_a3_5, by first | omega | (simp only [hp_9p2, zu, ↓reduceIte]; (repeat' split) <;> omega), by first | omega | (simp only [hp_9p2, zu, ↓reduceIte]; (repeat' split) <;> omega), by first | omega | (simp only [hp_9p2, zu, ↓reduceIte]; (repeat' split) <;> omega), by (intro c hc; first | (have q := fun h => R_st c h; simp only [hp_9p2, zu, ↓reduceIte]; (repeat' split) <;> first | omega | (exact q (by omega))) | exact R_st c hc), by (intro c hc; first | (have q := fun h => R_ex c h; simp only [hp_9p2, zu, ↓reduceIte]; (repeat' split) <;> first | omega | (exact q (by omega))) | exact R_ex c hc), by (intro c hc; first | (have q := fun h => R_tr c h; simp only [hp_9p2, zu, ↓reduceIte]; (repeat' split) <;> first | omega | (exact q (by omega))) | exact R_tr c hc), by (intro c hc; first | (have q := fun h => R_pl c h; simp only [hp_9p2, zu, ↓reduceIte]; (repeat' split) <;> first | omega | (exact q (by omega))) | exact R_pl c hc), by (intro c hc; first | (have q := fun h => R_te c h; simp only [hp_9p2, zu, ↓reduceIte]; (repeat' split) <;> first | omega | (exact q (by omega))) | exact R_te c hc), by (intro c hc; first | (have q := fun h => R_go c h; simp only [hp_9p2, zu, ↓reduceIte]; (repeat' split) <;> first | omega | (exact q (by omega))) | exact R_go c hc)⟩)
                 · first
                   | (exfalso; omega)
                   | (skip
                      refine zk_nE (fun v1_11 h_v1_11 => ?_)
                      rw [zwi (by omega)] at h_v1_11
                      replace h_v1_11 := h_v1_11.symm
                      subst h_v1_11
                      refine zk_gl 3 rfl (by decide) (by decide) (fun v2_9 h_v2_9 => ?_)
                      have r_v2_9 := RI_3 h_t4
                      refine zk_nE (fun v3_4 h_v3_4 => ?_)
                      rw [zwi (by omega)] at h_v3_4
                      replace h_v3_4 := h_v3_4.symm
                      subst h_v3_4
                      refine zk_n ?_
                      refine zk_d1 (s_HM_in _ _ _ (by omega) (by omega) (by omega)) (fun v5_3 hp_10 => ?_)
                      try dsimp only at hp_10
                      have hp_10p0 := hp_10
                      refine zk_ifc (zci_eqr (by omega)) (fun hc_9 => ?_) (fun hc_9 => ?_)
                      · first
                        | (exfalso; omega)
                        | (skip
                           refine zk_d3 (s_HM_tell _ _ _ (by omega)) (fun v6_3 v7_3 a8_3 hp_11 => ?_)
                           try dsimp only at hp_11
                           obtain ⟨hp_11p0, hp_11p1⟩ := hp_11
                           refine zk_rI5 ?_
                           refine zk_ret ?_
                           try dsimp only
                           exact ⟨by omega, by omega, by omega, h_t4, by first | omega | (simp only [zu_eq, zu, ↓reduceIte]; (repeat' split) <;> omega), by first | omega | (simp only [zu_eq, zu, ↓reduceIte]; (repeat' split) <;> omega), by first | omega | (simp only [zu_eq, zu, ↓reduceIte]; (repeat' split) <;> omega), by (intro c hc; first | (have q := fun h => R_st c h; simp only [zu_eq, zu, ↓reduceIte]; (repeat' split) <;> first | omega | (exact q (by omega))) | exact R_st c hc), by (intro c hc; first | (have q := fun h => R_ex c h; simp only [zu_eq, zu, ↓reduceIte]; (repeat' split) <;> first | omega | (exact q (by omega))) | exact R_ex c hc), by (intro c hc; first | (have q := fun h => R_tr c h; simp only [zu_eq, zu, ↓reduceIte]; (repeat' split) <;> first | omega | (exact q (by omega))) | exact R_tr c hc), by (intro c hc; first | (have q := fun h => R_pl c h; simp only [zu_eq, zu, ↓reduceIte]; (repeat' split) <;> first | omega | (exact q (by omega))) | exact R_pl c hc), by (intro c hc; first | (have q := fun h => R_te c h; simp only [zu_eq, zu, ↓reduceIte]; (repeat' split) <;> first | omega | (exact q (by omega))) | exact R_te c hc), by (intro c hc; first | (have q := fun h => R_go c h; simp only [zu_eq, zu, ↓reduceIte]; (repeat' split) <;> first | omega | (exact q (by omega))) | exact R_go c hc)⟩)
                      · first
                        | (exfalso; omega)
                        | (skip
                           unfold f_HM_force_28
                           refine zk_d3 (s_HM_change _ _ _ _ (by omega)) (fun v1_12 v2_10 a3_6 hp_12 => ?_)
                           try dsimp only at hp_12
                           obtain ⟨hp_12p0, hp_12p1, hp_12p2⟩ := hp_12
                           have i_a3_6 : RI a3_6 := by rw [hp_12p2]; exact RIz_4 h_t4 (by omega)
                           refine zk_rI5 ?_
                           refine zk_ret ?_
                           try dsimp only
                           exact ⟨by omega, by omega, by omega, i_a3_6, by first | omega | (simp only [hp_12p2, zu, ↓reduceIte]; (repeat' split) <;> omega), by first | omega | (simp only [hp_12p2, zu, ↓reduceIte]; (repeat' split) <;> omega), by first | omega | (simp only [hp_12p2, zu, ↓reduceIte]; (repeat' split) <;> omega), by (intro c hc; first | (have q := fun h => R_st c h; simp only [hp_12p2, zu, ↓reduceIte]; (repeat' split) <;> first | omega | (exact q (by omega))) | exact R_st c hc), by (intro c hc; first | (have q := fun h => R_ex c h; simp only [hp_12p2, zu, ↓reduceIte]; (repeat' split) <;> first | omega | (exact q (by omega))) | exact R_ex c hc), by (intro c hc; first | (have q := fun h => R_tr c h; simp only [hp_12p2, zu, ↓reduceIte]; (repeat' split) <;> first | omega | (exact q (by omega))) | exact R_tr c hc), by (intro c hc; first | (have q := fun h => R_pl c h; simp only [hp_12p2, zu, ↓reduceIte]; (repeat' split) <;> first | omega | (exact q (by omega))) | exact R_pl c hc), by (intro c hc; first | (have q := fun h => R_te c h; simp only [hp_12p2, zu, ↓reduceIte]; (repeat' split) <;> first | omega | (exact q (by omega))) | exact R_te c hc), by (intro c hc; first | (have q := fun h => R_go c h; simp only [hp_12p2, zu, ↓reduceIte]; (repeat' split) <;> first | omega | (exact q (by omega))) | exact R_go c hc)⟩)))
            · first
              | (exfalso; omega)
              | (skip
                 unfold f_HS_force_20
                 refine zk_dI3 ?_
                 unfold f_HS_refuse
                 refine zk_nE (fun v1_13 h_v1_13 => ?_)
                 refine zk_gv (by omega) (by decide) (fun v2_11 h_v2_11 => ?_)
                 refine zk_n ?_
                 refine zk_sv (by omega) (by decide) (fun a4_2 h_a4_2 => ?_)
                 refine zk_rI3 ?_
                 refine zk_rI5 ?_
                 refine zk_dI5 ?_
                 unfold f_HM_force
                 refine zk_ifc (zci_eq (by omega) (by omega)) (fun hc_10 => ?_) (fun hc_10 => ?_)
                 · first
                   | (exfalso; omega)
                   | (skip
                      unfold f_HM_force_28
                      refine zk_d3 (s_HM_change _ _ _ _ (by omega)) (fun v1_14 v2_12 a3_7 hp_13 => ?_)
                      try dsimp only at hp_13
                      obtain ⟨hp_13p0, hp_13p1, hp_13p2⟩ := hp_13
                      have i_a3_7 : RI a3_7 := by rw [hp_13p2]; exact RIz_4 h_t4 (by omega)
                      refine zk_rI5 ?_
                      refine zk_ret ?_
                      try dsimp only
                      exact ⟨by omega, by omega, by omega, i_a3_7, by first | omega | (simp only [hp_13p2, h_a4_2, zu, ↓reduceIte]; (repeat' split) <;> omega), by first | omega | (simp only [hp_13p2, h_a4_2, zu, ↓reduceIte]; (repeat' split) <;> omega), by first | omega | (simp only [hp_13p2, h_a4_2, zu, ↓reduceIte]; (repeat' split) <;> omega), by (intro c hc; first | (have q := fun h => R_st c h; simp only [hp_13p2, h_a4_2, zu, ↓reduceIte]; (repeat' split) <;> first | omega | (exact q (by omega))) | exact R_st c hc), by (intro c hc; first | (have q := fun h => R_ex c h; simp only [hp_13p2, h_a4_2, zu, ↓reduceIte]; (repeat' split) <;> first | omega | (exact q (by omega))) | exact R_ex c hc), by (intro c hc; first | (have q := fun h => R_tr c h; simp only [hp_13p2, h_a4_2, zu, ↓reduceIte]; (repeat' split) <;> first | omega | (exact q (by omega))) | exact R_tr c hc), by (intro c hc; first | (have q := fun h => R_pl c h; simp only [hp_13p2, h_a4_2, zu, ↓reduceIte]; (repeat' split) <;> first | omega | (exact q (by omega))) | exact R_pl c hc), by (intro c hc; first | (have q := fun h => R_te c h; simp only [hp_13p2, h_a4_2, zu, ↓reduceIte]; (repeat' split) <;> first | omega | (exact q (by omega))) | exact R_te c hc), by (intro c hc; first | (have q := fun h => R_go c h; simp only [hp_13p2, h_a4_2, zu, ↓reduceIte]; (repeat' split) <;> first | omega | (exact q (by omega))) | exact R_go c hc)⟩)
                 · first
                   | (exfalso; omega)
                   | (skip
                      refine zk_nE (fun v1_15 h_v1_15 => ?_)
                      rw [zwi (by omega)] at h_v1_15
                      replace h_v1_15 := h_v1_15.symm
                      subst h_v1_15
                      refine zk_gl 3 rfl (by decide) (by decide) (fun v2_13 h_v2_13 => ?_)
                      have r_v2_13 := RI_3 h_t4
                      refine zk_nE (fun v3_6 h_v3_6 => ?_)
                      rw [zwi (by omega)] at h_v3_6
                      replace h_v3_6 := h_v3_6.symm
                      subst h_v3_6
                      refine zk_n ?_
                      refine zk_d1 (s_HM_in _ _ _ (by omega) (by omega) (by omega)) (fun v5_4 hp_14 => ?_)
                      try dsimp only at hp_14
                      have hp_14p0 := hp_14
                      refine zk_ifc (zci_eqr (by omega)) (fun hc_11 => ?_) (fun hc_11 => ?_)
                      · first
                        | (exfalso; omega)
                        | (skip
                           refine zk_d3 (s_HM_tell _ _ _ (by omega)) (fun v6_4 v7_4 a8_4 hp_15 => ?_)
                           try dsimp only at hp_15
                           obtain ⟨hp_15p0, hp_15p1⟩ := hp_15
                           refine zk_rI5 ?_
                           refine zk_ret ?_
                           try dsimp only
                           exact ⟨by omega, by omega, by omega, h_t4, by first | omega | (simp only [h_a4_2, zu, ↓reduceIte]; (repeat' split) <;> omega), by first | omega | (simp only [h_a4_2, zu, ↓reduceIte]; (repeat' split) <;> omega), by first | omega | (simp only [h_a4_2, zu, ↓reduceIte]; (repeat' split) <;> omega), by (intro c hc; first | (have q := fun h => R_st c h; simp only [h_a4_2, zu, ↓reduceIte]; (repeat' split) <;> first | omega | (exact q (by omega))) | exact R_st c hc), by (intro c hc; first | (have q := fun h => R_ex c h; simp only [h_a4_2, zu, ↓reduceIte]; (repeat' split) <;> first | omega | (exact q (by omega))) | exact R_ex c hc), by (intro c hc; first | (have q := fun h => R_tr c h; simp only [h_a4_2, zu, ↓reduceIte]; (repeat' split) <;> first | omega | (exact q (by omega))) | exact R_tr c hc), by (intro c hc; first | (have q := fun h => R_pl c h; simp only [h_a4_2, zu, ↓reduceIte]; (repeat' split) <;> first | omega | (exact q (by omega))) | exact R_pl c hc), by (intro c hc; first | (have q := fun h => R_te c h; simp only [h_a4_2, zu, ↓reduceIte]; (repeat' split) <;> first | omega | (exact q (by omega))) | exact R_te c hc), by (intro c hc; first | (have q := fun h => R_go c h; simp only [h_a4_2, zu, ↓reduceIte]; (repeat' split) <;> first | omega | (exact q (by omega))) | exact R_go c hc)⟩)
                      · first
                        | (exfalso; omega)
                        | (skip
                           unfold f_HM_force_28
                           refine zk_d3 (s_HM_change _ _ _ _ (by omega)) (fun v1_16 v2_14 a3_8 hp_16 => ?_)
                           try dsimp only at hp_16
                           obtain ⟨hp_16p0, hp_16p1, hp_16p2⟩ := hp_16
                           have i_a3_8 : RI a3_8 := by rw [hp_16p2]; exact RIz_4 h_t4 (by omega)
                           refine zk_rI5 ?_
                           refine zk_ret ?_
                           try dsimp only
                           exact ⟨by omega, by omega, by omega, i_a3_8, by first | omega | (simp only [hp_16p2, h_a4_2, zu, ↓reduceIte]; (repeat' split) <;> omega), by first | omega | (simp only [hp_16p2, h_a4_2, zu, ↓reduceIte]; (repeat' split) <;> omega), by first | omega | (simp only [hp_16p2, h_a4_2, zu, ↓reduceIte]; (repeat' split) <;> omega), by (intro c hc; first | (have q := fun h => R_st c h; simp only [hp_16p2, h_a4_2, zu, ↓reduceIte]; (repeat' split) <;> first | omega | (exact q (by omega))) | exact R_st c hc), by (intro c hc; first | (have q := fun h => R_ex c h; simp only [hp_16p2, h_a4_2, zu, ↓reduceIte]; (repeat' split) <;> first | omega | (exact q (by omega))) | exact R_ex c hc), by (intro c hc; first | (have q := fun h => R_tr c h; simp only [hp_16p2, h_a4_2, zu, ↓reduceIte]; (repeat' split) <;> first | omega | (exact q (by omega))) | exact R_tr c hc), by (intro c hc; first | (have q := fun h => R_pl c h; simp only [hp_16p2, h_a4_2, zu, ↓reduceIte]; (repeat' split) <;> first | omega | (exact q (by omega))) | exact R_pl c hc), by (intro c hc; first | (have q := fun h => R_te c h; simp only [hp_16p2, h_a4_2, zu, ↓reduceIte]; (repeat' split) <;> first | omega | (exact q (by omega))) | exact R_te c hc), by (intro c hc; first | (have q := fun h => R_go c h; simp only [hp_16p2, h_a4_2, zu, ↓reduceIte]; (repeat' split) <;> first | omega | (exact q (by omega))) | exact R_go c hc)⟩)))))
set_option maxHeartbeats 4000000 in
set_option maxRecDepth 10000 in
theorem st_16 (N : Int) (σ : Nat → Int) (τ : Nat → Nat → Int) (hI : INV N σ τ) (a1 : Int) (b_a1 : (-2147483648) ≤ a1 ∧ a1 ≤ 2147483647) : zok (f_OP_16 N a1 (σ 3) (σ 4) (σ 5) (σ 26) (σ 27) (σ 28) (σ 29) (σ 30) (σ 49) (τ 2) (τ 3) (τ 4) (τ 34) (τ 35) (τ 36) (τ 37) (τ 38) (τ 39)) (fun o => (True) ∧ INV (N + 6) (zst σ [(3, o.2.2.1), (4, o.2.2.2.1), (5, o.2.2.2.2.1), (29, o.2.2.2.2.2.1), (30, o.2.2.2.2.2.2.1)]) (zta τ [(2, o.2.2.2.2.2.2.2.1), (3, o.2.2.2.2.2.2.2.2.1), (4, o.2.2.2.2.2.2.2.2.2)])) := by
  have zg1 := hI.2
  have zg2 := zg1.2
  have zg3 := zg2.2
  have zg4 := zg3.2
  have zg5 := zg4.2
  have zg6 := zg5.2
  have zg7 := zg6.2
  have zg8 := zg7.2
  have zg9 := zg8.2
  have zg10 := zg9.2
  have zg11 := zg10.2
  have zg12 := zg11.2
  have zg13 := zg12.2
  have zg14 := zg13.2
  have zg15 := zg14.2
  have zg16 := zg15.2
  have zg17 := zg16.2
  have zg18 := zg17.2
  have zg19 := zg18.2
  have zg20 := zg19.2
  have zg21 := zg20.2
  have zg22 := zg21.2
  have zg23 := zg22.2
  have zg24 := zg23.2
  have zg25 := zg24.2
  have zg26 := zg25.2
  have zg27 := zg26.2
  have zg28 := zg27.2
  have zg29 := zg28.2
  have zg30 := zg29.2
  have zg31 := zg30.2
  have zg32 := zg31.2
  have zg33 := zg32.2
  have zg34 := zg33.2
  have zg35 := zg34.2
  have zg36 := zg35.2
  have zg37 := zg36.2
  have zg38 := zg37.2
  have zg39 := zg38.2
  have zg40 := zg39.2
  have zg41 := zg40.2
  have zg42 := zg41.2
  have zg43 := zg42.2
  have zg44 := zg43.2
  have zg45 := zg44.2
  have zg46 := zg45.2
  have zg47 := zg46.2
  have zg48 := zg47.2
  have zg49 := zg48.2
  have zg50 := zg49.2
  have zg51 := zg50.2
  have zg52 := zg51.2
  have zg53 := zg52.2
  have zg54 := zg53.2
  have zg55 := zg54.2
  have zg56 := zg55.2
  have zg57 := zg56.2
  have zg58 := zg57.2
  have zg59 := zg58.2
  have zg60 := zg59.2
  have zg61 := zg60.2
  have zg62 := zg61.2
  have zg63 := zg62.2
  have zg64 := zg63.2
  have zg65 := zg64.2
  have zg66 := zg65.2
  have zg67 := zg66.2
  have zg68 := zg67.2
  have zg69 := zg68.2
  have zg70 := zg69.2
  have zg71 := zg70.2
  have zg72 := zg71.2
  have zg73 := zg72.2
  have zg74 := zg73.2
  have zg75 := zg74.2
  have zg76 := zg75.2
  have zg77 := zg76.2
  have zg78 := zg77.2
  have zg79 := zg78.2
  have zg80 := zg79.2
  have zg81 := zg80.2
  have zg82 := zg81.2
  have zg83 := zg82.2
  have zg84 := zg83.2
  have zg85 := zg84.2
  have zg86 := zg85.2
  have zg87 := zg86.2
  have zg88 := zg87.2
  have zg89 := zg88.2
  have zg90 := zg89.2
  have zg91 := zg90.2
  have zg92 := zg91.2
  have zg93 := zg92.2
  have zg94 := zg93.2
  have zg95 := zg94.2
  have zg96 := zg95.2
  have zg97 := zg96.2
  have zg98 := zg97.2
  have zg99 := zg98.2
  have zg100 := zg99.2
  have zg101 := zg100.2
  have zg102 := zg101.2
  have zg103 := zg102.2
  have zg104 := zg103.2
  have zg105 := zg104.2
  have zg106 := zg105.2
  have zg107 := zg106.2
  have zg108 := zg107.2
  have zg109 := zg108.2
  have zg110 := zg109.2
  have zg111 := zg110.2
  have zg112 := zg111.2
  have zg113 := zg112.2
  have zg114 := zg113.2
  have zg115 := zg114.2
  have zg116 := zg115.2
  have zg117 := zg116.2
  have zg118 := zg117.2
  have zg119 := zg118.2
  have zg120 := zg119.2
  have zg121 := zg120.2
  have zg122 := zg121.2
  have zg123 := zg122.2
  have zg124 := zg123.2
  have zg125 := zg124.2
  have I_s3 := zg2.1
  have I_s26 := zg3.1
  have I_s27 := zg4.1
  have I_s28 := zg5.1
  have I_s29 := zg6.1
  have I_s49 := zg21.1
  have I_t4 := zg99.1
  have I_t34 := zg45.1
  have I_t35 := zg46.1
  have I_t36 := zg47.1
  have I_t37 := zg48.1
  have I_t38 := zg49.1
  have I_t39 := zg50.1
  have I_s30 := zg42.1
  have R_many := zg113.1
  have R_ch := zg114.1
  have R_pa := zg115.1
  have R_st := zg116.1
  have R_ex := zg117.1
  have R_tr := zg118.1
  have R_pl := zg119.1
  have R_te := zg120.1
  have R_go := zg121.1
  refine zok_mono (s_OP_16 N a1 (σ 3) (σ 4) (σ 5) (σ 26) (σ 27) (σ 28) (σ 29) (σ 30) (σ 49) (τ 2) (τ 3) (τ 4) (τ 34) (τ 35) (τ 36) (τ 37) (τ 38) (τ 39) b_a1 I_s3 I_s26 I_s27 I_s28 I_s29 I_s49 I_t4 I_t34 I_t35 I_t36 I_t37 I_t38 I_t39 I_s30 R_many R_ch R_pa R_st R_ex R_tr R_pl R_te R_go) (fun o ho => ?_)
  obtain ⟨p0, p1, p2, p3, p4, p5, p6, p7, p8, p9, p10, p11, p12⟩ := ho
  exact ⟨trivial, ⟨hI.1, zg1.1, p0, zg3.1, zg4.1, zg5.1, p1, zg7.1, zg8.1, zg9.1, zg10.1, zg11.1, zg12.1, zg13.1, zg14.1, zg15.1, zg16.1, zg17.1, zg18.1, zg19.1, zg20.1, zg21.1, zg22.1, zg23.1, zg24.1, zg25.1, zg26.1, zg27.1, zg28.1, zg29.1, zg30.1, zg31.1, zg32.1, zg33.1, zg34.1, zg35.1, zg36.1, zg37.1, zg38.1, zg39.1, zg40.1, zg41.1, p2, zg43.1, zg44.1, zg45.1, zg46.1, zg47.1, zg48.1, zg49.1, zg50.1, zg51.1, zg52.1, zg53.1, zg54.1, zg55.1, zg56.1, zg57.1, zg58.1, zg59.1, zg60.1, zg61.1, zg62.1, zg63.1, zg64.1, zg65.1, zg66.1, zg67.1, zg68.1, zg69.1, zg70.1, zg71.1, zg72.1, zg73.1, zg74.1, zg75.1, zg76.1, zg77.1, zg78.1, zg79.1, zg80.1, zg81.1, zg82.1, zg83.1, zg84.1, zg85.1, zg86.1, zg87.1, zg88.1, zg89.1, zg90.1, zg91.1, zg92.1, zg93.1, zg94.1, zg95.1, zg96.1, zg97.1, zg98.1, p3, zg100.1, zg101.1, zg102.1, zg103.1, zg104.1, zg105.1, zg106.1, zg107.1, zg108.1, zg109.1, zg110.1, zg111.1, zg112.1, p4, p5, p6, p7, p8, p9, p10, p11, p12, zg122.1, zg123.1, zg124.1, zg125⟩⟩
noncomputable def f_OP_17 (N : Int) (a1 : Int) (a2 : Int) (a3 : Int) (s4 : Int) (s19 : Int) (s20 : Int) (s21 : Int) (s22 : Int) (s26 : Int) (s28 : Int) (s29 : Int) (s34 : Int) (s35 : Int) (s36 : Int) (s49 : Int) (t4 : Nat → Int) (t14 : Nat → Int) (t15 : Nat → Int) (t16 : Nat → Int) (t17 : Nat → Int) (t34 : Nat → Int) (t35 : Nat → Int) (t38 : Nat → Int) (t40 : Nat → Int) (t41 : Nat → Int) (t46 : Nat → Int) (t47 : Nat → Int) (t63 : Nat → Int) (t64 : Nat → Int) : Option (Int × Int × Int × Int × Int × Int × Int × Int × Int × Int × (Nat → Int) × (Nat → Int) × (Nat → Int) × (Nat → Int) × (Nat → Int) × (Nat → Int)) :=
  zd6 (f_HS_can a1 a2 a3 s26 s28 s29 s49 t34 t35 t38 t40 t41 t63 t64 s34 s35 s36 t46 t47) fun v263 v264 v265 v266 a267 a268 =>
  zd10 (f_HM_can a1 a2 a3 t4 s4 s19 s20 s21 s22 t14 t15 t16 t17) fun v275 v276 v277 v278 v279 v280 a281 a282 a283 a284 =>
  some (v263, v275, v276, v277, v278, v279, v280, v264, v265, v266, a281, a282, a283, a284, a267, a268)
set_option maxHeartbeats 4000000 in
theorem s_OP_17 (N : Int) (a1 : Int) (a2 : Int) (a3 : Int) (s4 : Int) (s19 : Int) (s20 : Int) (s21 : Int) (s22 : Int) (s26 : Int) (s28 : Int) (s29 : Int) (s34 : Int) (s35 : Int) (s36 : Int) (s49 : Int) (t4 : Nat → Int) (t14 : Nat → Int) (t15 : Nat → Int) (t16 : Nat → Int) (t17 : Nat → Int) (t34 : Nat → Int) (t35 : Nat → Int) (t38 : Nat → Int) (t40 : Nat → Int) (t41 : Nat → Int) (t46 : Nat → Int) (t47 : Nat → Int) (t63 : Nat → Int) (t64 : Nat → Int) (b_a1 : (-2147483648) ≤ a1 ∧ a1 ≤ 2147483647) (b_a2 : (-2147483648) ≤ a2 ∧ a2 ≤ 2147483647) (b_a3 : (-2147483648) ≤ a3 ∧ a3 ≤ 2147483647) (b_s26 : 0 ≤ s26 ∧ s26 ≤ 6) (b_s28 : 0 ≤ s28 ∧ s28 ≤ 6) (b_s29 : (-1) ≤ s29 ∧ s29 ≤ 5) (b_s34 : 0 ≤ s34 ∧ s34 ≤ 32) (b_s35 : 0 ≤ s35 ∧ s35 ≤ 2147483647) (b_s36 : 0 ≤ s36 ∧ s36 ≤ 1) (b_s49 : 0 ≤ s49 ∧ s49 ≤ 12) (h_t4 : RI t4) (h_t16 : zR t16 0 10) (h_t17 : zR t17 0 30) (h_t34 : zR t34 0 60) (h_t35 : zR t35 0 1) (h_t38 : zR t38 0 99) (h_t40 : zR t40 (-2147483648) 2147483647) (h_t41 : zR t41 0 424) (h_t46 : zR t46 0 99) (h_t63 : zR t63 0 10) (h_t64 : zR t64 0 30) (R_many : s49 = t4 0) (R_ch : s26 = t4 1) (R_st : RV 3 153 s26 t34 t4) (R_ex : RV 3 154 s26 t35 t4) (R_te : RV 1 5 4 t38 t4) : zok (f_OP_17 N a1 a2 a3 s4 s19 s20 s21 s22 s26 s28 s29 s34 s35 s36 s49 t4 t14 t15 t16 t17 t34 t35 t38 t40 t41 t46 t47 t63 t64) (fun o => (0 ≤ o.2.2.2.2.2.2.2.1 ∧ o.2.2.2.2.2.2.2.1 ≤ 32) ∧ (0 ≤ o.2.2.2.2.2.2.2.2.1 ∧ o.2.2.2.2.2.2.2.2.1 ≤ 2147483647) ∧ (0 ≤ o.2.2.2.2.2.2.2.2.2.1 ∧ o.2.2.2.2.2.2.2.2.2.1 ≤ 1) ∧ zR o.2.2.2.2.2.2.2.2.2.2.2.2.2.2.1 0 99 ∧ zR o.2.2.2.2.2.2.2.2.2.2.2.2.1 0 10 ∧ zR o.2.2.2.2.2.2.2.2.2.2.2.2.2.1 0 30) := by
  unfold f_OP_17
  refine zk_dI6 ?_
  unfold f_HS_can
  refine zk_d1 (s_HS_knows _ _ _ _ _ (by omega) (by omega) (by omega) (by omega) (by omega)) (fun v1 hp => ?_)
  try dsimp only at hp
  obtain ⟨hpp0, hpp1⟩ := hp
  refine zk_ifc (zci_ner (by omega)) (fun hc => ?_) (fun hc => ?_)
  · first
    | (exfalso; omega)
    | (skip
       refine zk_d6 (s_Judge_effortOn _ _ _ _ _ _ _ _ _ _ _ _ _ _ _ _ _ _ _ (by omega) (by omega) (by omega) (by omega) (by omega) (by omega) (by omega) h_t63 h_t64 h_t34 h_t35 h_t38 h_t40 h_t41 (by omega) (by omega) (by omega) h_t46) (fun v2 v3 v4 v5 a6 a7 hp_2 => ?_)
       try dsimp only at hp_2
       obtain ⟨hp_2p0, hp_2p1, hp_2p2, hp_2p3, hp_2p4⟩ := hp_2
       refine zk_ifc (zci_ne (by omega) (by omega)) (fun hc_2 => ?_) (fun hc_2 => ?_)
       · first
         | (exfalso; omega)
         | (skip
            refine zk_rI6 ?_
            refine zk_d10 (s_HM_can _ _ _ _ _ _ _ _ _ _ _ _ _ (by omega) (by omega) (by omega) h_t4 h_t16 h_t17) (fun v275 v276 v277 v278 v279 v280 a281 a282 a283 a284 hp_3 => ?_)
            try dsimp only at hp_3
            obtain ⟨hp_3p0, hp_3p1⟩ := hp_3
            refine zk_ret ?_
            try dsimp only
            exact ⟨by omega, by omega, by omega, hp_2p4, hp_3p0, hp_3p1⟩)
       · first
         | (exfalso; omega)
         | (skip
            refine zk_rI6 ?_
            refine zk_d10 (s_HM_can _ _ _ _ _ _ _ _ _ _ _ _ _ (by omega) (by omega) (by omega) h_t4 h_t16 h_t17) (fun v275_2 v276_2 v277_2 v278_2 v279_2 v280_2 a281_2 a282_2 a283_2 a284_2 hp_4 => ?_)
            try dsimp only at hp_4
            obtain ⟨hp_4p0, hp_4p1⟩ := hp_4
            refine zk_ret ?_
            try dsimp only
            exact ⟨by omega, by omega, by omega, hp_2p4, hp_4p0, hp_4p1⟩))
  · first
    | (exfalso; omega)
    | (skip
       refine zk_rI6 ?_
       refine zk_d10 (s_HM_can _ _ _ _ _ _ _ _ _ _ _ _ _ (by omega) (by omega) (by omega) h_t4 h_t16 h_t17) (fun v275_3 v276_3 v277_3 v278_3 v279_3 v280_3 a281_3 a282_3 a283_3 a284_3 hp_5 => ?_)
       try dsimp only at hp_5
       obtain ⟨hp_5p0, hp_5p1⟩ := hp_5
       refine zk_ret ?_
       try dsimp only
       exact ⟨by omega, by omega, by omega, h_t46, hp_5p0, hp_5p1⟩)
set_option maxHeartbeats 4000000 in
set_option maxRecDepth 10000 in
theorem st_17 (N : Int) (σ : Nat → Int) (τ : Nat → Nat → Int) (hI : INV N σ τ) (a1 : Int) (a2 : Int) (a3 : Int) (b_a1 : (-2147483648) ≤ a1 ∧ a1 ≤ 2147483647) (b_a2 : (-2147483648) ≤ a2 ∧ a2 ≤ 2147483647) (b_a3 : (-2147483648) ≤ a3 ∧ a3 ≤ 2147483647) : zok (f_OP_17 N a1 a2 a3 (σ 4) (σ 19) (σ 20) (σ 21) (σ 22) (σ 26) (σ 28) (σ 29) (σ 34) (σ 35) (σ 36) (σ 49) (τ 4) (τ 14) (τ 15) (τ 16) (τ 17) (τ 34) (τ 35) (τ 38) (τ 40) (τ 41) (τ 46) (τ 47) (τ 63) (τ 64)) (fun o => (True) ∧ INV (N + 6) (zst σ [(4, o.2.2.1), (19, o.2.2.2.1), (20, o.2.2.2.2.1), (21, o.2.2.2.2.2.1), (22, o.2.2.2.2.2.2.1), (34, o.2.2.2.2.2.2.2.1), (35, o.2.2.2.2.2.2.2.2.1), (36, o.2.2.2.2.2.2.2.2.2.1)]) (zta τ [(14, o.2.2.2.2.2.2.2.2.2.2.1), (15, o.2.2.2.2.2.2.2.2.2.2.2.1), (16, o.2.2.2.2.2.2.2.2.2.2.2.2.1), (17, o.2.2.2.2.2.2.2.2.2.2.2.2.2.1), (46, o.2.2.2.2.2.2.2.2.2.2.2.2.2.2.1), (47, o.2.2.2.2.2.2.2.2.2.2.2.2.2.2.2)])) := by
  have zg1 := hI.2
  have zg2 := zg1.2
  have zg3 := zg2.2
  have zg4 := zg3.2
  have zg5 := zg4.2
  have zg6 := zg5.2
  have zg7 := zg6.2
  have zg8 := zg7.2
  have zg9 := zg8.2
  have zg10 := zg9.2
  have zg11 := zg10.2
  have zg12 := zg11.2
  have zg13 := zg12.2
  have zg14 := zg13.2
  have zg15 := zg14.2
  have zg16 := zg15.2
  have zg17 := zg16.2
  have zg18 := zg17.2
  have zg19 := zg18.2
  have zg20 := zg19.2
  have zg21 := zg20.2
  have zg22 := zg21.2
  have zg23 := zg22.2
  have zg24 := zg23.2
  have zg25 := zg24.2
  have zg26 := zg25.2
  have zg27 := zg26.2
  have zg28 := zg27.2
  have zg29 := zg28.2
  have zg30 := zg29.2
  have zg31 := zg30.2
  have zg32 := zg31.2
  have zg33 := zg32.2
  have zg34 := zg33.2
  have zg35 := zg34.2
  have zg36 := zg35.2
  have zg37 := zg36.2
  have zg38 := zg37.2
  have zg39 := zg38.2
  have zg40 := zg39.2
  have zg41 := zg40.2
  have zg42 := zg41.2
  have zg43 := zg42.2
  have zg44 := zg43.2
  have zg45 := zg44.2
  have zg46 := zg45.2
  have zg47 := zg46.2
  have zg48 := zg47.2
  have zg49 := zg48.2
  have zg50 := zg49.2
  have zg51 := zg50.2
  have zg52 := zg51.2
  have zg53 := zg52.2
  have zg54 := zg53.2
  have zg55 := zg54.2
  have zg56 := zg55.2
  have zg57 := zg56.2
  have zg58 := zg57.2
  have zg59 := zg58.2
  have zg60 := zg59.2
  have zg61 := zg60.2
  have zg62 := zg61.2
  have zg63 := zg62.2
  have zg64 := zg63.2
  have zg65 := zg64.2
  have zg66 := zg65.2
  have zg67 := zg66.2
  have zg68 := zg67.2
  have zg69 := zg68.2
  have zg70 := zg69.2
  have zg71 := zg70.2
  have zg72 := zg71.2
  have zg73 := zg72.2
  have zg74 := zg73.2
  have zg75 := zg74.2
  have zg76 := zg75.2
  have zg77 := zg76.2
  have zg78 := zg77.2
  have zg79 := zg78.2
  have zg80 := zg79.2
  have zg81 := zg80.2
  have zg82 := zg81.2
  have zg83 := zg82.2
  have zg84 := zg83.2
  have zg85 := zg84.2
  have zg86 := zg85.2
  have zg87 := zg86.2
  have zg88 := zg87.2
  have zg89 := zg88.2
  have zg90 := zg89.2
  have zg91 := zg90.2
  have zg92 := zg91.2
  have zg93 := zg92.2
  have zg94 := zg93.2
  have zg95 := zg94.2
  have zg96 := zg95.2
  have zg97 := zg96.2
  have zg98 := zg97.2
  have zg99 := zg98.2
  have zg100 := zg99.2
  have zg101 := zg100.2
  have zg102 := zg101.2
  have zg103 := zg102.2
  have zg104 := zg103.2
  have zg105 := zg104.2
  have zg106 := zg105.2
  have zg107 := zg106.2
  have zg108 := zg107.2
  have zg109 := zg108.2
  have zg110 := zg109.2
  have zg111 := zg110.2
  have zg112 := zg111.2
  have zg113 := zg112.2
  have zg114 := zg113.2
  have zg115 := zg114.2
  have zg116 := zg115.2
  have zg117 := zg116.2
  have zg118 := zg117.2
  have zg119 := zg118.2
  have zg120 := zg119.2
  have zg121 := zg120.2
  have zg122 := zg121.2
  have zg123 := zg122.2
  have zg124 := zg123.2
  have zg125 := zg124.2
  have I_s26 := zg3.1
  have I_s28 := zg5.1
  have I_s29 := zg6.1
  have I_s34 := zg10.1
  have I_s35 := zg11.1
  have I_s36 := zg12.1
  have I_s49 := zg21.1
  have I_t4 := zg99.1
  have I_t16 := zg104.1
  have I_t17 := zg105.1
  have I_t34 := zg45.1
  have I_t35 := zg46.1
  have I_t38 := zg49.1
  have I_t40 := zg51.1
  have I_t41 := zg52.1
  have I_t46 := zg56.1
  have I_t63 := zg70.1
  have I_t64 := zg71.1
  have R_many := zg113.1
  have R_ch := zg114.1
  have R_st := zg116.1
  have R_ex := zg117.1
  have R_te := zg120.1
  refine zok_mono (s_OP_17 N a1 a2 a3 (σ 4) (σ 19) (σ 20) (σ 21) (σ 22) (σ 26) (σ 28) (σ 29) (σ 34) (σ 35) (σ 36) (σ 49) (τ 4) (τ 14) (τ 15) (τ 16) (τ 17) (τ 34) (τ 35) (τ 38) (τ 40) (τ 41) (τ 46) (τ 47) (τ 63) (τ 64) b_a1 b_a2 b_a3 I_s26 I_s28 I_s29 I_s34 I_s35 I_s36 I_s49 I_t4 I_t16 I_t17 I_t34 I_t35 I_t38 I_t40 I_t41 I_t46 I_t63 I_t64 R_many R_ch R_st R_ex R_te) (fun o ho => ?_)
  obtain ⟨p0, p1, p2, p3, p4, p5⟩ := ho
  exact ⟨trivial, ⟨hI.1, zg1.1, zg2.1, zg3.1, zg4.1, zg5.1, zg6.1, zg7.1, zg8.1, zg9.1, p0, p1, p2, zg13.1, zg14.1, zg15.1, zg16.1, zg17.1, zg18.1, zg19.1, zg20.1, zg21.1, zg22.1, zg23.1, zg24.1, zg25.1, zg26.1, zg27.1, zg28.1, zg29.1, zg30.1, zg31.1, zg32.1, zg33.1, zg34.1, zg35.1, zg36.1, zg37.1, zg38.1, zg39.1, zg40.1, zg41.1, ⟨zg42.1.1, Int.le_trans zg42.1.2 (Int.le_add_of_nonneg_right (by decide))⟩, zg43.1, zg44.1, zg45.1, zg46.1, zg47.1, zg48.1, zg49.1, zg50.1, zg51.1, zg52.1, zg53.1, zg54.1, zg55.1, p3, zg57.1, zg58.1, zg59.1, zg60.1, zg61.1, zg62.1, zg63.1, zg64.1, zg65.1, zg66.1, zg67.1, zg68.1, zg69.1, zg70.1, zg71.1, zg72.1, zg73.1, zg74.1, zg75.1, zg76.1, zg77.1, zg78.1, zg79.1, zg80.1, zg81.1, zg82.1, zg83.1, zg84.1, zg85.1, zg86.1, zg87.1, zg88.1, zg89.1, zg90.1, zg91.1, zg92.1, zg93.1, zg94.1, zg95.1, zg96.1, zg97.1, zg98.1, zg99.1, zg100.1, zg101.1, zg102.1, zg103.1, p4, p5, zg106.1, zg107.1, zg108.1, zg109.1, zg110.1, zg111.1, zg112.1, zg113.1, zg114.1, zg115.1, zg116.1, zg117.1, zg118.1, zg119.1, zg120.1, zg121.1, zg122.1, zg123.1, zg124.1, zg125⟩⟩
noncomputable def f_OP_18 (N : Int) (a1 : Int) (a2 : Int) (a3 : Int) (s4 : Int) (s19 : Int) (s20 : Int) (s21 : Int) (s22 : Int) (s26 : Int) (s28 : Int) (s29 : Int) (s34 : Int) (s35 : Int) (s36 : Int) (s49 : Int) (t4 : Nat → Int) (t14 : Nat → Int) (t15 : Nat → Int) (t16 : Nat → Int) (t17 : Nat → Int) (t34 : Nat → Int) (t35 : Nat → Int) (t38 : Nat → Int) (t40 : Nat → Int) (t41 : Nat → Int) (t46 : Nat → Int) (t47 : Nat → Int) (t63 : Nat → Int) (t64 : Nat → Int) : Option (Int × Int × Int × Int × Int × Int × Int × Int × Int × Int × (Nat → Int) × (Nat → Int) × (Nat → Int) × (Nat → Int) × (Nat → Int) × (Nat → Int)) :=
  zd6 (f_HS_tires a1 a2 a3 s26 s28 s29 s49 t34 t35 t38 t40 t41 t63 t64 s34 s35 s36 t46 t47) fun v291 v292 v293 v294 a295 a296 =>
  zd10 (f_HM_tires a1 a2 a3 t4 s4 s19 s20 s21 s22 t14 t15 t16 t17) fun v303 v304 v305 v306 v307 v308 a309 a310 a311 a312 =>
  some (v291, v303, v304, v305, v306, v307, v308, v292, v293, v294, a309, a310, a311, a312, a295, a296)
set_option maxHeartbeats 4000000 in
theorem s_OP_18 (N : Int) (a1 : Int) (a2 : Int) (a3 : Int) (s4 : Int) (s19 : Int) (s20 : Int) (s21 : Int) (s22 : Int) (s26 : Int) (s28 : Int) (s29 : Int) (s34 : Int) (s35 : Int) (s36 : Int) (s49 : Int) (t4 : Nat → Int) (t14 : Nat → Int) (t15 : Nat → Int) (t16 : Nat → Int) (t17 : Nat → Int) (t34 : Nat → Int) (t35 : Nat → Int) (t38 : Nat → Int) (t40 : Nat → Int) (t41 : Nat → Int) (t46 : Nat → Int) (t47 : Nat → Int) (t63 : Nat → Int) (t64 : Nat → Int) (b_a1 : (-2147483648) ≤ a1 ∧ a1 ≤ 2147483647) (b_a2 : (-2147483648) ≤ a2 ∧ a2 ≤ 2147483647) (b_a3 : (-2147483648) ≤ a3 ∧ a3 ≤ 2147483647) (b_s26 : 0 ≤ s26 ∧ s26 ≤ 6) (b_s28 : 0 ≤ s28 ∧ s28 ≤ 6) (b_s29 : (-1) ≤ s29 ∧ s29 ≤ 5) (b_s34 : 0 ≤ s34 ∧ s34 ≤ 32) (b_s35 : 0 ≤ s35 ∧ s35 ≤ 2147483647) (b_s36 : 0 ≤ s36 ∧ s36 ≤ 1) (b_s49 : 0 ≤ s49 ∧ s49 ≤ 12) (h_t4 : RI t4) (h_t16 : zR t16 0 10) (h_t17 : zR t17 0 30) (h_t34 : zR t34 0 60) (h_t35 : zR t35 0 1) (h_t38 : zR t38 0 99) (h_t40 : zR t40 (-2147483648) 2147483647) (h_t41 : zR t41 0 424) (h_t46 : zR t46 0 99) (h_t63 : zR t63 0 10) (h_t64 : zR t64 0 30) (R_many : s49 = t4 0) (R_ch : s26 = t4 1) (R_st : RV 3 153 s26 t34 t4) (R_ex : RV 3 154 s26 t35 t4) (R_te : RV 1 5 4 t38 t4) : zok (f_OP_18 N a1 a2 a3 s4 s19 s20 s21 s22 s26 s28 s29 s34 s35 s36 s49 t4 t14 t15 t16 t17 t34 t35 t38 t40 t41 t46 t47 t63 t64) (fun o => (0 ≤ o.2.2.2.2.2.2.2.1 ∧ o.2.2.2.2.2.2.2.1 ≤ 32) ∧ (0 ≤ o.2.2.2.2.2.2.2.2.1 ∧ o.2.2.2.2.2.2.2.2.1 ≤ 2147483647) ∧ (0 ≤ o.2.2.2.2.2.2.2.2.2.1 ∧ o.2.2.2.2.2.2.2.2.2.1 ≤ 1) ∧ zR o.2.2.2.2.2.2.2.2.2.2.2.2.2.2.1 0 99 ∧ zR o.2.2.2.2.2.2.2.2.2.2.2.2.1 0 10 ∧ zR o.2.2.2.2.2.2.2.2.2.2.2.2.2.1 0 30) := by
  unfold f_OP_18
  refine zk_dI6 ?_
  unfold f_HS_tires
  refine zk_d1 (s_HS_knows _ _ _ _ _ (by omega) (by omega) (by omega) (by omega) (by omega)) (fun v1 hp => ?_)
  try dsimp only at hp
  obtain ⟨hpp0, hpp1⟩ := hp
  refine zk_ifc (zci_eqr (by omega)) (fun hc => ?_) (fun hc => ?_)
  · first
    | (exfalso; omega)
    | (skip
       refine zk_rI6 ?_
       refine zk_d10 (s_HM_tires _ _ _ _ _ _ _ _ _ _ _ _ _ (by omega) (by omega) (by omega) h_t4 h_t16 h_t17) (fun v303 v304 v305 v306 v307 v308 a309 a310 a311 a312 hp_2 => ?_)
       try dsimp only at hp_2
       obtain ⟨hp_2p0, hp_2p1⟩ := hp_2
       refine zk_ret ?_
       try dsimp only
       exact ⟨by omega, by omega, by omega, h_t46, hp_2p0, hp_2p1⟩)
  · first
    | (exfalso; omega)
    | (skip
       refine zk_d6 (s_Judge_effortOn _ _ _ _ _ _ _ _ _ _ _ _ _ _ _ _ _ _ _ (by omega) (by omega) (by omega) (by omega) (by omega) (by omega) (by omega) h_t63 h_t64 h_t34 h_t35 h_t38 h_t40 h_t41 (by omega) (by omega) (by omega) h_t46) (fun v2 v3 v4 v5 a6 a7 hp_3 => ?_)
       try dsimp only at hp_3
       obtain ⟨hp_3p0, hp_3p1, hp_3p2, hp_3p3, hp_3p4⟩ := hp_3
       refine zk_rI6 ?_
       refine zk_d10 (s_HM_tires _ _ _ _ _ _ _ _ _ _ _ _ _ (by omega) (by omega) (by omega) h_t4 h_t16 h_t17) (fun v303_2 v304_2 v305_2 v306_2 v307_2 v308_2 a309_2 a310_2 a311_2 a312_2 hp_4 => ?_)
       try dsimp only at hp_4
       obtain ⟨hp_4p0, hp_4p1⟩ := hp_4
       refine zk_ret ?_
       try dsimp only
       exact ⟨by omega, by omega, by omega, hp_3p4, hp_4p0, hp_4p1⟩)
set_option maxHeartbeats 4000000 in
set_option maxRecDepth 10000 in
theorem st_18 (N : Int) (σ : Nat → Int) (τ : Nat → Nat → Int) (hI : INV N σ τ) (a1 : Int) (a2 : Int) (a3 : Int) (b_a1 : (-2147483648) ≤ a1 ∧ a1 ≤ 2147483647) (b_a2 : (-2147483648) ≤ a2 ∧ a2 ≤ 2147483647) (b_a3 : (-2147483648) ≤ a3 ∧ a3 ≤ 2147483647) : zok (f_OP_18 N a1 a2 a3 (σ 4) (σ 19) (σ 20) (σ 21) (σ 22) (σ 26) (σ 28) (σ 29) (σ 34) (σ 35) (σ 36) (σ 49) (τ 4) (τ 14) (τ 15) (τ 16) (τ 17) (τ 34) (τ 35) (τ 38) (τ 40) (τ 41) (τ 46) (τ 47) (τ 63) (τ 64)) (fun o => (True) ∧ INV (N + 6) (zst σ [(4, o.2.2.1), (19, o.2.2.2.1), (20, o.2.2.2.2.1), (21, o.2.2.2.2.2.1), (22, o.2.2.2.2.2.2.1), (34, o.2.2.2.2.2.2.2.1), (35, o.2.2.2.2.2.2.2.2.1), (36, o.2.2.2.2.2.2.2.2.2.1)]) (zta τ [(14, o.2.2.2.2.2.2.2.2.2.2.1), (15, o.2.2.2.2.2.2.2.2.2.2.2.1), (16, o.2.2.2.2.2.2.2.2.2.2.2.2.1), (17, o.2.2.2.2.2.2.2.2.2.2.2.2.2.1), (46, o.2.2.2.2.2.2.2.2.2.2.2.2.2.2.1), (47, o.2.2.2.2.2.2.2.2.2.2.2.2.2.2.2)])) := by
  have zg1 := hI.2
  have zg2 := zg1.2
  have zg3 := zg2.2
  have zg4 := zg3.2
  have zg5 := zg4.2
  have zg6 := zg5.2
  have zg7 := zg6.2
  have zg8 := zg7.2
  have zg9 := zg8.2
  have zg10 := zg9.2
  have zg11 := zg10.2
  have zg12 := zg11.2
  have zg13 := zg12.2
  have zg14 := zg13.2
  have zg15 := zg14.2
  have zg16 := zg15.2
  have zg17 := zg16.2
  have zg18 := zg17.2
  have zg19 := zg18.2
  have zg20 := zg19.2
  have zg21 := zg20.2
  have zg22 := zg21.2
  have zg23 := zg22.2
  have zg24 := zg23.2
  have zg25 := zg24.2
  have zg26 := zg25.2
  have zg27 := zg26.2
  have zg28 := zg27.2
  have zg29 := zg28.2
  have zg30 := zg29.2
  have zg31 := zg30.2
  have zg32 := zg31.2
  have zg33 := zg32.2
  have zg34 := zg33.2
  have zg35 := zg34.2
  have zg36 := zg35.2
  have zg37 := zg36.2
  have zg38 := zg37.2
  have zg39 := zg38.2
  have zg40 := zg39.2
  have zg41 := zg40.2
  have zg42 := zg41.2
  have zg43 := zg42.2
  have zg44 := zg43.2
  have zg45 := zg44.2
  have zg46 := zg45.2
  have zg47 := zg46.2
  have zg48 := zg47.2
  have zg49 := zg48.2
  have zg50 := zg49.2
  have zg51 := zg50.2
  have zg52 := zg51.2
  have zg53 := zg52.2
  have zg54 := zg53.2
  have zg55 := zg54.2
  have zg56 := zg55.2
  have zg57 := zg56.2
  have zg58 := zg57.2
  have zg59 := zg58.2
  have zg60 := zg59.2
  have zg61 := zg60.2
  have zg62 := zg61.2
  have zg63 := zg62.2
  have zg64 := zg63.2
  have zg65 := zg64.2
  have zg66 := zg65.2
  have zg67 := zg66.2
  have zg68 := zg67.2
  have zg69 := zg68.2
  have zg70 := zg69.2
  have zg71 := zg70.2
  have zg72 := zg71.2
  have zg73 := zg72.2
  have zg74 := zg73.2
  have zg75 := zg74.2
  have zg76 := zg75.2
  have zg77 := zg76.2
  have zg78 := zg77.2
  have zg79 := zg78.2
  have zg80 := zg79.2
  have zg81 := zg80.2
  have zg82 := zg81.2
  have zg83 := zg82.2
  have zg84 := zg83.2
  have zg85 := zg84.2
  have zg86 := zg85.2
  have zg87 := zg86.2
  have zg88 := zg87.2
  have zg89 := zg88.2
  have zg90 := zg89.2
  have zg91 := zg90.2
  have zg92 := zg91.2
  have zg93 := zg92.2
  have zg94 := zg93.2
  have zg95 := zg94.2
  have zg96 := zg95.2
  have zg97 := zg96.2
  have zg98 := zg97.2
  have zg99 := zg98.2
  have zg100 := zg99.2
  have zg101 := zg100.2
  have zg102 := zg101.2
  have zg103 := zg102.2
  have zg104 := zg103.2
  have zg105 := zg104.2
  have zg106 := zg105.2
  have zg107 := zg106.2
  have zg108 := zg107.2
  have zg109 := zg108.2
  have zg110 := zg109.2
  have zg111 := zg110.2
  have zg112 := zg111.2
  have zg113 := zg112.2
  have zg114 := zg113.2
  have zg115 := zg114.2
  have zg116 := zg115.2
  have zg117 := zg116.2
  have zg118 := zg117.2
  have zg119 := zg118.2
  have zg120 := zg119.2
  have zg121 := zg120.2
  have zg122 := zg121.2
  have zg123 := zg122.2
  have zg124 := zg123.2
  have zg125 := zg124.2
  have I_s26 := zg3.1
  have I_s28 := zg5.1
  have I_s29 := zg6.1
  have I_s34 := zg10.1
  have I_s35 := zg11.1
  have I_s36 := zg12.1
  have I_s49 := zg21.1
  have I_t4 := zg99.1
  have I_t16 := zg104.1
  have I_t17 := zg105.1
  have I_t34 := zg45.1
  have I_t35 := zg46.1
  have I_t38 := zg49.1
  have I_t40 := zg51.1
  have I_t41 := zg52.1
  have I_t46 := zg56.1
  have I_t63 := zg70.1
  have I_t64 := zg71.1
  have R_many := zg113.1
  have R_ch := zg114.1
  have R_st := zg116.1
  have R_ex := zg117.1
  have R_te := zg120.1
  refine zok_mono (s_OP_18 N a1 a2 a3 (σ 4) (σ 19) (σ 20) (σ 21) (σ 22) (σ 26) (σ 28) (σ 29) (σ 34) (σ 35) (σ 36) (σ 49) (τ 4) (τ 14) (τ 15) (τ 16) (τ 17) (τ 34) (τ 35) (τ 38) (τ 40) (τ 41) (τ 46) (τ 47) (τ 63) (τ 64) b_a1 b_a2 b_a3 I_s26 I_s28 I_s29 I_s34 I_s35 I_s36 I_s49 I_t4 I_t16 I_t17 I_t34 I_t35 I_t38 I_t40 I_t41 I_t46 I_t63 I_t64 R_many R_ch R_st R_ex R_te) (fun o ho => ?_)
  obtain ⟨p0, p1, p2, p3, p4, p5⟩ := ho
  exact ⟨trivial, ⟨hI.1, zg1.1, zg2.1, zg3.1, zg4.1, zg5.1, zg6.1, zg7.1, zg8.1, zg9.1, p0, p1, p2, zg13.1, zg14.1, zg15.1, zg16.1, zg17.1, zg18.1, zg19.1, zg20.1, zg21.1, zg22.1, zg23.1, zg24.1, zg25.1, zg26.1, zg27.1, zg28.1, zg29.1, zg30.1, zg31.1, zg32.1, zg33.1, zg34.1, zg35.1, zg36.1, zg37.1, zg38.1, zg39.1, zg40.1, zg41.1, ⟨zg42.1.1, Int.le_trans zg42.1.2 (Int.le_add_of_nonneg_right (by decide))⟩, zg43.1, zg44.1, zg45.1, zg46.1, zg47.1, zg48.1, zg49.1, zg50.1, zg51.1, zg52.1, zg53.1, zg54.1, zg55.1, p3, zg57.1, zg58.1, zg59.1, zg60.1, zg61.1, zg62.1, zg63.1, zg64.1, zg65.1, zg66.1, zg67.1, zg68.1, zg69.1, zg70.1, zg71.1, zg72.1, zg73.1, zg74.1, zg75.1, zg76.1, zg77.1, zg78.1, zg79.1, zg80.1, zg81.1, zg82.1, zg83.1, zg84.1, zg85.1, zg86.1, zg87.1, zg88.1, zg89.1, zg90.1, zg91.1, zg92.1, zg93.1, zg94.1, zg95.1, zg96.1, zg97.1, zg98.1, zg99.1, zg100.1, zg101.1, zg102.1, zg103.1, p4, p5, zg106.1, zg107.1, zg108.1, zg109.1, zg110.1, zg111.1, zg112.1, zg113.1, zg114.1, zg115.1, zg116.1, zg117.1, zg118.1, zg119.1, zg120.1, zg121.1, zg122.1, zg123.1, zg124.1, zg125⟩⟩
noncomputable def f_OP_19 (N : Int) (a1 : Int) (a2 : Int) (a3 : Int) (s3 : Int) (s4 : Int) (s5 : Int) (s19 : Int) (s20 : Int) (s21 : Int) (s22 : Int) (s26 : Int) (s27 : Int) (s28 : Int) (s29 : Int) (s30 : Int) (s34 : Int) (s35 : Int) (s36 : Int) (s49 : Int) (t2 : Nat → Int) (t3 : Nat → Int) (t4 : Nat → Int) (t14 : Nat → Int) (t15 : Nat → Int) (t16 : Nat → Int) (t17 : Nat → Int) (t34 : Nat → Int) (t35 : Nat → Int) (t36 : Nat → Int) (t37 : Nat → Int) (t38 : Nat → Int) (t39 : Nat → Int) (t40 : Nat → Int) (t41 : Nat → Int) (t46 : Nat → Int) (t47 : Nat → Int) (t63 : Nat → Int) (t64 : Nat → Int) : Option (Int × Int × Int × Int × Int × Int × Int × Int × Int × Int × Int × Int × Int × (Nat → Int) × (Nat → Int) × (Nat → Int) × (Nat → Int) × (Nat → Int) × (Nat → Int) × (Nat → Int) × (Nat → Int) × (Nat → Int) × (Nat → Int) × (Nat → Int)) :=
  zd11 (f_HS_carry a1 a2 a3 s26 s28 s29 s49 t34 t35 t38 t40 t41 s3 s30 t2 s34 s35 s36 t46 t47 t63 t64) fun v319 v320 v321 a322 v323 v324 v325 a326 a327 a328 a329 =>
  zd13 (f_HM_carry a1 a2 a3 s4 s5 s19 s20 s21 s22 t3 t4 t14 t15 t16 t17) fun v336 v337 v338 v339 v340 v341 v342 a343 a344 a345 a346 a347 a348 =>
  some (v319, v336, v320, v337, v338, v339, v340, v341, v342, v321, v323, v324, v325, a322, a343, a344, a345, a346, a347, a348, a326, a327, a328, a329)
set_option maxHeartbeats 4000000 in
theorem s_OP_19 (N : Int) (a1 : Int) (a2 : Int) (a3 : Int) (s3 : Int) (s4 : Int) (s5 : Int) (s19 : Int) (s20 : Int) (s21 : Int) (s22 : Int) (s26 : Int) (s27 : Int) (s28 : Int) (s29 : Int) (s30 : Int) (s34 : Int) (s35 : Int) (s36 : Int) (s49 : Int) (t2 : Nat → Int) (t3 : Nat → Int) (t4 : Nat → Int) (t14 : Nat → Int) (t15 : Nat → Int) (t16 : Nat → Int) (t17 : Nat → Int) (t34 : Nat → Int) (t35 : Nat → Int) (t36 : Nat → Int) (t37 : Nat → Int) (t38 : Nat → Int) (t39 : Nat → Int) (t40 : Nat → Int) (t41 : Nat → Int) (t46 : Nat → Int) (t47 : Nat → Int) (t63 : Nat → Int) (t64 : Nat → Int) (b_a1 : (-2147483648) ≤ a1 ∧ a1 ≤ 2147483647) (b_a2 : (-2147483648) ≤ a2 ∧ a2 ≤ 2147483647) (b_a3 : (-2147483648) ≤ a3 ∧ a3 ≤ 2147483647) (b_s3 : (-6) ≤ s3 ∧ s3 ≤ 0) (b_s26 : 0 ≤ s26 ∧ s26 ≤ 6) (b_s27 : 0 ≤ s27 ∧ s27 ≤ 6) (b_s28 : 0 ≤ s28 ∧ s28 ≤ 6) (b_s29 : (-1) ≤ s29 ∧ s29 ≤ 5) (b_s34 : 0 ≤ s34 ∧ s34 ≤ 32) (b_s35 : 0 ≤ s35 ∧ s35 ≤ 2147483647) (b_s36 : 0 ≤ s36 ∧ s36 ≤ 1) (b_s49 : 0 ≤ s49 ∧ s49 ≤ 12) (h_t4 : RI t4) (h_t16 : zR t16 0 10) (h_t17 : zR t17 0 30) (h_t34 : zR t34 0 60) (h_t35 : zR t35 0 1) (h_t36 : zR t36 0 20) (h_t37 : zR t37 0 11) (h_t38 : zR t38 0 99) (h_t39 : zR t39 (-1) 10) (h_t40 : zR t40 (-2147483648) 2147483647) (h_t41 : zR t41 0 424) (h_t46 : zR t46 0 99) (h_t63 : zR t63 0 10) (h_t64 : zR t64 0 30) (I_s30 : 0 ≤ s30 ∧ s30 ≤ N) (R_many : s49 = t4 0) (R_ch : s26 = t4 1) (R_pa : s27 = t4 2) (R_st : RV 3 153 s26 t34 t4) (R_ex : RV 3 154 s26 t35 t4) (R_tr : RV 3 155 s26 t36 t4) (R_pl : RV 1 171 s27 t37 t4) (R_te : RV 1 5 4 t38 t4) (R_go : RV 1 141 s49 t39 t4) : zok (f_OP_19 N a1 a2 a3 s3 s4 s5 s19 s20 s21 s22 s26 s27 s28 s29 s30 s34 s35 s36 s49 t2 t3 t4 t14 t15 t16 t17 t34 t35 t36 t37 t38 t39 t40 t41 t46 t47 t63 t64) (fun o => ((-6) ≤ o.2.2.1 ∧ o.2.2.1 ≤ 0) ∧ (0 ≤ o.2.2.2.2.2.2.2.2.2.2.1 ∧ o.2.2.2.2.2.2.2.2.2.2.1 ≤ 32) ∧ (0 ≤ o.2.2.2.2.2.2.2.2.2.2.2.1 ∧ o.2.2.2.2.2.2.2.2.2.2.2.1 ≤ 2147483647) ∧ (0 ≤ o.2.2.2.2.2.2.2.2.2.2.2.2.1 ∧ o.2.2.2.2.2.2.2.2.2.2.2.2.1 ≤ 1) ∧ (0 ≤ o.2.2.2.2.2.2.2.2.2.1 ∧ o.2.2.2.2.2.2.2.2.2.1 ≤ N + 6) ∧ zR o.2.2.2.2.2.2.2.2.2.2.2.2.2.2.2.2.2.2.2.2.1 0 99 ∧ zR o.2.2.2.2.2.2.2.2.2.2.2.2.2.2.2.2.2.2.2.2.2.2.1 0 10 ∧ zR o.2.2.2.2.2.2.2.2.2.2.2.2.2.2.2.2.2.2.2.2.2.2.2 0 30 ∧ RI o.2.2.2.2.2.2.2.2.2.2.2.2.2.2.2.1 ∧ zR o.2.2.2.2.2.2.2.2.2.2.2.2.2.2.2.2.2.2.1 0 10 ∧ zR o.2.2.2.2.2.2.2.2.2.2.2.2.2.2.2.2.2.2.2.1 0 30 ∧ (s49 = o.2.2.2.2.2.2.2.2.2.2.2.2.2.2.2.1 0) ∧ (s26 = o.2.2.2.2.2.2.2.2.2.2.2.2.2.2.2.1 1) ∧ (s27 = o.2.2.2.2.2.2.2.2.2.2.2.2.2.2.2.1 2) ∧ (RV 3 153 s26 t34 o.2.2.2.2.2.2.2.2.2.2.2.2.2.2.2.1) ∧ (RV 3 154 s26 t35 o.2.2.2.2.2.2.2.2.2.2.2.2.2.2.2.1) ∧ (RV 3 155 s26 t36 o.2.2.2.2.2.2.2.2.2.2.2.2.2.2.2.1) ∧ (RV 1 171 s27 t37 o.2.2.2.2.2.2.2.2.2.2.2.2.2.2.2.1) ∧ (RV 1 5 4 t38 o.2.2.2.2.2.2.2.2.2.2.2.2.2.2.2.1) ∧ (RV 1 141 s49 t39 o.2.2.2.2.2.2.2.2.2.2.2.2.2.2.2.1)) := by
  unfold f_OP_19
  refine zk_dI11 ?_
  unfold f_HS_carry
  refine zk_d1 (s_HS_knows _ _ _ _ _ (by omega) (by omega) (by omega) (by omega) (by omega)) (fun v1 hp => ?_)
  try dsimp only at hp
  obtain ⟨hpp0, hpp1⟩ := hp
  refine zk_ifc (zci_ner (by omega)) (fun hc => ?_) (fun hc => ?_)
  · first
    | (exfalso; omega)
    | (skip
       refine zk_d6 (s_Judge_effortOn _ _ _ _ _ _ _ _ _ _ _ _ _ _ _ _ _ _ _ (by omega) (by omega) (by omega) (by omega) (by omega) (by omega) (by omega) h_t63 h_t64 h_t34 h_t35 h_t38 h_t40 h_t41 (by omega) (by omega) (by omega) h_t46) (fun v2 v3 v4 v5 a6 a7 hp_2 => ?_)
       try dsimp only at hp_2
       obtain ⟨hp_2p0, hp_2p1, hp_2p2, hp_2p3, hp_2p4⟩ := hp_2
       refine zk_ifc (zci_ne (by omega) (by omega)) (fun hc_2 => ?_) (fun hc_2 => ?_)
       · first
         | (exfalso; omega)
         | (skip
            refine zk_d1 (s_Columns_top _ _ _ _ (by omega) (by omega) h_t63 h_t64) (fun v8 hp_3 => ?_)
            try dsimp only at hp_3
            have hp_3p0 := hp_3
            refine zk_d2 (s_Columns_move _ _ _ _ _ (by omega) (by omega) (by omega) h_t63 h_t64) (fun a9 a10 hp_4 => ?_)
            try dsimp only at hp_4
            obtain ⟨hp_4p0, hp_4p1⟩ := hp_4
            refine zk_dI3 ?_
            unfold f_HS_accept
            refine zk_n ?_
            refine zk_rI3 ?_
            refine zk_rI11 ?_
            refine zk_d13 (s_HM_carry _ _ _ _ _ _ _ _ _ _ _ _ _ _ _ (by omega) (by omega) (by omega) h_t4 h_t16 h_t17) (fun v336 v337 v338 v339 v340 v341 v342 a343 a344 a345 a346 a347 a348 hp_5 => ?_)
            try dsimp only at hp_5
            obtain ⟨hp_5p0, hp_5p1, hp_5p2, hp_5p3⟩ := hp_5
            refine zk_ret ?_
            try dsimp only
            exact ⟨by omega, by omega, by omega, by omega, by omega, hp_2p4, hp_4p0, hp_4p1, hp_5p0, hp_5p1, hp_5p2, by rw [hp_5p3 _ (by omega)]; exact R_many, by rw [hp_5p3 _ (by omega)]; exact R_ch, by rw [hp_5p3 _ (by omega)]; exact R_pa, by intro c hc; rw [hp_5p3 _ (by omega)]; exact R_st c hc, by intro c hc; rw [hp_5p3 _ (by omega)]; exact R_ex c hc, by intro c hc; rw [hp_5p3 _ (by omega)]; exact R_tr c hc, by intro c hc; rw [hp_5p3 _ (by omega)]; exact R_pl c hc, by intro c hc; rw [hp_5p3 _ (by omega)]; exact R_te c hc, by intro c hc; rw [hp_5p3 _ (by omega)]; exact R_go c hc⟩)
       · first
         | (exfalso; omega)
         | (skip
            refine zk_dI3 ?_
            unfold f_HS_refuse
            refine zk_nE (fun v1_3 h_v1_3 => ?_)
            refine zk_gv (by omega) (by decide) (fun v2_2 h_v2_2 => ?_)
            refine zk_n ?_
            refine zk_sv (by omega) (by decide) (fun a4 h_a4 => ?_)
            refine zk_rI3 ?_
            refine zk_rI11 ?_
            refine zk_d13 (s_HM_carry _ _ _ _ _ _ _ _ _ _ _ _ _ _ _ (by omega) (by omega) (by omega) h_t4 h_t16 h_t17) (fun v336_2 v337_2 v338_2 v339_2 v340_2 v341_2 v342_2 a343_2 a344_2 a345_2 a346_2 a347_2 a348_2 hp_6 => ?_)
            try dsimp only at hp_6
            obtain ⟨hp_6p0, hp_6p1, hp_6p2, hp_6p3⟩ := hp_6
            refine zk_ret ?_
            try dsimp only
            exact ⟨by omega, by omega, by omega, by omega, by omega, hp_2p4, h_t63, h_t64, hp_6p0, hp_6p1, hp_6p2, by rw [hp_6p3 _ (by omega)]; exact R_many, by rw [hp_6p3 _ (by omega)]; exact R_ch, by rw [hp_6p3 _ (by omega)]; exact R_pa, by intro c hc; rw [hp_6p3 _ (by omega)]; exact R_st c hc, by intro c hc; rw [hp_6p3 _ (by omega)]; exact R_ex c hc, by intro c hc; rw [hp_6p3 _ (by omega)]; exact R_tr c hc, by intro c hc; rw [hp_6p3 _ (by omega)]; exact R_pl c hc, by intro c hc; rw [hp_6p3 _ (by omega)]; exact R_te c hc, by intro c hc; rw [hp_6p3 _ (by omega)]; exact R_go c hc⟩))
  · first
    | (exfalso; omega)
    | (skip
       refine zk_dI3 ?_
       unfold f_HS_refuse
       refine zk_nE (fun v1_4 h_v1_4 => ?_)
       refine zk_gv (by omega) (by decide) (fun v2_3 h_v2_3 => ?_)
       refine zk_n ?_
       refine zk_sv (by omega) (by decide) (fun a4_2 h_a4_2 => ?_)
       refine zk_rI3 ?_
       refine zk_rI11 ?_
       refine zk_d13 (s_HM_carry _ _ _ _ _ _ _ _ _ _ _ _ _ _ _ (by omega) (by omega) (by omega) h_t4 h_t16 h_t17) (fun v336_3 v337_3 v338_3 v339_3 v340_3 v341_3 v342_3 a343_3 a344_3 a345_3 a346_3 a347_3 a348_3 hp_7 => ?_)
       try dsimp only at hp_7
       obtain ⟨hp_7p0, hp_7p1, hp_7p2, hp_7p3⟩ := hp_7
       refine zk_ret ?_
       try dsimp only
       exact ⟨by omega, by omega, by omega, by omega, by omega, h_t46, h_t63, h_t64, hp_7p0, hp_7p1, hp_7p2, by rw [hp_7p3 _ (by omega)]; exact R_many, by rw [hp_7p3 _ (by omega)]; exact R_ch, by rw [hp_7p3 _ (by omega)]; exact R_pa, by intro c hc; rw [hp_7p3 _ (by omega)]; exact R_st c hc, by intro c hc; rw [hp_7p3 _ (by omega)]; exact R_ex c hc, by intro c hc; rw [hp_7p3 _ (by omega)]; exact R_tr c hc, by intro c hc; rw [hp_7p3 _ (by omega)]; exact R_pl c hc, by intro c hc; rw [hp_7p3 _ (by omega)]; exact R_te c hc, by intro c hc; rw [hp_7p3 _ (by omega)]; exact R_go c hc⟩)
set_option maxHeartbeats 4000000 in
set_option maxRecDepth 10000 in
theorem st_19 (N : Int) (σ : Nat → Int) (τ : Nat → Nat → Int) (hI : INV N σ τ) (a1 : Int) (a2 : Int) (a3 : Int) (b_a1 : (-2147483648) ≤ a1 ∧ a1 ≤ 2147483647) (b_a2 : (-2147483648) ≤ a2 ∧ a2 ≤ 2147483647) (b_a3 : (-2147483648) ≤ a3 ∧ a3 ≤ 2147483647) : zok (f_OP_19 N a1 a2 a3 (σ 3) (σ 4) (σ 5) (σ 19) (σ 20) (σ 21) (σ 22) (σ 26) (σ 27) (σ 28) (σ 29) (σ 30) (σ 34) (σ 35) (σ 36) (σ 49) (τ 2) (τ 3) (τ 4) (τ 14) (τ 15) (τ 16) (τ 17) (τ 34) (τ 35) (τ 36) (τ 37) (τ 38) (τ 39) (τ 40) (τ 41) (τ 46) (τ 47) (τ 63) (τ 64)) (fun o => (True) ∧ INV (N + 6) (zst σ [(3, o.2.2.1), (4, o.2.2.2.1), (5, o.2.2.2.2.1), (19, o.2.2.2.2.2.1), (20, o.2.2.2.2.2.2.1), (21, o.2.2.2.2.2.2.2.1), (22, o.2.2.2.2.2.2.2.2.1), (30, o.2.2.2.2.2.2.2.2.2.1), (34, o.2.2.2.2.2.2.2.2.2.2.1), (35, o.2.2.2.2.2.2.2.2.2.2.2.1), (36, o.2.2.2.2.2.2.2.2.2.2.2.2.1)]) (zta τ [(2, o.2.2.2.2.2.2.2.2.2.2.2.2.2.1), (3, o.2.2.2.2.2.2.2.2.2.2.2.2.2.2.1), (4, o.2.2.2.2.2.2.2.2.2.2.2.2.2.2.2.1), (14, o.2.2.2.2.2.2.2.2.2.2.2.2.2.2.2.2.1), (15, o.2.2.2.2.2.2.2.2.2.2.2.2.2.2.2.2.2.1), (16, o.2.2.2.2.2.2.2.2.2.2.2.2.2.2.2.2.2.2.1), (17, o.2.2.2.2.2.2.2.2.2.2.2.2.2.2.2.2.2.2.2.1), (46, o.2.2.2.2.2.2.2.2.2.2.2.2.2.2.2.2.2.2.2.2.1), (47, o.2.2.2.2.2.2.2.2.2.2.2.2.2.2.2.2.2.2.2.2.2.1), (63, o.2.2.2.2.2.2.2.2.2.2.2.2.2.2.2.2.2.2.2.2.2.2.1), (64, o.2.2.2.2.2.2.2.2.2.2.2.2.2.2.2.2.2.2.2.2.2.2.2)])) := by
  have zg1 := hI.2
  have zg2 := zg1.2
  have zg3 := zg2.2
  have zg4 := zg3.2
  have zg5 := zg4.2
  have zg6 := zg5.2
  have zg7 := zg6.2
  have zg8 := zg7.2
  have zg9 := zg8.2
  have zg10 := zg9.2
  have zg11 := zg10.2
  have zg12 := zg11.2
  have zg13 := zg12.2
  have zg14 := zg13.2
  have zg15 := zg14.2
  have zg16 := zg15.2
  have zg17 := zg16.2
  have zg18 := zg17.2
  have zg19 := zg18.2
  have zg20 := zg19.2
  have zg21 := zg20.2
  have zg22 := zg21.2
  have zg23 := zg22.2
  have zg24 := zg23.2
  have zg25 := zg24.2
  have zg26 := zg25.2
  have zg27 := zg26.2
  have zg28 := zg27.2
  have zg29 := zg28.2
  have zg30 := zg29.2
  have zg31 := zg30.2
  have zg32 := zg31.2
  have zg33 := zg32.2
  have zg34 := zg33.2
  have zg35 := zg34.2
  have zg36 := zg35.2
  have zg37 := zg36.2
  have zg38 := zg37.2
  have zg39 := zg38.2
  have zg40 := zg39.2
  have zg41 := zg40.2
  have zg42 := zg41.2
  have zg43 := zg42.2
  have zg44 := zg43.2
  have zg45 := zg44.2
  have zg46 := zg45.2
  have zg47 := zg46.2
  have zg48 := zg47.2
  have zg49 := zg48.2
  have zg50 := zg49.2
  have zg51 := zg50.2
  have zg52 := zg51.2
  have zg53 := zg52.2
  have zg54 := zg53.2
  have zg55 := zg54.2
  have zg56 := zg55.2
  have zg57 := zg56.2
  have zg58 := zg57.2
  have zg59 := zg58.2
  have zg60 := zg59.2
  have zg61 := zg60.2
  have zg62 := zg61.2
  have zg63 := zg62.2
  have zg64 := zg63.2
  have zg65 := zg64.2
  have zg66 := zg65.2
  have zg67 := zg66.2
  have zg68 := zg67.2
  have zg69 := zg68.2
  have zg70 := zg69.2
  have zg71 := zg70.2
  have zg72 := zg71.2
  have zg73 := zg72.2
  have zg74 := zg73.2
  have zg75 := zg74.2
  have zg76 := zg75.2
  have zg77 := zg76.2
  have zg78 := zg77.2
  have zg79 := zg78.2
  have zg80 := zg79.2
  have zg81 := zg80.2
  have zg82 := zg81.2
  have zg83 := zg82.2
  have zg84 := zg83.2
  have zg85 := zg84.2
  have zg86 := zg85.2
  have zg87 := zg86.2
  have zg88 := zg87.2
  have zg89 := zg88.2
  have zg90 := zg89.2
  have zg91 := zg90.2
  have zg92 := zg91.2
  have zg93 := zg92.2
  have zg94 := zg93.2
  have zg95 := zg94.2
  have zg96 := zg95.2
  have zg97 := zg96.2
  have zg98 := zg97.2
  have zg99 := zg98.2
  have zg100 := zg99.2
  have zg101 := zg100.2
  have zg102 := zg101.2
  have zg103 := zg102.2
  have zg104 := zg103.2
  have zg105 := zg104.2
  have zg106 := zg105.2
  have zg107 := zg106.2
  have zg108 := zg107.2
  have zg109 := zg108.2
  have zg110 := zg109.2
  have zg111 := zg110.2
  have zg112 := zg111.2
  have zg113 := zg112.2
  have zg114 := zg113.2
  have zg115 := zg114.2
  have zg116 := zg115.2
  have zg117 := zg116.2
  have zg118 := zg117.2
  have zg119 := zg118.2
  have zg120 := zg119.2
  have zg121 := zg120.2
  have zg122 := zg121.2
  have zg123 := zg122.2
  have zg124 := zg123.2
  have zg125 := zg124.2
  have I_s3 := zg2.1
  have I_s26 := zg3.1
  have I_s27 := zg4.1
  have I_s28 := zg5.1
  have I_s29 := zg6.1
  have I_s34 := zg10.1
  have I_s35 := zg11.1
  have I_s36 := zg12.1
  have I_s49 := zg21.1
  have I_t4 := zg99.1
  have I_t16 := zg104.1
  have I_t17 := zg105.1
  have I_t34 := zg45.1
  have I_t35 := zg46.1
  have I_t36 := zg47.1
  have I_t37 := zg48.1
  have I_t38 := zg49.1
  have I_t39 := zg50.1
  have I_t40 := zg51.1
  have I_t41 := zg52.1
  have I_t46 := zg56.1
  have I_t63 := zg70.1
  have I_t64 := zg71.1
  have I_s30 := zg42.1
  have R_many := zg113.1
  have R_ch := zg114.1
  have R_pa := zg115.1
  have R_st := zg116.1
  have R_ex := zg117.1
  have R_tr := zg118.1
  have R_pl := zg119.1
  have R_te := zg120.1
  have R_go := zg121.1
  refine zok_mono (s_OP_19 N a1 a2 a3 (σ 3) (σ 4) (σ 5) (σ 19) (σ 20) (σ 21) (σ 22) (σ 26) (σ 27) (σ 28) (σ 29) (σ 30) (σ 34) (σ 35) (σ 36) (σ 49) (τ 2) (τ 3) (τ 4) (τ 14) (τ 15) (τ 16) (τ 17) (τ 34) (τ 35) (τ 36) (τ 37) (τ 38) (τ 39) (τ 40) (τ 41) (τ 46) (τ 47) (τ 63) (τ 64) b_a1 b_a2 b_a3 I_s3 I_s26 I_s27 I_s28 I_s29 I_s34 I_s35 I_s36 I_s49 I_t4 I_t16 I_t17 I_t34 I_t35 I_t36 I_t37 I_t38 I_t39 I_t40 I_t41 I_t46 I_t63 I_t64 I_s30 R_many R_ch R_pa R_st R_ex R_tr R_pl R_te R_go) (fun o ho => ?_)
  obtain ⟨p0, p1, p2, p3, p4, p5, p6, p7, p8, p9, p10, p11, p12, p13, p14, p15, p16, p17, p18, p19⟩ := ho
  exact ⟨trivial, ⟨hI.1, zg1.1, p0, zg3.1, zg4.1, zg5.1, zg6.1, zg7.1, zg8.1, zg9.1, p1, p2, p3, zg13.1, zg14.1, zg15.1, zg16.1, zg17.1, zg18.1, zg19.1, zg20.1, zg21.1, zg22.1, zg23.1, zg24.1, zg25.1, zg26.1, zg27.1, zg28.1, zg29.1, zg30.1, zg31.1, zg32.1, zg33.1, zg34.1, zg35.1, zg36.1, zg37.1, zg38.1, zg39.1, zg40.1, zg41.1, p4, zg43.1, zg44.1, zg45.1, zg46.1, zg47.1, zg48.1, zg49.1, zg50.1, zg51.1, zg52.1, zg53.1, zg54.1, zg55.1, p5, zg57.1, zg58.1, zg59.1, zg60.1, zg61.1, zg62.1, zg63.1, zg64.1, zg65.1, zg66.1, zg67.1, zg68.1, zg69.1, p6, p7, zg72.1, zg73.1, zg74.1, zg75.1, zg76.1, zg77.1, zg78.1, zg79.1, zg80.1, zg81.1, zg82.1, zg83.1, zg84.1, zg85.1, zg86.1, zg87.1, zg88.1, zg89.1, zg90.1, zg91.1, zg92.1, zg93.1, zg94.1, zg95.1, zg96.1, zg97.1, zg98.1, p8, zg100.1, zg101.1, zg102.1, zg103.1, p9, p10, zg106.1, zg107.1, zg108.1, zg109.1, zg110.1, zg111.1, zg112.1, p11, p12, p13, p14, p15, p16, p17, p18, p19, zg122.1, zg123.1, zg124.1, zg125⟩⟩
end
section
noncomputable def f_OP_20 (N : Int) (a1 : Int) (a2 : Int) (a3 : Int) (a4 : Int) (s3 : Int) (s4 : Int) (s5 : Int) (s19 : Int) (s20 : Int) (s21 : Int) (s22 : Int) (s26 : Int) (s27 : Int) (s28 : Int) (s29 : Int) (s30 : Int) (s34 : Int) (s35 : Int) (s36 : Int) (s49 : Int) (t2 : Nat → Int) (t3 : Nat → Int) (t4 : Nat → Int) (t14 : Nat → Int) (t15 : Nat → Int) (t16 : Nat → Int) (t17 : Nat → Int) (t34 : Nat → Int) (t35 : Nat → Int) (t36 : Nat → Int) (t37 : Nat → Int) (t38 : Nat → Int) (t39 : Nat → Int) (t40 : Nat → Int) (t41 : Nat → Int) (t46 : Nat → Int) (t47 : Nat → Int) (t63 : Nat → Int) (t64 : Nat → Int) : Option (Int × Int × Int × Int × Int × Int × Int × Int × Int × Int × Int × Int × Int × (Nat → Int) × (Nat → Int) × (Nat → Int) × (Nat → Int) × (Nat → Int) × (Nat → Int) × (Nat → Int) × (Nat → Int) × (Nat → Int) × (Nat → Int) × (Nat → Int)) :=
  zd11 (f_HS_exchange a1 a2 a3 a4 s26 s28 s29 s49 t34 t35 t38 t40 t41 s3 s30 t2 s34 s35 s36 t46 t47 t63 t64) fun v357 v358 v359 a360 v361 v362 v363 a364 a365 a366 a367 =>
  zd13 (f_HM_exchange a1 a2 a3 a4 s4 s5 s19 s20 s21 s22 t3 t4 t14 t15 t16 t17) fun v376 v377 v378 v379 v380 v381 v382 a383 a384 a385 a386 a387 a388 =>
  some (v357, v376, v358, v377, v378, v379, v380, v381, v382, v359, v361, v362, v363, a360, a383, a384, a385, a386, a387, a388, a364, a365, a366, a367)
set_option maxHeartbeats 4000000 in
theorem s_OP_20 (N : Int) (a1 : Int) (a2 : Int) (a3 : Int) (a4 : Int) (s3 : Int) (s4 : Int) (s5 : Int) (s19 : Int) (s20 : Int) (s21 : Int) (s22 : Int) (s26 : Int) (s27 : Int) (s28 : Int) (s29 : Int) (s30 : Int) (s34 : Int) (s35 : Int) (s36 : Int) (s49 : Int) (t2 : Nat → Int) (t3 : Nat → Int) (t4 : Nat → Int) (t14 : Nat → Int) (t15 : Nat → Int) (t16 : Nat → Int) (t17 : Nat → Int) (t34 : Nat → Int) (t35 : Nat → Int) (t36 : Nat → Int) (t37 : Nat → Int) (t38 : Nat → Int) (t39 : Nat → Int) (t40 : Nat → Int) (t41 : Nat → Int) (t46 : Nat → Int) (t47 : Nat → Int) (t63 : Nat → Int) (t64 : Nat → Int) (b_a1 : (-2147483648) ≤ a1 ∧ a1 ≤ 2147483647) (b_a2 : (-2147483648) ≤ a2 ∧ a2 ≤ 2147483647) (b_a3 : (-2147483648) ≤ a3 ∧ a3 ≤ 2147483647) (b_a4 : (-2147483648) ≤ a4 ∧ a4 ≤ 2147483647) (b_s3 : (-6) ≤ s3 ∧ s3 ≤ 0) (b_s26 : 0 ≤ s26 ∧ s26 ≤ 6) (b_s27 : 0 ≤ s27 ∧ s27 ≤ 6) (b_s28 : 0 ≤ s28 ∧ s28 ≤ 6) (b_s29 : (-1) ≤ s29 ∧ s29 ≤ 5) (b_s34 : 0 ≤ s34 ∧ s34 ≤ 32) (b_s35 : 0 ≤ s35 ∧ s35 ≤ 2147483647) (b_s36 : 0 ≤ s36 ∧ s36 ≤ 1) (b_s49 : 0 ≤ s49 ∧ s49 ≤ 12) (h_t4 : RI t4) (h_t16 : zR t16 0 10) (h_t17 : zR t17 0 30) (h_t34 : zR t34 0 60) (h_t35 : zR t35 0 1) (h_t36 : zR t36 0 20) (h_t37 : zR t37 0 11) (h_t38 : zR t38 0 99) (h_t39 : zR t39 (-1) 10) (h_t40 : zR t40 (-2147483648) 2147483647) (h_t41 : zR t41 0 424) (h_t46 : zR t46 0 99) (h_t63 : zR t63 0 10) (h_t64 : zR t64 0 30) (I_s30 : 0 ≤ s30 ∧ s30 ≤ N) (R_many : s49 = t4 0) (R_ch : s26 = t4 1) (R_pa : s27 = t4 2) (R_st : RV 3 153 s26 t34 t4) (R_ex : RV 3 154 s26 t35 t4) (R_tr : RV 3 155 s26 t36 t4) (R_pl : RV 1 171 s27 t37 t4) (R_te : RV 1 5 4 t38 t4) (R_go : RV 1 141 s49 t39 t4) : zok (f_OP_20 N a1 a2 a3 a4 s3 s4 s5 s19 s20 s21 s22 s26 s27 s28 s29 s30 s34 s35 s36 s49 t2 t3 t4 t14 t15 t16 t17 t34 t35 t36 t37 t38 t39 t40 t41 t46 t47 t63 t64) (fun o => ((-6) ≤ o.2.2.1 ∧ o.2.2.1 ≤ 0) ∧ (0 ≤ o.2.2.2.2.2.2.2.2.2.2.1 ∧ o.2.2.2.2.2.2.2.2.2.2.1 ≤ 32) ∧ (0 ≤ o.2.2.2.2.2.2.2.2.2.2.2.1 ∧ o.2.2.2.2.2.2.2.2.2.2.2.1 ≤ 2147483647) ∧ (0 ≤ o.2.2.2.2.2.2.2.2.2.2.2.2.1 ∧ o.2.2.2.2.2.2.2.2.2.2.2.2.1 ≤ 1) ∧ (0 ≤ o.2.2.2.2.2.2.2.2.2.1 ∧ o.2.2.2.2.2.2.2.2.2.1 ≤ N + 6) ∧ zR o.2.2.2.2.2.2.2.2.2.2.2.2.2.2.2.2.2.2.2.2.1 0 99 ∧ zR o.2.2.2.2.2.2.2.2.2.2.2.2.2.2.2.2.2.2.2.2.2.2.1 0 10 ∧ zR o.2.2.2.2.2.2.2.2.2.2.2.2.2.2.2.2.2.2.2.2.2.2.2 0 30 ∧ RI o.2.2.2.2.2.2.2.2.2.2.2.2.2.2.2.1 ∧ zR o.2.2.2.2.2.2.2.2.2.2.2.2.2.2.2.2.2.2.1 0 10 ∧ zR o.2.2.2.2.2.2.2.2.2.2.2.2.2.2.2.2.2.2.2.1 0 30 ∧ (s49 = o.2.2.2.2.2.2.2.2.2.2.2.2.2.2.2.1 0) ∧ (s26 = o.2.2.2.2.2.2.2.2.2.2.2.2.2.2.2.1 1) ∧ (s27 = o.2.2.2.2.2.2.2.2.2.2.2.2.2.2.2.1 2) ∧ (RV 3 153 s26 t34 o.2.2.2.2.2.2.2.2.2.2.2.2.2.2.2.1) ∧ (RV 3 154 s26 t35 o.2.2.2.2.2.2.2.2.2.2.2.2.2.2.2.1) ∧ (RV 3 155 s26 t36 o.2.2.2.2.2.2.2.2.2.2.2.2.2.2.2.1) ∧ (RV 1 171 s27 t37 o.2.2.2.2.2.2.2.2.2.2.2.2.2.2.2.1) ∧ (RV 1 5 4 t38 o.2.2.2.2.2.2.2.2.2.2.2.2.2.2.2.1) ∧ (RV 1 141 s49 t39 o.2.2.2.2.2.2.2.2.2.2.2.2.2.2.2.1)) := by
  unfold f_OP_20
  refine zk_dI11 ?_
  unfold f_HS_exchange
  refine zk_d1 (s_HS_knows _ _ _ _ _ (by omega) (by omega) (by omega) (by omega) (by omega)) (fun v1 hp => ?_)
  try dsimp only at hp
  obtain ⟨hpp0, hpp1⟩ := hp
  refine zk_ifc (zci_eqr (by omega)) (fun hc => ?_) (fun hc => ?_)
  · first
    | (exfalso; omega)
    | (skip
       unfold f_HS_exchange_25
       refine zk_dI3 ?_
       unfold f_HS_refuse
       refine zk_nE (fun v1_2 h_v1_2 => ?_)
       refine zk_gv (by omega) (by decide) (fun v2 h_v2 => ?_)
       refine zk_n ?_
       refine zk_sv (by omega) (by decide) (fun a4_2 h_a4_2 => ?_)
       refine zk_rI3 ?_
       refine zk_rI11 ?_
       refine zk_d13 (s_HM_exchange _ _ _ _ _ _ _ _ _ _ _ _ _ _ _ _ (by omega) (by omega) (by omega) (by omega) h_t4 h_t16 h_t17) (fun v376 v377 v378 v379 v380 v381 v382 a383 a384 a385 a386 a387 a388 hp_2 => ?_)
       try dsimp only at hp_2
       obtain ⟨hp_2p0, hp_2p1, hp_2p2, hp_2p3⟩ := hp_2
       refine zk_ret ?_
       try dsimp only
       exact ⟨by omega, by omega, by omega, by omega, by omega, h_t46, h_t63, h_t64, hp_2p0, hp_2p1, hp_2p2, by rw [hp_2p3 _ (by omega)]; exact R_many, by rw [hp_2p3 _ (by omega)]; exact R_ch, by rw [hp_2p3 _ (by omega)]; exact R_pa, by intro c hc; rw [hp_2p3 _ (by omega)]; exact R_st c hc, by intro c hc; rw [hp_2p3 _ (by omega)]; exact R_ex c hc, by intro c hc; rw [hp_2p3 _ (by omega)]; exact R_tr c hc, by intro c hc; rw [hp_2p3 _ (by omega)]; exact R_pl c hc, by intro c hc; rw [hp_2p3 _ (by omega)]; exact R_te c hc, by intro c hc; rw [hp_2p3 _ (by omega)]; exact R_go c hc⟩)
  · first
    | (exfalso; omega)
    | (skip
       refine zk_d1 (s_Columns_has _ _ (by omega) (by omega)) (fun v2_2 hp_3 => ?_)
       try dsimp only at hp_3
       obtain ⟨hp_3p0, hp_3p1⟩ := hp_3
       refine zk_ifc (zci_ner (by omega)) (fun hc_2 => ?_) (fun hc_2 => ?_)
       · first
         | (exfalso; omega)
         | (skip
            refine zk_d6 (s_Judge_effortOn _ _ _ _ _ _ _ _ _ _ _ _ _ _ _ _ _ _ _ (by omega) (by omega) (by omega) (by omega) (by omega) (by omega) (by omega) h_t63 h_t64 h_t34 h_t35 h_t38 h_t40 h_t41 (by omega) (by omega) (by omega) h_t46) (fun v3_2 v4 v5 v6 a7 a8 hp_4 => ?_)
            try dsimp only at hp_4
            obtain ⟨hp_4p0, hp_4p1, hp_4p2, hp_4p3, hp_4p4⟩ := hp_4
            refine zk_ifc (zci_ne (by omega) (by omega)) (fun hc_3 => ?_) (fun hc_3 => ?_)
            · first
              | (exfalso; omega)
              | (skip
                 refine zk_d1 (s_Columns_top _ _ _ _ (by omega) (by omega) h_t63 h_t64) (fun v9 hp_5 => ?_)
                 try dsimp only at hp_5
                 have hp_5p0 := hp_5
                 refine zk_d2 (s_Columns_move _ _ _ _ _ (by omega) (by omega) (by omega) h_t63 h_t64) (fun a10 a11 hp_6 => ?_)
                 try dsimp only at hp_6
                 obtain ⟨hp_6p0, hp_6p1⟩ := hp_6
                 refine zk_d1 (s_Columns_top _ _ _ _ (by omega) (by omega) hp_6p0 hp_6p1) (fun v12 hp_7 => ?_)
                 try dsimp only at hp_7
                 have hp_7p0 := hp_7
                 refine zk_n ?_
                 refine zk_nE (fun v14 h_v14 => ?_)
                 have r_v14 := zi_abs_f ((v9 - v12)) (by omega); rw [← h_v14] at r_v14
                 refine zk_d6 (s_Judge_effortOn _ _ _ _ _ _ _ _ _ _ _ _ _ _ _ _ _ _ _ (by omega) (by omega) (by omega) (by omega) (by omega) (by omega) (by omega) hp_6p0 hp_6p1 h_t34 h_t35 h_t38 h_t40 h_t41 (by omega) (by omega) (by omega) hp_4p4) (fun v15 v16 v17 v18 a19 a20 hp_8 => ?_)
                 try dsimp only at hp_8
                 obtain ⟨hp_8p0, hp_8p1, hp_8p2, hp_8p3, hp_8p4⟩ := hp_8
                 refine zk_ifc (zci_eq (by omega) (by omega)) (fun hc_4 => ?_) (fun hc_4 => ?_)
                 · first
                   | (exfalso; omega)
                   | (skip
                      unfold f_HS_exchange_141
                      refine zk_d2 (s_Columns_move _ _ _ _ _ (by omega) (by omega) (by omega) hp_6p0 hp_6p1) (fun a1_2 a2_2 hp_9 => ?_)
                      try dsimp only at hp_9
                      obtain ⟨hp_9p0, hp_9p1⟩ := hp_9
                      refine zk_dI3 ?_
                      unfold f_HS_refuse
                      refine zk_nE (fun v1_3 h_v1_3 => ?_)
                      refine zk_gv (by omega) (by decide) (fun v2_3 h_v2_3 => ?_)
                      refine zk_n ?_
                      refine zk_sv (by omega) (by decide) (fun a4_3 h_a4_3 => ?_)
                      refine zk_rI3 ?_
                      refine zk_rI11 ?_
                      refine zk_d13 (s_HM_exchange _ _ _ _ _ _ _ _ _ _ _ _ _ _ _ _ (by omega) (by omega) (by omega) (by omega) h_t4 h_t16 h_t17) (fun v376_2 v377_2 v378_2 v379_2 v380_2 v381_2 v382_2 a383_2 a384_2 a385_2 a386_2 a387_2 a388_2 hp_10 => ?_)
                      try dsimp only at hp_10
                      obtain ⟨hp_10p0, hp_10p1, hp_10p2, hp_10p3⟩ := hp_10
                      refine zk_ret ?_
                      try dsimp only
                      exact ⟨by omega, by omega, by omega, by omega, by omega, hp_8p4, hp_9p0, hp_9p1, hp_10p0, hp_10p1, hp_10p2, by rw [hp_10p3 _ (by omega)]; exact R_many, by rw [hp_10p3 _ (by omega)]; exact R_ch, by rw [hp_10p3 _ (by omega)]; exact R_pa, by intro c hc; rw [hp_10p3 _ (by omega)]; exact R_st c hc, by intro c hc; rw [hp_10p3 _ (by omega)]; exact R_ex c hc, by intro c hc; rw [hp_10p3 _ (by omega)]; exact R_tr c hc, by intro c hc; rw [hp_10p3 _ (by omega)]; exact R_pl c hc, by intro c hc; rw [hp_10p3 _ (by omega)]; exact R_te c hc, by intro c hc; rw [hp_10p3 _ (by omega)]; exact R_go c hc⟩)
                 · first
                   | (exfalso; omega)
                   | (skip
                      refine zk_gl 3 rfl (by decide) (by decide) (fun v21 h_v21 => ?_)
                      have r_v21 := h_t38 (3)
                      refine zk_ifc (zci_le (by omega) (by omega)) (fun hc_5 => ?_) (fun hc_5 => ?_)
                      · first
                        | (exfalso; omega)
                        | (skip
                           refine zk_d2 (s_Columns_move _ _ _ _ _ (by omega) (by omega) (by omega) hp_6p0 hp_6p1) (fun a22 a23 hp_11 => ?_)
                           try dsimp only at hp_11
                           obtain ⟨hp_11p0, hp_11p1⟩ := hp_11
                           refine zk_dI3 ?_
                           unfold f_HS_accept
                           refine zk_n ?_
                           refine zk_rI3 ?_
                           refine zk_rI11 ?_
                           refine zk_d13 (s_HM_exchange _ _ _ _ _ _ _ _ _ _ _ _ _ _ _ _ (by omega) (by omega) (by omega) (by omega) h_t4 h_t16 h_t17) (fun v376_3 v377_3 v378_3 v379_3 v380_3 v381_3 v382_3 a383_3 a384_3 a385_3 a386_3 a387_3 a388_3 hp_12 => ?_)
                           try dsimp only at hp_12
                           obtain ⟨hp_12p0, hp_12p1, hp_12p2, hp_12p3⟩ := hp_12
                           refine zk_ret ?_
                           try dsimp only
                           exact ⟨by omega, by omega, by omega, by omega, by omega, hp_8p4, hp_11p0, hp_11p1, hp_12p0, hp_12p1, hp_12p2, by rw [hp_12p3 _ (by omega)]; exact R_many, by rw [hp_12p3 _ (by omega)]; exact R_ch, by rw [hp_12p3 _ (by omega)]; exact R_pa, by intro c hc; rw [hp_12p3 _ (by omega)]; exact R_st c hc, by intro c hc; rw [hp_12p3 _ (by omega)]; exact R_ex c hc, by intro c hc; rw [hp_12p3 _ (by omega)]; exact R_tr c hc, by intro c hc; rw [hp_12p3 _ (by omega)]; exact R_pl c hc, by intro c hc; rw [hp_12p3 _ (by omega)]; exact R_te c hc, by intro c hc; rw [hp_12p3 _ (by omega)]; exact R_go c hc⟩)
                      · first
                        | (exfalso; omega)
                        | (skip
                           unfold f_HS_exchange_141
                           refine zk_d2 (s_Columns_move _ _ _ _ _ (by omega) (by omega) (by omega) hp_6p0 hp_6p1) (fun a1_3 a2_3 hp_13 => ?_)
                           try dsimp only at hp_13
                           obtain ⟨hp_13p0, hp_13p1⟩ := hp_13
                           refine zk_dI3 ?_
                           unfold f_HS_refuse
                           refine zk_nE (fun v1_5 h_v1_5 => ?_)
                           refine zk_gv (by omega) (by decide) (fun v2_4 h_v2_4 => ?_)
                           refine zk_n ?_
                           refine zk_sv (by omega) (by decide) (fun a4_4 h_a4_4 => ?_)
                           refine zk_rI3 ?_
                           refine zk_rI11 ?_
                           refine zk_d13 (s_HM_exchange _ _ _ _ _ _ _ _ _ _ _ _ _ _ _ _ (by omega) (by omega) (by omega) (by omega) h_t4 h_t16 h_t17) (fun v376_4 v377_4 v378_4 v379_4 v380_4 v381_4 v382_4 a383_4 a384_4 a385_4 a386_4 a387_4 a388_4 hp_14 => ?_)
                           try dsimp only at hp_14
                           obtain ⟨hp_14p0, hp_14p1, hp_14p2, hp_14p3⟩ := hp_14
                           refine zk_ret ?_
                           try dsimp only
                           exact ⟨by omega, by omega, by omega, by omega, by omega, hp_8p4, hp_13p0, hp_13p1, hp_14p0, hp_14p1, hp_14p2, by rw [hp_14p3 _ (by omega)]; exact R_many, by rw [hp_14p3 _ (by omega)]; exact R_ch, by rw [hp_14p3 _ (by omega)]; exact R_pa, by intro c hc; rw [hp_14p3 _ (by omega)]; exact R_st c hc, by intro c hc; rw [hp_14p3 _ (by omega)]; exact R_ex c hc, by intro c hc; rw [hp_14p3 _ (by omega)]; exact R_tr c hc, by intro c hc; rw [hp_14p3 _ (by omega)]; exact R_pl c hc, by intro c hc; rw [hp_14p3 _ (by omega)]; exact R_te c hc, by intro c hc; rw [hp_14p3 _ (by omega)]; exact R_go c hc⟩)))
            · first
              | (exfalso; omega)
              | (skip
                 refine zk_dI3 ?_
                 unfold f_HS_refuse
                 refine zk_nE (fun v1_6 h_v1_6 => ?_)
                 refine zk_gv (by omega) (by decide) (fun v2_5 h_v2_5 => ?_)
                 refine zk_n ?_
                 refine zk_sv (by omega) (by decide) (fun a4_5 h_a4_5 => ?_)
                 refine zk_rI3 ?_
                 refine zk_rI11 ?_
                 refine zk_d13 (s_HM_exchange _ _ _ _ _ _ _ _ _ _ _ _ _ _ _ _ (by omega) (by omega) (by omega) (by omega) h_t4 h_t16 h_t17) (fun v376_5 v377_5 v378_5 v379_5 v380_5 v381_5 v382_5 a383_5 a384_5 a385_5 a386_5 a387_5 a388_5 hp_15 => ?_)
                 try dsimp only at hp_15
                 obtain ⟨hp_15p0, hp_15p1, hp_15p2, hp_15p3⟩ := hp_15
                 refine zk_ret ?_
                 try dsimp only
                 exact ⟨by omega, by omega, by omega, by omega, by omega, hp_4p4, h_t63, h_t64, hp_15p0, hp_15p1, hp_15p2, by rw [hp_15p3 _ (by omega)]; exact R_many, by rw [hp_15p3 _ (by omega)]; exact R_ch, by rw [hp_15p3 _ (by omega)]; exact R_pa, by intro c hc; rw [hp_15p3 _ (by omega)]; exact R_st c hc, by intro c hc; rw [hp_15p3 _ (by omega)]; exact R_ex c hc, by intro c hc; rw [hp_15p3 _ (by omega)]; exact R_tr c hc, by intro c hc; rw [hp_15p3 _ (by omega)]; exact R_pl c hc, by intro c hc; rw [hp_15p3 _ (by omega)]; exact R_te c hc, by intro c hc; rw [hp_15p3 _ (by omega)]; exact R_go c hc⟩))
       · first
         | (exfalso; omega)
         | (skip
            unfold f_HS_exchange_25
            refine zk_dI3 ?_
            unfold f_HS_refuse
            refine zk_nE (fun v1_7 h_v1_7 => ?_)
            refine zk_gv (by omega) (by decide) (fun v2_6 h_v2_6 => ?_)
            refine zk_n ?_
            refine zk_sv (by omega) (by decide) (fun a4_6 h_a4_6 => ?_)
            refine zk_rI3 ?_
            refine zk_rI11 ?_
            refine zk_d13 (s_HM_exchange _ _ _ _ _ _ _ _ _ _ _ _ _ _ _ _ (by omega) (by omega) (by omega) (by omega) h_t4 h_t16 h_t17) (fun v376_6 v377_6 v378_6 v379_6 v380_6 v381_6 v382_6 a383_6 a384_6 a385_6 a386_6 a387_6 a388_6 hp_16 => ?_)
            try dsimp only at hp_16
            obtain ⟨hp_16p0, hp_16p1, hp_16p2, hp_16p3⟩ := hp_16
            refine zk_ret ?_
            try dsimp only
            exact ⟨by omega, by omega, by omega, by omega, by omega, h_t46, h_t63, h_t64, hp_16p0, hp_16p1, hp_16p2, by rw [hp_16p3 _ (by omega)]; exact R_many, by rw [hp_16p3 _ (by omega)]; exact R_ch, by rw [hp_16p3 _ (by omega)]; exact R_pa, by intro c hc; rw [hp_16p3 _ (by omega)]; exact R_st c hc, by intro c hc; rw [hp_16p3 _ (by omega)]; exact R_ex c hc, by intro c hc; rw [hp_16p3 _ (by omega)]; exact R_tr c hc, by intro c hc; rw [hp_16p3 _ (by omega)]; exact R_pl c hc, by intro c hc; rw [hp_16p3 _ (by omega)]; exact R_te c hc, by intro c hc; rw [hp_16p3 _ (by omega)]; exact R_go c hc⟩))
set_option maxHeartbeats 4000000 in
set_option maxRecDepth 10000 in
theorem st_20 (N : Int) (σ : Nat → Int) (τ : Nat → Nat → Int) (hI : INV N σ τ) (a1 : Int) (a2 : Int) (a3 : Int) (a4 : Int) (b_a1 : (-2147483648) ≤ a1 ∧ a1 ≤ 2147483647) (b_a2 : (-2147483648) ≤ a2 ∧ a2 ≤ 2147483647) (b_a3 : (-2147483648) ≤ a3 ∧ a3 ≤ 2147483647) (b_a4 : (-2147483648) ≤ a4 ∧ a4 ≤ 2147483647) : zok (f_OP_20 N a1 a2 a3 a4 (σ 3) (σ 4) (σ 5) (σ 19) (σ 20) (σ 21) (σ 22) (σ 26) (σ 27) (σ 28) (σ 29) (σ 30) (σ 34) (σ 35) (σ 36) (σ 49) (τ 2) (τ 3) (τ 4) (τ 14) (τ 15) (τ 16) (τ 17) (τ 34) (τ 35) (τ 36) (τ 37) (τ 38) (τ 39) (τ 40) (τ 41) (τ 46) (τ 47) (τ 63) (τ 64)) (fun o => (True) ∧ INV (N + 6) (zst σ [(3, o.2.2.1), (4, o.2.2.2.1), (5, o.2.2.2.2.1), (19, o.2.2.2.2.2.1), (20, o.2.2.2.2.2.2.1), (21, o.2.2.2.2.2.2.2.1), (22, o.2.2.2.2.2.2.2.2.1), (30, o.2.2.2.2.2.2.2.2.2.1), (34, o.2.2.2.2.2.2.2.2.2.2.1), (35, o.2.2.2.2.2.2.2.2.2.2.2.1), (36, o.2.2.2.2.2.2.2.2.2.2.2.2.1)]) (zta τ [(2, o.2.2.2.2.2.2.2.2.2.2.2.2.2.1), (3, o.2.2.2.2.2.2.2.2.2.2.2.2.2.2.1), (4, o.2.2.2.2.2.2.2.2.2.2.2.2.2.2.2.1), (14, o.2.2.2.2.2.2.2.2.2.2.2.2.2.2.2.2.1), (15, o.2.2.2.2.2.2.2.2.2.2.2.2.2.2.2.2.2.1), (16, o.2.2.2.2.2.2.2.2.2.2.2.2.2.2.2.2.2.2.1), (17, o.2.2.2.2.2.2.2.2.2.2.2.2.2.2.2.2.2.2.2.1), (46, o.2.2.2.2.2.2.2.2.2.2.2.2.2.2.2.2.2.2.2.2.1), (47, o.2.2.2.2.2.2.2.2.2.2.2.2.2.2.2.2.2.2.2.2.2.1), (63, o.2.2.2.2.2.2.2.2.2.2.2.2.2.2.2.2.2.2.2.2.2.2.1), (64, o.2.2.2.2.2.2.2.2.2.2.2.2.2.2.2.2.2.2.2.2.2.2.2)])) := by
  have zg1 := hI.2
  have zg2 := zg1.2
  have zg3 := zg2.2
  have zg4 := zg3.2
  have zg5 := zg4.2
  have zg6 := zg5.2
  have zg7 := zg6.2
  have zg8 := zg7.2
  have zg9 := zg8.2
  have zg10 := zg9.2
  have zg11 := zg10.2
  have zg12 := zg11.2
  have zg13 := zg12.2
  have zg14 := zg13.2
  have zg15 := zg14.2
  have zg16 := zg15.2
  have zg17 := zg16.2
  have zg18 := zg17.2
  have zg19 := zg18.2
  have zg20 := zg19.2
  have zg21 := zg20.2
  have zg22 := zg21.2
  have zg23 := zg22.2
  have zg24 := zg23.2
  have zg25 := zg24.2
  have zg26 := zg25.2
  have zg27 := zg26.2
  have zg28 := zg27.2
  have zg29 := zg28.2
  have zg30 := zg29.2
  have zg31 := zg30.2
  have zg32 := zg31.2
  have zg33 := zg32.2
  have zg34 := zg33.2
  have zg35 := zg34.2
  have zg36 := zg35.2
  have zg37 := zg36.2
  have zg38 := zg37.2
  have zg39 := zg38.2
  have zg40 := zg39.2
  have zg41 := zg40.2
  have zg42 := zg41.2
  have zg43 := zg42.2
  have zg44 := zg43.2
  have zg45 := zg44.2
  have zg46 := zg45.2
  have zg47 := zg46.2
  have zg48 := zg47.2
  have zg49 := zg48.2
  have zg50 := zg49.2
  have zg51 := zg50.2
  have zg52 := zg51.2
  have zg53 := zg52.2
  have zg54 := zg53.2
  have zg55 := zg54.2
  have zg56 := zg55.2
  have zg57 := zg56.2
  have zg58 := zg57.2
  have zg59 := zg58.2
  have zg60 := zg59.2
  have zg61 := zg60.2
  have zg62 := zg61.2
  have zg63 := zg62.2
  have zg64 := zg63.2
  have zg65 := zg64.2
  have zg66 := zg65.2
  have zg67 := zg66.2
  have zg68 := zg67.2
  have zg69 := zg68.2
  have zg70 := zg69.2
  have zg71 := zg70.2
  have zg72 := zg71.2
  have zg73 := zg72.2
  have zg74 := zg73.2
  have zg75 := zg74.2
  have zg76 := zg75.2
  have zg77 := zg76.2
  have zg78 := zg77.2
  have zg79 := zg78.2
  have zg80 := zg79.2
  have zg81 := zg80.2
  have zg82 := zg81.2
  have zg83 := zg82.2
  have zg84 := zg83.2
  have zg85 := zg84.2
  have zg86 := zg85.2
  have zg87 := zg86.2
  have zg88 := zg87.2
  have zg89 := zg88.2
  have zg90 := zg89.2
  have zg91 := zg90.2
  have zg92 := zg91.2
  have zg93 := zg92.2
  have zg94 := zg93.2
  have zg95 := zg94.2
  have zg96 := zg95.2
  have zg97 := zg96.2
  have zg98 := zg97.2
  have zg99 := zg98.2
  have zg100 := zg99.2
  have zg101 := zg100.2
  have zg102 := zg101.2
  have zg103 := zg102.2
  have zg104 := zg103.2
  have zg105 := zg104.2
  have zg106 := zg105.2
  have zg107 := zg106.2
  have zg108 := zg107.2
  have zg109 := zg108.2
  have zg110 := zg109.2
  have zg111 := zg110.2
  have zg112 := zg111.2
  have zg113 := zg112.2
  have zg114 := zg113.2
  have zg115 := zg114.2
  have zg116 := zg115.2
  have zg117 := zg116.2
  have zg118 := zg117.2
  have zg119 := zg118.2
  have zg120 := zg119.2
  have zg121 := zg120.2
  have zg122 := zg121.2
  have zg123 := zg122.2
  have zg124 := zg123.2
  have zg125 := zg124.2
  have I_s3 := zg2.1
  have I_s26 := zg3.1
  have I_s27 := zg4.1
  have I_s28 := zg5.1
  have I_s29 := zg6.1
  have I_s34 := zg10.1
  have I_s35 := zg11.1
  have I_s36 := zg12.1
  have I_s49 := zg21.1
  have I_t4 := zg99.1
  have I_t16 := zg104.1
  have I_t17 := zg105.1
  have I_t34 := zg45.1
  have I_t35 := zg46.1
  have I_t36 := zg47.1
  have I_t37 := zg48.1
  have I_t38 := zg49.1
  have I_t39 := zg50.1
  have I_t40 := zg51.1
  have I_t41 := zg52.1
  have I_t46 := zg56.1
  have I_t63 := zg70.1
  have I_t64 := zg71.1
  have I_s30 := zg42.1
  have R_many := zg113.1
  have R_ch := zg114.1
  have R_pa := zg115.1
  have R_st := zg116.1
  have R_ex := zg117.1
  have R_tr := zg118.1
  have R_pl := zg119.1
  have R_te := zg120.1
  have R_go := zg121.1
  refine zok_mono (s_OP_20 N a1 a2 a3 a4 (σ 3) (σ 4) (σ 5) (σ 19) (σ 20) (σ 21) (σ 22) (σ 26) (σ 27) (σ 28) (σ 29) (σ 30) (σ 34) (σ 35) (σ 36) (σ 49) (τ 2) (τ 3) (τ 4) (τ 14) (τ 15) (τ 16) (τ 17) (τ 34) (τ 35) (τ 36) (τ 37) (τ 38) (τ 39) (τ 40) (τ 41) (τ 46) (τ 47) (τ 63) (τ 64) b_a1 b_a2 b_a3 b_a4 I_s3 I_s26 I_s27 I_s28 I_s29 I_s34 I_s35 I_s36 I_s49 I_t4 I_t16 I_t17 I_t34 I_t35 I_t36 I_t37 I_t38 I_t39 I_t40 I_t41 I_t46 I_t63 I_t64 I_s30 R_many R_ch R_pa R_st R_ex R_tr R_pl R_te R_go) (fun o ho => ?_)
  obtain ⟨p0, p1, p2, p3, p4, p5, p6, p7, p8, p9, p10, p11, p12, p13, p14, p15, p16, p17, p18, p19⟩ := ho
  exact ⟨trivial, ⟨hI.1, zg1.1, p0, zg3.1, zg4.1, zg5.1, zg6.1, zg7.1, zg8.1, zg9.1, p1, p2, p3, zg13.1, zg14.1, zg15.1, zg16.1, zg17.1, zg18.1, zg19.1, zg20.1, zg21.1, zg22.1, zg23.1, zg24.1, zg25.1, zg26.1, zg27.1, zg28.1, zg29.1, zg30.1, zg31.1, zg32.1, zg33.1, zg34.1, zg35.1, zg36.1, zg37.1, zg38.1, zg39.1, zg40.1, zg41.1, p4, zg43.1, zg44.1, zg45.1, zg46.1, zg47.1, zg48.1, zg49.1, zg50.1, zg51.1, zg52.1, zg53.1, zg54.1, zg55.1, p5, zg57.1, zg58.1, zg59.1, zg60.1, zg61.1, zg62.1, zg63.1, zg64.1, zg65.1, zg66.1, zg67.1, zg68.1, zg69.1, p6, p7, zg72.1, zg73.1, zg74.1, zg75.1, zg76.1, zg77.1, zg78.1, zg79.1, zg80.1, zg81.1, zg82.1, zg83.1, zg84.1, zg85.1, zg86.1, zg87.1, zg88.1, zg89.1, zg90.1, zg91.1, zg92.1, zg93.1, zg94.1, zg95.1, zg96.1, zg97.1, zg98.1, p8, zg100.1, zg101.1, zg102.1, zg103.1, p9, p10, zg106.1, zg107.1, zg108.1, zg109.1, zg110.1, zg111.1, zg112.1, p11, p12, p13, p14, p15, p16, p17, p18, p19, zg122.1, zg123.1, zg124.1, zg125⟩⟩
noncomputable def f_OP_21 (N : Int) (s4 : Int) (s49 : Int) (t4 : Nat → Int) (t16 : Nat → Int) (t17 : Nat → Int) (t38 : Nat → Int) (t63 : Nat → Int) : Option (Int × Int × Int × (Nat → Int) × (Nat → Int)) :=
  zd1 (f_HS_steep s49 t38 t63) fun v389 =>
  zd4 (f_HM_steep t4 s4 t16 t17) fun v390 v391 a392 a393 =>
  some (v389, v390, v391, a392, a393)
set_option maxHeartbeats 4000000 in
theorem s_OP_21 (N : Int) (s4 : Int) (s49 : Int) (t4 : Nat → Int) (t16 : Nat → Int) (t17 : Nat → Int) (t38 : Nat → Int) (t63 : Nat → Int) (b_s49 : 0 ≤ s49 ∧ s49 ≤ 12) (h_t4 : RI t4) (h_t16 : zR t16 0 10) (h_t17 : zR t17 0 30) (h_t38 : zR t38 0 99) (h_t63 : zR t63 0 10) (R_many : s49 = t4 0) (R_te : RV 1 5 4 t38 t4) : zok (f_OP_21 N s4 s49 t4 t16 t17 t38 t63) (fun o => zR o.2.2.2.1 0 10 ∧ zR o.2.2.2.2 0 30) := by
  unfold f_OP_21
  refine zk_dI1 ?_
  unfold f_HS_steep
  refine zk_gl 2 rfl (by decide) (by decide) (fun v1 h_v1 => ?_)
  have r_v1 := h_t38 (2)
  refine zk_d1 (s_Columns_lowestSteep _ _ _ (by omega) (by omega) h_t63) (fun v2 hp => ?_)
  try dsimp only at hp
  have hpp0 := hp
  refine zk_rI1 ?_
  refine zk_d4 (s_HM_steep _ _ _ _ h_t4 h_t16 h_t17) (fun v390 v391 a392 a393 hp_2 => ?_)
  try dsimp only at hp_2
  obtain ⟨hp_2p0, hp_2p1⟩ := hp_2
  refine zk_ret ?_
  try dsimp only
  exact ⟨hp_2p0, hp_2p1⟩
set_option maxHeartbeats 4000000 in
set_option maxRecDepth 10000 in
theorem st_21 (N : Int) (σ : Nat → Int) (τ : Nat → Nat → Int) (hI : INV N σ τ)   : zok (f_OP_21 N (σ 4) (σ 49) (τ 4) (τ 16) (τ 17) (τ 38) (τ 63)) (fun o => (True) ∧ INV (N + 6) (zst σ [(4, o.2.2.1)]) (zta τ [(16, o.2.2.2.1), (17, o.2.2.2.2)])) := by
  have zg1 := hI.2
  have zg2 := zg1.2
  have zg3 := zg2.2
  have zg4 := zg3.2
  have zg5 := zg4.2
  have zg6 := zg5.2
  have zg7 := zg6.2
  have zg8 := zg7.2
  have zg9 := zg8.2
  have zg10 := zg9.2
  have zg11 := zg10.2
  have zg12 := zg11.2
  have zg13 := zg12.2
  have zg14 := zg13.2
  have zg15 := zg14.2
  have zg16 := zg15.2
  have zg17 := zg16.2
  have zg18 := zg17.2
  have zg19 := zg18.2
  have zg20 := zg19.2
  have zg21 := zg20.2
  have zg22 := zg21.2
  have zg23 := zg22.2
  have zg24 := zg23.2
  have zg25 := zg24.2
  have zg26 := zg25.2
  have zg27 := zg26.2
  have zg28 := zg27.2
  have zg29 := zg28.2
  have zg30 := zg29.2
  have zg31 := zg30.2
  have zg32 := zg31.2
  have zg33 := zg32.2
  have zg34 := zg33.2
  have zg35 := zg34.2
  have zg36 := zg35.2
  have zg37 := zg36.2
  have zg38 := zg37.2
  have zg39 := zg38.2
  have zg40 := zg39.2
  have zg41 := zg40.2
  have zg42 := zg41.2
  have zg43 := zg42.2
  have zg44 := zg43.2
  have zg45 := zg44.2
  have zg46 := zg45.2
  have zg47 := zg46.2
  have zg48 := zg47.2
  have zg49 := zg48.2
  have zg50 := zg49.2
  have zg51 := zg50.2
  have zg52 := zg51.2
  have zg53 := zg52.2
  have zg54 := zg53.2
  have zg55 := zg54.2
  have zg56 := zg55.2
  have zg57 := zg56.2
  have zg58 := zg57.2
  have zg59 := zg58.2
  have zg60 := zg59.2
  have zg61 := zg60.2
  have zg62 := zg61.2
  have zg63 := zg62.2
  have zg64 := zg63.2
  have zg65 := zg64.2
  have zg66 := zg65.2
  have zg67 := zg66.2
  have zg68 := zg67.2
  have zg69 := zg68.2
  have zg70 := zg69.2
  have zg71 := zg70.2
  have zg72 := zg71.2
  have zg73 := zg72.2
  have zg74 := zg73.2
  have zg75 := zg74.2
  have zg76 := zg75.2
  have zg77 := zg76.2
  have zg78 := zg77.2
  have zg79 := zg78.2
  have zg80 := zg79.2
  have zg81 := zg80.2
  have zg82 := zg81.2
  have zg83 := zg82.2
  have zg84 := zg83.2
  have zg85 := zg84.2
  have zg86 := zg85.2
  have zg87 := zg86.2
  have zg88 := zg87.2
  have zg89 := zg88.2
  have zg90 := zg89.2
  have zg91 := zg90.2
  have zg92 := zg91.2
  have zg93 := zg92.2
  have zg94 := zg93.2
  have zg95 := zg94.2
  have zg96 := zg95.2
  have zg97 := zg96.2
  have zg98 := zg97.2
  have zg99 := zg98.2
  have zg100 := zg99.2
  have zg101 := zg100.2
  have zg102 := zg101.2
  have zg103 := zg102.2
  have zg104 := zg103.2
  have zg105 := zg104.2
  have zg106 := zg105.2
  have zg107 := zg106.2
  have zg108 := zg107.2
  have zg109 := zg108.2
  have zg110 := zg109.2
  have zg111 := zg110.2
  have zg112 := zg111.2
  have zg113 := zg112.2
  have zg114 := zg113.2
  have zg115 := zg114.2
  have zg116 := zg115.2
  have zg117 := zg116.2
  have zg118 := zg117.2
  have zg119 := zg118.2
  have zg120 := zg119.2
  have zg121 := zg120.2
  have zg122 := zg121.2
  have zg123 := zg122.2
  have zg124 := zg123.2
  have zg125 := zg124.2
  have I_s49 := zg21.1
  have I_t4 := zg99.1
  have I_t16 := zg104.1
  have I_t17 := zg105.1
  have I_t38 := zg49.1
  have I_t63 := zg70.1
  have R_many := zg113.1
  have R_te := zg120.1
  refine zok_mono (s_OP_21 N (σ 4) (σ 49) (τ 4) (τ 16) (τ 17) (τ 38) (τ 63) I_s49 I_t4 I_t16 I_t17 I_t38 I_t63 R_many R_te) (fun o ho => ?_)
  obtain ⟨p0, p1⟩ := ho
  exact ⟨trivial, ⟨hI.1, zg1.1, zg2.1, zg3.1, zg4.1, zg5.1, zg6.1, zg7.1, zg8.1, zg9.1, zg10.1, zg11.1, zg12.1, zg13.1, zg14.1, zg15.1, zg16.1, zg17.1, zg18.1, zg19.1, zg20.1, zg21.1, zg22.1, zg23.1, zg24.1, zg25.1, zg26.1, zg27.1, zg28.1, zg29.1, zg30.1, zg31.1, zg32.1, zg33.1, zg34.1, zg35.1, zg36.1, zg37.1, zg38.1, zg39.1, zg40.1, zg41.1, ⟨zg42.1.1, Int.le_trans zg42.1.2 (Int.le_add_of_nonneg_right (by decide))⟩, zg43.1, zg44.1, zg45.1, zg46.1, zg47.1, zg48.1, zg49.1, zg50.1, zg51.1, zg52.1, zg53.1, zg54.1, zg55.1, zg56.1, zg57.1, zg58.1, zg59.1, zg60.1, zg61.1, zg62.1, zg63.1, zg64.1, zg65.1, zg66.1, zg67.1, zg68.1, zg69.1, zg70.1, zg71.1, zg72.1, zg73.1, zg74.1, zg75.1, zg76.1, zg77.1, zg78.1, zg79.1, zg80.1, zg81.1, zg82.1, zg83.1, zg84.1, zg85.1, zg86.1, zg87.1, zg88.1, zg89.1, zg90.1, zg91.1, zg92.1, zg93.1, zg94.1, zg95.1, zg96.1, zg97.1, zg98.1, zg99.1, zg100.1, zg101.1, zg102.1, zg103.1, p0, p1, zg106.1, zg107.1, zg108.1, zg109.1, zg110.1, zg111.1, zg112.1, zg113.1, zg114.1, zg115.1, zg116.1, zg117.1, zg118.1, zg119.1, zg120.1, zg121.1, zg122.1, zg123.1, zg124.1, zg125⟩⟩
noncomputable def f_OP_22 (N : Int) (s4 : Int) (s26 : Int) (s27 : Int) (s30 : Int) (s49 : Int) (t4 : Nat → Int) (t16 : Nat → Int) (t17 : Nat → Int) (t34 : Nat → Int) (t35 : Nat → Int) (t36 : Nat → Int) (t37 : Nat → Int) (t38 : Nat → Int) (t39 : Nat → Int) (t63 : Nat → Int) (t64 : Nat → Int) : Option (Int × Int × Int × Int × (Nat → Int) × (Nat → Int) × (Nat → Int) × (Nat → Int) × (Nat → Int)) :=
  zd4 (f_HS_slide s49 t38 s30 t63 t64) fun v394 v395 a396 a397 =>
  zd5 (f_HM_slide s4 t4 t16 t17) fun v398 v399 a400 a401 a402 =>
  some (v394, v398, v399, v395, a400, a401, a402, a396, a397)
set_option maxHeartbeats 4000000 in
theorem s_OP_22 (N : Int) (s4 : Int) (s26 : Int) (s27 : Int) (s30 : Int) (s49 : Int) (t4 : Nat → Int) (t16 : Nat → Int) (t17 : Nat → Int) (t34 : Nat → Int) (t35 : Nat → Int) (t36 : Nat → Int) (t37 : Nat → Int) (t38 : Nat → Int) (t39 : Nat → Int) (t63 : Nat → Int) (t64 : Nat → Int) (b_s26 : 0 ≤ s26 ∧ s26 ≤ 6) (b_s27 : 0 ≤ s27 ∧ s27 ≤ 6) (b_s49 : 0 ≤ s49 ∧ s49 ≤ 12) (h_t4 : RI t4) (h_t16 : zR t16 0 10) (h_t17 : zR t17 0 30) (h_t34 : zR t34 0 60) (h_t35 : zR t35 0 1) (h_t36 : zR t36 0 20) (h_t37 : zR t37 0 11) (h_t38 : zR t38 0 99) (h_t39 : zR t39 (-1) 10) (h_t63 : zR t63 0 10) (h_t64 : zR t64 0 30) (I_s30 : 0 ≤ s30 ∧ s30 ≤ N) (R_many : s49 = t4 0) (R_ch : s26 = t4 1) (R_pa : s27 = t4 2) (R_st : RV 3 153 s26 t34 t4) (R_ex : RV 3 154 s26 t35 t4) (R_tr : RV 3 155 s26 t36 t4) (R_pl : RV 1 171 s27 t37 t4) (R_te : RV 1 5 4 t38 t4) (R_go : RV 1 141 s49 t39 t4) : zok (f_OP_22 N s4 s26 s27 s30 s49 t4 t16 t17 t34 t35 t36 t37 t38 t39 t63 t64) (fun o => (0 ≤ o.2.2.2.1 ∧ o.2.2.2.1 ≤ N + 6) ∧ zR o.2.2.2.2.2.2.2.1 0 10 ∧ zR o.2.2.2.2.2.2.2.2 0 30 ∧ RI o.2.2.2.2.1 ∧ zR o.2.2.2.2.2.1 0 10 ∧ zR o.2.2.2.2.2.2.1 0 30 ∧ (s49 = o.2.2.2.2.1 0) ∧ (s26 = o.2.2.2.2.1 1) ∧ (s27 = o.2.2.2.2.1 2) ∧ (RV 3 153 s26 t34 o.2.2.2.2.1) ∧ (RV 3 154 s26 t35 o.2.2.2.2.1) ∧ (RV 3 155 s26 t36 o.2.2.2.2.1) ∧ (RV 1 171 s27 t37 o.2.2.2.2.1) ∧ (RV 1 5 4 t38 o.2.2.2.2.1) ∧ (RV 1 141 s49 t39 o.2.2.2.2.1)) := by
  unfold f_OP_22
  refine zk_dI4 ?_
  unfold f_HS_slide
  refine zk_n ?_
  refine zk_gl 2 rfl (by decide) (by decide) (fun v2 h_v2 => ?_)
  have r_v2 := h_t38 (2)
  refine zk_d3 (s_Columns_settle _ _ _ _ (by omega) (by omega) h_t63 h_t64) (fun v3 a4 a5 hp => ?_)
  try dsimp only at hp
  obtain ⟨hpp0, hpp1, hpp2⟩ := hp
  refine zk_rI4 ?_
  refine zk_d5 (s_HM_slide _ _ _ _ h_t4 h_t16 h_t17) (fun v398 v399 a400 a401 a402 hp_2 => ?_)
  try dsimp only at hp_2
  obtain ⟨hp_2p0, hp_2p1, hp_2p2, hp_2p3⟩ := hp_2
  refine zk_ret ?_
  try dsimp only
  exact ⟨by omega, hpp1, hpp2, hp_2p0, hp_2p1, hp_2p2, by rw [hp_2p3 _ (by omega)]; exact R_many, by rw [hp_2p3 _ (by omega)]; exact R_ch, by rw [hp_2p3 _ (by omega)]; exact R_pa, by intro c hc; rw [hp_2p3 _ (by omega)]; exact R_st c hc, by intro c hc; rw [hp_2p3 _ (by omega)]; exact R_ex c hc, by intro c hc; rw [hp_2p3 _ (by omega)]; exact R_tr c hc, by intro c hc; rw [hp_2p3 _ (by omega)]; exact R_pl c hc, by intro c hc; rw [hp_2p3 _ (by omega)]; exact R_te c hc, by intro c hc; rw [hp_2p3 _ (by omega)]; exact R_go c hc⟩
set_option maxHeartbeats 4000000 in
set_option maxRecDepth 10000 in
theorem st_22 (N : Int) (σ : Nat → Int) (τ : Nat → Nat → Int) (hI : INV N σ τ)   : zok (f_OP_22 N (σ 4) (σ 26) (σ 27) (σ 30) (σ 49) (τ 4) (τ 16) (τ 17) (τ 34) (τ 35) (τ 36) (τ 37) (τ 38) (τ 39) (τ 63) (τ 64)) (fun o => (True) ∧ INV (N + 6) (zst σ [(4, o.2.2.1), (30, o.2.2.2.1)]) (zta τ [(4, o.2.2.2.2.1), (16, o.2.2.2.2.2.1), (17, o.2.2.2.2.2.2.1), (63, o.2.2.2.2.2.2.2.1), (64, o.2.2.2.2.2.2.2.2)])) := by
  have zg1 := hI.2
  have zg2 := zg1.2
  have zg3 := zg2.2
  have zg4 := zg3.2
  have zg5 := zg4.2
  have zg6 := zg5.2
  have zg7 := zg6.2
  have zg8 := zg7.2
  have zg9 := zg8.2
  have zg10 := zg9.2
  have zg11 := zg10.2
  have zg12 := zg11.2
  have zg13 := zg12.2
  have zg14 := zg13.2
  have zg15 := zg14.2
  have zg16 := zg15.2
  have zg17 := zg16.2
  have zg18 := zg17.2
  have zg19 := zg18.2
  have zg20 := zg19.2
  have zg21 := zg20.2
  have zg22 := zg21.2
  have zg23 := zg22.2
  have zg24 := zg23.2
  have zg25 := zg24.2
  have zg26 := zg25.2
  have zg27 := zg26.2
  have zg28 := zg27.2
  have zg29 := zg28.2
  have zg30 := zg29.2
  have zg31 := zg30.2
  have zg32 := zg31.2
  have zg33 := zg32.2
  have zg34 := zg33.2
  have zg35 := zg34.2
  have zg36 := zg35.2
  have zg37 := zg36.2
  have zg38 := zg37.2
  have zg39 := zg38.2
  have zg40 := zg39.2
  have zg41 := zg40.2
  have zg42 := zg41.2
  have zg43 := zg42.2
  have zg44 := zg43.2
  have zg45 := zg44.2
  have zg46 := zg45.2
  have zg47 := zg46.2
  have zg48 := zg47.2
  have zg49 := zg48.2
  have zg50 := zg49.2
  have zg51 := zg50.2
  have zg52 := zg51.2
  have zg53 := zg52.2
  have zg54 := zg53.2
  have zg55 := zg54.2
  have zg56 := zg55.2
  have zg57 := zg56.2
  have zg58 := zg57.2
  have zg59 := zg58.2
  have zg60 := zg59.2
  have zg61 := zg60.2
  have zg62 := zg61.2
  have zg63 := zg62.2
  have zg64 := zg63.2
  have zg65 := zg64.2
  have zg66 := zg65.2
  have zg67 := zg66.2
  have zg68 := zg67.2
  have zg69 := zg68.2
  have zg70 := zg69.2
  have zg71 := zg70.2
  have zg72 := zg71.2
  have zg73 := zg72.2
  have zg74 := zg73.2
  have zg75 := zg74.2
  have zg76 := zg75.2
  have zg77 := zg76.2
  have zg78 := zg77.2
  have zg79 := zg78.2
  have zg80 := zg79.2
  have zg81 := zg80.2
  have zg82 := zg81.2
  have zg83 := zg82.2
  have zg84 := zg83.2
  have zg85 := zg84.2
  have zg86 := zg85.2
  have zg87 := zg86.2
  have zg88 := zg87.2
  have zg89 := zg88.2
  have zg90 := zg89.2
  have zg91 := zg90.2
  have zg92 := zg91.2
  have zg93 := zg92.2
  have zg94 := zg93.2
  have zg95 := zg94.2
  have zg96 := zg95.2
  have zg97 := zg96.2
  have zg98 := zg97.2
  have zg99 := zg98.2
  have zg100 := zg99.2
  have zg101 := zg100.2
  have zg102 := zg101.2
  have zg103 := zg102.2
  have zg104 := zg103.2
  have zg105 := zg104.2
  have zg106 := zg105.2
  have zg107 := zg106.2
  have zg108 := zg107.2
  have zg109 := zg108.2
  have zg110 := zg109.2
  have zg111 := zg110.2
  have zg112 := zg111.2
  have zg113 := zg112.2
  have zg114 := zg113.2
  have zg115 := zg114.2
  have zg116 := zg115.2
  have zg117 := zg116.2
  have zg118 := zg117.2
  have zg119 := zg118.2
  have zg120 := zg119.2
  have zg121 := zg120.2
  have zg122 := zg121.2
  have zg123 := zg122.2
  have zg124 := zg123.2
  have zg125 := zg124.2
  have I_s26 := zg3.1
  have I_s27 := zg4.1
  have I_s49 := zg21.1
  have I_t4 := zg99.1
  have I_t16 := zg104.1
  have I_t17 := zg105.1
  have I_t34 := zg45.1
  have I_t35 := zg46.1
  have I_t36 := zg47.1
  have I_t37 := zg48.1
  have I_t38 := zg49.1
  have I_t39 := zg50.1
  have I_t63 := zg70.1
  have I_t64 := zg71.1
  have I_s30 := zg42.1
  have R_many := zg113.1
  have R_ch := zg114.1
  have R_pa := zg115.1
  have R_st := zg116.1
  have R_ex := zg117.1
  have R_tr := zg118.1
  have R_pl := zg119.1
  have R_te := zg120.1
  have R_go := zg121.1
  refine zok_mono (s_OP_22 N (σ 4) (σ 26) (σ 27) (σ 30) (σ 49) (τ 4) (τ 16) (τ 17) (τ 34) (τ 35) (τ 36) (τ 37) (τ 38) (τ 39) (τ 63) (τ 64) I_s26 I_s27 I_s49 I_t4 I_t16 I_t17 I_t34 I_t35 I_t36 I_t37 I_t38 I_t39 I_t63 I_t64 I_s30 R_many R_ch R_pa R_st R_ex R_tr R_pl R_te R_go) (fun o ho => ?_)
  obtain ⟨p0, p1, p2, p3, p4, p5, p6, p7, p8, p9, p10, p11, p12, p13, p14⟩ := ho
  exact ⟨trivial, ⟨hI.1, zg1.1, zg2.1, zg3.1, zg4.1, zg5.1, zg6.1, zg7.1, zg8.1, zg9.1, zg10.1, zg11.1, zg12.1, zg13.1, zg14.1, zg15.1, zg16.1, zg17.1, zg18.1, zg19.1, zg20.1, zg21.1, zg22.1, zg23.1, zg24.1, zg25.1, zg26.1, zg27.1, zg28.1, zg29.1, zg30.1, zg31.1, zg32.1, zg33.1, zg34.1, zg35.1, zg36.1, zg37.1, zg38.1, zg39.1, zg40.1, zg41.1, p0, zg43.1, zg44.1, zg45.1, zg46.1, zg47.1, zg48.1, zg49.1, zg50.1, zg51.1, zg52.1, zg53.1, zg54.1, zg55.1, zg56.1, zg57.1, zg58.1, zg59.1, zg60.1, zg61.1, zg62.1, zg63.1, zg64.1, zg65.1, zg66.1, zg67.1, zg68.1, zg69.1, p1, p2, zg72.1, zg73.1, zg74.1, zg75.1, zg76.1, zg77.1, zg78.1, zg79.1, zg80.1, zg81.1, zg82.1, zg83.1, zg84.1, zg85.1, zg86.1, zg87.1, zg88.1, zg89.1, zg90.1, zg91.1, zg92.1, zg93.1, zg94.1, zg95.1, zg96.1, zg97.1, zg98.1, p3, zg100.1, zg101.1, zg102.1, zg103.1, p4, p5, zg106.1, zg107.1, zg108.1, zg109.1, zg110.1, zg111.1, zg112.1, p6, p7, p8, p9, p10, p11, p12, p13, p14, zg122.1, zg123.1, zg124.1, zg125⟩⟩
noncomputable def f_OP_23 (N : Int) (a1 : Int) (s4 : Int) (s27 : Int) (s49 : Int) (t4 : Nat → Int) (t16 : Nat → Int) (t17 : Nat → Int) (t37 : Nat → Int) (t38 : Nat → Int) (t63 : Nat → Int) : Option (Int × Int × Int × (Nat → Int) × (Nat → Int)) :=
  zd1 (f_HS_shade a1 s27 s49 t37 t38 t63) fun v405 =>
  zd4 (f_HM_shade a1 t4 s4 t16 t17) fun v408 v409 a410 a411 =>
  some (v405, v408, v409, a410, a411)
set_option maxHeartbeats 4000000 in
theorem s_OP_23 (N : Int) (a1 : Int) (s4 : Int) (s27 : Int) (s49 : Int) (t4 : Nat → Int) (t16 : Nat → Int) (t17 : Nat → Int) (t37 : Nat → Int) (t38 : Nat → Int) (t63 : Nat → Int) (b_a1 : (-2147483648) ≤ a1 ∧ a1 ≤ 2147483647) (b_s27 : 0 ≤ s27 ∧ s27 ≤ 6) (b_s49 : 0 ≤ s49 ∧ s49 ≤ 12) (h_t4 : RI t4) (h_t16 : zR t16 0 10) (h_t17 : zR t17 0 30) (h_t37 : zR t37 0 11) (h_t38 : zR t38 0 99) (h_t63 : zR t63 0 10) (R_many : s49 = t4 0) (R_pa : s27 = t4 2) (R_pl : RV 1 171 s27 t37 t4) (R_te : RV 1 5 4 t38 t4) : zok (f_OP_23 N a1 s4 s27 s49 t4 t16 t17 t37 t38 t63) (fun o => zR o.2.2.2.1 0 10 ∧ zR o.2.2.2.2 0 30) := by
  unfold f_OP_23
  refine zk_dI1 ?_
  unfold f_HS_shade
  refine zk_ifc (zci_ne (by omega) (by omega)) (fun hc => ?_) (fun hc => ?_)
  · first
    | (exfalso; omega)
    | (skip
       refine zk_d1 (s_Hill_hasParish _ _ (by omega) (by omega)) (fun v1 hp => ?_)
       try dsimp only at hp
       obtain ⟨hpp0, hpp1⟩ := hp
       refine zk_ifc (zci_eqr (by omega)) (fun hc_2 => ?_) (fun hc_2 => ?_)
       · first
         | (exfalso; omega)
         | (skip
            refine zk_rI1 ?_
            refine zk_d4 (s_HM_shade _ _ _ _ _ (by omega) h_t4 h_t16 h_t17) (fun v408 v409 a410 a411 hp_2 => ?_)
            try dsimp only at hp_2
            obtain ⟨hp_2p0, hp_2p1⟩ := hp_2
            refine zk_ret ?_
            try dsimp only
            exact ⟨hp_2p0, hp_2p1⟩)
       · first
         | (exfalso; omega)
         | (skip
            refine zk_d1 (s_Hill_shadeOf _ _ _ _ _ _ (by omega) (by omega) (by omega) h_t37 h_t38 h_t63) (fun v2 hp_3 => ?_)
            try dsimp only at hp_3
            have hp_3p0 := hp_3
            refine zk_rI1 ?_
            refine zk_d4 (s_HM_shade _ _ _ _ _ (by omega) h_t4 h_t16 h_t17) (fun v408_2 v409_2 a410_2 a411_2 hp_4 => ?_)
            try dsimp only at hp_4
            obtain ⟨hp_4p0, hp_4p1⟩ := hp_4
            refine zk_ret ?_
            try dsimp only
            exact ⟨hp_4p0, hp_4p1⟩))
  · first
    | (exfalso; omega)
    | (skip
       refine zk_d1 (s_Hill_shades _ _ _ _ _ (by omega) (by omega) h_t37 h_t38 h_t63) (fun v3 hp_5 => ?_)
       refine zk_rI1 ?_
       refine zk_d4 (s_HM_shade _ _ _ _ _ (by omega) h_t4 h_t16 h_t17) (fun v408_3 v409_3 a410_3 a411_3 hp_6 => ?_)
       try dsimp only at hp_6
       obtain ⟨hp_6p0, hp_6p1⟩ := hp_6
       refine zk_ret ?_
       try dsimp only
       exact ⟨hp_6p0, hp_6p1⟩)
set_option maxHeartbeats 4000000 in
set_option maxRecDepth 10000 in
theorem st_23 (N : Int) (σ : Nat → Int) (τ : Nat → Nat → Int) (hI : INV N σ τ) (a1 : Int) (b_a1 : (-2147483648) ≤ a1 ∧ a1 ≤ 2147483647) : zok (f_OP_23 N a1 (σ 4) (σ 27) (σ 49) (τ 4) (τ 16) (τ 17) (τ 37) (τ 38) (τ 63)) (fun o => (True) ∧ INV (N + 6) (zst σ [(4, o.2.2.1)]) (zta τ [(16, o.2.2.2.1), (17, o.2.2.2.2)])) := by
  have zg1 := hI.2
  have zg2 := zg1.2
  have zg3 := zg2.2
  have zg4 := zg3.2
  have zg5 := zg4.2
  have zg6 := zg5.2
  have zg7 := zg6.2
  have zg8 := zg7.2
  have zg9 := zg8.2
  have zg10 := zg9.2
  have zg11 := zg10.2
  have zg12 := zg11.2
  have zg13 := zg12.2
  have zg14 := zg13.2
  have zg15 := zg14.2
  have zg16 := zg15.2
  have zg17 := zg16.2
  have zg18 := zg17.2
  have zg19 := zg18.2
  have zg20 := zg19.2
  have zg21 := zg20.2
  have zg22 := zg21.2
  have zg23 := zg22.2
  have zg24 := zg23.2
  have zg25 := zg24.2
  have zg26 := zg25.2
  have zg27 := zg26.2
  have zg28 := zg27.2
  have zg29 := zg28.2
  have zg30 := zg29.2
  have zg31 := zg30.2
  have zg32 := zg31.2
  have zg33 := zg32.2
  have zg34 := zg33.2
  have zg35 := zg34.2
  have zg36 := zg35.2
  have zg37 := zg36.2
  have zg38 := zg37.2
  have zg39 := zg38.2
  have zg40 := zg39.2
  have zg41 := zg40.2
  have zg42 := zg41.2
  have zg43 := zg42.2
  have zg44 := zg43.2
  have zg45 := zg44.2
  have zg46 := zg45.2
  have zg47 := zg46.2
  have zg48 := zg47.2
  have zg49 := zg48.2
  have zg50 := zg49.2
  have zg51 := zg50.2
  have zg52 := zg51.2
  have zg53 := zg52.2
  have zg54 := zg53.2
  have zg55 := zg54.2
  have zg56 := zg55.2
  have zg57 := zg56.2
  have zg58 := zg57.2
  have zg59 := zg58.2
  have zg60 := zg59.2
  have zg61 := zg60.2
  have zg62 := zg61.2
  have zg63 := zg62.2
  have zg64 := zg63.2
  have zg65 := zg64.2
  have zg66 := zg65.2
  have zg67 := zg66.2
  have zg68 := zg67.2
  have zg69 := zg68.2
  have zg70 := zg69.2
  have zg71 := zg70.2
  have zg72 := zg71.2
  have zg73 := zg72.2
  have zg74 := zg73.2
  have zg75 := zg74.2
  have zg76 := zg75.2
  have zg77 := zg76.2
  have zg78 := zg77.2
  have zg79 := zg78.2
  have zg80 := zg79.2
  have zg81 := zg80.2
  have zg82 := zg81.2
  have zg83 := zg82.2
  have zg84 := zg83.2
  have zg85 := zg84.2
  have zg86 := zg85.2
  have zg87 := zg86.2
  have zg88 := zg87.2
  have zg89 := zg88.2
  have zg90 := zg89.2
  have zg91 := zg90.2
  have zg92 := zg91.2
  have zg93 := zg92.2
  have zg94 := zg93.2
  have zg95 := zg94.2
  have zg96 := zg95.2
  have zg97 := zg96.2
  have zg98 := zg97.2
  have zg99 := zg98.2
  have zg100 := zg99.2
  have zg101 := zg100.2
  have zg102 := zg101.2
  have zg103 := zg102.2
  have zg104 := zg103.2
  have zg105 := zg104.2
  have zg106 := zg105.2
  have zg107 := zg106.2
  have zg108 := zg107.2
  have zg109 := zg108.2
  have zg110 := zg109.2
  have zg111 := zg110.2
  have zg112 := zg111.2
  have zg113 := zg112.2
  have zg114 := zg113.2
  have zg115 := zg114.2
  have zg116 := zg115.2
  have zg117 := zg116.2
  have zg118 := zg117.2
  have zg119 := zg118.2
  have zg120 := zg119.2
  have zg121 := zg120.2
  have zg122 := zg121.2
  have zg123 := zg122.2
  have zg124 := zg123.2
  have zg125 := zg124.2
  have I_s27 := zg4.1
  have I_s49 := zg21.1
  have I_t4 := zg99.1
  have I_t16 := zg104.1
  have I_t17 := zg105.1
  have I_t37 := zg48.1
  have I_t38 := zg49.1
  have I_t63 := zg70.1
  have R_many := zg113.1
  have R_pa := zg115.1
  have R_pl := zg119.1
  have R_te := zg120.1
  refine zok_mono (s_OP_23 N a1 (σ 4) (σ 27) (σ 49) (τ 4) (τ 16) (τ 17) (τ 37) (τ 38) (τ 63) b_a1 I_s27 I_s49 I_t4 I_t16 I_t17 I_t37 I_t38 I_t63 R_many R_pa R_pl R_te) (fun o ho => ?_)
  obtain ⟨p0, p1⟩ := ho
  exact ⟨trivial, ⟨hI.1, zg1.1, zg2.1, zg3.1, zg4.1, zg5.1, zg6.1, zg7.1, zg8.1, zg9.1, zg10.1, zg11.1, zg12.1, zg13.1, zg14.1, zg15.1, zg16.1, zg17.1, zg18.1, zg19.1, zg20.1, zg21.1, zg22.1, zg23.1, zg24.1, zg25.1, zg26.1, zg27.1, zg28.1, zg29.1, zg30.1, zg31.1, zg32.1, zg33.1, zg34.1, zg35.1, zg36.1, zg37.1, zg38.1, zg39.1, zg40.1, zg41.1, ⟨zg42.1.1, Int.le_trans zg42.1.2 (Int.le_add_of_nonneg_right (by decide))⟩, zg43.1, zg44.1, zg45.1, zg46.1, zg47.1, zg48.1, zg49.1, zg50.1, zg51.1, zg52.1, zg53.1, zg54.1, zg55.1, zg56.1, zg57.1, zg58.1, zg59.1, zg60.1, zg61.1, zg62.1, zg63.1, zg64.1, zg65.1, zg66.1, zg67.1, zg68.1, zg69.1, zg70.1, zg71.1, zg72.1, zg73.1, zg74.1, zg75.1, zg76.1, zg77.1, zg78.1, zg79.1, zg80.1, zg81.1, zg82.1, zg83.1, zg84.1, zg85.1, zg86.1, zg87.1, zg88.1, zg89.1, zg90.1, zg91.1, zg92.1, zg93.1, zg94.1, zg95.1, zg96.1, zg97.1, zg98.1, zg99.1, zg100.1, zg101.1, zg102.1, zg103.1, p0, p1, zg106.1, zg107.1, zg108.1, zg109.1, zg110.1, zg111.1, zg112.1, zg113.1, zg114.1, zg115.1, zg116.1, zg117.1, zg118.1, zg119.1, zg120.1, zg121.1, zg122.1, zg123.1, zg124.1, zg125⟩⟩
end
section
noncomputable def f_OP_24 (N : Int) (a1 : Int) (a2 : Int) (a3 : Int) (a4 : Int) (s4 : Int) (s19 : Int) (s20 : Int) (s21 : Int) (s22 : Int) (s26 : Int) (s27 : Int) (s28 : Int) (s29 : Int) (s34 : Int) (s35 : Int) (s36 : Int) (s49 : Int) (t4 : Nat → Int) (t14 : Nat → Int) (t15 : Nat → Int) (t16 : Nat → Int) (t17 : Nat → Int) (t34 : Nat → Int) (t35 : Nat → Int) (t37 : Nat → Int) (t38 : Nat → Int) (t40 : Nat → Int) (t41 : Nat → Int) (t46 : Nat → Int) (t47 : Nat → Int) (t63 : Nat → Int) (t64 : Nat → Int) : Option (Int × Int × Int × Int × Int × Int × Int × Int × Int × Int × (Nat → Int) × (Nat → Int) × (Nat → Int) × (Nat → Int) × (Nat → Int) × (Nat → Int) × (Nat → Int) × (Nat → Int)) :=
  zd8 (f_HS_gains a1 a2 a3 a4 s26 s27 s28 s29 s49 t34 t35 t37 t38 t40 t41 s34 s35 s36 t46 t47 t63 t64) fun v420 v421 v422 v423 a424 a425 a426 a427 =>
  zd10 (f_HM_gains a1 a2 a3 a4 t4 s4 s19 s20 s21 s22 t14 t15 t16 t17) fun v436 v437 v438 v439 v440 v441 a442 a443 a444 a445 =>
  some (v420, v436, v437, v438, v439, v440, v441, v421, v422, v423, a442, a443, a444, a445, a424, a425, a426, a427)
set_option maxHeartbeats 4000000 in
theorem s_OP_24 (N : Int) (a1 : Int) (a2 : Int) (a3 : Int) (a4 : Int) (s4 : Int) (s19 : Int) (s20 : Int) (s21 : Int) (s22 : Int) (s26 : Int) (s27 : Int) (s28 : Int) (s29 : Int) (s34 : Int) (s35 : Int) (s36 : Int) (s49 : Int) (t4 : Nat → Int) (t14 : Nat → Int) (t15 : Nat → Int) (t16 : Nat → Int) (t17 : Nat → Int) (t34 : Nat → Int) (t35 : Nat → Int) (t37 : Nat → Int) (t38 : Nat → Int) (t40 : Nat → Int) (t41 : Nat → Int) (t46 : Nat → Int) (t47 : Nat → Int) (t63 : Nat → Int) (t64 : Nat → Int) (b_a1 : (-2147483648) ≤ a1 ∧ a1 ≤ 2147483647) (b_a2 : (-2147483648) ≤ a2 ∧ a2 ≤ 2147483647) (b_a3 : (-2147483648) ≤ a3 ∧ a3 ≤ 2147483647) (b_a4 : (-2147483648) ≤ a4 ∧ a4 ≤ 2147483647) (b_s26 : 0 ≤ s26 ∧ s26 ≤ 6) (b_s27 : 0 ≤ s27 ∧ s27 ≤ 6) (b_s28 : 0 ≤ s28 ∧ s28 ≤ 6) (b_s29 : (-1) ≤ s29 ∧ s29 ≤ 5) (b_s34 : 0 ≤ s34 ∧ s34 ≤ 32) (b_s35 : 0 ≤ s35 ∧ s35 ≤ 2147483647) (b_s36 : 0 ≤ s36 ∧ s36 ≤ 1) (b_s49 : 0 ≤ s49 ∧ s49 ≤ 12) (h_t4 : RI t4) (h_t16 : zR t16 0 10) (h_t17 : zR t17 0 30) (h_t34 : zR t34 0 60) (h_t35 : zR t35 0 1) (h_t37 : zR t37 0 11) (h_t38 : zR t38 0 99) (h_t40 : zR t40 (-2147483648) 2147483647) (h_t41 : zR t41 0 424) (h_t46 : zR t46 0 99) (h_t63 : zR t63 0 10) (h_t64 : zR t64 0 30) (R_many : s49 = t4 0) (R_ch : s26 = t4 1) (R_pa : s27 = t4 2) (R_st : RV 3 153 s26 t34 t4) (R_ex : RV 3 154 s26 t35 t4) (R_pl : RV 1 171 s27 t37 t4) (R_te : RV 1 5 4 t38 t4) : zok (f_OP_24 N a1 a2 a3 a4 s4 s19 s20 s21 s22 s26 s27 s28 s29 s34 s35 s36 s49 t4 t14 t15 t16 t17 t34 t35 t37 t38 t40 t41 t46 t47 t63 t64) (fun o => (0 ≤ o.2.2.2.2.2.2.2.1 ∧ o.2.2.2.2.2.2.2.1 ≤ 32) ∧ (0 ≤ o.2.2.2.2.2.2.2.2.1 ∧ o.2.2.2.2.2.2.2.2.1 ≤ 2147483647) ∧ (0 ≤ o.2.2.2.2.2.2.2.2.2.1 ∧ o.2.2.2.2.2.2.2.2.2.1 ≤ 1) ∧ zR o.2.2.2.2.2.2.2.2.2.2.2.2.2.2.1 0 99 ∧ zR o.2.2.2.2.2.2.2.2.2.2.2.2.2.2.2.2.1 0 10 ∧ zR o.2.2.2.2.2.2.2.2.2.2.2.2.2.2.2.2.2 0 30 ∧ zR o.2.2.2.2.2.2.2.2.2.2.2.2.1 0 10 ∧ zR o.2.2.2.2.2.2.2.2.2.2.2.2.2.1 0 30) := by
  unfold f_OP_24
  refine zk_dI8 ?_
  unfold f_HS_gains
  refine zk_d1 (s_Hill_hasParish _ _ (by omega) (by omega)) (fun v1 hp => ?_)
  try dsimp only at hp
  obtain ⟨hpp0, hpp1⟩ := hp
  refine zk_ifc (zci_eqr (by omega)) (fun hc => ?_) (fun hc => ?_)
  · first
    | (exfalso; omega)
    | (skip
       refine zk_rI8 ?_
       refine zk_d10 (s_HM_gains _ _ _ _ _ _ _ _ _ _ _ _ _ _ (by omega) (by omega) (by omega) (by omega) h_t4 h_t16 h_t17) (fun v436 v437 v438 v439 v440 v441 a442 a443 a444 a445 hp_2 => ?_)
       try dsimp only at hp_2
       obtain ⟨hp_2p0, hp_2p1⟩ := hp_2
       refine zk_ret ?_
       try dsimp only
       exact ⟨by omega, by omega, by omega, h_t46, h_t63, h_t64, hp_2p0, hp_2p1⟩)
  · first
    | (exfalso; omega)
    | (skip
       refine zk_d1 (s_HS_knows _ _ _ _ _ (by omega) (by omega) (by omega) (by omega) (by omega)) (fun v2 hp_3 => ?_)
       try dsimp only at hp_3
       obtain ⟨hp_3p0, hp_3p1⟩ := hp_3
       refine zk_ifc (zci_eqr (by omega)) (fun hc_2 => ?_) (fun hc_2 => ?_)
       · first
         | (exfalso; omega)
         | (skip
            refine zk_rI8 ?_
            refine zk_d10 (s_HM_gains _ _ _ _ _ _ _ _ _ _ _ _ _ _ (by omega) (by omega) (by omega) (by omega) h_t4 h_t16 h_t17) (fun v436_2 v437_2 v438_2 v439_2 v440_2 v441_2 a442_2 a443_2 a444_2 a445_2 hp_4 => ?_)
            try dsimp only at hp_4
            obtain ⟨hp_4p0, hp_4p1⟩ := hp_4
            refine zk_ret ?_
            try dsimp only
            exact ⟨by omega, by omega, by omega, h_t46, h_t63, h_t64, hp_4p0, hp_4p1⟩)
       · first
         | (exfalso; omega)
         | (skip
            refine zk_d6 (s_Judge_effortOn _ _ _ _ _ _ _ _ _ _ _ _ _ _ _ _ _ _ _ (by omega) (by omega) (by omega) (by omega) (by omega) (by omega) (by omega) h_t63 h_t64 h_t34 h_t35 h_t38 h_t40 h_t41 (by omega) (by omega) (by omega) h_t46) (fun v3 v4 v5 v6 a7 a8 hp_5 => ?_)
            try dsimp only at hp_5
            obtain ⟨hp_5p0, hp_5p1, hp_5p2, hp_5p3, hp_5p4⟩ := hp_5
            refine zk_ifc (zci_ne (by omega) (by omega)) (fun hc_3 => ?_) (fun hc_3 => ?_)
            · first
              | (exfalso; omega)
              | (skip
                 refine zk_d1 (s_Hill_shadeOf _ _ _ _ _ _ (by omega) (by omega) (by omega) h_t37 h_t38 h_t63) (fun v9 hp_6 => ?_)
                 try dsimp only at hp_6
                 have hp_6p0 := hp_6
                 refine zk_d2 (s_Columns_move _ _ _ _ _ (by omega) (by omega) (by omega) h_t63 h_t64) (fun a10 a11 hp_7 => ?_)
                 try dsimp only at hp_7
                 obtain ⟨hp_7p0, hp_7p1⟩ := hp_7
                 refine zk_d1 (s_Hill_shadeOf _ _ _ _ _ _ (by omega) (by omega) (by omega) h_t37 h_t38 hp_7p0) (fun v12 hp_8 => ?_)
                 try dsimp only at hp_8
                 have hp_8p0 := hp_8
                 refine zk_d2 (s_Columns_move _ _ _ _ _ (by omega) (by omega) (by omega) hp_7p0 hp_7p1) (fun a13 a14 hp_9 => ?_)
                 try dsimp only at hp_9
                 obtain ⟨hp_9p0, hp_9p1⟩ := hp_9
                 refine zk_n ?_
                 refine zk_rI8 ?_
                 refine zk_d10 (s_HM_gains _ _ _ _ _ _ _ _ _ _ _ _ _ _ (by omega) (by omega) (by omega) (by omega) h_t4 h_t16 h_t17) (fun v436_3 v437_3 v438_3 v439_3 v440_3 v441_3 a442_3 a443_3 a444_3 a445_3 hp_10 => ?_)
                 try dsimp only at hp_10
                 obtain ⟨hp_10p0, hp_10p1⟩ := hp_10
                 refine zk_ret ?_
                 try dsimp only
                 exact ⟨by omega, by omega, by omega, hp_5p4, hp_9p0, hp_9p1, hp_10p0, hp_10p1⟩)
            · first
              | (exfalso; omega)
              | (skip
                 refine zk_rI8 ?_
                 refine zk_d10 (s_HM_gains _ _ _ _ _ _ _ _ _ _ _ _ _ _ (by omega) (by omega) (by omega) (by omega) h_t4 h_t16 h_t17) (fun v436_4 v437_4 v438_4 v439_4 v440_4 v441_4 a442_4 a443_4 a444_4 a445_4 hp_11 => ?_)
                 try dsimp only at hp_11
                 obtain ⟨hp_11p0, hp_11p1⟩ := hp_11
                 refine zk_ret ?_
                 try dsimp only
                 exact ⟨by omega, by omega, by omega, hp_5p4, h_t63, h_t64, hp_11p0, hp_11p1⟩)))
set_option maxHeartbeats 4000000 in
set_option maxRecDepth 10000 in
theorem st_24 (N : Int) (σ : Nat → Int) (τ : Nat → Nat → Int) (hI : INV N σ τ) (a1 : Int) (a2 : Int) (a3 : Int) (a4 : Int) (b_a1 : (-2147483648) ≤ a1 ∧ a1 ≤ 2147483647) (b_a2 : (-2147483648) ≤ a2 ∧ a2 ≤ 2147483647) (b_a3 : (-2147483648) ≤ a3 ∧ a3 ≤ 2147483647) (b_a4 : (-2147483648) ≤ a4 ∧ a4 ≤ 2147483647) : zok (f_OP_24 N a1 a2 a3 a4 (σ 4) (σ 19) (σ 20) (σ 21) (σ 22) (σ 26) (σ 27) (σ 28) (σ 29) (σ 34) (σ 35) (σ 36) (σ 49) (τ 4) (τ 14) (τ 15) (τ 16) (τ 17) (τ 34) (τ 35) (τ 37) (τ 38) (τ 40) (τ 41) (τ 46) (τ 47) (τ 63) (τ 64)) (fun o => (True) ∧ INV (N + 6) (zst σ [(4, o.2.2.1), (19, o.2.2.2.1), (20, o.2.2.2.2.1), (21, o.2.2.2.2.2.1), (22, o.2.2.2.2.2.2.1), (34, o.2.2.2.2.2.2.2.1), (35, o.2.2.2.2.2.2.2.2.1), (36, o.2.2.2.2.2.2.2.2.2.1)]) (zta τ [(14, o.2.2.2.2.2.2.2.2.2.2.1), (15, o.2.2.2.2.2.2.2.2.2.2.2.1), (16, o.2.2.2.2.2.2.2.2.2.2.2.2.1), (17, o.2.2.2.2.2.2.2.2.2.2.2.2.2.1), (46, o.2.2.2.2.2.2.2.2.2.2.2.2.2.2.1), (47, o.2.2.2.2.2.2.2.2.2.2.2.2.2.2.2.1), (63, o.2.2.2.2.2.2.2.2.2.2.2.2.2.2.2.2.1), (64, o.2.2.2.2.2.2.2.2.2.2.2.2.2.2.2.2.2)])) := by
  have zg1 := hI.2
  have zg2 := zg1.2
  have zg3 := zg2.2
  have zg4 := zg3.2
  have zg5 := zg4.2
  have zg6 := zg5.2
  have zg7 := zg6.2
  have zg8 := zg7.2
  have zg9 := zg8.2
  have zg10 := zg9.2
  have zg11 := zg10.2
  have zg12 := zg11.2
  have zg13 := zg12.2
  have zg14 := zg13.2
  have zg15 := zg14.2
  have zg16 := zg15.2
  have zg17 := zg16.2
  have zg18 := zg17.2
  have zg19 := zg18.2
  have zg20 := zg19.2
  have zg21 := zg20.2
  have zg22 := zg21.2
  have zg23 := zg22.2
  have zg24 := zg23.2
  have zg25 := zg24.2
  have zg26 := zg25.2
  have zg27 := zg26.2
  have zg28 := zg27.2
  have zg29 := zg28.2
  have zg30 := zg29.2
  have zg31 := zg30.2
  have zg32 := zg31.2
  have zg33 := zg32.2
  have zg34 := zg33.2
  have zg35 := zg34.2
  have zg36 := zg35.2
  have zg37 := zg36.2
  have zg38 := zg37.2
  have zg39 := zg38.2
  have zg40 := zg39.2
  have zg41 := zg40.2
  have zg42 := zg41.2
  have zg43 := zg42.2
  have zg44 := zg43.2
  have zg45 := zg44.2
  have zg46 := zg45.2
  have zg47 := zg46.2
  have zg48 := zg47.2
  have zg49 := zg48.2
  have zg50 := zg49.2
  have zg51 := zg50.2
  have zg52 := zg51.2
  have zg53 := zg52.2
  have zg54 := zg53.2
  have zg55 := zg54.2
  have zg56 := zg55.2
  have zg57 := zg56.2
  have zg58 := zg57.2
  have zg59 := zg58.2
  have zg60 := zg59.2
  have zg61 := zg60.2
  have zg62 := zg61.2
  have zg63 := zg62.2
  have zg64 := zg63.2
  have zg65 := zg64.2
  have zg66 := zg65.2
  have zg67 := zg66.2
  have zg68 := zg67.2
  have zg69 := zg68.2
  have zg70 := zg69.2
  have zg71 := zg70.2
  have zg72 := zg71.2
  have zg73 := zg72.2
  have zg74 := zg73.2
  have zg75 := zg74.2
  have zg76 := zg75.2
  have zg77 := zg76.2
  have zg78 := zg77.2
  have zg79 := zg78.2
  have zg80 := zg79.2
  have zg81 := zg80.2
  have zg82 := zg81.2
  have zg83 := zg82.2
  have zg84 := zg83.2
  have zg85 := zg84.2
  have zg86 := zg85.2
  have zg87 := zg86.2
  have zg88 := zg87.2
  have zg89 := zg88.2
  have zg90 := zg89.2
  have zg91 := zg90.2
  have zg92 := zg91.2
  have zg93 := zg92.2
  have zg94 := zg93.2
  have zg95 := zg94.2
  have zg96 := zg95.2
  have zg97 := zg96.2
  have zg98 := zg97.2
  have zg99 := zg98.2
  have zg100 := zg99.2
  have zg101 := zg100.2
  have zg102 := zg101.2
  have zg103 := zg102.2
  have zg104 := zg103.2
  have zg105 := zg104.2
  have zg106 := zg105.2
  have zg107 := zg106.2
  have zg108 := zg107.2
  have zg109 := zg108.2
  have zg110 := zg109.2
  have zg111 := zg110.2
  have zg112 := zg111.2
  have zg113 := zg112.2
  have zg114 := zg113.2
  have zg115 := zg114.2
  have zg116 := zg115.2
  have zg117 := zg116.2
  have zg118 := zg117.2
  have zg119 := zg118.2
  have zg120 := zg119.2
  have zg121 := zg120.2
  have zg122 := zg121.2
  have zg123 := zg122.2
  have zg124 := zg123.2
  have zg125 := zg124.2
  have I_s26 := zg3.1
  have I_s27 := zg4.1
  have I_s28 := zg5.1
  have I_s29 := zg6.1
  have I_s34 := zg10.1
  have I_s35 := zg11.1
  have I_s36 := zg12.1
  have I_s49 := zg21.1
  have I_t4 := zg99.1
  have I_t16 := zg104.1
  have I_t17 := zg105.1
  have I_t34 := zg45.1
  have I_t35 := zg46.1
  have I_t37 := zg48.1
  have I_t38 := zg49.1
  have I_t40 := zg51.1
  have I_t41 := zg52.1
  have I_t46 := zg56.1
  have I_t63 := zg70.1
  have I_t64 := zg71.1
  have R_many := zg113.1
  have R_ch := zg114.1
  have R_pa := zg115.1
  have R_st := zg116.1
  have R_ex := zg117.1
  have R_pl := zg119.1
  have R_te := zg120.1
  refine zok_mono (s_OP_24 N a1 a2 a3 a4 (σ 4) (σ 19) (σ 20) (σ 21) (σ 22) (σ 26) (σ 27) (σ 28) (σ 29) (σ 34) (σ 35) (σ 36) (σ 49) (τ 4) (τ 14) (τ 15) (τ 16) (τ 17) (τ 34) (τ 35) (τ 37) (τ 38) (τ 40) (τ 41) (τ 46) (τ 47) (τ 63) (τ 64) b_a1 b_a2 b_a3 b_a4 I_s26 I_s27 I_s28 I_s29 I_s34 I_s35 I_s36 I_s49 I_t4 I_t16 I_t17 I_t34 I_t35 I_t37 I_t38 I_t40 I_t41 I_t46 I_t63 I_t64 R_many R_ch R_pa R_st R_ex R_pl R_te) (fun o ho => ?_)
  obtain ⟨p0, p1, p2, p3, p4, p5, p6, p7⟩ := ho
  exact ⟨trivial, ⟨hI.1, zg1.1, zg2.1, zg3.1, zg4.1, zg5.1, zg6.1, zg7.1, zg8.1, zg9.1, p0, p1, p2, zg13.1, zg14.1, zg15.1, zg16.1, zg17.1, zg18.1, zg19.1, zg20.1, zg21.1, zg22.1, zg23.1, zg24.1, zg25.1, zg26.1, zg27.1, zg28.1, zg29.1, zg30.1, zg31.1, zg32.1, zg33.1, zg34.1, zg35.1, zg36.1, zg37.1, zg38.1, zg39.1, zg40.1, zg41.1, ⟨zg42.1.1, Int.le_trans zg42.1.2 (Int.le_add_of_nonneg_right (by decide))⟩, zg43.1, zg44.1, zg45.1, zg46.1, zg47.1, zg48.1, zg49.1, zg50.1, zg51.1, zg52.1, zg53.1, zg54.1, zg55.1, p3, zg57.1, zg58.1, zg59.1, zg60.1, zg61.1, zg62.1, zg63.1, zg64.1, zg65.1, zg66.1, zg67.1, zg68.1, zg69.1, p4, p5, zg72.1, zg73.1, zg74.1, zg75.1, zg76.1, zg77.1, zg78.1, zg79.1, zg80.1, zg81.1, zg82.1, zg83.1, zg84.1, zg85.1, zg86.1, zg87.1, zg88.1, zg89.1, zg90.1, zg91.1, zg92.1, zg93.1, zg94.1, zg95.1, zg96.1, zg97.1, zg98.1, zg99.1, zg100.1, zg101.1, zg102.1, zg103.1, p6, p7, zg106.1, zg107.1, zg108.1, zg109.1, zg110.1, zg111.1, zg112.1, zg113.1, zg114.1, zg115.1, zg116.1, zg117.1, zg118.1, zg119.1, zg120.1, zg121.1, zg122.1, zg123.1, zg124.1, zg125⟩⟩
noncomputable def f_OP_25 (N : Int) (a1 : Int) (a2 : Int) (s3 : Int) (s4 : Int) (s5 : Int) (s26 : Int) (s27 : Int) (s30 : Int) (s49 : Int) (t2 : Nat → Int) (t3 : Nat → Int) (t4 : Nat → Int) (t34 : Nat → Int) (t35 : Nat → Int) (t36 : Nat → Int) (t37 : Nat → Int) (t38 : Nat → Int) (t39 : Nat → Int) : Option (Int × Int × Int × Int × Int × Int × (Nat → Int) × (Nat → Int) × (Nat → Int) × (Nat → Int)) :=
  zd5 (f_HS_goal a1 a2 s49 s3 s30 t2 t39) fun v450 v451 v452 a453 a454 =>
  zd5 (f_HM_goal a1 a2 s4 s5 t3 t4) fun v459 v460 v461 a462 a463 =>
  some (v450, v459, v451, v460, v461, v452, a453, a462, a463, a454)
set_option maxHeartbeats 4000000 in
theorem s_OP_25 (N : Int) (a1 : Int) (a2 : Int) (s3 : Int) (s4 : Int) (s5 : Int) (s26 : Int) (s27 : Int) (s30 : Int) (s49 : Int) (t2 : Nat → Int) (t3 : Nat → Int) (t4 : Nat → Int) (t34 : Nat → Int) (t35 : Nat → Int) (t36 : Nat → Int) (t37 : Nat → Int) (t38 : Nat → Int) (t39 : Nat → Int) (b_a1 : (-2147483648) ≤ a1 ∧ a1 ≤ 2147483647) (b_a2 : (-2147483648) ≤ a2 ∧ a2 ≤ 2147483647) (b_s3 : (-6) ≤ s3 ∧ s3 ≤ 0) (b_s26 : 0 ≤ s26 ∧ s26 ≤ 6) (b_s27 : 0 ≤ s27 ∧ s27 ≤ 6) (b_s49 : 0 ≤ s49 ∧ s49 ≤ 12) (h_t4 : RI t4) (h_t34 : zR t34 0 60) (h_t35 : zR t35 0 1) (h_t36 : zR t36 0 20) (h_t37 : zR t37 0 11) (h_t38 : zR t38 0 99) (h_t39 : zR t39 (-1) 10) (I_s30 : 0 ≤ s30 ∧ s30 ≤ N) (R_many : s49 = t4 0) (R_ch : s26 = t4 1) (R_pa : s27 = t4 2) (R_st : RV 3 153 s26 t34 t4) (R_ex : RV 3 154 s26 t35 t4) (R_tr : RV 3 155 s26 t36 t4) (R_pl : RV 1 171 s27 t37 t4) (R_te : RV 1 5 4 t38 t4) (R_go : RV 1 141 s49 t39 t4) : zok (f_OP_25 N a1 a2 s3 s4 s5 s26 s27 s30 s49 t2 t3 t4 t34 t35 t36 t37 t38 t39) (fun o => (o.1 = o.2.1) ∧ ((-6) ≤ o.2.2.1 ∧ o.2.2.1 ≤ 0) ∧ (0 ≤ o.2.2.2.2.2.1 ∧ o.2.2.2.2.2.1 ≤ N + 6) ∧ zR o.2.2.2.2.2.2.2.2.2 (-1) 10 ∧ RI o.2.2.2.2.2.2.2.2.1 ∧ (s49 = o.2.2.2.2.2.2.2.2.1 0) ∧ (s26 = o.2.2.2.2.2.2.2.2.1 1) ∧ (s27 = o.2.2.2.2.2.2.2.2.1 2) ∧ (RV 3 153 s26 t34 o.2.2.2.2.2.2.2.2.1) ∧ (RV 3 154 s26 t35 o.2.2.2.2.2.2.2.2.1) ∧ (RV 3 155 s26 t36 o.2.2.2.2.2.2.2.2.1) ∧ (RV 1 171 s27 t37 o.2.2.2.2.2.2.2.2.1) ∧ (RV 1 5 4 t38 o.2.2.2.2.2.2.2.2.1) ∧ (RV 1 141 s49 o.2.2.2.2.2.2.2.2.2 o.2.2.2.2.2.2.2.2.1)) := by
  unfold f_OP_25
  have q_go : (a1 < 0 ∨ s49 ≤ a1) ∨ t39 a1.toNat = t4 (141 + a1).toNat := by
    by_cases h : a1 < 0 ∨ s49 ≤ a1
    · exact Or.inl h
    · exact Or.inr (RV_at R_go (by omega) (by omega) (by omega))
  refine zk_dI5 ?_
  unfold f_HS_goal
  refine zk_ifc (zci_lt (by omega) (by omega)) (fun hc => ?_) (fun hc => ?_)
  · first
    | (exfalso; omega)
    | (skip
       unfold f_HS_goal_11
       refine zk_dI3 ?_
       unfold f_HS_refuse
       refine zk_nE (fun v1 h_v1 => ?_)
       refine zk_gv (by omega) (by decide) (fun v2 h_v2 => ?_)
       refine zk_n ?_
       refine zk_sv (by omega) (by decide) (fun a4 h_a4 => ?_)
       refine zk_rI3 ?_
       refine zk_rI5 ?_
       refine zk_dI5 ?_
       unfold f_HM_goal
       refine zk_nE (fun v1_2 h_v1_2 => ?_)
       rw [zwi (by omega)] at h_v1_2
       replace h_v1_2 := h_v1_2.symm
       subst h_v1_2
       refine zk_d1 (s_HM_in _ _ _ (by omega) (by omega) (by omega)) (fun v2_2 hp => ?_)
       try dsimp only at hp
       have hpp0 := hp
       refine zk_ifc (zci_ner (by omega)) (fun hc_2 => ?_) (fun hc_2 => ?_)
       · first
         | (exfalso; omega)
         | (skip
            refine zk_d1 (s_HM_isColumn _ _ (by omega) h_t4) (fun v3_2 hp_2 => ?_)
            try dsimp only at hp_2
            obtain ⟨hp_2p0, hp_2p1⟩ := hp_2
            refine zk_ifc (zci_ner (by omega)) (fun hc_3 => ?_) (fun hc_3 => ?_)
            · first
              | (exfalso; omega)
              | (skip
                 refine zk_n ?_
                 refine zk_d3 (s_HM_change _ _ _ _ (by omega)) (fun v5 v6 a7 hp_3 => ?_)
                 try dsimp only at hp_3
                 obtain ⟨hp_3p0, hp_3p1, hp_3p2⟩ := hp_3
                 have i_a7 : RI a7 := by rw [hp_3p2]; exact RIz_g h_t4 (by omega) (by omega)
                 refine zk_rI5 ?_
                 refine zk_ret ?_
                 try dsimp only
                 exact ⟨by omega, by omega, by omega, h_t39, i_a7, by first | omega | (simp only [hp_3p2, h_a4, zu, ↓reduceIte]; (repeat' split) <;> omega), by first | omega | (simp only [hp_3p2, h_a4, zu, ↓reduceIte]; (repeat' split) <;> omega), by first | omega | (simp only [hp_3p2, h_a4, zu, ↓reduceIte]; (repeat' split) <;> omega), by (intro c hc; first | (have q := fun h => R_st c h; simp only [hp_3p2, h_a4, zu, ↓reduceIte]; (repeat' split) <;> first | omega | (exact q (by omega))) | exact R_st c hc), by (intro c hc; first | (have q := fun h => R_ex c h; simp only [hp_3p2, h_a4, zu, ↓reduceIte]; (repeat' split) <;> first | omega | (exact q (by omega))) | exact R_ex c hc), by (intro c hc; first | (have q := fun h => R_tr c h; simp only [hp_3p2, h_a4, zu, ↓reduceIte]; (repeat' split) <;> first | omega | (exact q (by omega))) | exact R_tr c hc), by (intro c hc; first | (have q := fun h => R_pl c h; simp only [hp_3p2, h_a4, zu, ↓reduceIte]; (repeat' split) <;> first | omega | (exact q (by omega))) | exact R_pl c hc), by (intro c hc; first | (have q := fun h => R_te c h; simp only [hp_3p2, h_a4, zu, ↓reduceIte]; (repeat' split) <;> first | omega | (exact q (by omega))) | exact R_te c hc), by (intro c hc; first | (have q := fun h => R_go c h; simp only [hp_3p2, h_a4, zu, ↓reduceIte]; (repeat' split) <;> first | omega | (exact q (by omega))) | exact R_go c hc)⟩)
            · first
              | (exfalso; omega)
              | (skip
                 refine zk_d3 (s_HM_tell _ _ _ (by omega)) (fun v8 v9 a10 hp_4 => ?_)
                 try dsimp only at hp_4
                 obtain ⟨hp_4p0, hp_4p1⟩ := hp_4
                 refine zk_ifc (zci_lel (by omega)) (fun hc_4 => ?_) (fun hc_4 => ?_)
                 · first
                   | (exfalso; omega)
                   | (skip
                      refine zk_rI5 ?_
                      refine zk_ret ?_
                      try dsimp only
                      exact ⟨by omega, by omega, by omega, h_t39, h_t4, by first | omega | (simp only [h_a4, zu, ↓reduceIte]; (repeat' split) <;> omega), by first | omega | (simp only [h_a4, zu, ↓reduceIte]; (repeat' split) <;> omega), by first | omega | (simp only [h_a4, zu, ↓reduceIte]; (repeat' split) <;> omega), by (intro c hc; first | (have q := fun h => R_st c h; simp only [h_a4, zu, ↓reduceIte]; (repeat' split) <;> first | omega | (exact q (by omega))) | exact R_st c hc), by (intro c hc; first | (have q := fun h => R_ex c h; simp only [h_a4, zu, ↓reduceIte]; (repeat' split) <;> first | omega | (exact q (by omega))) | exact R_ex c hc), by (intro c hc; first | (have q := fun h => R_tr c h; simp only [h_a4, zu, ↓reduceIte]; (repeat' split) <;> first | omega | (exact q (by omega))) | exact R_tr c hc), by (intro c hc; first | (have q := fun h => R_pl c h; simp only [h_a4, zu, ↓reduceIte]; (repeat' split) <;> first | omega | (exact q (by omega))) | exact R_pl c hc), by (intro c hc; first | (have q := fun h => R_te c h; simp only [h_a4, zu, ↓reduceIte]; (repeat' split) <;> first | omega | (exact q (by omega))) | exact R_te c hc), by (intro c hc; first | (have q := fun h => R_go c h; simp only [h_a4, zu, ↓reduceIte]; (repeat' split) <;> first | omega | (exact q (by omega))) | exact R_go c hc)⟩)
                 · first
                   | (exfalso; omega)
                   | (skip
                      refine zk_rI5 ?_
                      refine zk_ret ?_
                      try dsimp only
                      exact ⟨by omega, by omega, by omega, h_t39, h_t4, by first | omega | (simp only [h_a4, zu, ↓reduceIte]; (repeat' split) <;> omega), by first | omega | (simp only [h_a4, zu, ↓reduceIte]; (repeat' split) <;> omega), by first | omega | (simp only [h_a4, zu, ↓reduceIte]; (repeat' split) <;> omega), by (intro c hc; first | (have q := fun h => R_st c h; simp only [h_a4, zu, ↓reduceIte]; (repeat' split) <;> first | omega | (exact q (by omega))) | exact R_st c hc), by (intro c hc; first | (have q := fun h => R_ex c h; simp only [h_a4, zu, ↓reduceIte]; (repeat' split) <;> first | omega | (exact q (by omega))) | exact R_ex c hc), by (intro c hc; first | (have q := fun h => R_tr c h; simp only [h_a4, zu, ↓reduceIte]; (repeat' split) <;> first | omega | (exact q (by omega))) | exact R_tr c hc), by (intro c hc; first | (have q := fun h => R_pl c h; simp only [h_a4, zu, ↓reduceIte]; (repeat' split) <;> first | omega | (exact q (by omega))) | exact R_pl c hc), by (intro c hc; first | (have q := fun h => R_te c h; simp only [h_a4, zu, ↓reduceIte]; (repeat' split) <;> first | omega | (exact q (by omega))) | exact R_te c hc), by (intro c hc; first | (have q := fun h => R_go c h; simp only [h_a4, zu, ↓reduceIte]; (repeat' split) <;> first | omega | (exact q (by omega))) | exact R_go c hc)⟩)))
       · first
         | (exfalso; omega)
         | (skip
            refine zk_d3 (s_HM_tell _ _ _ (by omega)) (fun v11 v12 a13 hp_5 => ?_)
            try dsimp only at hp_5
            obtain ⟨hp_5p0, hp_5p1⟩ := hp_5
            refine zk_ifc (zci_lel (by omega)) (fun hc_5 => ?_) (fun hc_5 => ?_)
            · first
              | (exfalso; omega)
              | (skip
                 refine zk_rI5 ?_
                 refine zk_ret ?_
                 try dsimp only
                 exact ⟨by omega, by omega, by omega, h_t39, h_t4, by first | omega | (simp only [h_a4, zu, ↓reduceIte]; (repeat' split) <;> omega), by first | omega | (simp only [h_a4, zu, ↓reduceIte]; (repeat' split) <;> omega), by first | omega | (simp only [h_a4, zu, ↓reduceIte]; (repeat' split) <;> omega), by (intro c hc; first | (have q := fun h => R_st c h; simp only [h_a4, zu, ↓reduceIte]; (repeat' split) <;> first | omega | (exact q (by omega))) | exact R_st c hc), by (intro c hc; first | (have q := fun h => R_ex c h; simp only [h_a4, zu, ↓reduceIte]; (repeat' split) <;> first | omega | (exact q (by omega))) | exact R_ex c hc), by (intro c hc; first | (have q := fun h => R_tr c h; simp only [h_a4, zu, ↓reduceIte]; (repeat' split) <;> first | omega | (exact q (by omega))) | exact R_tr c hc), by (intro c hc; first | (have q := fun h => R_pl c h; simp only [h_a4, zu, ↓reduceIte]; (repeat' split) <;> first | omega | (exact q (by omega))) | exact R_pl c hc), by (intro c hc; first | (have q := fun h => R_te c h; simp only [h_a4, zu, ↓reduceIte]; (repeat' split) <;> first | omega | (exact q (by omega))) | exact R_te c hc), by (intro c hc; first | (have q := fun h => R_go c h; simp only [h_a4, zu, ↓reduceIte]; (repeat' split) <;> first | omega | (exact q (by omega))) | exact R_go c hc)⟩)
            · first
              | (exfalso; omega)
              | (skip
                 refine zk_rI5 ?_
                 refine zk_ret ?_
                 try dsimp only
                 exact ⟨by omega, by omega, by omega, h_t39, h_t4, by first | omega | (simp only [h_a4, zu, ↓reduceIte]; (repeat' split) <;> omega), by first | omega | (simp only [h_a4, zu, ↓reduceIte]; (repeat' split) <;> omega), by first | omega | (simp only [h_a4, zu, ↓reduceIte]; (repeat' split) <;> omega), by (intro c hc; first | (have q := fun h => R_st c h; simp only [h_a4, zu, ↓reduceIte]; (repeat' split) <;> first | omega | (exact q (by omega))) | exact R_st c hc), by (intro c hc; first | (have q := fun h => R_ex c h; simp only [h_a4, zu, ↓reduceIte]; (repeat' split) <;> first | omega | (exact q (by omega))) | exact R_ex c hc), by (intro c hc; first | (have q := fun h => R_tr c h; simp only [h_a4, zu, ↓reduceIte]; (repeat' split) <;> first | omega | (exact q (by omega))) | exact R_tr c hc), by (intro c hc; first | (have q := fun h => R_pl c h; simp only [h_a4, zu, ↓reduceIte]; (repeat' split) <;> first | omega | (exact q (by omega))) | exact R_pl c hc), by (intro c hc; first | (have q := fun h => R_te c h; simp only [h_a4, zu, ↓reduceIte]; (repeat' split) <;> first | omega | (exact q (by omega))) | exact R_te c hc), by (intro c hc; first | (have q := fun h => R_go c h; simp only [h_a4, zu, ↓reduceIte]; (repeat' split) <;> first | omega | (exact q (by omega))) | exact R_go c hc)⟩)))
  · first
    | (exfalso; omega)
    | (skip
       refine zk_ifc (zci_le (by omega) (by omega)) (fun hc_6 => ?_) (fun hc_6 => ?_)
       · first
         | (exfalso; omega)
         | (skip
            refine zk_d1 (s_Columns_has _ _ (by omega) (by omega)) (fun v1_3 hp_6 => ?_)
            try dsimp only at hp_6
            obtain ⟨hp_6p0, hp_6p1⟩ := hp_6
            refine zk_ifc (zci_ner (by omega)) (fun hc_7 => ?_) (fun hc_7 => ?_)
            · first
              | (exfalso; omega)
              | (skip
                 refine zk_gv (by omega) (by decide) (fun v2_3 h_v2_3 => ?_)
                 have r_v2_3 := h_t39 (a1.toNat)
                 refine zk_sv (by omega) (by decide) (fun a3 h_a3 => ?_)
                 have i_a3 : zR a3 (-1) 10 := by rw [h_a3]; exact zR_zu h_t39 (by decide) (by decide) (by omega)
                 refine zk_dI3 ?_
                 unfold f_HS_accept
                 refine zk_n ?_
                 refine zk_rI3 ?_
                 refine zk_rI5 ?_
                 refine zk_dI5 ?_
                 unfold f_HM_goal
                 refine zk_nE (fun v1_5 h_v1_5 => ?_)
                 rw [zwi (by omega)] at h_v1_5
                 replace h_v1_5 := h_v1_5.symm
                 subst h_v1_5
                 refine zk_d1 (s_HM_in _ _ _ (by omega) (by omega) (by omega)) (fun v2_4 hp_7 => ?_)
                 try dsimp only at hp_7
                 have hp_7p0 := hp_7
                 refine zk_ifc (zci_ner (by omega)) (fun hc_8 => ?_) (fun hc_8 => ?_)
                 · first
                   | (exfalso; omega)
                   | (skip
                      refine zk_d1 (s_HM_isColumn _ _ (by omega) h_t4) (fun v3_3 hp_8 => ?_)
                      try dsimp only at hp_8
                      obtain ⟨hp_8p0, hp_8p1⟩ := hp_8
                      refine zk_ifc (zci_ner (by omega)) (fun hc_9 => ?_) (fun hc_9 => ?_)
                      · first
                        | (exfalso; omega)
                        | (skip
                           refine zk_n ?_
                           refine zk_d3 (s_HM_change _ _ _ _ (by omega)) (fun v5_2 v6_2 a7_2 hp_9 => ?_)
                           try dsimp only at hp_9
                           obtain ⟨hp_9p0, hp_9p1, hp_9p2⟩ := hp_9
                           have i_a7_2 : RI a7_2 := by rw [hp_9p2]; exact RIz_g h_t4 (by omega) (by omega)
                           refine zk_rI5 ?_
                           refine zk_ret ?_
                           try dsimp only
                           exact ⟨by omega, by omega, by omega, i_a3, i_a7_2, by first | omega | (simp only [hp_9p2, h_a3, zu, ↓reduceIte]; (repeat' split) <;> omega), by first | omega | (simp only [hp_9p2, h_a3, zu, ↓reduceIte]; (repeat' split) <;> omega), by first | omega | (simp only [hp_9p2, h_a3, zu, ↓reduceIte]; (repeat' split) <;> omega), by (intro c hc; first | (have q := fun h => R_st c h; simp only [hp_9p2, h_a3, zu, ↓reduceIte]; (repeat' split) <;> first | omega | (exact q (by omega))) | exact R_st c hc), by (intro c hc; first | (have q := fun h => R_ex c h; simp only [hp_9p2, h_a3, zu, ↓reduceIte]; (repeat' split) <;> first | omega | (exact q (by omega))) | exact R_ex c hc), by (intro c hc; first | (have q := fun h => R_tr c h; simp only [hp_9p2, h_a3, zu, ↓reduceIte]; (repeat' split) <;> first | omega | (exact q (by omega))) | exact R_tr c hc), by (intro c hc; first | (have q := fun h => R_pl c h; simp only [hp_9p2, h_a3, zu, ↓reduceIte]; (repeat' split) <;> first | omega | (exact q (by omega))) | exact R_pl c hc), by (intro c hc; first | (have q := fun h => R_te c h; simp only [hp_9p2, h_a3, zu, ↓reduceIte]; (repeat' split) <;> first | omega | (exact q (by omega))) | exact R_te c hc), by (intro c hc; first | (have q := fun h => R_go c h; simp only [hp_9p2, h_a3, zu, ↓reduceIte]; (repeat' split) <;> first | omega | (exact q (by omega))) | exact R_go c hc)⟩)
                      · first
                        | (exfalso; omega)
                        | (skip
                           refine zk_d3 (s_HM_tell _ _ _ (by omega)) (fun v8_2 v9_2 a10_2 hp_10 => ?_)
                           try dsimp only at hp_10
                           obtain ⟨hp_10p0, hp_10p1⟩ := hp_10
                           refine zk_ifc (zci_lel (by omega)) (fun hc_10 => ?_) (fun hc_10 => ?_)
                           · first
                             | (exfalso; omega)
                             | (skip
                                refine zk_rI5 ?_
                                refine zk_ret ?_
                                try dsimp only
                                exact ⟨by omega, by omega, by omega, i_a3, h_t4, by first | omega | (simp only [h_a3, zu, ↓reduceIte]; (repeat' split) <;> omega), by first | omega | (simp only [h_a3, zu, ↓reduceIte]; (repeat' split) <;> omega), by first | omega | (simp only [h_a3, zu, ↓reduceIte]; (repeat' split) <;> omega), by (intro c hc; first | (have q := fun h => R_st c h; simp only [h_a3, zu, ↓reduceIte]; (repeat' split) <;> first | omega | (exact q (by omega))) | exact R_st c hc), by (intro c hc; first | (have q := fun h => R_ex c h; simp only [h_a3, zu, ↓reduceIte]; (repeat' split) <;> first | omega | (exact q (by omega))) | exact R_ex c hc), by (intro c hc; first | (have q := fun h => R_tr c h; simp only [h_a3, zu, ↓reduceIte]; (repeat' split) <;> first | omega | (exact q (by omega))) | exact R_tr c hc), by (intro c hc; first | (have q := fun h => R_pl c h; simp only [h_a3, zu, ↓reduceIte]; (repeat' split) <;> first | omega | (exact q (by omega))) | exact R_pl c hc), by (intro c hc; first | (have q := fun h => R_te c h; simp only [h_a3, zu, ↓reduceIte]; (repeat' split) <;> first | omega | (exact q (by omega))) | exact R_te c hc), by (intro c hc; first | (have q := fun h => R_go c h; simp only [h_a3, zu, ↓reduceIte]; (repeat' split) <;> first | omega | (exact q (by omega))) | exact R_go c hc)⟩)
                           · first
                             | (exfalso; omega)
                             | (skip
                                refine zk_rI5 ?_
                                refine zk_ret ?_
                                try dsimp only
                                exact ⟨by omega, by omega, by omega, i_a3, h_t4, by first | omega | (simp only [h_a3, zu, ↓reduceIte]; (repeat' split) <;> omega), by first | omega | (simp only [h_a3, zu, ↓reduceIte]; (repeat' split) <;> omega), by first | omega | (simp only [h_a3, zu, ↓reduceIte]; (repeat' split) <;> omega), by (intro c hc; first | (have q := fun h => R_st c h; simp only [h_a3, zu, ↓reduceIte]; (repeat' split) <;> first | omega | (exact q (by omega))) | exact R_st c hc), by (intro c hc; first | (have q := fun h => R_ex c h; simp only [h_a3, zu, ↓reduceIte]; (repeat' split) <;> first | omega | (exact q (by omega))) | exact R_ex c hc), by (intro c hc; first | (have q := fun h => R_tr c h; simp only [h_a3, zu, ↓reduceIte]; (repeat' split) <;> first | omega | (exact q (by omega))) | exact R_tr c hc), by (intro c hc; first | (have q := fun h => R_pl c h; simp only [h_a3, zu, ↓reduceIte]; (repeat' split) <;> first | omega | (exact q (by omega))) | exact R_pl c hc), by (intro c hc; first | (have q := fun h => R_te c h; simp only [h_a3, zu, ↓reduceIte]; (repeat' split) <;> first | omega | (exact q (by omega))) | exact R_te c hc), by (intro c hc; first | (have q := fun h => R_go c h; simp only [h_a3, zu, ↓reduceIte]; (repeat' split) <;> first | omega | (exact q (by omega))) | exact R_go c hc)⟩)))
                 · first
                   | (exfalso; omega)
                   | (skip
                      refine zk_d3 (s_HM_tell _ _ _ (by omega)) (fun v11_2 v12_2 a13_2 hp_11 => ?_)
                      try dsimp only at hp_11
                      obtain ⟨hp_11p0, hp_11p1⟩ := hp_11
                      refine zk_ifc (zci_lel (by omega)) (fun hc_11 => ?_) (fun hc_11 => ?_)
                      · first
                        | (exfalso; omega)
                        | (skip
                           refine zk_rI5 ?_
                           refine zk_ret ?_
                           try dsimp only
                           exact ⟨by omega, by omega, by omega, i_a3, h_t4, by first | omega | (simp only [h_a3, zu, ↓reduceIte]; (repeat' split) <;> omega), by first | omega | (simp only [h_a3, zu, ↓reduceIte]; (repeat' split) <;> omega), by first | omega | (simp only [h_a3, zu, ↓reduceIte]; (repeat' split) <;> omega), by (intro c hc; first | (have q := fun h => R_st c h; simp only [h_a3, zu, ↓reduceIte]; (repeat' split) <;> first | omega | (exact q (by omega))) | exact R_st c hc), by (intro c hc; first | (have q := fun h => R_ex c h; simp only [h_a3, zu, ↓reduceIte]; (repeat' split) <;> first | omega | (exact q (by omega))) | exact R_ex c hc), by (intro c hc; first | (have q := fun h => R_tr c h; simp only [h_a3, zu, ↓reduceIte]; (repeat' split) <;> first | omega | (exact q (by omega))) | exact R_tr c hc), by (intro c hc; first | (have q := fun h => R_pl c h; simp only [h_a3, zu, ↓reduceIte]; (repeat' split) <;> first | omega | (exact q (by omega))) | exact R_pl c hc), by (intro c hc; first | (have q := fun h => R_te c h; simp only [h_a3, zu, ↓reduceIte]; (repeat' split) <;> first | omega | (exact q (by omega))) | exact R_te c hc), by (intro c hc; first | (have q := fun h => R_go c h; simp only [h_a3, zu, ↓reduceIte]; (repeat' split) <;> first | omega | (exact q (by omega))) | exact R_go c hc)⟩)
                      · first
                        | (exfalso; omega)
                        | (skip
                           refine zk_rI5 ?_
                           refine zk_ret ?_
                           try dsimp only
                           exact ⟨by omega, by omega, by omega, i_a3, h_t4, by first | omega | (simp only [h_a3, zu, ↓reduceIte]; (repeat' split) <;> omega), by first | omega | (simp only [h_a3, zu, ↓reduceIte]; (repeat' split) <;> omega), by first | omega | (simp only [h_a3, zu, ↓reduceIte]; (repeat' split) <;> omega), by (intro c hc; first | (have q := fun h => R_st c h; simp only [h_a3, zu, ↓reduceIte]; (repeat' split) <;> first | omega | (exact q (by omega))) | exact R_st c hc), by (intro c hc; first | (have q := fun h => R_ex c h; simp only [h_a3, zu, ↓reduceIte]; (repeat' split) <;> first | omega | (exact q (by omega))) | exact R_ex c hc), by (intro c hc; first | (have q := fun h => R_tr c h; simp only [h_a3, zu, ↓reduceIte]; (repeat' split) <;> first | omega | (exact q (by omega))) | exact R_tr c hc), by (intro c hc; first | (have q := fun h => R_pl c h; simp only [h_a3, zu, ↓reduceIte]; (repeat' split) <;> first | omega | (exact q (by omega))) | exact R_pl c hc), by (intro c hc; first | (have q := fun h => R_te c h; simp only [h_a3, zu, ↓reduceIte]; (repeat' split) <;> first | omega | (exact q (by omega))) | exact R_te c hc), by (intro c hc; first | (have q := fun h => R_go c h; simp only [h_a3, zu, ↓reduceIte]; (repeat' split) <;> first | omega | (exact q (by omega))) | exact R_go c hc)⟩)))
            · first
              | (exfalso; omega)
              | (skip
                 refine zk_dI3 ?_
                 unfold f_HS_refuse
                 refine zk_nE (fun v1_6 h_v1_6 => ?_)
                 refine zk_gv (by omega) (by decide) (fun v2_5 h_v2_5 => ?_)
                 refine zk_n ?_
                 refine zk_sv (by omega) (by decide) (fun a4_2 h_a4_2 => ?_)
                 refine zk_rI3 ?_
                 refine zk_rI5 ?_
                 refine zk_dI5 ?_
                 unfold f_HM_goal
                 refine zk_nE (fun v1_7 h_v1_7 => ?_)
                 rw [zwi (by omega)] at h_v1_7
                 replace h_v1_7 := h_v1_7.symm
                 subst h_v1_7
                 refine zk_d1 (s_HM_in _ _ _ (by omega) (by omega) (by omega)) (fun v2_6 hp_12 => ?_)
                 try dsimp only at hp_12
                 have hp_12p0 := hp_12
                 refine zk_ifc (zci_ner (by omega)) (fun hc_12 => ?_) (fun hc_12 => ?_)
                 · first
                   | (exfalso; omega)
                   | (skip
                      refine zk_d1 (s_HM_isColumn _ _ (by omega) h_t4) (fun v3_5 hp_13 => ?_)
                      try dsimp only at hp_13
                      obtain ⟨hp_13p0, hp_13p1⟩ := hp_13
                      refine zk_ifc (zci_ner (by omega)) (fun hc_13 => ?_) (fun hc_13 => ?_)
                      · first
                        | (exfalso; omega)
                        | (skip
                           refine zk_n ?_
                           refine zk_d3 (s_HM_change _ _ _ _ (by omega)) (fun v5_3 v6_3 a7_3 hp_14 => ?_)
                           try dsimp only at hp_14
                           obtain ⟨hp_14p0, hp_14p1, hp_14p2⟩ := hp_14
                           have i_a7_3 : RI a7_3 := by rw [hp_14p2]; exact RIz_g h_t4 (by omega) (by omega)
                           refine zk_rI5 ?_
                           refine zk_ret ?_
                           try dsimp only
                           exact ⟨by omega, by omega, by omega, h_t39, i_a7_3, by first | omega | (simp only [hp_14p2, h_a4_2, zu, ↓reduceIte]; (repeat' split) <;> omega), by first | omega | (simp only [hp_14p2, h_a4_2, zu, ↓reduceIte]; (repeat' split) <;> omega), by first | omega | (simp only [hp_14p2, h_a4_2, zu, ↓reduceIte]; (repeat' split) <;> omega), by (intro c hc; first | (have q := fun h => R_st c h; simp only [hp_14p2, h_a4_2, zu, ↓reduceIte]; (repeat' split) <;> first | omega | (exact q (by omega))) | exact R_st c hc), by (intro c hc; first | (have q := fun h => R_ex c h; simp only [hp_14p2, h_a4_2, zu, ↓reduceIte]; (repeat' split) <;> first | omega | (exact q (by omega))) | exact R_ex c hc), by (intro c hc; first | (have q := fun h => R_tr c h; simp only [hp_14p2, h_a4_2, zu, ↓reduceIte]; (repeat' split) <;> first | omega | (exact q (by omega))) | exact R_tr c hc), by (intro c hc; first | (have q := fun h => R_pl c h; simp only [hp_14p2, h_a4_2, zu, ↓reduceIte]; (repeat' split) <;> first | omega | (exact q (by omega))) | exact R_pl c hc), by (intro c hc; first | (have q := fun h => R_te c h; simp only [hp_14p2, h_a4_2, zu, ↓reduceIte]; (repeat' split) <;> first | omega | (exact q (by omega))) | exact R_te c hc), by (intro c hc; first | (have q := fun h => R_go c h; simp only [hp_14p2, h_a4_2, zu, ↓reduceIte]; (repeat' split) <;> first | omega | (exact q (by omega))) | exact R_go c hc)⟩)
                      · first
                        | (exfalso; omega)
                        | (skip
                           refine zk_d3 (s_HM_tell _ _ _ (by omega)) (fun v8_3 v9_3 a10_3 hp_15 => ?_)
                           try dsimp only at hp_15
                           obtain ⟨hp_15p0, hp_15p1⟩ := hp_15
                           refine zk_ifc (zci_lel (by omega)) (fun hc_14 => ?_) (fun hc_14 => ?_)
                           · first
                             | (exfalso; omega)
                             | (skip
                                refine zk_rI5 ?_
                                refine zk_ret ?_
                                try dsimp only
                                exact ⟨by omega, by omega, by omega, h_t39, h_t4, by first | omega | (simp only [h_a4_2, zu, ↓reduceIte]; (repeat' split) <;> omega), by first | omega | (simp only [h_a4_2, zu, ↓reduceIte]; (repeat' split) <;> omega), by first | omega | (simp only [h_a4_2, zu, ↓reduceIte]; (repeat' split) <;> omega), by (intro c hc; first | (have q := fun h => R_st c h; simp only [h_a4_2, zu, ↓reduceIte]; (repeat' split) <;> first | omega | (exact q (by omega))) | exact R_st c hc), by (intro c hc; first | (have q := fun h => R_ex c h; simp only [h_a4_2, zu, ↓reduceIte]; (repeat' split) <;> first | omega | (exact q (by omega))) | exact R_ex c hc), by (intro c hc; first | (have q := fun h => R_tr c h; simp only [h_a4_2, zu, ↓reduceIte]; (repeat' split) <;> first | omega | (exact q (by omega))) | exact R_tr c hc), by (intro c hc; first | (have q := fun h => R_pl c h; simp only [h_a4_2, zu, ↓reduceIte]; (repeat' split) <;> first | omega | (exact q (by omega))) | exact R_pl c hc), by (intro c hc; first | (have q := fun h => R_te c h; simp only [h_a4_2, zu, ↓reduceIte]; (repeat' split) <;> first | omega | (exact q (by omega))) | exact R_te c hc), by (intro c hc; first | (have q := fun h => R_go c h; simp only [h_a4_2, zu, ↓reduceIte]; (repeat' split) <;> first | omega | (exact q (by omega))) | exact R_go c hc)⟩)
                           · first
                             | (exfalso; omega)
                             | (skip
                                refine zk_rI5 ?_
                                refine zk_ret ?_
                                try dsimp only
                                exact ⟨by omega, by omega, by omega, h_t39, h_t4, by first | omega | (simp only [h_a4_2, zu, ↓reduceIte]; (repeat' split) <;> omega), by first | omega | (simp only [h_a4_2, zu, ↓reduceIte]; (repeat' split) <;> omega), by first | omega | (simp only [h_a4_2, zu, ↓reduceIte]; (repeat' split) <;> omega), by (intro c hc; first | (have q := fun h => R_st c h; simp only [h_a4_2, zu, ↓reduceIte]; (repeat' split) <;> first | omega | (exact q (by omega))) | exact R_st c hc), by (intro c hc; first | (have q := fun h => R_ex c h; simp only [h_a4_2, zu, ↓reduceIte]; (repeat' split) <;> first | omega | (exact q (by omega))) | exact R_ex c hc), by (intro c hc; first | (have q := fun h => R_tr c h; simp only [h_a4_2, zu, ↓reduceIte]; (repeat' split) <;> first | omega | (exact q (by omega))) | exact R_tr c hc), by (intro c hc; first | (have q := fun h => R_pl c h; simp only [h_a4_2, zu, ↓reduceIte]; (repeat' split) <;> first | omega | (exact q (by omega))) | exact R_pl c hc), by (intro c hc; first | (have q := fun h => R_te c h; simp only [h_a4_2, zu, ↓reduceIte]; (repeat' split) <;> first | omega | (exact q (by omega))) | exact R_te c hc), by (intro c hc; first | (have q := fun h => R_go c h; simp only [h_a4_2, zu, ↓reduceIte]; (repeat' split) <;> first | omega | (exact q (by omega))) | exact R_go c hc)⟩)))
                 · first
                   | (exfalso; omega)
                   | (skip
                      refine zk_d3 (s_HM_tell _ _ _ (by omega)) (fun v11_3 v12_3 a13_3 hp_16 => ?_)
                      try dsimp only at hp_16
                      obtain ⟨hp_16p0, hp_16p1⟩ := hp_16
                      refine zk_ifc (zci_lel (by omega)) (fun hc_15 => ?_) (fun hc_15 => ?_)
                      · first
                        | (exfalso; omega)
                        | (skip
                           refine zk_rI5 ?_
                           refine zk_ret ?_
                           try dsimp only
                           exact ⟨by omega, by omega, by omega, h_t39, h_t4, by first | omega | (simp only [h_a4_2, zu, ↓reduceIte]; (repeat' split) <;> omega), by first | omega | (simp only [h_a4_2, zu, ↓reduceIte]; (repeat' split) <;> omega), by first | omega | (simp only [h_a4_2, zu, ↓reduceIte]; (repeat' split) <;> omega), by (intro c hc; first | (have q := fun h => R_st c h; simp only [h_a4_2, zu, ↓reduceIte]; (repeat' split) <;> first | omega | (exact q (by omega))) | exact R_st c hc), by (intro c hc; first | (have q := fun h => R_ex c h; simp only [h_a4_2, zu, ↓reduceIte]; (repeat' split) <;> first | omega | (exact q (by omega))) | exact R_ex c hc), by (intro c hc; first | (have q := fun h => R_tr c h; simp only [h_a4_2, zu, ↓reduceIte]; (repeat' split) <;> first | omega | (exact q (by omega))) | exact R_tr c hc), by (intro c hc; first | (have q := fun h => R_pl c h; simp only [h_a4_2, zu, ↓reduceIte]; (repeat' split) <;> first | omega | (exact q (by omega))) | exact R_pl c hc), by (intro c hc; first | (have q := fun h => R_te c h; simp only [h_a4_2, zu, ↓reduceIte]; (repeat' split) <;> first | omega | (exact q (by omega))) | exact R_te c hc), by (intro c hc; first | (have q := fun h => R_go c h; simp only [h_a4_2, zu, ↓reduceIte]; (repeat' split) <;> first | omega | (exact q (by omega))) | exact R_go c hc)⟩)
                      · first
                        | (exfalso; omega)
                        | (skip
                           refine zk_rI5 ?_
                           refine zk_ret ?_
                           try dsimp only
                           exact ⟨by omega, by omega, by omega, h_t39, h_t4, by first | omega | (simp only [h_a4_2, zu, ↓reduceIte]; (repeat' split) <;> omega), by first | omega | (simp only [h_a4_2, zu, ↓reduceIte]; (repeat' split) <;> omega), by first | omega | (simp only [h_a4_2, zu, ↓reduceIte]; (repeat' split) <;> omega), by (intro c hc; first | (have q := fun h => R_st c h; simp only [h_a4_2, zu, ↓reduceIte]; (repeat' split) <;> first | omega | (exact q (by omega))) | exact R_st c hc), by (intro c hc; first | (have q := fun h => R_ex c h; simp only [h_a4_2, zu, ↓reduceIte]; (repeat' split) <;> first | omega | (exact q (by omega))) | exact R_ex c hc), by (intro c hc; first | (have q := fun h => R_tr c h; simp only [h_a4_2, zu, ↓reduceIte]; (repeat' split) <;> first | omega | (exact q (by omega))) | exact R_tr c hc), by (intro c hc; first | (have q := fun h => R_pl c h; simp only [h_a4_2, zu, ↓reduceIte]; (repeat' split) <;> first | omega | (exact q (by omega))) | exact R_pl c hc), by (intro c hc; first | (have q := fun h => R_te c h; simp only [h_a4_2, zu, ↓reduceIte]; (repeat' split) <;> first | omega | (exact q (by omega))) | exact R_te c hc), by (intro c hc; first | (have q := fun h => R_go c h; simp only [h_a4_2, zu, ↓reduceIte]; (repeat' split) <;> first | omega | (exact q (by omega))) | exact R_go c hc)⟩))))
       · first
         | (exfalso; omega)
         | (skip
            unfold f_HS_goal_11
            refine zk_dI3 ?_
            unfold f_HS_refuse
            refine zk_nE (fun v1_8 h_v1_8 => ?_)
            refine zk_gv (by omega) (by decide) (fun v2_7 h_v2_7 => ?_)
            refine zk_n ?_
            refine zk_sv (by omega) (by decide) (fun a4_3 h_a4_3 => ?_)
            refine zk_rI3 ?_
            refine zk_rI5 ?_
            refine zk_dI5 ?_
            unfold f_HM_goal
            refine zk_nE (fun v1_9 h_v1_9 => ?_)
            rw [zwi (by omega)] at h_v1_9
            replace h_v1_9 := h_v1_9.symm
            subst h_v1_9
            refine zk_d1 (s_HM_in _ _ _ (by omega) (by omega) (by omega)) (fun v2_8 hp_17 => ?_)
            try dsimp only at hp_17
            have hp_17p0 := hp_17
            refine zk_ifc (zci_ner (by omega)) (fun hc_16 => ?_) (fun hc_16 => ?_)
            · first
              | (exfalso; omega)
              | (skip
                 refine zk_d1 (s_HM_isColumn _ _ (by omega) h_t4) (fun v3_7 hp_18 => ?_)
                 try dsimp only at hp_18
                 obtain ⟨hp_18p0, hp_18p1⟩ := hp_18
                 refine zk_ifc (zci_ner (by omega)) (fun hc_17 => ?_) (fun hc_17 => ?_)
                 · first
                   | (exfalso; omega)
                   | (skip
                      refine zk_n ?_
                      refine zk_d3 (s_HM_change _ _ _ _ (by omega)) (fun v5_4 v6_4 a7_4 hp_19 => ?_)
                      try dsimp only at hp_19
                      obtain ⟨hp_19p0, hp_19p1, hp_19p2⟩ := hp_19
                      have i_a7_4 : RI a7_4 := by rw [hp_19p2]; exact RIz_g h_t4 (by omega) (by omega)
                      refine zk_rI5 ?_
                      refine zk_ret ?_
                      try dsimp only
                      exact ⟨by omega, by omega, by omega, h_t39, i_a7_4, by first | omega | (simp only [hp_19p2, h_a4_3, zu, ↓reduceIte]; (repeat' split) <;> omega), by first | omega | (simp only [hp_19p2, h_a4_3, zu, ↓reduceIte]; (repeat' split) <;> omega), by first | omega | (simp only [hp_19p2, h_a4_3, zu, ↓reduceIte]; (repeat' split) <;> omega), by (intro c hc; first | (have q := fun h => R_st c h; simp only [hp_19p2, h_a4_3, zu, ↓reduceIte]; (repeat' split) <;> first | omega | (exact q (by omega))) | exact R_st c hc), by (intro c hc; first | (have q := fun h => R_ex c h; simp only [hp_19p2, h_a4_3, zu, ↓reduceIte]; (repeat' split) <;> first | omega | (exact q (by omega))) | exact R_ex c hc), by (intro c hc; first | (have q := fun h => R_tr c h; simp only [hp_19p2, h_a4_3, zu, ↓reduceIte]; (repeat' split) <;> first | omega | (exact q (by omega))) | exact R_tr c hc), by (intro c hc; first | (have q := fun h => R_pl c h; simp only [hp_19p2, h_a4_3, zu, ↓reduceIte]; (repeat' split) <;> first | omega | (exact q (by omega))) | exact R_pl c hc), by (intro c hc; first | (have q := fun h => R_te c h; simp only [hp_19p2, h_a4_3, zu, ↓reduceIte]; (repeat' split) <;> first | omega | (exact q (by omega))) | exact R_te c hc), by (intro c hc; first | (have q := fun h => R_go c h; simp only [hp_19p2, h_a4_3, zu, ↓reduceIte]; (repeat' split) <;> first | omega | (exact q (by omega))) | exact R_go c hc)⟩)
                 · first
                   | (exfalso; omega)
                   | (skip
                      refine zk_d3 (s_HM_tell _ _ _ (by omega)) (fun v8_4 v9_4 a10_4 hp_20 => ?_)
                      try dsimp only at hp_20
                      obtain ⟨hp_20p0, hp_20p1⟩ := hp_20
                      refine zk_ifc (zci_lel (by omega)) (fun hc_18 => ?_) (fun hc_18 => ?_)
                      · first
                        | (exfalso; omega)
                        | (skip
                           refine zk_rI5 ?_
                           refine zk_ret ?_
                           try dsimp only
                           exact ⟨by omega, by omega, by omega, h_t39, h_t4, by first | omega | (simp only [h_a4_3, zu, ↓reduceIte]; (repeat' split) <;> omega), by first | omega | (simp only [h_a4_3, zu, ↓reduceIte]; (repeat' split) <;> omega), by first | omega | (simp only [h_a4_3, zu, ↓reduceIte]; (repeat' split) <;> omega), by (intro c hc; first | (have q := fun h => R_st c h; simp only [h_a4_3, zu, ↓reduceIte]; (repeat' split) <;> first | omega | (exact q (by omega))) | exact R_st c hc), by (intro c hc; first | (have q := fun h => R_ex c h; simp only [h_a4_3, zu, ↓reduceIte]; (repeat' split) <;> first | omega | (exact q (by omega))) | exact R_ex c hc), by (intro c hc; first | (have q := fun h => R_tr c h; simp only [h_a4_3, zu, ↓reduceIte]; (repeat' split) <;> first | omega | (exact q (by omega))) | exact R_tr c hc), by (intro c hc; first | (have q := fun h => R_pl c h; simp only [h_a4_3, zu, ↓reduceIte]; (repeat' split) <;> first | omega | (exact q (by omega))) | exact R_pl c hc), by (intro c hc; first | (have q := fun h => R_te c h; simp only [h_a4_3, zu, ↓reduceIte]; (repeat' split) <;> first | omega | (exact q (by omega))) | exact R_te c hc), by (intro c hc; first | (have q := fun h => R_go c h; simp only [h_a4_3, zu, ↓reduceIte]; (repeat' split) <;> first | omega | (exact q (by omega))) | exact R_go c hc)⟩)
                      · first
                        | (exfalso; omega)
                        | (skip
                           refine zk_rI5 ?_
                           refine zk_ret ?_
                           try dsimp only
                           exact ⟨by omega, by omega, by omega, h_t39, h_t4, by first | omega | (simp only [h_a4_3, zu, ↓reduceIte]; (repeat' split) <;> omega), by first | omega | (simp only [h_a4_3, zu, ↓reduceIte]; (repeat' split) <;> omega), by first | omega | (simp only [h_a4_3, zu, ↓reduceIte]; (repeat' split) <;> omega), by (intro c hc; first | (have q := fun h => R_st c h; simp only [h_a4_3, zu, ↓reduceIte]; (repeat' split) <;> first | omega | (exact q (by omega))) | exact R_st c hc), by (intro c hc; first | (have q := fun h => R_ex c h; simp only [h_a4_3, zu, ↓reduceIte]; (repeat' split) <;> first | omega | (exact q (by omega))) | exact R_ex c hc), by (intro c hc; first | (have q := fun h => R_tr c h; simp only [h_a4_3, zu, ↓reduceIte]; (repeat' split) <;> first | omega | (exact q (by omega))) | exact R_tr c hc), by (intro c hc; first | (have q := fun h => R_pl c h; simp only [h_a4_3, zu, ↓reduceIte]; (repeat' split) <;> first | omega | (exact q (by omega))) | exact R_pl c hc), by (intro c hc; first | (have q := fun h => R_te c h; simp only [h_a4_3, zu, ↓reduceIte]; (repeat' split) <;> first | omega | (exact q (by omega))) | exact R_te c hc), by (intro c hc; first | (have q := fun h => R_go c h; simp only [h_a4_3, zu, ↓reduceIte]; (repeat' split) <;> first | omega | (exact q (by omega))) | exact R_go c hc)⟩)))
            · first
              | (exfalso; omega)
              | (skip
                 refine zk_d3 (s_HM_tell _ _ _ (by omega)) (fun v11_4 v12_4 a13_4 hp_21 => ?_)
                 try dsimp only at hp_21
                 obtain ⟨hp_21p0, hp_21p1⟩ := hp_21
                 refine zk_ifc (zci_lel (by omega)) (fun hc_19 => ?_) (fun hc_19 => ?_)
                 · first
                   | (exfalso; omega)
                   | (skip
                      refine zk_rI5 ?_
                      refine zk_ret ?_
                      try dsimp only
                      exact ⟨by omega, by omega, by omega, h_t39, h_t4, by first | omega | (simp only [h_a4_3, zu, ↓reduceIte]; (repeat' split) <;> omega), by first | omega | (simp only [h_a4_3, zu, ↓reduceIte]; (repeat' split) <;> omega), by first | omega | (simp only [h_a4_3, zu, ↓reduceIte]; (repeat' split) <;> omega), by (intro c hc; first | (have q := fun h => R_st c h; simp only [h_a4_3, zu, ↓reduceIte]; (repeat' split) <;> first | omega | (exact q (by omega))) | exact R_st c hc), by (intro c hc; first | (have q := fun h => R_ex c h; simp only [h_a4_3, zu, ↓reduceIte]; (repeat' split) <;> first | omega | (exact q (by omega))) | exact R_ex c hc), by (intro c hc; first | (have q := fun h => R_tr c h; simp only [h_a4_3, zu, ↓reduceIte]; (repeat' split) <;> first | omega | (exact q (by omega))) | exact R_tr c hc), by (intro c hc; first | (have q := fun h => R_pl c h; simp only [h_a4_3, zu, ↓reduceIte]; (repeat' split) <;> first | omega | (exact q (by omega))) | exact R_pl c hc), by (intro c hc; first | (have q := fun h => R_te c h; simp only [h_a4_3, zu, ↓reduceIte]; (repeat' split) <;> first | omega | (exact q (by omega))) | exact R_te c hc), by (intro c hc; first | (have q := fun h => R_go c h; simp only [h_a4_3, zu, ↓reduceIte]; (repeat' split) <;> first | omega | (exact q (by omega))) | exact R_go c hc)⟩)
                 · first
                   | (exfalso; omega)
                   | (skip
                      refine zk_rI5 ?_
                      refine zk_ret ?_
                      try dsimp only
                      exact ⟨by omega, by omega, by omega, h_t39, h_t4, by first | omega | (simp only [h_a4_3, zu, ↓reduceIte]; (repeat' split) <;> omega), by first | omega | (simp only [h_a4_3, zu, ↓reduceIte]; (repeat' split) <;> omega), by first | omega | (simp only [h_a4_3, zu, ↓reduceIte]; (repeat' split) <;> omega), by (intro c hc; first | (have q := fun h => R_st c h; simp only [h_a4_3, zu, ↓reduceIte]; (repeat' split) <;> first | omega | (exact q (by omega))) | exact R_st c hc), by (intro c hc; first | (have q := fun h => R_ex c h; simp only [h_a4_3, zu, ↓reduceIte]; (repeat' split) <;> first | omega | (exact q (by omega))) | exact R_ex c hc), by (intro c hc; first | (have q := fun h => R_tr c h; simp only [h_a4_3, zu, ↓reduceIte]; (repeat' split) <;> first | omega | (exact q (by omega))) | exact R_tr c hc), by (intro c hc; first | (have q := fun h => R_pl c h; simp only [h_a4_3, zu, ↓reduceIte]; (repeat' split) <;> first | omega | (exact q (by omega))) | exact R_pl c hc), by (intro c hc; first | (have q := fun h => R_te c h; simp only [h_a4_3, zu, ↓reduceIte]; (repeat' split) <;> first | omega | (exact q (by omega))) | exact R_te c hc), by (intro c hc; first | (have q := fun h => R_go c h; simp only [h_a4_3, zu, ↓reduceIte]; (repeat' split) <;> first | omega | (exact q (by omega))) | exact R_go c hc)⟩))))
set_option maxHeartbeats 4000000 in
set_option maxRecDepth 10000 in
theorem st_25 (N : Int) (σ : Nat → Int) (τ : Nat → Nat → Int) (hI : INV N σ τ) (a1 : Int) (a2 : Int) (b_a1 : (-2147483648) ≤ a1 ∧ a1 ≤ 2147483647) (b_a2 : (-2147483648) ≤ a2 ∧ a2 ≤ 2147483647) : zok (f_OP_25 N a1 a2 (σ 3) (σ 4) (σ 5) (σ 26) (σ 27) (σ 30) (σ 49) (τ 2) (τ 3) (τ 4) (τ 34) (τ 35) (τ 36) (τ 37) (τ 38) (τ 39)) (fun o => (o.1 = o.2.1) ∧ INV (N + 6) (zst σ [(3, o.2.2.1), (4, o.2.2.2.1), (5, o.2.2.2.2.1), (30, o.2.2.2.2.2.1)]) (zta τ [(2, o.2.2.2.2.2.2.1), (3, o.2.2.2.2.2.2.2.1), (4, o.2.2.2.2.2.2.2.2.1), (39, o.2.2.2.2.2.2.2.2.2)])) := by
  have zg1 := hI.2
  have zg2 := zg1.2
  have zg3 := zg2.2
  have zg4 := zg3.2
  have zg5 := zg4.2
  have zg6 := zg5.2
  have zg7 := zg6.2
  have zg8 := zg7.2
  have zg9 := zg8.2
  have zg10 := zg9.2
  have zg11 := zg10.2
  have zg12 := zg11.2
  have zg13 := zg12.2
  have zg14 := zg13.2
  have zg15 := zg14.2
  have zg16 := zg15.2
  have zg17 := zg16.2
  have zg18 := zg17.2
  have zg19 := zg18.2
  have zg20 := zg19.2
  have zg21 := zg20.2
  have zg22 := zg21.2
  have zg23 := zg22.2
  have zg24 := zg23.2
  have zg25 := zg24.2
  have zg26 := zg25.2
  have zg27 := zg26.2
  have zg28 := zg27.2
  have zg29 := zg28.2
  have zg30 := zg29.2
  have zg31 := zg30.2
  have zg32 := zg31.2
  have zg33 := zg32.2
  have zg34 := zg33.2
  have zg35 := zg34.2
  have zg36 := zg35.2
  have zg37 := zg36.2
  have zg38 := zg37.2
  have zg39 := zg38.2
  have zg40 := zg39.2
  have zg41 := zg40.2
  have zg42 := zg41.2
  have zg43 := zg42.2
  have zg44 := zg43.2
  have zg45 := zg44.2
  have zg46 := zg45.2
  have zg47 := zg46.2
  have zg48 := zg47.2
  have zg49 := zg48.2
  have zg50 := zg49.2
  have zg51 := zg50.2
  have zg52 := zg51.2
  have zg53 := zg52.2
  have zg54 := zg53.2
  have zg55 := zg54.2
  have zg56 := zg55.2
  have zg57 := zg56.2
  have zg58 := zg57.2
  have zg59 := zg58.2
  have zg60 := zg59.2
  have zg61 := zg60.2
  have zg62 := zg61.2
  have zg63 := zg62.2
  have zg64 := zg63.2
  have zg65 := zg64.2
  have zg66 := zg65.2
  have zg67 := zg66.2
  have zg68 := zg67.2
  have zg69 := zg68.2
  have zg70 := zg69.2
  have zg71 := zg70.2
  have zg72 := zg71.2
  have zg73 := zg72.2
  have zg74 := zg73.2
  have zg75 := zg74.2
  have zg76 := zg75.2
  have zg77 := zg76.2
  have zg78 := zg77.2
  have zg79 := zg78.2
  have zg80 := zg79.2
  have zg81 := zg80.2
  have zg82 := zg81.2
  have zg83 := zg82.2
  have zg84 := zg83.2
  have zg85 := zg84.2
  have zg86 := zg85.2
  have zg87 := zg86.2
  have zg88 := zg87.2
  have zg89 := zg88.2
  have zg90 := zg89.2
  have zg91 := zg90.2
  have zg92 := zg91.2
  have zg93 := zg92.2
  have zg94 := zg93.2
  have zg95 := zg94.2
  have zg96 := zg95.2
  have zg97 := zg96.2
  have zg98 := zg97.2
  have zg99 := zg98.2
  have zg100 := zg99.2
  have zg101 := zg100.2
  have zg102 := zg101.2
  have zg103 := zg102.2
  have zg104 := zg103.2
  have zg105 := zg104.2
  have zg106 := zg105.2
  have zg107 := zg106.2
  have zg108 := zg107.2
  have zg109 := zg108.2
  have zg110 := zg109.2
  have zg111 := zg110.2
  have zg112 := zg111.2
  have zg113 := zg112.2
  have zg114 := zg113.2
  have zg115 := zg114.2
  have zg116 := zg115.2
  have zg117 := zg116.2
  have zg118 := zg117.2
  have zg119 := zg118.2
  have zg120 := zg119.2
  have zg121 := zg120.2
  have zg122 := zg121.2
  have zg123 := zg122.2
  have zg124 := zg123.2
  have zg125 := zg124.2
  have I_s3 := zg2.1
  have I_s26 := zg3.1
  have I_s27 := zg4.1
  have I_s49 := zg21.1
  have I_t4 := zg99.1
  have I_t34 := zg45.1
  have I_t35 := zg46.1
  have I_t36 := zg47.1
  have I_t37 := zg48.1
  have I_t38 := zg49.1
  have I_t39 := zg50.1
  have I_s30 := zg42.1
  have R_many := zg113.1
  have R_ch := zg114.1
  have R_pa := zg115.1
  have R_st := zg116.1
  have R_ex := zg117.1
  have R_tr := zg118.1
  have R_pl := zg119.1
  have R_te := zg120.1
  have R_go := zg121.1
  refine zok_mono (s_OP_25 N a1 a2 (σ 3) (σ 4) (σ 5) (σ 26) (σ 27) (σ 30) (σ 49) (τ 2) (τ 3) (τ 4) (τ 34) (τ 35) (τ 36) (τ 37) (τ 38) (τ 39) b_a1 b_a2 I_s3 I_s26 I_s27 I_s49 I_t4 I_t34 I_t35 I_t36 I_t37 I_t38 I_t39 I_s30 R_many R_ch R_pa R_st R_ex R_tr R_pl R_te R_go) (fun o ho => ?_)
  obtain ⟨p0, p1, p2, p3, p4, p5, p6, p7, p8, p9, p10, p11, p12, p13⟩ := ho
  exact ⟨p0, ⟨hI.1, zg1.1, p1, zg3.1, zg4.1, zg5.1, zg6.1, zg7.1, zg8.1, zg9.1, zg10.1, zg11.1, zg12.1, zg13.1, zg14.1, zg15.1, zg16.1, zg17.1, zg18.1, zg19.1, zg20.1, zg21.1, zg22.1, zg23.1, zg24.1, zg25.1, zg26.1, zg27.1, zg28.1, zg29.1, zg30.1, zg31.1, zg32.1, zg33.1, zg34.1, zg35.1, zg36.1, zg37.1, zg38.1, zg39.1, zg40.1, zg41.1, p2, zg43.1, zg44.1, zg45.1, zg46.1, zg47.1, zg48.1, zg49.1, p3, zg51.1, zg52.1, zg53.1, zg54.1, zg55.1, zg56.1, zg57.1, zg58.1, zg59.1, zg60.1, zg61.1, zg62.1, zg63.1, zg64.1, zg65.1, zg66.1, zg67.1, zg68.1, zg69.1, zg70.1, zg71.1, zg72.1, zg73.1, zg74.1, zg75.1, zg76.1, zg77.1, zg78.1, zg79.1, zg80.1, zg81.1, zg82.1, zg83.1, zg84.1, zg85.1, zg86.1, zg87.1, zg88.1, zg89.1, zg90.1, zg91.1, zg92.1, zg93.1, zg94.1, zg95.1, zg96.1, zg97.1, zg98.1, p4, zg100.1, zg101.1, zg102.1, zg103.1, zg104.1, zg105.1, zg106.1, zg107.1, zg108.1, zg109.1, zg110.1, zg111.1, zg112.1, p5, p6, p7, p8, p9, p10, p11, p12, p13, zg122.1, zg123.1, zg124.1, zg125⟩⟩
noncomputable def f_OP_26 (N : Int) (a1 : Int) (a2 : Int) (a3 : Int) (s4 : Int) (s19 : Int) (s20 : Int) (s21 : Int) (s22 : Int) (s23 : Int) (s26 : Int) (s28 : Int) (s29 : Int) (s30 : Int) (s34 : Int) (s35 : Int) (s36 : Int) (s37 : Int) (s38 : Int) (s39 : Int) (s49 : Int) (s64 : Int) (s65 : Int) (s66 : Int) (s67 : Int) (s68 : Int) (s69 : Int) (s70 : Int) (s71 : Int) (s72 : Int) (t4 : Nat → Int) (t14 : Nat → Int) (t15 : Nat → Int) (t18 : Nat → Int) (t19 : Nat → Int) (t20 : Nat → Int) (t21 : Nat → Int) (t22 : Nat → Int) (t23 : Nat → Int) (t24 : Nat → Int) (t25 : Nat → Int) (t26 : Nat → Int) (t27 : Nat → Int) (t34 : Nat → Int) (t35 : Nat → Int) (t38 : Nat → Int) (t39 : Nat → Int) (t40 : Nat → Int) (t41 : Nat → Int) (t46 : Nat → Int) (t47 : Nat → Int) (t48 : Nat → Int) (t49 : Nat → Int) (t50 : Nat → Int) (t51 : Nat → Int) (t52 : Nat → Int) (t53 : Nat → Int) (t54 : Nat → Int) (t55 : Nat → Int) (t56 : Nat → Int) (t57 : Nat → Int) (t58 : Nat → Int) (t63 : Nat → Int) (t64 : Nat → Int) (t89 : Nat → Int) (t90 : Nat → Int) (t91 : Nat → Int) : Option (Int × Int × Int × Int × Int × Int × Int × Int × Int × Int × Int × Int × Int × Int × Int × Int × Int × Int × Int × Int × Int × Int × Int × (Nat → Int) × (Nat → Int) × (Nat → Int) × (Nat → Int) × (Nat → Int) × (Nat → Int) × (Nat → Int) × (Nat → Int) × (Nat → Int) × (Nat → Int) × (Nat → Int) × (Nat → Int) × (Nat → Int) × (Nat → Int) × (Nat → Int) × (Nat → Int) × (Nat → Int) × (Nat → Int) × (Nat → Int) × (Nat → Int) × (Nat → Int) × (Nat → Int) × (Nat → Int) × (Nat → Int) × (Nat → Int) × (Nat → Int) × (Nat → Int) × (Nat → Int)) :=
  zd32 (f_HS_plan a1 a2 a3 s26 s28 s29 s30 s49 t34 t35 t38 t39 t40 t41 t63 t64 s34 s35 s36 s37 s38 s39 t46 t47 t48 t49 t50 t51 t52 t53 t54 t55 t56 t57 t58 s64 s65 s66 s67 s68 s69 s70 s71 s72 t89 t90 t91) fun v470 v471 v472 v473 v474 v475 v476 a477 a478 a479 a480 a481 a482 a483 a484 a485 a486 a487 a488 a489 v490 v491 v492 v493 v494 v495 v496 v497 v498 a499 a500 a501 =>
  zd19 (f_HM_plan a1 a2 a3 t4 s4 s19 s20 s21 s22 s23 t14 t15 t18 t19 t20 t21 t22 t23 t24 t25 t26 t27) fun v508 v509 v510 v511 v512 v513 v514 a515 a516 a517 a518 a519 a520 a521 a522 a523 a524 a525 a526 =>
  some (v470, v508, v509, v510, v511, v512, v513, v514, v471, v472, v473, v474, v475, v476, v490, v491, v492, v493, v494, v495, v496, v497, v498, a515, a516, a517, a518, a519, a520, a521, a522, a523, a524, a525, a526, a477, a478, a479, a480, a481, a482, a483, a484, a485, a486, a487, a488, a489, a499, a500, a501)
set_option maxHeartbeats 4000000 in
theorem s_OP_26 (N : Int) (a1 : Int) (a2 : Int) (a3 : Int) (s4 : Int) (s19 : Int) (s20 : Int) (s21 : Int) (s22 : Int) (s23 : Int) (s26 : Int) (s28 : Int) (s29 : Int) (s30 : Int) (s34 : Int) (s35 : Int) (s36 : Int) (s37 : Int) (s38 : Int) (s39 : Int) (s49 : Int) (s64 : Int) (s65 : Int) (s66 : Int) (s67 : Int) (s68 : Int) (s69 : Int) (s70 : Int) (s71 : Int) (s72 : Int) (t4 : Nat → Int) (t14 : Nat → Int) (t15 : Nat → Int) (t18 : Nat → Int) (t19 : Nat → Int) (t20 : Nat → Int) (t21 : Nat → Int) (t22 : Nat → Int) (t23 : Nat → Int) (t24 : Nat → Int) (t25 : Nat → Int) (t26 : Nat → Int) (t27 : Nat → Int) (t34 : Nat → Int) (t35 : Nat → Int) (t38 : Nat → Int) (t39 : Nat → Int) (t40 : Nat → Int) (t41 : Nat → Int) (t46 : Nat → Int) (t47 : Nat → Int) (t48 : Nat → Int) (t49 : Nat → Int) (t50 : Nat → Int) (t51 : Nat → Int) (t52 : Nat → Int) (t53 : Nat → Int) (t54 : Nat → Int) (t55 : Nat → Int) (t56 : Nat → Int) (t57 : Nat → Int) (t58 : Nat → Int) (t63 : Nat → Int) (t64 : Nat → Int) (t89 : Nat → Int) (t90 : Nat → Int) (t91 : Nat → Int) (b_a1 : (-2147483648) ≤ a1 ∧ a1 ≤ 2147483647) (b_a2 : (-2147483648) ≤ a2 ∧ a2 ≤ 2147483647) (b_a3 : (-2147483648) ≤ a3 ∧ a3 ≤ 2147483647) (b_s26 : 0 ≤ s26 ∧ s26 ≤ 6) (b_s28 : 0 ≤ s28 ∧ s28 ≤ 6) (b_s29 : (-1) ≤ s29 ∧ s29 ≤ 5) (b_s34 : 0 ≤ s34 ∧ s34 ≤ 32) (b_s35 : 0 ≤ s35 ∧ s35 ≤ 2147483647) (b_s36 : 0 ≤ s36 ∧ s36 ≤ 1) (b_s37 : 0 ≤ s37 ∧ s37 ≤ 5) (b_s38 : 0 ≤ s38 ∧ s38 ≤ 6720) (b_s39 : 0 ≤ s39 ∧ s39 ≤ 6720) (b_s49 : 0 ≤ s49 ∧ s49 ≤ 12) (b_s65 : (-1000000000) ≤ s65 ∧ s65 ≤ 8191) (b_s66 : (-9223372036854775808) ≤ s66 ∧ s66 ≤ 9223372036854775807) (b_s68 : (-1000000000) ≤ s68 ∧ s68 ≤ 8191) (b_s69 : (-9223372036854775808) ≤ s69 ∧ s69 ≤ 9223372036854775807) (b_s71 : (-1000000000) ≤ s71 ∧ s71 ≤ 8191) (b_s72 : (-9223372036854775808) ≤ s72 ∧ s72 ≤ 9223372036854775807) (h_t4 : RI t4) (h_t18 : zR t18 0 30) (h_t23 : zR t23 (-1) 99) (h_t34 : zR t34 0 60) (h_t35 : zR t35 0 1) (h_t38 : zR t38 0 99) (h_t39 : zR t39 (-1) 10) (h_t40 : zR t40 (-2147483648) 2147483647) (h_t41 : zR t41 0 424) (h_t46 : zR t46 0 99) (h_t48 : zR t48 (-2147483648) 2147483647) (h_t49 : zR t49 0 6720) (h_t50 : zR t50 (-9223372036854775808) 9223372036854775807) (h_t52 : zR t52 (-1) 6719) (h_t53 : zR t53 0 150) (h_t54 : zR t54 0 6719) (h_t55 : zR t55 0 6719) (h_t56 : zR t56 0 30) (h_t57 : zR t57 0 5) (h_t58 : zR t58 0 7) (h_t63 : zR t63 0 10) (h_t64 : zR t64 0 30) (h_t89 : zR t89 0 150) (h_t90 : zR t90 0 150) (h_t91 : zR t91 0 150) (I_s30 : 0 ≤ s30 ∧ s30 ≤ N) (R_many : s49 = t4 0) (R_ch : s26 = t4 1) (R_st : RV 3 153 s26 t34 t4) (R_ex : RV 3 154 s26 t35 t4) (R_te : RV 1 5 4 t38 t4) (R_go : RV 1 141 s49 t39 t4) : zok (f_OP_26 N a1 a2 a3 s4 s19 s20 s21 s22 s23 s26 s28 s29 s30 s34 s35 s36 s37 s38 s39 s49 s64 s65 s66 s67 s68 s69 s70 s71 s72 t4 t14 t15 t18 t19 t20 t21 t22 t23 t24 t25 t26 t27 t34 t35 t38 t39 t40 t41 t46 t47 t48 t49 t50 t51 t52 t53 t54 t55 t56 t57 t58 t63 t64 t89 t90 t91) (fun o => (0 ≤ o.2.2.2.2.2.2.2.2.1 ∧ o.2.2.2.2.2.2.2.2.1 ≤ 32) ∧ (0 ≤ o.2.2.2.2.2.2.2.2.2.1 ∧ o.2.2.2.2.2.2.2.2.2.1 ≤ 2147483647) ∧ (0 ≤ o.2.2.2.2.2.2.2.2.2.2.1 ∧ o.2.2.2.2.2.2.2.2.2.2.1 ≤ 1) ∧ (0 ≤ o.2.2.2.2.2.2.2.2.2.2.2.1 ∧ o.2.2.2.2.2.2.2.2.2.2.2.1 ≤ 5) ∧ (0 ≤ o.2.2.2.2.2.2.2.2.2.2.2.2.1 ∧ o.2.2.2.2.2.2.2.2.2.2.2.2.1 ≤ 6720) ∧ (0 ≤ o.2.2.2.2.2.2.2.2.2.2.2.2.2.1 ∧ o.2.2.2.2.2.2.2.2.2.2.2.2.2.1 ≤ 6720) ∧ ((-1000000000) ≤ o.2.2.2.2.2.2.2.2.2.2.2.2.2.2.2.1 ∧ o.2.2.2.2.2.2.2.2.2.2.2.2.2.2.2.1 ≤ 8191) ∧ ((-9223372036854775808) ≤ o.2.2.2.2.2.2.2.2.2.2.2.2.2.2.2.2.1 ∧ o.2.2.2.2.2.2.2.2.2.2.2.2.2.2.2.2.1 ≤ 9223372036854775807) ∧ ((-1000000000) ≤ o.2.2.2.2.2.2.2.2.2.2.2.2.2.2.2.2.2.2.1 ∧ o.2.2.2.2.2.2.2.2.2.2.2.2.2.2.2.2.2.2.1 ≤ 8191) ∧ ((-9223372036854775808) ≤ o.2.2.2.2.2.2.2.2.2.2.2.2.2.2.2.2.2.2.2.1 ∧ o.2.2.2.2.2.2.2.2.2.2.2.2.2.2.2.2.2.2.2.1 ≤ 9223372036854775807) ∧ ((-1000000000) ≤ o.2.2.2.2.2.2.2.2.2.2.2.2.2.2.2.2.2.2.2.2.2.1 ∧ o.2.2.2.2.2.2.2.2.2.2.2.2.2.2.2.2.2.2.2.2.2.1 ≤ 8191) ∧ ((-9223372036854775808) ≤ o.2.2.2.2.2.2.2.2.2.2.2.2.2.2.2.2.2.2.2.2.2.2.1 ∧ o.2.2.2.2.2.2.2.2.2.2.2.2.2.2.2.2.2.2.2.2.2.2.1 ≤ 9223372036854775807) ∧ zR o.2.2.2.2.2.2.2.2.2.2.2.2.2.2.2.2.2.2.2.2.2.2.2.2.2.2.2.2.2.2.2.2.2.2.2.1 0 99 ∧ zR o.2.2.2.2.2.2.2.2.2.2.2.2.2.2.2.2.2.2.2.2.2.2.2.2.2.2.2.2.2.2.2.2.2.2.2.2.2.1 (-2147483648) 2147483647 ∧ zR o.2.2.2.2.2.2.2.2.2.2.2.2.2.2.2.2.2.2.2.2.2.2.2.2.2.2.2.2.2.2.2.2.2.2.2.2.2.2.1 0 6720 ∧ zR o.2.2.2.2.2.2.2.2.2.2.2.2.2.2.2.2.2.2.2.2.2.2.2.2.2.2.2.2.2.2.2.2.2.2.2.2.2.2.2.1 (-9223372036854775808) 9223372036854775807 ∧ zR o.2.2.2.2.2.2.2.2.2.2.2.2.2.2.2.2.2.2.2.2.2.2.2.2.2.2.2.2.2.2.2.2.2.2.2.2.2.2.2.2.2.1 (-1) 6719 ∧ zR o.2.2.2.2.2.2.2.2.2.2.2.2.2.2.2.2.2.2.2.2.2.2.2.2.2.2.2.2.2.2.2.2.2.2.2.2.2.2.2.2.2.2.1 0 150 ∧ zR o.2.2.2.2.2.2.2.2.2.2.2.2.2.2.2.2.2.2.2.2.2.2.2.2.2.2.2.2.2.2.2.2.2.2.2.2.2.2.2.2.2.2.2.1 0 6719 ∧ zR o.2.2.2.2.2.2.2.2.2.2.2.2.2.2.2.2.2.2.2.2.2.2.2.2.2.2.2.2.2.2.2.2.2.2.2.2.2.2.2.2.2.2.2.2.1 0 6719 ∧ zR o.2.2.2.2.2.2.2.2.2.2.2.2.2.2.2.2.2.2.2.2.2.2.2.2.2.2.2.2.2.2.2.2.2.2.2.2.2.2.2.2.2.2.2.2.2.1 0 30 ∧ zR o.2.2.2.2.2.2.2.2.2.2.2.2.2.2.2.2.2.2.2.2.2.2.2.2.2.2.2.2.2.2.2.2.2.2.2.2.2.2.2.2.2.2.2.2.2.2.1 0 5 ∧ zR o.2.2.2.2.2.2.2.2.2.2.2.2.2.2.2.2.2.2.2.2.2.2.2.2.2.2.2.2.2.2.2.2.2.2.2.2.2.2.2.2.2.2.2.2.2.2.2.1 0 7 ∧ zR o.2.2.2.2.2.2.2.2.2.2.2.2.2.2.2.2.2.2.2.2.2.2.2.2.2.2.2.2.2.2.2.2.2.2.2.2.2.2.2.2.2.2.2.2.2.2.2.2.1 0 150 ∧ zR o.2.2.2.2.2.2.2.2.2.2.2.2.2.2.2.2.2.2.2.2.2.2.2.2.2.2.2.2.2.2.2.2.2.2.2.2.2.2.2.2.2.2.2.2.2.2.2.2.2.1 0 150 ∧ zR o.2.2.2.2.2.2.2.2.2.2.2.2.2.2.2.2.2.2.2.2.2.2.2.2.2.2.2.2.2.2.2.2.2.2.2.2.2.2.2.2.2.2.2.2.2.2.2.2.2.2 0 150 ∧ zR o.2.2.2.2.2.2.2.2.2.2.2.2.2.2.2.2.2.2.2.2.2.2.2.2.2.1 0 30 ∧ zR o.2.2.2.2.2.2.2.2.2.2.2.2.2.2.2.2.2.2.2.2.2.2.2.2.2.2.2.2.2.2.1 (-1) 99) := by
  unfold f_OP_26
  refine zk_dI32 ?_
  unfold f_HS_plan
  refine zk_ifc (zci_ltr (by omega)) (fun hc => ?_) (fun hc => ?_)
  · first
    | (exfalso; omega)
    | (skip
       refine zk_rI32 ?_
       refine zk_d19 (ww_HM_plan _ _ _ _ _ _ _ _ _ _ _ _ _ _ _ _ _ _ _ _ _ _ (by omega) (by omega) (by omega) h_t4 h_t18 h_t23) (fun v508 v509 v510 v511 v512 v513 v514 a515 a516 a517 a518 a519 a520 a521 a522 a523 a524 a525 a526 hp => ?_)
       try dsimp only at hp
       obtain ⟨hpp0, hpp1⟩ := hp
       refine zk_ret ?_
       try dsimp only
       exact ⟨by omega, by omega, by omega, by omega, by omega, by omega, by omega, by omega, by omega, by omega, by omega, by omega, h_t46, h_t48, h_t49, h_t50, h_t52, h_t53, h_t54, h_t55, h_t56, h_t57, h_t58, h_t89, h_t90, h_t91, hpp0, hpp1⟩)
  · first
    | (exfalso; omega)
    | (skip
       refine zk_ifc (zci_lt (by omega) (by omega)) (fun hc_2 => ?_) (fun hc_2 => ?_)
       · first
         | (exfalso; omega)
         | (skip
            refine zk_rI32 ?_
            refine zk_d19 (ww_HM_plan _ _ _ _ _ _ _ _ _ _ _ _ _ _ _ _ _ _ _ _ _ _ (by omega) (by omega) (by omega) h_t4 h_t18 h_t23) (fun v508_2 v509_2 v510_2 v511_2 v512_2 v513_2 v514_2 a515_2 a516_2 a517_2 a518_2 a519_2 a520_2 a521_2 a522_2 a523_2 a524_2 a525_2 a526_2 hp_2 => ?_)
            try dsimp only at hp_2
            obtain ⟨hp_2p0, hp_2p1⟩ := hp_2
            refine zk_ret ?_
            try dsimp only
            exact ⟨by omega, by omega, by omega, by omega, by omega, by omega, by omega, by omega, by omega, by omega, by omega, by omega, h_t46, h_t48, h_t49, h_t50, h_t52, h_t53, h_t54, h_t55, h_t56, h_t57, h_t58, h_t89, h_t90, h_t91, hp_2p0, hp_2p1⟩)
       · first
         | (exfalso; omega)
         | (skip
            refine zk_d1 (s_Planner_isSmall _ _ (by omega) h_t63) (fun v1 hp_3 => ?_)
            try dsimp only at hp_3
            have hp_3p0 := hp_3
            refine zk_ifc (zci_ner (by omega)) (fun hc_3 => ?_) (fun hc_3 => ?_)
            · first
              | (exfalso; omega)
              | (skip
                 refine zk_d32 (s_Planner_planned _ _ _ _ _ _ _ _ _ _ _ _ _ _ _ _ _ _ _ _ _ _ _ _ _ _ _ _ _ _ _ _ _ _ _ _ _ _ _ _ _ _ _ _ _ (by omega) (by omega) (by omega) (by omega) (by omega) h_t34 h_t35 h_t38 h_t39 h_t40 h_t41 h_t63 h_t64 (by omega) (by omega) (by omega) h_t49 h_t50 h_t52 h_t53 h_t54 h_t55 h_t56 h_t57 h_t58 (by omega) (by omega) (by omega) h_t48 (by omega) (by omega) (by omega) (by omega) (by omega) (by omega) h_t46 h_t89 h_t90 h_t91) (fun v2 v3 v4 v5 a6 a7 a8 a9 a10 a11 a12 a13 a14 a15 v16 v17 v18 a19 v20 v21 v22 v23 v24 v25 v26 v27 v28 a29 a30 a31 a32 a33 hp_4 => ?_)
                 try dsimp only at hp_4
                 obtain ⟨hp_4p0, hp_4p1, hp_4p2, hp_4p3, hp_4p4, hp_4p5, hp_4p6, hp_4p7, hp_4p8, hp_4p9, hp_4p10, hp_4p11, hp_4p12, hp_4p13, hp_4p14, hp_4p15, hp_4p16, hp_4p17, hp_4p18, hp_4p19, hp_4p20, hp_4p21, hp_4p22, hp_4p23, hp_4p24, hp_4p25, hp_4p26⟩ := hp_4
                 refine zk_if (fun hc_4 => ?_) (fun hc_4 => ?_)
                 · first
                   | (exfalso; omega)
                   | (skip
                      refine zk_ifc (zci_eq (by omega) (by omega)) (fun hc_5 => ?_) (fun hc_5 => ?_)
                      · first
                        | (exfalso; omega)
                        | (skip
                           unfold f_HS_plan_45c
                           refine zk_ifc (zci_ne (by omega) (by omega)) (fun hc_6 => ?_) (fun hc_6 => ?_)
                           · first
                             | (exfalso; omega)
                             | (skip
                                refine zk_rI32 ?_
                                refine zk_d19 (ww_HM_plan _ _ _ _ _ _ _ _ _ _ _ _ _ _ _ _ _ _ _ _ _ _ (by omega) (by omega) (by omega) h_t4 h_t18 h_t23) (fun v508_3 v509_3 v510_3 v511_3 v512_3 v513_3 v514_3 a515_3 a516_3 a517_3 a518_3 a519_3 a520_3 a521_3 a522_3 a523_3 a524_3 a525_3 a526_3 hp_5 => ?_)
                                try dsimp only at hp_5
                                obtain ⟨hp_5p0, hp_5p1⟩ := hp_5
                                refine zk_ret ?_
                                try dsimp only
                                exact ⟨by omega, by omega, by omega, by omega, by omega, by omega, by omega, by omega, by omega, by omega, by omega, by omega, hp_4p23, hp_4p22, hp_4p13, hp_4p14, hp_4p15, hp_4p16, hp_4p17, hp_4p18, hp_4p19, hp_4p20, hp_4p21, hp_4p24, hp_4p25, hp_4p26, hp_5p0, hp_5p1⟩)
                           · first
                             | (exfalso; omega)
                             | (skip
                                refine zk_rI32 ?_
                                refine zk_d19 (ww_HM_plan _ _ _ _ _ _ _ _ _ _ _ _ _ _ _ _ _ _ _ _ _ _ (by omega) (by omega) (by omega) h_t4 h_t18 h_t23) (fun v508_4 v509_4 v510_4 v511_4 v512_4 v513_4 v514_4 a515_4 a516_4 a517_4 a518_4 a519_4 a520_4 a521_4 a522_4 a523_4 a524_4 a525_4 a526_4 hp_6 => ?_)
                                try dsimp only at hp_6
                                obtain ⟨hp_6p0, hp_6p1⟩ := hp_6
                                refine zk_ret ?_
                                try dsimp only
                                exact ⟨by omega, by omega, by omega, by omega, by omega, by omega, by omega, by omega, by omega, by omega, by omega, by omega, hp_4p23, hp_4p22, hp_4p13, hp_4p14, hp_4p15, hp_4p16, hp_4p17, hp_4p18, hp_4p19, hp_4p20, hp_4p21, hp_4p24, hp_4p25, hp_4p26, hp_6p0, hp_6p1⟩))
                      · first
                        | (exfalso; omega)
                        | (skip
                           refine zk_ifc (zci_ne (by omega) (by omega)) (fun hc_7 => ?_) (fun hc_7 => ?_)
                           · first
                             | (exfalso; omega)
                             | (skip
                                refine zk_d1 (s_Plan_piece _ _ _ _ (by omega) (by omega) (by omega) hp_4p24) (fun v34 hp_7 => ?_)
                                try dsimp only at hp_7
                                have hp_7p0 := hp_7
                                refine zk_rI32 ?_
                                refine zk_d19 (ww_HM_plan _ _ _ _ _ _ _ _ _ _ _ _ _ _ _ _ _ _ _ _ _ _ (by omega) (by omega) (by omega) h_t4 h_t18 h_t23) (fun v508_5 v509_5 v510_5 v511_5 v512_5 v513_5 v514_5 a515_5 a516_5 a517_5 a518_5 a519_5 a520_5 a521_5 a522_5 a523_5 a524_5 a525_5 a526_5 hp_8 => ?_)
                                try dsimp only at hp_8
                                obtain ⟨hp_8p0, hp_8p1⟩ := hp_8
                                refine zk_ret ?_
                                try dsimp only
                                exact ⟨by omega, by omega, by omega, by omega, by omega, by omega, by omega, by omega, by omega, by omega, by omega, by omega, hp_4p23, hp_4p22, hp_4p13, hp_4p14, hp_4p15, hp_4p16, hp_4p17, hp_4p18, hp_4p19, hp_4p20, hp_4p21, hp_4p24, hp_4p25, hp_4p26, hp_8p0, hp_8p1⟩)
                           · first
                             | (exfalso; omega)
                             | (skip
                                unfold f_HS_plan_45c
                                refine zk_ifc (zci_ne (by omega) (by omega)) (fun hc_8 => ?_) (fun hc_8 => ?_)
                                · first
                                  | (exfalso; omega)
                                  | (skip
                                     refine zk_rI32 ?_
                                     refine zk_d19 (ww_HM_plan _ _ _ _ _ _ _ _ _ _ _ _ _ _ _ _ _ _ _ _ _ _ (by omega) (by omega) (by omega) h_t4 h_t18 h_t23) (fun v508_6 v509_6 v510_6 v511_6 v512_6 v513_6 v514_6 a515_6 a516_6 a517_6 a518_6 a519_6 a520_6 a521_6 a522_6 a523_6 a524_6 a525_6 a526_6 hp_9 => ?_)
                                     try dsimp only at hp_9
                                     obtain ⟨hp_9p0, hp_9p1⟩ := hp_9
                                     refine zk_ret ?_
                                     try dsimp only
                                     exact ⟨by omega, by omega, by omega, by omega, by omega, by omega, by omega, by omega, by omega, by omega, by omega, by omega, hp_4p23, hp_4p22, hp_4p13, hp_4p14, hp_4p15, hp_4p16, hp_4p17, hp_4p18, hp_4p19, hp_4p20, hp_4p21, hp_4p24, hp_4p25, hp_4p26, hp_9p0, hp_9p1⟩)
                                · first
                                  | (exfalso; omega)
                                  | (skip
                                     refine zk_rI32 ?_
                                     refine zk_d19 (ww_HM_plan _ _ _ _ _ _ _ _ _ _ _ _ _ _ _ _ _ _ _ _ _ _ (by omega) (by omega) (by omega) h_t4 h_t18 h_t23) (fun v508_7 v509_7 v510_7 v511_7 v512_7 v513_7 v514_7 a515_7 a516_7 a517_7 a518_7 a519_7 a520_7 a521_7 a522_7 a523_7 a524_7 a525_7 a526_7 hp_10 => ?_)
                                     try dsimp only at hp_10
                                     obtain ⟨hp_10p0, hp_10p1⟩ := hp_10
                                     refine zk_ret ?_
                                     try dsimp only
                                     exact ⟨by omega, by omega, by omega, by omega, by omega, by omega, by omega, by omega, by omega, by omega, by omega, by omega, hp_4p23, hp_4p22, hp_4p13, hp_4p14, hp_4p15, hp_4p16, hp_4p17, hp_4p18, hp_4p19, hp_4p20, hp_4p21, hp_4p24, hp_4p25, hp_4p26, hp_10p0, hp_10p1⟩))))
                 · first
                   | (exfalso; omega)
                   | (skip
                      refine zk_if (fun hc_9 => ?_) (fun hc_9 => ?_)
                      · first
                        | (exfalso; omega)
                        | (skip
                           refine zk_ifc (zci_eq (by omega) (by omega)) (fun hc_10 => ?_) (fun hc_10 => ?_)
                           · first
                             | (exfalso; omega)
                             | (skip
                                unfold f_HS_plan_45b
                                refine zk_ifc (zci_ne (by omega) (by omega)) (fun hc_11 => ?_) (fun hc_11 => ?_)
                                · first
                                  | (exfalso; omega)
                                  | (skip
                                     refine zk_rI32 ?_
                                     refine zk_d19 (ww_HM_plan _ _ _ _ _ _ _ _ _ _ _ _ _ _ _ _ _ _ _ _ _ _ (by omega) (by omega) (by omega) h_t4 h_t18 h_t23) (fun v508_8 v509_8 v510_8 v511_8 v512_8 v513_8 v514_8 a515_8 a516_8 a517_8 a518_8 a519_8 a520_8 a521_8 a522_8 a523_8 a524_8 a525_8 a526_8 hp_11 => ?_)
                                     try dsimp only at hp_11
                                     obtain ⟨hp_11p0, hp_11p1⟩ := hp_11
                                     refine zk_ret ?_
                                     try dsimp only
                                     exact ⟨by omega, by omega, by omega, by omega, by omega, by omega, by omega, by omega, by omega, by omega, by omega, by omega, hp_4p23, hp_4p22, hp_4p13, hp_4p14, hp_4p15, hp_4p16, hp_4p17, hp_4p18, hp_4p19, hp_4p20, hp_4p21, hp_4p24, hp_4p25, hp_4p26, hp_11p0, hp_11p1⟩)
                                · first
                                  | (exfalso; omega)
                                  | (skip
                                     refine zk_rI32 ?_
                                     refine zk_d19 (ww_HM_plan _ _ _ _ _ _ _ _ _ _ _ _ _ _ _ _ _ _ _ _ _ _ (by omega) (by omega) (by omega) h_t4 h_t18 h_t23) (fun v508_9 v509_9 v510_9 v511_9 v512_9 v513_9 v514_9 a515_9 a516_9 a517_9 a518_9 a519_9 a520_9 a521_9 a522_9 a523_9 a524_9 a525_9 a526_9 hp_12 => ?_)
                                     try dsimp only at hp_12
                                     obtain ⟨hp_12p0, hp_12p1⟩ := hp_12
                                     refine zk_ret ?_
                                     try dsimp only
                                     exact ⟨by omega, by omega, by omega, by omega, by omega, by omega, by omega, by omega, by omega, by omega, by omega, by omega, hp_4p23, hp_4p22, hp_4p13, hp_4p14, hp_4p15, hp_4p16, hp_4p17, hp_4p18, hp_4p19, hp_4p20, hp_4p21, hp_4p24, hp_4p25, hp_4p26, hp_12p0, hp_12p1⟩))
                           · first
                             | (exfalso; omega)
                             | (skip
                                refine zk_ifc (zci_ne (by omega) (by omega)) (fun hc_12 => ?_) (fun hc_12 => ?_)
                                · first
                                  | (exfalso; omega)
                                  | (skip
                                     refine zk_d1 (s_Plan_piece _ _ _ _ (by omega) (by omega) (by omega) hp_4p25) (fun v35 hp_13 => ?_)
                                     try dsimp only at hp_13
                                     have hp_13p0 := hp_13
                                     refine zk_rI32 ?_
                                     refine zk_d19 (ww_HM_plan _ _ _ _ _ _ _ _ _ _ _ _ _ _ _ _ _ _ _ _ _ _ (by omega) (by omega) (by omega) h_t4 h_t18 h_t23) (fun v508_10 v509_10 v510_10 v511_10 v512_10 v513_10 v514_10 a515_10 a516_10 a517_10 a518_10 a519_10 a520_10 a521_10 a522_10 a523_10 a524_10 a525_10 a526_10 hp_14 => ?_)
                                     try dsimp only at hp_14
                                     obtain ⟨hp_14p0, hp_14p1⟩ := hp_14
                                     refine zk_ret ?_
                                     try dsimp only
                                     exact ⟨by omega, by omega, by omega, by omega, by omega, by omega, by omega, by omega, by omega, by omega, by omega, by omega, hp_4p23, hp_4p22, hp_4p13, hp_4p14, hp_4p15, hp_4p16, hp_4p17, hp_4p18, hp_4p19, hp_4p20, hp_4p21, hp_4p24, hp_4p25, hp_4p26, hp_14p0, hp_14p1⟩)
                                · first
                                  | (exfalso; omega)
                                  | (skip
                                     unfold f_HS_plan_45b
                                     refine zk_ifc (zci_ne (by omega) (by omega)) (fun hc_13 => ?_) (fun hc_13 => ?_)
                                     · first
                                       | (exfalso; omega)
                                       | (skip
                                          refine zk_rI32 ?_
                                          refine zk_d19 (ww_HM_plan _ _ _ _ _ _ _ _ _ _ _ _ _ _ _ _ _ _ _ _ _ _ (by omega) (by omega) (by omega) h_t4 h_t18 h_t23) (fun v508_11 v509_11 v510_11 v511_11 v512_11 v513_11 v514_11 a515_11 a516_11 a517_11 a518_11 a519_11 a520_11 a521_11 a522_11 a523_11 a524_11 a525_11 a526_11 hp_15 => ?_)
                                          try dsimp only at hp_15
                                          obtain ⟨hp_15p0, hp_15p1⟩ := hp_15
                                          refine zk_ret ?_
                                          try dsimp only
                                          exact ⟨by omega, by omega, by omega, by omega, by omega, by omega, by omega, by omega, by omega, by omega, by omega, by omega, hp_4p23, hp_4p22, hp_4p13, hp_4p14, hp_4p15, hp_4p16, hp_4p17, hp_4p18, hp_4p19, hp_4p20, hp_4p21, hp_4p24, hp_4p25, hp_4p26, hp_15p0, hp_15p1⟩)
                                     · first
                                       | (exfalso; omega)
                                       | (skip
                                          refine zk_rI32 ?_
                                          refine zk_d19 (ww_HM_plan _ _ _ _ _ _ _ _ _ _ _ _ _ _ _ _ _ _ _ _ _ _ (by omega) (by omega) (by omega) h_t4 h_t18 h_t23) (fun v508_12 v509_12 v510_12 v511_12 v512_12 v513_12 v514_12 a515_12 a516_12 a517_12 a518_12 a519_12 a520_12 a521_12 a522_12 a523_12 a524_12 a525_12 a526_12 hp_16 => ?_)
                                          try dsimp only at hp_16
                                          obtain ⟨hp_16p0, hp_16p1⟩ := hp_16
                                          refine zk_ret ?_
                                          try dsimp only
                                          exact ⟨by omega, by omega, by omega, by omega, by omega, by omega, by omega, by omega, by omega, by omega, by omega, by omega, hp_4p23, hp_4p22, hp_4p13, hp_4p14, hp_4p15, hp_4p16, hp_4p17, hp_4p18, hp_4p19, hp_4p20, hp_4p21, hp_4p24, hp_4p25, hp_4p26, hp_16p0, hp_16p1⟩))))
                      · first
                        | (exfalso; omega)
                        | (skip
                           refine zk_if (fun hc_14 => ?_) (fun hc_14 => ?_)
                           · first
                             | (exfalso; omega)
                             | (skip
                                refine zk_ifc (zci_eq (by omega) (by omega)) (fun hc_15 => ?_) (fun hc_15 => ?_)
                                · first
                                  | (exfalso; omega)
                                  | (skip
                                     unfold f_HS_plan_45a
                                     refine zk_ifc (zci_ne (by omega) (by omega)) (fun hc_16 => ?_) (fun hc_16 => ?_)
                                     · first
                                       | (exfalso; omega)
                                       | (skip
                                          refine zk_rI32 ?_
                                          refine zk_d19 (ww_HM_plan _ _ _ _ _ _ _ _ _ _ _ _ _ _ _ _ _ _ _ _ _ _ (by omega) (by omega) (by omega) h_t4 h_t18 h_t23) (fun v508_13 v509_13 v510_13 v511_13 v512_13 v513_13 v514_13 a515_13 a516_13 a517_13 a518_13 a519_13 a520_13 a521_13 a522_13 a523_13 a524_13 a525_13 a526_13 hp_17 => ?_)
                                          try dsimp only at hp_17
                                          obtain ⟨hp_17p0, hp_17p1⟩ := hp_17
                                          refine zk_ret ?_
                                          try dsimp only
                                          exact ⟨by omega, by omega, by omega, by omega, by omega, by omega, by omega, by omega, by omega, by omega, by omega, by omega, hp_4p23, hp_4p22, hp_4p13, hp_4p14, hp_4p15, hp_4p16, hp_4p17, hp_4p18, hp_4p19, hp_4p20, hp_4p21, hp_4p24, hp_4p25, hp_4p26, hp_17p0, hp_17p1⟩)
                                     · first
                                       | (exfalso; omega)
                                       | (skip
                                          refine zk_rI32 ?_
                                          refine zk_d19 (ww_HM_plan _ _ _ _ _ _ _ _ _ _ _ _ _ _ _ _ _ _ _ _ _ _ (by omega) (by omega) (by omega) h_t4 h_t18 h_t23) (fun v508_14 v509_14 v510_14 v511_14 v512_14 v513_14 v514_14 a515_14 a516_14 a517_14 a518_14 a519_14 a520_14 a521_14 a522_14 a523_14 a524_14 a525_14 a526_14 hp_18 => ?_)
                                          try dsimp only at hp_18
                                          obtain ⟨hp_18p0, hp_18p1⟩ := hp_18
                                          refine zk_ret ?_
                                          try dsimp only
                                          exact ⟨by omega, by omega, by omega, by omega, by omega, by omega, by omega, by omega, by omega, by omega, by omega, by omega, hp_4p23, hp_4p22, hp_4p13, hp_4p14, hp_4p15, hp_4p16, hp_4p17, hp_4p18, hp_4p19, hp_4p20, hp_4p21, hp_4p24, hp_4p25, hp_4p26, hp_18p0, hp_18p1⟩))
                                · first
                                  | (exfalso; omega)
                                  | (skip
                                     refine zk_ifc (zci_ne (by omega) (by omega)) (fun hc_17 => ?_) (fun hc_17 => ?_)
                                     · first
                                       | (exfalso; omega)
                                       | (skip
                                          refine zk_d1 (s_Plan_piece _ _ _ _ (by omega) (by omega) (by omega) hp_4p26) (fun v36 hp_19 => ?_)
                                          try dsimp only at hp_19
                                          have hp_19p0 := hp_19
                                          refine zk_rI32 ?_
                                          refine zk_d19 (ww_HM_plan _ _ _ _ _ _ _ _ _ _ _ _ _ _ _ _ _ _ _ _ _ _ (by omega) (by omega) (by omega) h_t4 h_t18 h_t23) (fun v508_15 v509_15 v510_15 v511_15 v512_15 v513_15 v514_15 a515_15 a516_15 a517_15 a518_15 a519_15 a520_15 a521_15 a522_15 a523_15 a524_15 a525_15 a526_15 hp_20 => ?_)
                                          try dsimp only at hp_20
                                          obtain ⟨hp_20p0, hp_20p1⟩ := hp_20
                                          refine zk_ret ?_
                                          try dsimp only
                                          exact ⟨by omega, by omega, by omega, by omega, by omega, by omega, by omega, by omega, by omega, by omega, by omega, by omega, hp_4p23, hp_4p22, hp_4p13, hp_4p14, hp_4p15, hp_4p16, hp_4p17, hp_4p18, hp_4p19, hp_4p20, hp_4p21, hp_4p24, hp_4p25, hp_4p26, hp_20p0, hp_20p1⟩)
                                     · first
                                       | (exfalso; omega)
                                       | (skip
                                          unfold f_HS_plan_45a
                                          refine zk_ifc (zci_ne (by omega) (by omega)) (fun hc_18 => ?_) (fun hc_18 => ?_)
                                          · first
                                            | (exfalso; omega)
                                            | (skip
                                               refine zk_rI32 ?_
                                               refine zk_d19 (ww_HM_plan _ _ _ _ _ _ _ _ _ _ _ _ _ _ _ _ _ _ _ _ _ _ (by omega) (by omega) (by omega) h_t4 h_t18 h_t23) (fun v508_16 v509_16 v510_16 v511_16 v512_16 v513_16 v514_16 a515_16 a516_16 a517_16 a518_16 a519_16 a520_16 a521_16 a522_16 a523_16 a524_16 a525_16 a526_16 hp_21 => ?_)
                                               try dsimp only at hp_21
                                               obtain ⟨hp_21p0, hp_21p1⟩ := hp_21
                                               refine zk_ret ?_
                                               try dsimp only
                                               exact ⟨by omega, by omega, by omega, by omega, by omega, by omega, by omega, by omega, by omega, by omega, by omega, by omega, hp_4p23, hp_4p22, hp_4p13, hp_4p14, hp_4p15, hp_4p16, hp_4p17, hp_4p18, hp_4p19, hp_4p20, hp_4p21, hp_4p24, hp_4p25, hp_4p26, hp_21p0, hp_21p1⟩)
                                          · first
                                            | (exfalso; omega)
                                            | (skip
                                               refine zk_rI32 ?_
                                               refine zk_d19 (ww_HM_plan _ _ _ _ _ _ _ _ _ _ _ _ _ _ _ _ _ _ _ _ _ _ (by omega) (by omega) (by omega) h_t4 h_t18 h_t23) (fun v508_17 v509_17 v510_17 v511_17 v512_17 v513_17 v514_17 a515_17 a516_17 a517_17 a518_17 a519_17 a520_17 a521_17 a522_17 a523_17 a524_17 a525_17 a526_17 hp_22 => ?_)
                                               try dsimp only at hp_22
                                               obtain ⟨hp_22p0, hp_22p1⟩ := hp_22
                                               refine zk_ret ?_
                                               try dsimp only
                                               exact ⟨by omega, by omega, by omega, by omega, by omega, by omega, by omega, by omega, by omega, by omega, by omega, by omega, hp_4p23, hp_4p22, hp_4p13, hp_4p14, hp_4p15, hp_4p16, hp_4p17, hp_4p18, hp_4p19, hp_4p20, hp_4p21, hp_4p24, hp_4p25, hp_4p26, hp_22p0, hp_22p1⟩))))
                           · exfalso; omega)))
            · first
              | (exfalso; omega)
              | (skip
                 refine zk_rI32 ?_
                 refine zk_d19 (ww_HM_plan _ _ _ _ _ _ _ _ _ _ _ _ _ _ _ _ _ _ _ _ _ _ (by omega) (by omega) (by omega) h_t4 h_t18 h_t23) (fun v508_18 v509_18 v510_18 v511_18 v512_18 v513_18 v514_18 a515_18 a516_18 a517_18 a518_18 a519_18 a520_18 a521_18 a522_18 a523_18 a524_18 a525_18 a526_18 hp_23 => ?_)
                 try dsimp only at hp_23
                 obtain ⟨hp_23p0, hp_23p1⟩ := hp_23
                 refine zk_ret ?_
                 try dsimp only
                 exact ⟨by omega, by omega, by omega, by omega, by omega, by omega, by omega, by omega, by omega, by omega, by omega, by omega, h_t46, h_t48, h_t49, h_t50, h_t52, h_t53, h_t54, h_t55, h_t56, h_t57, h_t58, h_t89, h_t90, h_t91, hp_23p0, hp_23p1⟩)))
set_option maxHeartbeats 4000000 in
set_option maxRecDepth 10000 in
theorem st_26 (N : Int) (σ : Nat → Int) (τ : Nat → Nat → Int) (hI : INV N σ τ) (a1 : Int) (a2 : Int) (a3 : Int) (b_a1 : (-2147483648) ≤ a1 ∧ a1 ≤ 2147483647) (b_a2 : (-2147483648) ≤ a2 ∧ a2 ≤ 2147483647) (b_a3 : (-2147483648) ≤ a3 ∧ a3 ≤ 2147483647) : zok (f_OP_26 N a1 a2 a3 (σ 4) (σ 19) (σ 20) (σ 21) (σ 22) (σ 23) (σ 26) (σ 28) (σ 29) (σ 30) (σ 34) (σ 35) (σ 36) (σ 37) (σ 38) (σ 39) (σ 49) (σ 64) (σ 65) (σ 66) (σ 67) (σ 68) (σ 69) (σ 70) (σ 71) (σ 72) (τ 4) (τ 14) (τ 15) (τ 18) (τ 19) (τ 20) (τ 21) (τ 22) (τ 23) (τ 24) (τ 25) (τ 26) (τ 27) (τ 34) (τ 35) (τ 38) (τ 39) (τ 40) (τ 41) (τ 46) (τ 47) (τ 48) (τ 49) (τ 50) (τ 51) (τ 52) (τ 53) (τ 54) (τ 55) (τ 56) (τ 57) (τ 58) (τ 63) (τ 64) (τ 89) (τ 90) (τ 91)) (fun o => (True) ∧ INV (N + 6) (zst σ [(4, o.2.2.1), (19, o.2.2.2.1), (20, o.2.2.2.2.1), (21, o.2.2.2.2.2.1), (22, o.2.2.2.2.2.2.1), (23, o.2.2.2.2.2.2.2.1), (34, o.2.2.2.2.2.2.2.2.1), (35, o.2.2.2.2.2.2.2.2.2.1), (36, o.2.2.2.2.2.2.2.2.2.2.1), (37, o.2.2.2.2.2.2.2.2.2.2.2.1), (38, o.2.2.2.2.2.2.2.2.2.2.2.2.1), (39, o.2.2.2.2.2.2.2.2.2.2.2.2.2.1), (64, o.2.2.2.2.2.2.2.2.2.2.2.2.2.2.1), (65, o.2.2.2.2.2.2.2.2.2.2.2.2.2.2.2.1), (66, o.2.2.2.2.2.2.2.2.2.2.2.2.2.2.2.2.1), (67, o.2.2.2.2.2.2.2.2.2.2.2.2.2.2.2.2.2.1), (68, o.2.2.2.2.2.2.2.2.2.2.2.2.2.2.2.2.2.2.1), (69, o.2.2.2.2.2.2.2.2.2.2.2.2.2.2.2.2.2.2.2.1), (70, o.2.2.2.2.2.2.2.2.2.2.2.2.2.2.2.2.2.2.2.2.1), (71, o.2.2.2.2.2.2.2.2.2.2.2.2.2.2.2.2.2.2.2.2.2.1), (72, o.2.2.2.2.2.2.2.2.2.2.2.2.2.2.2.2.2.2.2.2.2.2.1)]) (zta τ [(14, o.2.2.2.2.2.2.2.2.2.2.2.2.2.2.2.2.2.2.2.2.2.2.2.1), (15, o.2.2.2.2.2.2.2.2.2.2.2.2.2.2.2.2.2.2.2.2.2.2.2.2.1), (18, o.2.2.2.2.2.2.2.2.2.2.2.2.2.2.2.2.2.2.2.2.2.2.2.2.2.1), (19, o.2.2.2.2.2.2.2.2.2.2.2.2.2.2.2.2.2.2.2.2.2.2.2.2.2.2.1), (20, o.2.2.2.2.2.2.2.2.2.2.2.2.2.2.2.2.2.2.2.2.2.2.2.2.2.2.2.1), (21, o.2.2.2.2.2.2.2.2.2.2.2.2.2.2.2.2.2.2.2.2.2.2.2.2.2.2.2.2.1), (22, o.2.2.2.2.2.2.2.2.2.2.2.2.2.2.2.2.2.2.2.2.2.2.2.2.2.2.2.2.2.1), (23, o.2.2.2.2.2.2.2.2.2.2.2.2.2.2.2.2.2.2.2.2.2.2.2.2.2.2.2.2.2.2.1), (24, o.2.2.2.2.2.2.2.2.2.2.2.2.2.2.2.2.2.2.2.2.2.2.2.2.2.2.2.2.2.2.2.1), (25, o.2.2.2.2.2.2.2.2.2.2.2.2.2.2.2.2.2.2.2.2.2.2.2.2.2.2.2.2.2.2.2.2.1), (26, o.2.2.2.2.2.2.2.2.2.2.2.2.2.2.2.2.2.2.2.2.2.2.2.2.2.2.2.2.2.2.2.2.2.1), (27, o.2.2.2.2.2.2.2.2.2.2.2.2.2.2.2.2.2.2.2.2.2.2.2.2.2.2.2.2.2.2.2.2.2.2.1), (46, o.2.2.2.2.2.2.2.2.2.2.2.2.2.2.2.2.2.2.2.2.2.2.2.2.2.2.2.2.2.2.2.2.2.2.2.1), (47, o.2.2.2.2.2.2.2.2.2.2.2.2.2.2.2.2.2.2.2.2.2.2.2.2.2.2.2.2.2.2.2.2.2.2.2.2.1), (48, o.2.2.2.2.2.2.2.2.2.2.2.2.2.2.2.2.2.2.2.2.2.2.2.2.2.2.2.2.2.2.2.2.2.2.2.2.2.1), (49, o.2.2.2.2.2.2.2.2.2.2.2.2.2.2.2.2.2.2.2.2.2.2.2.2.2.2.2.2.2.2.2.2.2.2.2.2.2.2.1), (50, o.2.2.2.2.2.2.2.2.2.2.2.2.2.2.2.2.2.2.2.2.2.2.2.2.2.2.2.2.2.2.2.2.2.2.2.2.2.2.2.1), (51, o.2.2.2.2.2.2.2.2.2.2.2.2.2.2.2.2.2.2.2.2.2.2.2.2.2.2.2.2.2.2.2.2.2.2.2.2.2.2.2.2.1), (52, o.2.2.2.2.2.2.2.2.2.2.2.2.2.2.2.2.2.2.2.2.2.2.2.2.2.2.2.2.2.2.2.2.2.2.2.2.2.2.2.2.2.1), (53, o.2.2.2.2.2.2.2.2.2.2.2.2.2.2.2.2.2.2.2.2.2.2.2.2.2.2.2.2.2.2.2.2.2.2.2.2.2.2.2.2.2.2.1), (54, o.2.2.2.2.2.2.2.2.2.2.2.2.2.2.2.2.2.2.2.2.2.2.2.2.2.2.2.2.2.2.2.2.2.2.2.2.2.2.2.2.2.2.2.1), (55, o.2.2.2.2.2.2.2.2.2.2.2.2.2.2.2.2.2.2.2.2.2.2.2.2.2.2.2.2.2.2.2.2.2.2.2.2.2.2.2.2.2.2.2.2.1), (56, o.2.2.2.2.2.2.2.2.2.2.2.2.2.2.2.2.2.2.2.2.2.2.2.2.2.2.2.2.2.2.2.2.2.2.2.2.2.2.2.2.2.2.2.2.2.1), (57, o.2.2.2.2.2.2.2.2.2.2.2.2.2.2.2.2.2.2.2.2.2.2.2.2.2.2.2.2.2.2.2.2.2.2.2.2.2.2.2.2.2.2.2.2.2.2.1), (58, o.2.2.2.2.2.2.2.2.2.2.2.2.2.2.2.2.2.2.2.2.2.2.2.2.2.2.2.2.2.2.2.2.2.2.2.2.2.2.2.2.2.2.2.2.2.2.2.1), (89, o.2.2.2.2.2.2.2.2.2.2.2.2.2.2.2.2.2.2.2.2.2.2.2.2.2.2.2.2.2.2.2.2.2.2.2.2.2.2.2.2.2.2.2.2.2.2.2.2.1), (90, o.2.2.2.2.2.2.2.2.2.2.2.2.2.2.2.2.2.2.2.2.2.2.2.2.2.2.2.2.2.2.2.2.2.2.2.2.2.2.2.2.2.2.2.2.2.2.2.2.2.1), (91, o.2.2.2.2.2.2.2.2.2.2.2.2.2.2.2.2.2.2.2.2.2.2.2.2.2.2.2.2.2.2.2.2.2.2.2.2.2.2.2.2.2.2.2.2.2.2.2.2.2.2)])) := by
  have zg1 := hI.2
  have zg2 := zg1.2
  have zg3 := zg2.2
  have zg4 := zg3.2
  have zg5 := zg4.2
  have zg6 := zg5.2
  have zg7 := zg6.2
  have zg8 := zg7.2
  have zg9 := zg8.2
  have zg10 := zg9.2
  have zg11 := zg10.2
  have zg12 := zg11.2
  have zg13 := zg12.2
  have zg14 := zg13.2
  have zg15 := zg14.2
  have zg16 := zg15.2
  have zg17 := zg16.2
  have zg18 := zg17.2
  have zg19 := zg18.2
  have zg20 := zg19.2
  have zg21 := zg20.2
  have zg22 := zg21.2
  have zg23 := zg22.2
  have zg24 := zg23.2
  have zg25 := zg24.2
  have zg26 := zg25.2
  have zg27 := zg26.2
  have zg28 := zg27.2
  have zg29 := zg28.2
  have zg30 := zg29.2
  have zg31 := zg30.2
  have zg32 := zg31.2
  have zg33 := zg32.2
  have zg34 := zg33.2
  have zg35 := zg34.2
  have zg36 := zg35.2
  have zg37 := zg36.2
  have zg38 := zg37.2
  have zg39 := zg38.2
  have zg40 := zg39.2
  have zg41 := zg40.2
  have zg42 := zg41.2
  have zg43 := zg42.2
  have zg44 := zg43.2
  have zg45 := zg44.2
  have zg46 := zg45.2
  have zg47 := zg46.2
  have zg48 := zg47.2
  have zg49 := zg48.2
  have zg50 := zg49.2
  have zg51 := zg50.2
  have zg52 := zg51.2
  have zg53 := zg52.2
  have zg54 := zg53.2
  have zg55 := zg54.2
  have zg56 := zg55.2
  have zg57 := zg56.2
  have zg58 := zg57.2
  have zg59 := zg58.2
  have zg60 := zg59.2
  have zg61 := zg60.2
  have zg62 := zg61.2
  have zg63 := zg62.2
  have zg64 := zg63.2
  have zg65 := zg64.2
  have zg66 := zg65.2
  have zg67 := zg66.2
  have zg68 := zg67.2
  have zg69 := zg68.2
  have zg70 := zg69.2
  have zg71 := zg70.2
  have zg72 := zg71.2
  have zg73 := zg72.2
  have zg74 := zg73.2
  have zg75 := zg74.2
  have zg76 := zg75.2
  have zg77 := zg76.2
  have zg78 := zg77.2
  have zg79 := zg78.2
  have zg80 := zg79.2
  have zg81 := zg80.2
  have zg82 := zg81.2
  have zg83 := zg82.2
  have zg84 := zg83.2
  have zg85 := zg84.2
  have zg86 := zg85.2
  have zg87 := zg86.2
  have zg88 := zg87.2
  have zg89 := zg88.2
  have zg90 := zg89.2
  have zg91 := zg90.2
  have zg92 := zg91.2
  have zg93 := zg92.2
  have zg94 := zg93.2
  have zg95 := zg94.2
  have zg96 := zg95.2
  have zg97 := zg96.2
  have zg98 := zg97.2
  have zg99 := zg98.2
  have zg100 := zg99.2
  have zg101 := zg100.2
  have zg102 := zg101.2
  have zg103 := zg102.2
  have zg104 := zg103.2
  have zg105 := zg104.2
  have zg106 := zg105.2
  have zg107 := zg106.2
  have zg108 := zg107.2
  have zg109 := zg108.2
  have zg110 := zg109.2
  have zg111 := zg110.2
  have zg112 := zg111.2
  have zg113 := zg112.2
  have zg114 := zg113.2
  have zg115 := zg114.2
  have zg116 := zg115.2
  have zg117 := zg116.2
  have zg118 := zg117.2
  have zg119 := zg118.2
  have zg120 := zg119.2
  have zg121 := zg120.2
  have zg122 := zg121.2
  have zg123 := zg122.2
  have zg124 := zg123.2
  have zg125 := zg124.2
  have I_s26 := zg3.1
  have I_s28 := zg5.1
  have I_s29 := zg6.1
  have I_s34 := zg10.1
  have I_s35 := zg11.1
  have I_s36 := zg12.1
  have I_s37 := zg13.1
  have I_s38 := zg14.1
  have I_s39 := zg15.1
  have I_s49 := zg21.1
  have I_s65 := zg36.1
  have I_s66 := zg37.1
  have I_s68 := zg38.1
  have I_s69 := zg39.1
  have I_s71 := zg40.1
  have I_s72 := zg41.1
  have I_t4 := zg99.1
  have I_t18 := zg110.1
  have I_t23 := zg111.1
  have I_t34 := zg45.1
  have I_t35 := zg46.1
  have I_t38 := zg49.1
  have I_t39 := zg50.1
  have I_t40 := zg51.1
  have I_t41 := zg52.1
  have I_t46 := zg56.1
  have I_t48 := zg57.1
  have I_t49 := zg58.1
  have I_t50 := zg59.1
  have I_t52 := zg60.1
  have I_t53 := zg61.1
  have I_t54 := zg62.1
  have I_t55 := zg63.1
  have I_t56 := zg64.1
  have I_t57 := zg65.1
  have I_t58 := zg66.1
  have I_t63 := zg70.1
  have I_t64 := zg71.1
  have I_t89 := zg96.1
  have I_t90 := zg97.1
  have I_t91 := zg98.1
  have I_s30 := zg42.1
  have R_many := zg113.1
  have R_ch := zg114.1
  have R_st := zg116.1
  have R_ex := zg117.1
  have R_te := zg120.1
  have R_go := zg121.1
  refine zok_mono (s_OP_26 N a1 a2 a3 (σ 4) (σ 19) (σ 20) (σ 21) (σ 22) (σ 23) (σ 26) (σ 28) (σ 29) (σ 30) (σ 34) (σ 35) (σ 36) (σ 37) (σ 38) (σ 39) (σ 49) (σ 64) (σ 65) (σ 66) (σ 67) (σ 68) (σ 69) (σ 70) (σ 71) (σ 72) (τ 4) (τ 14) (τ 15) (τ 18) (τ 19) (τ 20) (τ 21) (τ 22) (τ 23) (τ 24) (τ 25) (τ 26) (τ 27) (τ 34) (τ 35) (τ 38) (τ 39) (τ 40) (τ 41) (τ 46) (τ 47) (τ 48) (τ 49) (τ 50) (τ 51) (τ 52) (τ 53) (τ 54) (τ 55) (τ 56) (τ 57) (τ 58) (τ 63) (τ 64) (τ 89) (τ 90) (τ 91) b_a1 b_a2 b_a3 I_s26 I_s28 I_s29 I_s34 I_s35 I_s36 I_s37 I_s38 I_s39 I_s49 I_s65 I_s66 I_s68 I_s69 I_s71 I_s72 I_t4 I_t18 I_t23 I_t34 I_t35 I_t38 I_t39 I_t40 I_t41 I_t46 I_t48 I_t49 I_t50 I_t52 I_t53 I_t54 I_t55 I_t56 I_t57 I_t58 I_t63 I_t64 I_t89 I_t90 I_t91 I_s30 R_many R_ch R_st R_ex R_te R_go) (fun o ho => ?_)
  obtain ⟨p0, p1, p2, p3, p4, p5, p6, p7, p8, p9, p10, p11, p12, p13, p14, p15, p16, p17, p18, p19, p20, p21, p22, p23, p24, p25, p26, p27⟩ := ho
  exact ⟨trivial, ⟨hI.1, zg1.1, zg2.1, zg3.1, zg4.1, zg5.1, zg6.1, zg7.1, zg8.1, zg9.1, p0, p1, p2, p3, p4, p5, zg16.1, zg17.1, zg18.1, zg19.1, zg20.1, zg21.1, zg22.1, zg23.1, zg24.1, zg25.1, zg26.1, zg27.1, zg28.1, zg29.1, zg30.1, zg31.1, zg32.1, zg33.1, zg34.1, zg35.1, p6, p7, p8, p9, p10, p11, ⟨zg42.1.1, Int.le_trans zg42.1.2 (Int.le_add_of_nonneg_right (by decide))⟩, zg43.1, zg44.1, zg45.1, zg46.1, zg47.1, zg48.1, zg49.1, zg50.1, zg51.1, zg52.1, zg53.1, zg54.1, zg55.1, p12, p13, p14, p15, p16, p17, p18, p19, p20, p21, p22, zg67.1, zg68.1, zg69.1, zg70.1, zg71.1, zg72.1, zg73.1, zg74.1, zg75.1, zg76.1, zg77.1, zg78.1, zg79.1, zg80.1, zg81.1, zg82.1, zg83.1, zg84.1, zg85.1, zg86.1, zg87.1, zg88.1, zg89.1, zg90.1, zg91.1, zg92.1, zg93.1, zg94.1, zg95.1, p23, p24, p25, zg99.1, zg100.1, zg101.1, zg102.1, zg103.1, zg104.1, zg105.1, zg106.1, zg107.1, zg108.1, zg109.1, p26, p27, zg112.1, zg113.1, zg114.1, zg115.1, zg116.1, zg117.1, zg118.1, zg119.1, zg120.1, zg121.1, zg122.1, zg123.1, zg124.1, zg125⟩⟩
noncomputable def f_OP_27 (N : Int) (a1 : Int) (s4 : Int) (s30 : Int) (s44 : Int) (s49 : Int) (t4 : Nat → Int) (t28 : Nat → Int) (t61 : Nat → Int) (t63 : Nat → Int) (t64 : Nat → Int) : Option (Int × Int × Int × Int × (Nat → Int) × (Nat → Int)) :=
  zd3 (f_HS_weighs a1 s30 s49 t63 t64 s44 t61) fun v529 v530 a531 =>
  zd3 (f_HM_weighs a1 t4 s4 t28) fun v534 v535 a536 =>
  some (v529, v534, v535, v530, a536, a531)
set_option maxHeartbeats 4000000 in
theorem s_OP_27 (N : Int) (a1 : Int) (s4 : Int) (s30 : Int) (s44 : Int) (s49 : Int) (t4 : Nat → Int) (t28 : Nat → Int) (t61 : Nat → Int) (t63 : Nat → Int) (t64 : Nat → Int) (b_a1 : (-2147483648) ≤ a1 ∧ a1 ≤ 2147483647) (b_s49 : 0 ≤ s49 ∧ s49 ≤ 12) (h_t4 : RI t4) (h_t28 : zR t28 0 1000000000) (h_t61 : zR t61 0 1000000000) (h_t63 : zR t63 0 10) (h_t64 : zR t64 0 30) (I_s30 : 0 ≤ s30 ∧ s30 ≤ N) (R_many : s49 = t4 0) : zok (f_OP_27 N a1 s4 s30 s44 s49 t4 t28 t61 t63 t64) (fun o => zR o.2.2.2.2.2 0 1000000000 ∧ zR o.2.2.2.2.1 0 1000000000) := by
  unfold f_OP_27
  refine zk_dI3 ?_
  unfold f_HS_weighs
  refine zk_d3 (s_Scales_sets _ _ _ _ _ _ _ (by omega) (by omega) h_t63 h_t64 h_t61) (fun v1 v2 a3 hp => ?_)
  try dsimp only at hp
  obtain ⟨hpp0, hpp1⟩ := hp
  refine zk_rI3 ?_
  refine zk_d3 (s_HM_weighs _ _ _ _ (by omega) h_t4 h_t28) (fun v534 v535 a536 hp_2 => ?_)
  try dsimp only at hp_2
  have hp_2p0 := hp_2
  refine zk_ret ?_
  try dsimp only
  exact ⟨hpp1, hp_2p0⟩
set_option maxHeartbeats 4000000 in
set_option maxRecDepth 10000 in
theorem st_27 (N : Int) (σ : Nat → Int) (τ : Nat → Nat → Int) (hI : INV N σ τ) (a1 : Int) (b_a1 : (-2147483648) ≤ a1 ∧ a1 ≤ 2147483647) : zok (f_OP_27 N a1 (σ 4) (σ 30) (σ 44) (σ 49) (τ 4) (τ 28) (τ 61) (τ 63) (τ 64)) (fun o => (True) ∧ INV (N + 6) (zst σ [(4, o.2.2.1), (44, o.2.2.2.1)]) (zta τ [(28, o.2.2.2.2.1), (61, o.2.2.2.2.2)])) := by
  have zg1 := hI.2
  have zg2 := zg1.2
  have zg3 := zg2.2
  have zg4 := zg3.2
  have zg5 := zg4.2
  have zg6 := zg5.2
  have zg7 := zg6.2
  have zg8 := zg7.2
  have zg9 := zg8.2
  have zg10 := zg9.2
  have zg11 := zg10.2
  have zg12 := zg11.2
  have zg13 := zg12.2
  have zg14 := zg13.2
  have zg15 := zg14.2
  have zg16 := zg15.2
  have zg17 := zg16.2
  have zg18 := zg17.2
  have zg19 := zg18.2
  have zg20 := zg19.2
  have zg21 := zg20.2
  have zg22 := zg21.2
  have zg23 := zg22.2
  have zg24 := zg23.2
  have zg25 := zg24.2
  have zg26 := zg25.2
  have zg27 := zg26.2
  have zg28 := zg27.2
  have zg29 := zg28.2
  have zg30 := zg29.2
  have zg31 := zg30.2
  have zg32 := zg31.2
  have zg33 := zg32.2
  have zg34 := zg33.2
  have zg35 := zg34.2
  have zg36 := zg35.2
  have zg37 := zg36.2
  have zg38 := zg37.2
  have zg39 := zg38.2
  have zg40 := zg39.2
  have zg41 := zg40.2
  have zg42 := zg41.2
  have zg43 := zg42.2
  have zg44 := zg43.2
  have zg45 := zg44.2
  have zg46 := zg45.2
  have zg47 := zg46.2
  have zg48 := zg47.2
  have zg49 := zg48.2
  have zg50 := zg49.2
  have zg51 := zg50.2
  have zg52 := zg51.2
  have zg53 := zg52.2
  have zg54 := zg53.2
  have zg55 := zg54.2
  have zg56 := zg55.2
  have zg57 := zg56.2
  have zg58 := zg57.2
  have zg59 := zg58.2
  have zg60 := zg59.2
  have zg61 := zg60.2
  have zg62 := zg61.2
  have zg63 := zg62.2
  have zg64 := zg63.2
  have zg65 := zg64.2
  have zg66 := zg65.2
  have zg67 := zg66.2
  have zg68 := zg67.2
  have zg69 := zg68.2
  have zg70 := zg69.2
  have zg71 := zg70.2
  have zg72 := zg71.2
  have zg73 := zg72.2
  have zg74 := zg73.2
  have zg75 := zg74.2
  have zg76 := zg75.2
  have zg77 := zg76.2
  have zg78 := zg77.2
  have zg79 := zg78.2
  have zg80 := zg79.2
  have zg81 := zg80.2
  have zg82 := zg81.2
  have zg83 := zg82.2
  have zg84 := zg83.2
  have zg85 := zg84.2
  have zg86 := zg85.2
  have zg87 := zg86.2
  have zg88 := zg87.2
  have zg89 := zg88.2
  have zg90 := zg89.2
  have zg91 := zg90.2
  have zg92 := zg91.2
  have zg93 := zg92.2
  have zg94 := zg93.2
  have zg95 := zg94.2
  have zg96 := zg95.2
  have zg97 := zg96.2
  have zg98 := zg97.2
  have zg99 := zg98.2
  have zg100 := zg99.2
  have zg101 := zg100.2
  have zg102 := zg101.2
  have zg103 := zg102.2
  have zg104 := zg103.2
  have zg105 := zg104.2
  have zg106 := zg105.2
  have zg107 := zg106.2
  have zg108 := zg107.2
  have zg109 := zg108.2
  have zg110 := zg109.2
  have zg111 := zg110.2
  have zg112 := zg111.2
  have zg113 := zg112.2
  have zg114 := zg113.2
  have zg115 := zg114.2
  have zg116 := zg115.2
  have zg117 := zg116.2
  have zg118 := zg117.2
  have zg119 := zg118.2
  have zg120 := zg119.2
  have zg121 := zg120.2
  have zg122 := zg121.2
  have zg123 := zg122.2
  have zg124 := zg123.2
  have zg125 := zg124.2
  have I_s49 := zg21.1
  have I_t4 := zg99.1
  have I_t28 := zg106.1
  have I_t61 := zg69.1
  have I_t63 := zg70.1
  have I_t64 := zg71.1
  have I_s30 := zg42.1
  have R_many := zg113.1
  refine zok_mono (s_OP_27 N a1 (σ 4) (σ 30) (σ 44) (σ 49) (τ 4) (τ 28) (τ 61) (τ 63) (τ 64) b_a1 I_s49 I_t4 I_t28 I_t61 I_t63 I_t64 I_s30 R_many) (fun o ho => ?_)
  obtain ⟨p0, p1⟩ := ho
  exact ⟨trivial, ⟨hI.1, zg1.1, zg2.1, zg3.1, zg4.1, zg5.1, zg6.1, zg7.1, zg8.1, zg9.1, zg10.1, zg11.1, zg12.1, zg13.1, zg14.1, zg15.1, zg16.1, zg17.1, zg18.1, zg19.1, zg20.1, zg21.1, zg22.1, zg23.1, zg24.1, zg25.1, zg26.1, zg27.1, zg28.1, zg29.1, zg30.1, zg31.1, zg32.1, zg33.1, zg34.1, zg35.1, zg36.1, zg37.1, zg38.1, zg39.1, zg40.1, zg41.1, ⟨zg42.1.1, Int.le_trans zg42.1.2 (Int.le_add_of_nonneg_right (by decide))⟩, zg43.1, zg44.1, zg45.1, zg46.1, zg47.1, zg48.1, zg49.1, zg50.1, zg51.1, zg52.1, zg53.1, zg54.1, zg55.1, zg56.1, zg57.1, zg58.1, zg59.1, zg60.1, zg61.1, zg62.1, zg63.1, zg64.1, zg65.1, zg66.1, zg67.1, zg68.1, p0, zg70.1, zg71.1, zg72.1, zg73.1, zg74.1, zg75.1, zg76.1, zg77.1, zg78.1, zg79.1, zg80.1, zg81.1, zg82.1, zg83.1, zg84.1, zg85.1, zg86.1, zg87.1, zg88.1, zg89.1, zg90.1, zg91.1, zg92.1, zg93.1, zg94.1, zg95.1, zg96.1, zg97.1, zg98.1, zg99.1, zg100.1, zg101.1, zg102.1, zg103.1, zg104.1, zg105.1, p1, zg107.1, zg108.1, zg109.1, zg110.1, zg111.1, zg112.1, zg113.1, zg114.1, zg115.1, zg116.1, zg117.1, zg118.1, zg119.1, zg120.1, zg121.1, zg122.1, zg123.1, zg124.1, zg125⟩⟩
end
