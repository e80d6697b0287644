def f_OP_16 (N : Int) (a1 : Int) (s3 : Int) (s4 : Int) (s5 : Int) (s26 : Int) (s27 : Int) (s28 : Int) (s29 : Int) (s30 : Int) (s49 : Int) (t2 : Nat → Int) (t3 : Nat → Int) (t4 : Nat → Int) (t34 : Nat → Int) (t35 : Nat → Int) (t36 : Nat → Int) (t37 : Nat → Int) (t38 : Nat → Int) (t39 : Nat → Int) : Option (Int × Int × Int × Int × Int × Int × Int × (Nat → Int) × (Nat → Int) × (Nat → Int)) :=
  zd5 (f_HS_force a1 s28 s3 s29 s30 t2) fun v245 v246 v247 v248 a249 =>
  zd5 (f_HM_force a1 s4 s5 t3 t4) fun v252 v253 v254 a255 a256 =>
  some (v245, v252, v246, v253, v254, v247, v248, a249, a255, a256)
set_option maxHeartbeats 4000000 in
theorem s_OP_16 (N : Int) (a1 : Int) (s3 : Int) (s4 : Int) (s5 : Int) (s26 : Int) (s27 : Int) (s28 : Int) (s29 : Int) (s30 : Int) (s49 : Int) (t2 : Nat → Int) (t3 : Nat → Int) (t4 : Nat → Int) (t34 : Nat → Int) (t35 : Nat → Int) (t36 : Nat → Int) (t37 : Nat → Int) (t38 : Nat → Int) (t39 : Nat → Int) (b_a1 : (-2147483648) ≤ a1 ∧ a1 ≤ 2147483647) (b_s3 : (-6) ≤ s3 ∧ s3 ≤ 0) (b_s26 : 0 ≤ s26 ∧ s26 ≤ 6) (b_s27 : 0 ≤ s27 ∧ s27 ≤ 6) (b_s28 : 0 ≤ s28 ∧ s28 ≤ 6) (b_s29 : (-1) ≤ s29 ∧ s29 ≤ 5) (b_s49 : 0 ≤ s49 ∧ s49 ≤ 12) (h_t4 : RI t4) (h_t34 : zR t34 0 60) (h_t35 : zR t35 0 1) (h_t36 : zR t36 0 20) (h_t37 : zR t37 0 11) (h_t38 : zR t38 0 99) (h_t39 : zR t39 (-1) 10) (I_s30 : 0 ≤ s30 ∧ s30 ≤ N) (R_many : s49 = t4 0) (R_ch : s26 = t4 1) (R_pa : s27 = t4 2) (R_st : RV 3 153 s26 t34 t4) (R_ex : RV 3 154 s26 t35 t4) (R_tr : RV 3 155 s26 t36 t4) (R_pl : RV 1 171 s27 t37 t4) (R_te : RV 1 5 4 t38 t4) (R_go : RV 1 141 s49 t39 t4) : zok (f_OP_16 N a1 s3 s4 s5 s26 s27 s28 s29 s30 s49 t2 t3 t4 t34 t35 t36 t37 t38 t39) (fun o => ((-6) ≤ o.2.2.1 ∧ o.2.2.1 ≤ 0) ∧ ((-1) ≤ o.2.2.2.2.2.1 ∧ o.2.2.2.2.2.1 ≤ 5) ∧ (0 ≤ o.2.2.2.2.2.2.1 ∧ o.2.2.2.2.2.2.1 ≤ N + 6) ∧ RI o.2.2.2.2.2.2.2.2.2 ∧ (s49 = o.2.2.2.2.2.2.2.2.2 0) ∧ (s26 = o.2.2.2.2.2.2.2.2.2 1) ∧ (s27 = o.2.2.2.2.2.2.2.2.2 2) ∧ (RV 3 153 s26 t34 o.2.2.2.2.2.2.2.2.2) ∧ (RV 3 154 s26 t35 o.2.2.2.2.2.2.2.2.2) ∧ (RV 3 155 s26 t36 o.2.2.2.2.2.2.2.2.2) ∧ (RV 1 171 s27 t37 o.2.2.2.2.2.2.2.2.2) ∧ (RV 1 5 4 t38 o.2.2.2.2.2.2.2.2.2) ∧ (RV 1 141 s49 t39 o.2.2.2.2.2.2.2.2.2)) := by
  unfold f_OP_16
  have q3 := RI_3 h_t4
  refine zk_dI5 ?_
  unfold f_HS_force
  refine zk_ifc (zci_eq (by omega) (by omega)) (fun hc => ?_) (fun hc => ?_)
  · first
    | (exfalso; omega)
    | (skip
       unfold f_HS_force_27
       refine zk_dI3 ?_
       unfold f_HS_accept
       refine zk_n ?_
       refine zk_rI3 ?_
       refine zk_rI5 ?_
       refine zk_dI5 ?_
       unfold f_HM_force
       refine zk_ifc (zci_eq (by omega) (by omega)) (fun hc_2 => ?_) (fun hc_2 => ?_)
       · first
         | (exfalso; omega)
         | (skip
            unfold f_HM_force_28
            refine zk_d3 (s_HM_change _ _ _ _ (by omega)) (fun v1_2 v2 a3 hp => ?_)
            try dsimp only at hp
            obtain ⟨hpp0, hpp1, hpp2⟩ := hp
            have i_a3 : RI a3 := by rw [hpp2]; exact RIz_4 h_t4 (by omega)
            refine zk_rI5 ?_
            refine zk_ret ?_
            try dsimp only
            exact ⟨by omega, by omega, by omega, i_a3, by first | omega | (simp only [hpp2, zu, ↓reduceIte]; (repeat' split) <;> omega), by first | omega | (simp only [hpp2, zu, ↓reduceIte]; (repeat' split) <;> omega), by first | omega | (simp only [hpp2, zu, ↓reduceIte]; (repeat' split) <;> omega), by (intro c hc; first | (have q := fun h => R_st c h; simp only [hpp2, zu, ↓reduceIte]; (repeat' split) <;> first | omega | (exact q (by omega))) | exact R_st c hc), by (intro c hc; first | (have q := fun h => R_ex c h; simp only [hpp2, zu, ↓reduceIte]; (repeat' split) <;> first | omega | (exact q (by omega))) | exact R_ex c hc), by (intro c hc; first | (have q := fun h => R_tr c h; simp only [hpp2, zu, ↓reduceIte]; (repeat' split) <;> first | omega | (exact q (by omega))) | exact R_tr c hc), by (intro c hc; first | (have q := fun h => R_pl c h; simp only [hpp2, zu, ↓reduceIte]; (repeat' split) <;> first | omega | (exact q (by omega))) | exact R_pl c hc), by (intro c hc; first | (have q := fun h => R_te c h; simp only [hpp2, zu, ↓reduceIte]; (repeat' split) <;> first | omega | (exact q (by omega))) | exact R_te c hc), by (intro c hc; first | (have q := fun h => R_go c h; simp only [hpp2, zu, ↓reduceIte]; (repeat' split) <;> first | omega | (exact q (by omega))) | exact R_go c hc)⟩)
       · first
         | (exfalso; omega)
         | (skip
            refine zk_nE (fun v1_3 h_v1_3 => ?_)
            rw [zwi (by omega)] at h_v1_3
            replace h_v1_3 := h_v1_3.symm
            subst h_v1_3
            refine zk_gl 3 rfl (by decide) (by decide) (fun v2_2 h_v2_2 => ?_)
            have r_v2_2 := RI_3 h_t4
            refine zk_nE (fun v3 h_v3 => ?_)
            rw [zwi (by omega)] at h_v3
            replace h_v3 := h_v3.symm
            subst h_v3
            refine zk_n ?_
            refine zk_d1 (s_HM_in _ _ _ (by omega) (by omega) (by omega)) (fun v5 hp_2 => ?_)
            try dsimp only at hp_2
            have hp_2p0 := hp_2
            refine zk_ifc (zci_eqr (by omega)) (fun hc_3 => ?_) (fun hc_3 => ?_)
            · first
              | (exfalso; omega)
              | (skip
                 refine zk_d3 (s_HM_tell _ _ _ (by omega)) (fun v6 v7 a8 hp_3 => ?_)
                 try dsimp only at hp_3
                 obtain ⟨hp_3p0, hp_3p1⟩ := hp_3
                 refine zk_rI5 ?_
                 refine zk_ret ?_
                 try dsimp only
                 exact ⟨by omega, by omega, by omega, h_t4, by first | omega | (simp only [zu_eq, zu, ↓reduceIte]; (repeat' split) <;> omega), by first | omega | (simp only [zu_eq, zu, ↓reduceIte]; (repeat' split) <;> omega), by first | omega | (simp only [zu_eq, zu, ↓reduceIte]; (repeat' split) <;> omega), by (intro c hc; first | (have q := fun h => R_st c h; simp only [zu_eq, zu, ↓reduceIte]; (repeat' split) <;> first | omega | (exact q (by omega))) | exact R_st c hc), by (intro c hc; first | (have q := fun h => R_ex c h; simp only [zu_eq, zu, ↓reduceIte]; (repeat' split) <;> first | omega | (exact q (by omega))) | exact R_ex c hc), by (intro c hc; first | (have q := fun h => R_tr c h; simp only [zu_eq, zu, ↓reduceIte]; (repeat' split) <;> first | omega | (exact q (by omega))) | exact R_tr c hc), by (intro c hc; first | (have q := fun h => R_pl c h; simp only [zu_eq, zu, ↓reduceIte]; (repeat' split) <;> first | omega | (exact q (by omega))) | exact R_pl c hc), by (intro c hc; first | (have q := fun h => R_te c h; simp only [zu_eq, zu, ↓reduceIte]; (repeat' split) <;> first | omega | (exact q (by omega))) | exact R_te c hc), by (intro c hc; first | (have q := fun h => R_go c h; simp only [zu_eq, zu, ↓reduceIte]; (repeat' split) <;> first | omega | (exact q (by omega))) | exact R_go c hc)⟩)
            · first
              | (exfalso; omega)
              | (skip
                 unfold f_HM_force_28
                 refine zk_d3 (s_HM_change _ _ _ _ (by omega)) (fun v1_4 v2_3 a3_2 hp_4 => ?_)
                 try dsimp only at hp_4
                 obtain ⟨hp_4p0, hp_4p1, hp_4p2⟩ := hp_4
                 have i_a3_2 : RI a3_2 := by rw [hp_4p2]; exact RIz_4 h_t4 (by omega)
                 refine zk_rI5 ?_
                 refine zk_ret ?_
                 try dsimp only
                 exact ⟨by omega, by omega, by omega, i_a3_2, by first | omega | (simp only [hp_4p2, zu, ↓reduceIte]; (repeat' split) <;> omega), by first | omega | (simp only [hp_4p2, zu, ↓reduceIte]; (repeat' split) <;> omega), by first | omega | (simp only [hp_4p2, zu, ↓reduceIte]; (repeat' split) <;> omega), by (intro c hc; first | (have q := fun h => R_st c h; simp only [hp_4p2, zu, ↓reduceIte]; (repeat' split) <;> first | omega | (exact q (by omega))) | exact R_st c hc), by (intro c hc; first | (have q := fun h => R_ex c h; simp only [hp_4p2, zu, ↓reduceIte]; (repeat' split) <;> first | omega | (exact q (by omega))) | exact R_ex c hc), by (intro c hc; first | (have q := fun h => R_tr c h; simp only [hp_4p2, zu, ↓reduceIte]; (repeat' split) <;> first | omega | (exact q (by omega))) | exact R_tr c hc), by (intro c hc; first | (have q := fun h => R_pl c h; simp only [hp_4p2, zu, ↓reduceIte]; (repeat' split) <;> first | omega | (exact q (by omega))) | exact R_pl c hc), by (intro c hc; first | (have q := fun h => R_te c h; simp only [hp_4p2, zu, ↓reduceIte]; (repeat' split) <;> first | omega | (exact q (by omega))) | exact R_te c hc), by (intro c hc; first | (have q := fun h => R_go c h; simp only [hp_4p2, zu, ↓reduceIte]; (repeat' split) <;> first | omega | (exact q (by omega))) | exact R_go c hc)⟩)))
  · first
    | (exfalso; omega)
    | (skip
       refine zk_ifc (zci_ltr (by omega)) (fun hc_4 => ?_) (fun hc_4 => ?_)
       · first
         | (exfalso; omega)
         | (skip
            unfold f_HS_force_20
            refine zk_dI3 ?_
            unfold f_HS_refuse
            refine zk_nE (fun v1_5 h_v1_5 => ?_)
            refine zk_gv (by omega) (by decide) (fun v2_4 h_v2_4 => ?_)
            refine zk_n ?_
            refine zk_sv (by omega) (by decide) (fun a4 h_a4 => ?_)
            refine zk_rI3 ?_
            refine zk_rI5 ?_
            refine zk_dI5 ?_
            unfold f_HM_force
            refine zk_ifc (zci_eq (by omega) (by omega)) (fun hc_5 => ?_) (fun hc_5 => ?_)
            · first
              | (exfalso; omega)
              | (skip
                 unfold f_HM_force_28
                 refine zk_d3 (s_HM_change _ _ _ _ (by omega)) (fun v1_6 v2_5 a3_3 hp_5 => ?_)
                 try dsimp only at hp_5
                 obtain ⟨hp_5p0, hp_5p1, hp_5p2⟩ := hp_5
                 have i_a3_3 : RI a3_3 := by rw [hp_5p2]; exact RIz_4 h_t4 (by omega)
                 refine zk_rI5 ?_
                 refine zk_ret ?_
                 try dsimp only
                 exact ⟨by omega, by omega, by omega, i_a3_3, by first | omega | (simp only [hp_5p2, h_a4, zu, ↓reduceIte]; (repeat' split) <;> omega), by first | omega | (simp only [hp_5p2, h_a4, zu, ↓reduceIte]; (repeat' split) <;> omega), by first | omega | (simp only [hp_5p2, h_a4, zu, ↓reduceIte]; (repeat' split) <;> omega), by (intro c hc; first | (have q := fun h => R_st c h; simp only [hp_5p2, h_a4, zu, ↓reduceIte]; (repeat' split) <;> first | omega | (exact q (by omega))) | exact R_st c hc), by (intro c hc; first | (have q := fun h => R_ex c h; simp only [hp_5p2, h_a4, zu, ↓reduceIte]; (repeat' split) <;> first | omega | (exact q (by omega))) | exact R_ex c hc), by (intro c hc; first | (have q := fun h => R_tr c h; simp only [hp_5p2, h_a4, zu, ↓reduceIte]; (repeat' split) <;> first | omega | (exact q (by omega))) | exact R_tr c hc), by (intro c hc; first | (have q := fun h => R_pl c h; simp only [hp_5p2, h_a4, zu, ↓reduceIte]; (repeat' split) <;> first | omega | (exact q (by omega))) | exact R_pl c hc), by (intro c hc; first | (have q := fun h => R_te c h; simp only [hp_5p2, h_a4, zu, ↓reduceIte]; (repeat' split) <;> first | omega | (exact q (by omega))) | exact R_te c hc), by (intro c hc; first | (have q := fun h => R_go c h; simp only [hp_5p2, h_a4, zu, ↓reduceIte]; (repeat' split) <;> first | omega | (exact q (by omega))) | exact R_go c hc)⟩)
            · first
              | (exfalso; omega)
              | (skip
                 refine zk_nE (fun v1_7 h_v1_7 => ?_)
                 rw [zwi (by omega)] at h_v1_7
                 replace h_v1_7 := h_v1_7.symm
                 subst h_v1_7
                 refine zk_gl 3 rfl (by decide) (by decide) (fun v2_6 h_v2_6 => ?_)
                 have r_v2_6 := RI_3 h_t4
                 refine zk_nE (fun v3_3 h_v3_3 => ?_)
                 rw [zwi (by omega)] at h_v3_3
                 replace h_v3_3 := h_v3_3.symm
                 subst h_v3_3
                 refine zk_n ?_
                 refine zk_d1 (s_HM_in _ _ _ (by omega) (by omega) (by omega)) (fun v5_2 hp_6 => ?_)
                 try dsimp only at hp_6
                 have hp_6p0 := hp_6
                 refine zk_ifc (zci_eqr (by omega)) (fun hc_6 => ?_) (fun hc_6 => ?_)
                 · first
                   | (exfalso; omega)
                   | (skip
                      refine zk_d3 (s_HM_tell _ _ _ (by omega)) (fun v6_2 v7_2 a8_2 hp_7 => ?_)
                      try dsimp only at hp_7
                      obtain ⟨hp_7p0, hp_7p1⟩ := hp_7
                      refine zk_rI5 ?_
                      refine zk_ret ?_
                      try dsimp only
                      exact ⟨by omega, by omega, by omega, h_t4, by first | omega | (simp only [h_a4, zu, ↓reduceIte]; (repeat' split) <;> omega), by first | omega | (simp only [h_a4, zu, ↓reduceIte]; (repeat' split) <;> omega), by first | omega | (simp only [h_a4, zu, ↓reduceIte]; (repeat' split) <;> omega), by (intro c hc; first | (have q := fun h => R_st c h; simp only [h_a4, zu, ↓reduceIte]; (repeat' split) <;> first | omega | (exact q (by omega))) | exact R_st c hc), by (intro c hc; first | (have q := fun h => R_ex c h; simp only [h_a4, zu, ↓reduceIte]; (repeat' split) <;> first | omega | (exact q (by omega))) | exact R_ex c hc), by (intro c hc; first | (have q := fun h => R_tr c h; simp only [h_a4, zu, ↓reduceIte]; (repeat' split) <;> first | omega | (exact q (by omega))) | exact R_tr c hc), by (intro c hc; first | (have q := fun h => R_pl c h; simp only [h_a4, zu, ↓reduceIte]; (repeat' split) <;> first | omega | (exact q (by omega))) | exact R_pl c hc), by (intro c hc; first | (have q := fun h => R_te c h; simp only [h_a4, zu, ↓reduceIte]; (repeat' split) <;> first | omega | (exact q (by omega))) | exact R_te c hc), by (intro c hc; first | (have q := fun h => R_go c h; simp only [h_a4, zu, ↓reduceIte]; (repeat' split) <;> first | omega | (exact q (by omega))) | exact R_go c hc)⟩)
                 · first
                   | (exfalso; omega)
                   | (skip
                      unfold f_HM_force_28
                      refine zk_d3 (s_HM_change _ _ _ _ (by omega)) (fun v1_8 v2_7 a3_4 hp_8 => ?_)
                      try dsimp only at hp_8
                      obtain ⟨hp_8p0, hp_8p1, hp_8p2⟩ := hp_8
                      have i_a3_4 : RI a3_4 := by rw [hp_8p2]; exact RIz_4 h_t4 (by omega)
                      refine zk_rI5 ?_
                      refine zk_ret ?_
                      try dsimp only
                      exact ⟨by omega, by omega, by omega, i_a3_4, by first | omega | (simp only [hp_8p2, h_a4, zu, ↓reduceIte]; (repeat' split) <;> omega), by first | omega | (simp only [hp_8p2, h_a4, zu, ↓reduceIte]; (repeat' split) <;> omega), by first | omega | (simp only [hp_8p2, h_a4, zu, ↓reduceIte]; (repeat' split) <;> omega), by (intro c hc; first | (have q := fun h => R_st c h; simp only [hp_8p2, h_a4, zu, ↓reduceIte]; (repeat' split) <;> first | omega | (exact q (by omega))) | exact R_st c hc), by (intro c hc; first | (have q := fun h => R_ex c h; simp only [hp_8p2, h_a4, zu, ↓reduceIte]; (repeat' split) <;> first | omega | (exact q (by omega))) | exact R_ex c hc), by (intro c hc; first | (have q := fun h => R_tr c h; simp only [hp_8p2, h_a4, zu, ↓reduceIte]; (repeat' split) <;> first | omega | (exact q (by omega))) | exact R_tr c hc), by (intro c hc; first | (have q := fun h => R_pl c h; simp only [hp_8p2, h_a4, zu, ↓reduceIte]; (repeat' split) <;> first | omega | (exact q (by omega))) | exact R_pl c hc), by (intro c hc; first | (have q := fun h => R_te c h; simp only [hp_8p2, h_a4, zu, ↓reduceIte]; (repeat' split) <;> first | omega | (exact q (by omega))) | exact R_te c hc), by (intro c hc; first | (have q := fun h => R_go c h; simp only [hp_8p2, h_a4, zu, ↓reduceIte]; (repeat' split) <;> first | omega | (exact q (by omega))) | exact R_go c hc)⟩)))
       · first
         | (exfalso; omega)
         | (skip
            refine zk_ifc (zci_lt (by omega) (by omega)) (fun hc_7 => ?_) (fun hc_7 => ?_)
            · first
              | (exfalso; omega)
              | (skip
                 unfold f_HS_force_27
                 refine zk_dI3 ?_
                 unfold f_HS_accept
                 refine zk_n ?_
                 refine zk_rI3 ?_
                 refine zk_rI5 ?_
                 refine zk_dI5 ?_
                 unfold f_HM_force
                 refine zk_ifc (zci_eq (by omega) (by omega)) (fun hc_8 => ?_) (fun hc_8 => ?_)
                 · first
                   | (exfalso; omega)
                   | (skip
                      unfold f_HM_force_28
                      refine zk_d3 (s_HM_change _ _ _ _ (by omega)) (fun v1_10 v2_8 a3_5 hp_9 => ?_)
                      try dsimp only at hp_9
                      obtain ⟨hp_9p0, hp_9p1, hp_9p2⟩ := hp_9
                      have i_a3_5 : RI a3_5 := by rw [hp_9p2]; exact RIz_4 h_t4 (by omega)
                      refine zk_rI5 ?_
                      refine zk_ret ?_
                      try dsimp only
                      exact ⟨by omega, by omega, by omega, i_a3_5, by first | omega | (simp only [hp_9p2, zu, ↓reduceIte]; (repeat' split) <;> omega), by first | omega | (simp only [hp_9p2, zu, ↓reduceIte]; (repeat' split) <;> omega), by first | omega | (simp only [hp_9p2, zu, ↓reduceIte]; (repeat' split) <;> omega), by (intro c hc; first | (have q := fun h => R_st c h; simp only [hp_9p2, zu, ↓reduceIte]; (repeat' split) <;> first | omega | (exact q (by omega))) | exact R_st c hc), by (intro c hc; first | (have q := fun h => R_ex c h; simp only [hp_9p2, zu, ↓reduceIte]; (repeat' split) <;> first | omega | (exact q (by omega))) | exact R_ex c hc), by (intro c hc; first | (have q := fun h => R_tr c h; simp only [hp_9p2, zu, ↓reduceIte]; (repeat' split) <;> first | omega | (exact q (by omega))) | exact R_tr c hc), by (intro c hc; first | (have q := fun h => R_pl c h; simp only [hp_9p2, zu, ↓reduceIte]; (repeat' split) <;> first | omega | (exact q (by omega))) | exact R_pl c hc), by (intro c hc; first | (have q := fun h => R_te c h; simp only [hp_9p2, zu, ↓reduceIte]; (repeat' split) <;> first | omega | (exact q (by omega))) | exact R_te c hc), by (intro c hc; first | (have q := fun h => R_go c h; simp only [hp_9p2, zu, ↓reduceIte]; (repeat' split) <;> first | omega | (exact q (by omega))) | exact R_go c hc)⟩)
                 · first
                   | (exfalso; omega)
                   | (skip
                      refine zk_nE (fun v1_11 h_v1_11 => ?_)
                      rw [zwi (by omega)] at h_v1_11
                      replace h_v1_11 := h_v1_11.symm
                      subst h_v1_11
                      refine zk_gl 3 rfl (by decide) (by decide) (fun v2_9 h_v2_9 => ?_)
                      have r_v2_9 := RI_3 h_t4
                      refine zk_nE (fun v3_4 h_v3_4 => ?_)
                      rw [zwi (by omega)] at h_v3_4
                      replace h_v3_4 := h_v3_4.symm
                      subst h_v3_4
                      refine zk_n ?_
                      refine zk_d1 (s_HM_in _ _ _ (by omega) (by omega) (by omega)) (fun v5_3 hp_10 => ?_)
                      try dsimp only at hp_10
                      have hp_10p0 := hp_10
                      refine zk_ifc (zci_eqr (by omega)) (fun hc_9 => ?_) (fun hc_9 => ?_)
                      · first
                        | (exfalso; omega)
                        | (skip
                           refine zk_d3 (s_HM_tell _ _ _ (by omega)) (fun v6_3 v7_3 a8_3 hp_11 => ?_)
                           try dsimp only at hp_11
                           obtain ⟨hp_11p0, hp_11p1⟩ := hp_11
                           refine zk_rI5 ?_
                           refine zk_ret ?_
                           try dsimp only
                           exact ⟨by omega, by omega, by omega, h_t4, by first | omega | (simp only [zu_eq, zu, ↓reduceIte]; (repeat' split) <;> omega), by first | omega | (simp only [zu_eq, zu, ↓reduceIte]; (repeat' split) <;> omega), by first | omega | (simp only [zu_eq, zu, ↓reduceIte]; (repeat' split) <;> omega), by (intro c hc; first | (have q := fun h => R_st c h; simp only [zu_eq, zu, ↓reduceIte]; (repeat' split) <;> first | omega | (exact q (by omega))) | exact R_st c hc), by (intro c hc; first | (have q := fun h => R_ex c h; simp only [zu_eq, zu, ↓reduceIte]; (repeat' split) <;> first | omega | (exact q (by omega))) | exact R_ex c hc), by (intro c hc; first | (have q := fun h => R_tr c h; simp only [zu_eq, zu, ↓reduceIte]; (repeat' split) <;> first | omega | (exact q (by omega))) | exact R_tr c hc), by (intro c hc; first | (have q := fun h => R_pl c h; simp only [zu_eq, zu, ↓reduceIte]; (repeat' split) <;> first | omega | (exact q (by omega))) | exact R_pl c hc), by (intro c hc; first | (have q := fun h => R_te c h; simp only [zu_eq, zu, ↓reduceIte]; (repeat' split) <;> first | omega | (exact q (by omega))) | exact R_te c hc), by (intro c hc; first | (have q := fun h => R_go c h; simp only [zu_eq, zu, ↓reduceIte]; (repeat' split) <;> first | omega | (exact q (by omega))) | exact R_go c hc)⟩)
                      · first
                        | (exfalso; omega)
                        | (skip
                           unfold f_HM_force_28
                           refine zk_d3 (s_HM_change _ _ _ _ (by omega)) (fun v1_12 v2_10 a3_6 hp_12 => ?_)
                           try dsimp only at hp_12
                           obtain ⟨hp_12p0, hp_12p1, hp_12p2⟩ := hp_12
                           have i_a3_6 : RI a3_6 := by rw [hp_12p2]; exact RIz_4 h_t4 (by omega)
                           refine zk_rI5 ?_
                           refine zk_ret ?_
                           try dsimp only
                           exact ⟨by omega, by omega, by omega, i_a3_6, by first | omega | (simp only [hp_12p2, zu, ↓reduceIte]; (repeat' split) <;> omega), by first | omega | (simp only [hp_12p2, zu, ↓reduceIte]; (repeat' split) <;> omega), by first | omega | (simp only [hp_12p2, zu, ↓reduceIte]; (repeat' split) <;> omega), by (intro c hc; first | (have q := fun h => R_st c h; simp only [hp_12p2, zu, ↓reduceIte]; (repeat' split) <;> first | omega | (exact q (by omega))) | exact R_st c hc), by (intro c hc; first | (have q := fun h => R_ex c h; simp only [hp_12p2, zu, ↓reduceIte]; (repeat' split) <;> first | omega | (exact q (by omega))) | exact R_ex c hc), by (intro c hc; first | (have q := fun h => R_tr c h; simp only [hp_12p2, zu, ↓reduceIte]; (repeat' split) <;> first | omega | (exact q (by omega))) | exact R_tr c hc), by (intro c hc; first | (have q := fun h => R_pl c h; simp only [hp_12p2, zu, ↓reduceIte]; (repeat' split) <;> first | omega | (exact q (by omega))) | exact R_pl c hc), by (intro c hc; first | (have q := fun h => R_te c h; simp only [hp_12p2, zu, ↓reduceIte]; (repeat' split) <;> first | omega | (exact q (by omega))) | exact R_te c hc), by (intro c hc; first | (have q := fun h => R_go c h; simp only [hp_12p2, zu, ↓reduceIte]; (repeat' split) <;> first | omega | (exact q (by omega))) | exact R_go c hc)⟩)))
            · first
              | (exfalso; omega)
              | (skip
                 unfold f_HS_force_20
                 refine zk_dI3 ?_
                 unfold f_HS_refuse
                 refine zk_nE (fun v1_13 h_v1_13 => ?_)
                 refine zk_gv (by omega) (by decide) (fun v2_11 h_v2_11 => ?_)
                 refine zk_n ?_
                 refine zk_sv (by omega) (by decide) (fun a4_2 h_a4_2 => ?_)
                 refine zk_rI3 ?_
                 refine zk_rI5 ?_
                 refine zk_dI5 ?_
                 unfold f_HM_force
                 refine zk_ifc (zci_eq (by omega) (by omega)) (fun hc_10 => ?_) (fun hc_10 => ?_)
                 · first
                   | (exfalso; omega)
                   | (skip
                      unfold f_HM_force_28
                      refine zk_d3 (s_HM_change _ _ _ _ (by omega)) (fun v1_14 v2_12 a3_7 hp_13 => ?_)
                      try dsimp only at hp_13
                      obtain ⟨hp_13p0, hp_13p1, hp_13p2⟩ := hp_13
                      have i_a3_7 : RI a3_7 := by rw [hp_13p2]; exact RIz_4 h_t4 (by omega)
                      refine zk_rI5 ?_
                      refine zk_ret ?_
                      try dsimp only
                      exact ⟨by omega, by omega, by omega, i_a3_7, by first | omega | (simp only [hp_13p2, h_a4_2, zu, ↓reduceIte]; (repeat' split) <;> omega), by first | omega | (simp only [hp_13p2, h_a4_2, zu, ↓reduceIte]; (repeat' split) <;> omega), by first | omega | (simp only [hp_13p2, h_a4_2, zu, ↓reduceIte]; (repeat' split) <;> omega), by (intro c hc; first | (have q := fun h => R_st c h; simp only [hp_13p2, h_a4_2, zu, ↓reduceIte]; (repeat' split) <;> first | omega | (exact q (by omega))) | exact R_st c hc), by (intro c hc; first | (have q := fun h => R_ex c h; simp only [hp_13p2, h_a4_2, zu, ↓reduceIte]; (repeat' split) <;> first | omega | (exact q (by omega))) | exact R_ex c hc), by (intro c hc; first | (have q := fun h => R_tr c h; simp only [hp_13p2, h_a4_2, zu, ↓reduceIte]; (repeat' split) <;> first | omega | (exact q (by omega))) | exact R_tr c hc), by (intro c hc; first | (have q := fun h => R_pl c h; simp only [hp_13p2, h_a4_2, zu, ↓reduceIte]; (repeat' split) <;> first | omega | (exact q (by omega))) | exact R_pl c hc), by (intro c hc; first | (have q := fun h => R_te c h; simp only [hp_13p2, h_a4_2, zu, ↓reduceIte]; (repeat' split) <;> first | omega | (exact q (by omega))) | exact R_te c hc), by (intro c hc; first | (have q := fun h => R_go c h; simp only [hp_13p2, h_a4_2, zu, ↓reduceIte]; (repeat' split) <;> first | omega | (exact q (by omega))) | exact R_go c hc)⟩)
                 · first
                   | (exfalso; omega)
                   | (skip
                      refine zk_nE (fun v1_15 h_v1_15 => ?_)
                      rw [zwi (by omega)] at h_v1_15
                      replace h_v1_15 := h_v1_15.symm
                      subst h_v1_15
                      refine zk_gl 3 rfl (by decide) (by decide) (fun v2_13 h_v2_13 => ?_)
                      have r_v2_13 := RI_3 h_t4
                      refine zk_nE (fun v3_6 h_v3_6 => ?_)
                      rw [zwi (by omega)] at h_v3_6
                      replace h_v3_6 := h_v3_6.symm
                      subst h_v3_6
                      refine zk_n ?_
                      refine zk_d1 (s_HM_in _ _ _ (by omega) (by omega) (by omega)) (fun v5_4 hp_14 => ?_)
                      try dsimp only at hp_14
                      have hp_14p0 := hp_14
                      refine zk_ifc (zci_eqr (by omega)) (fun hc_11 => ?_) (fun hc_11 => ?_)
                      · first
                        | (exfalso; omega)
                        | (skip
                           refine zk_d3 (s_HM_tell _ _ _ (by omega)) (fun v6_4 v7_4 a8_4 hp_15 => ?_)
                           try dsimp only at hp_15
                           obtain ⟨hp_15p0, hp_15p1⟩ := hp_15
                           refine zk_rI5 ?_
                           refine zk_ret ?_
                           try dsimp only
                           exact ⟨by omega, by omega, by omega, h_t4, by first | omega | (simp only [h_a4_2, zu, ↓reduceIte]; (repeat' split) <;> omega), by first | omega | (simp only [h_a4_2, zu, ↓reduceIte]; (repeat' split) <;> omega), by first | omega | (simp only [h_a4_2, zu, ↓reduceIte]; (repeat' split) <;> omega), by (intro c hc; first | (have q := fun h => R_st c h; simp only [h_a4_2, zu, ↓reduceIte]; (repeat' split) <;> first | omega | (exact q (by omega))) | exact R_st c hc), by (intro c hc; first | (have q := fun h => R_ex c h; simp only [h_a4_2, zu, ↓reduceIte]; (repeat' split) <;> first | omega | (exact q (by omega))) | exact R_ex c hc), by (intro c hc; first | (have q := fun h => R_tr c h; simp only [h_a4_2, zu, ↓reduceIte]; (repeat' split) <;> first | omega | (exact q (by omega))) | exact R_tr c hc), by (intro c hc; first | (have q := fun h => R_pl c h; simp only [h_a4_2, zu, ↓reduceIte]; (repeat' split) <;> first | omega | (exact q (by omega))) | exact R_pl c hc), by (intro c hc; first | (have q := fun h => R_te c h; simp only [h_a4_2, zu, ↓reduceIte]; (repeat' split) <;> first | omega | (exact q (by omega))) | exact R_te c hc), by (intro c hc; first | (have q := fun h => R_go c h; simp only [h_a4_2, zu, ↓reduceIte]; (repeat' split) <;> first | omega | (exact q (by omega))) | exact R_go c hc)⟩)
                      · first
                        | (exfalso; omega)
                        | (skip
                           unfold f_HM_force_28
                           refine zk_d3 (s_HM_change _ _ _ _ (by omega)) (fun v1_16 v2_14 a3_8 hp_16 => ?_)
                           try dsimp only at hp_16
                           obtain ⟨hp_16p0, hp_16p1, hp_16p2⟩ := hp_16
                           have i_a3_8 : RI a3_8 := by rw [hp_16p2]; exact RIz_4 h_t4 (by omega)
                           refine zk_rI5 ?_
                           refine zk_ret ?_
                           try dsimp only
                           exact ⟨by omega, by omega, by omega, i_a3_8, by first | omega | (simp only [hp_16p2, h_a4_2, zu, ↓reduceIte]; (repeat' split) <;> omega), by first | omega | (simp only [hp_16p2, h_a4_2, zu, ↓reduceIte]; (repeat' split) <;> omega), by first | omega | (simp only [hp_16p2, h_a4_2, zu, ↓reduceIte]; (repeat' split) <;> omega), by (intro c hc; first | (have q := fun h => R_st c h; simp only [hp_16p2, h_a4_2, zu, ↓reduceIte]; (repeat' split) <;> first | omega | (exact q (by omega))) | exact R_st c hc), by (intro c hc; first | (have q := fun h => R_ex c h; simp only [hp_16p2, h_a4_2, zu, ↓reduceIte]; (repeat' split) <;> first | omega | (exact q (by omega))) | exact R_ex c hc), by (intro c hc; first | (have q := fun h => R_tr c h; simp only [hp_16p2, h_a4_2, zu, ↓reduceIte]; (repeat' split) <;> first | omega | (exact q (by omega))) | exact R_tr c hc), by (intro c hc; first | (have q := fun h => R_pl c h; simp only [hp_16p2, h_a4_2, zu, ↓reduceIte]; (repeat' split) <;> first | omega | (exact q (by omega))) | exact R_pl c hc), by (intro c hc; first | (have q := fun h => R_te c h; simp only [hp_16p2, h_a4_2, zu, ↓reduceIte]; (repeat' split) <;> first | omega | (exact q (by omega))) | exact R_te c hc), by (intro c hc; first | (have q := fun h => R_go c h; simp only [hp_16p2, h_a4_2, zu, ↓reduceIte]; (repeat' split) <;> first | omega | (exact q (by omega))) | exact R_go c hc)⟩)))))
set_option maxHeartbeats 4000000 in
set_option maxRecDepth 10000 in
theorem st_16 (N : Int) (σ : Nat → Int) (τ : Nat → Nat → Int) (hI : INV N σ τ) (a1 : Int) (b_a1 : (-2147483648) ≤ a1 ∧ a1 ≤ 2147483647) : zok (f_OP_16 N a1 (σ 3) (σ 4) (σ 5) (σ 26) (σ 27) (σ 28) (σ 29) (σ 30) (σ 49) (τ 2) (τ 3) (τ 4) (τ 34) (τ 35) (τ 36) (τ 37) (τ 38) (τ 39)) (fun o => (True) ∧ INV (N + 6) (zst σ [(3, o.2.2.1), (4, o.2.2.2.1), (5, o.2.2.2.2.1), (29, o.2.2.2.2.2.1), (30, o.2.2.2.2.2.2.1)]) (zta τ [(2, o.2.2.2.2.2.2.2.1), (3, o.2.2.2.2.2.2.2.2.1), (4, o.2.2.2.2.2.2.2.2.2)])) := by
  obtain ⟨I_s0, I_s1, I_s3, I_s26, I_s27, I_s28, I_s29, I_s31, I_s32, I_s33, I_s34, I_s35, I_s36, I_s37, I_s38, I_s39, I_s41, I_s42, I_s46, I_s47, I_s48, I_s49, I_s50, I_s51, I_s52, I_s53, I_s54, I_s55, I_s56, I_s57, I_s58, I_s59, I_s60, I_s61, I_s62, I_s63, I_s65, I_s66, I_s68, I_s69, I_s71, I_s72, I_s30, I_t0, I_t1, I_t34, I_t35, I_t36, I_t37, I_t38, I_t39, I_t40, I_t41, I_t42, I_t43, I_t44, I_t46, I_t48, I_t49, I_t50, I_t52, I_t53, I_t54, I_t55, I_t56, I_t57, I_t58, I_t59, I_t60, I_t61, I_t63, I_t64, I_t65, I_t66, I_t67, I_t68, I_t69, I_t70, I_t71, I_t72, I_t73, I_t74, I_t75, I_t76, I_t77, I_t78, I_t79, I_t80, I_t81, I_t82, I_t83, I_t84, I_t85, I_t86, I_t87, I_t88, I_t89, I_t90, I_t91, I_t4, I_s7, I_s25, I_t7, I_t6, I_t16, I_t17, I_t28, I_t30, I_t31, I_t32, I_t18, I_t23, I_im, R_many, R_ch, R_pa, R_st, R_ex, R_tr, R_pl, R_te, R_go, R_tp, R_kp, R_i0, R_i1⟩ := hI
  refine zok_mono (s_OP_16 N a1 (σ 3) (σ 4) (σ 5) (σ 26) (σ 27) (σ 28) (σ 29) (σ 30) (σ 49) (τ 2) (τ 3) (τ 4) (τ 34) (τ 35) (τ 36) (τ 37) (τ 38) (τ 39) b_a1 I_s3 I_s26 I_s27 I_s28 I_s29 I_s49 I_t4 I_t34 I_t35 I_t36 I_t37 I_t38 I_t39 I_s30 R_many R_ch R_pa R_st R_ex R_tr R_pl R_te R_go) (fun o ho => ?_)
  obtain ⟨p0, p1, p2, p3, p4, p5, p6, p7, p8, p9, p10, p11, p12⟩ := ho
  exact ⟨trivial, ⟨I_s0, I_s1, p0, I_s26, I_s27, I_s28, p1, I_s31, I_s32, I_s33, I_s34, I_s35, I_s36, I_s37, I_s38, I_s39, I_s41, I_s42, I_s46, I_s47, I_s48, I_s49, I_s50, I_s51, I_s52, I_s53, I_s54, I_s55, I_s56, I_s57, I_s58, I_s59, I_s60, I_s61, I_s62, I_s63, I_s65, I_s66, I_s68, I_s69, I_s71, I_s72, p2, I_t0, I_t1, I_t34, I_t35, I_t36, I_t37, I_t38, I_t39, I_t40, I_t41, I_t42, I_t43, I_t44, I_t46, I_t48, I_t49, I_t50, I_t52, I_t53, I_t54, I_t55, I_t56, I_t57, I_t58, I_t59, I_t60, I_t61, I_t63, I_t64, I_t65, I_t66, I_t67, I_t68, I_t69, I_t70, I_t71, I_t72, I_t73, I_t74, I_t75, I_t76, I_t77, I_t78, I_t79, I_t80, I_t81, I_t82, I_t83, I_t84, I_t85, I_t86, I_t87, I_t88, I_t89, I_t90, I_t91, p3, I_s7, I_s25, I_t7, I_t6, I_t16, I_t17, I_t28, I_t30, I_t31, I_t32, I_t18, I_t23, I_im, p4, p5, p6, p7, p8, p9, p10, p11, p12, R_tp, R_kp, R_i0, R_i1⟩⟩
def f_OP_17 (N : Int) (a1 : Int) (a2 : Int) (a3 : Int) (s4 : Int) (s19 : Int) (s20 : Int) (s21 : Int) (s22 : Int) (s26 : Int) (s28 : Int) (s29 : Int) (s34 : Int) (s35 : Int) (s36 : Int) (s49 : Int) (t4 : Nat → Int) (t14 : Nat → Int) (t15 : Nat → Int) (t16 : Nat → Int) (t17 : Nat → Int) (t34 : Nat → Int) (t35 : Nat → Int) (t38 : Nat → Int) (t40 : Nat → Int) (t41 : Nat → Int) (t46 : Nat → Int) (t47 : Nat → Int) (t63 : Nat → Int) (t64 : Nat → Int) : Option (Int × Int × Int × Int × Int × Int × Int × Int × Int × Int × (Nat → Int) × (Nat → Int) × (Nat → Int) × (Nat → Int) × (Nat → Int) × (Nat → Int)) :=
  zd6 (f_HS_can a1 a2 a3 s26 s28 s29 s49 t34 t35 t38 t40 t41 t63 t64 s34 s35 s36 t46 t47) fun v263 v264 v265 v266 a267 a268 =>
  zd10 (f_HM_can a1 a2 a3 t4 s4 s19 s20 s21 s22 t14 t15 t16 t17) fun v275 v276 v277 v278 v279 v280 a281 a282 a283 a284 =>
  some (v263, v275, v276, v277, v278, v279, v280, v264, v265, v266, a281, a282, a283, a284, a267, a268)
set_option maxHeartbeats 4000000 in
theorem s_OP_17 (N : Int) (a1 : Int) (a2 : Int) (a3 : Int) (s4 : Int) (s19 : Int) (s20 : Int) (s21 : Int) (s22 : Int) (s26 : Int) (s28 : Int) (s29 : Int) (s34 : Int) (s35 : Int) (s36 : Int) (s49 : Int) (t4 : Nat → Int) (t14 : Nat → Int) (t15 : Nat → Int) (t16 : Nat → Int) (t17 : Nat → Int) (t34 : Nat → Int) (t35 : Nat → Int) (t38 : Nat → Int) (t40 : Nat → Int) (t41 : Nat → Int) (t46 : Nat → Int) (t47 : Nat → Int) (t63 : Nat → Int) (t64 : Nat → Int) (b_a1 : (-2147483648) ≤ a1 ∧ a1 ≤ 2147483647) (b_a2 : (-2147483648) ≤ a2 ∧ a2 ≤ 2147483647) (b_a3 : (-2147483648) ≤ a3 ∧ a3 ≤ 2147483647) (b_s26 : 0 ≤ s26 ∧ s26 ≤ 6) (b_s28 : 0 ≤ s28 ∧ s28 ≤ 6) (b_s29 : (-1) ≤ s29 ∧ s29 ≤ 5) (b_s34 : 0 ≤ s34 ∧ s34 ≤ 32) (b_s35 : 0 ≤ s35 ∧ s35 ≤ 2147483647) (b_s36 : 0 ≤ s36 ∧ s36 ≤ 1) (b_s49 : 0 ≤ s49 ∧ s49 ≤ 12) (h_t4 : RI t4) (h_t16 : zR t16 0 10) (h_t17 : zR t17 0 30) (h_t34 : zR t34 0 60) (h_t35 : zR t35 0 1) (h_t38 : zR t38 0 99) (h_t40 : zR t40 (-2147483648) 2147483647) (h_t41 : zR t41 0 424) (h_t46 : zR t46 0 99) (h_t63 : zR t63 0 10) (h_t64 : zR t64 0 30) (R_many : s49 = t4 0) (R_ch : s26 = t4 1) (R_st : RV 3 153 s26 t34 t4) (R_ex : RV 3 154 s26 t35 t4) (R_te : RV 1 5 4 t38 t4) : zok (f_OP_17 N a1 a2 a3 s4 s19 s20 s21 s22 s26 s28 s29 s34 s35 s36 s49 t4 t14 t15 t16 t17 t34 t35 t38 t40 t41 t46 t47 t63 t64) (fun o => (0 ≤ o.2.2.2.2.2.2.2.1 ∧ o.2.2.2.2.2.2.2.1 ≤ 32) ∧ (0 ≤ o.2.2.2.2.2.2.2.2.1 ∧ o.2.2.2.2.2.2.2.2.1 ≤ 2147483647) ∧ (0 ≤ o.2.2.2.2.2.2.2.2.2.1 ∧ o.2.2.2.2.2.2.2.2.2.1 ≤ 1) ∧ zR o.2.2.2.2.2.2.2.2.2.2.2.2.2.2.1 0 99 ∧ zR o.2.2.2.2.2.2.2.2.2.2.2.2.1 0 10 ∧ zR o.2.2.2.2.2.2.2.2.2.2.2.2.2.1 0 30) := by
  unfold f_OP_17
  refine zk_dI6 ?_
  unfold f_HS_can
  refine zk_d1 (s_HS_knows _ _ _ _ _ (by omega) (by omega) (by omega) (by omega) (by omega)) (fun v1 hp => ?_)
  try dsimp only at hp
  obtain ⟨hpp0, hpp1⟩ := hp
  refine zk_ifc (zci_ner (by omega)) (fun hc => ?_) (fun hc => ?_)
  · first
    | (exfalso; omega)
    | (skip
       refine zk_d6 (s_Judge_effortOn _ _ _ _ _ _ _ _ _ _ _ _ _ _ _ _ _ _ _ (by omega) (by omega) (by omega) (by omega) (by omega) (by omega) (by omega) h_t63 h_t64 h_t34 h_t35 h_t38 h_t40 h_t41 (by omega) (by omega) (by omega) h_t46) (fun v2 v3 v4 v5 a6 a7 hp_2 => ?_)
       try dsimp only at hp_2
       obtain ⟨hp_2p0, hp_2p1, hp_2p2, hp_2p3, hp_2p4⟩ := hp_2
       refine zk_ifc (zci_ne (by omega) (by omega)) (fun hc_2 => ?_) (fun hc_2 => ?_)
       · first
         | (exfalso; omega)
         | (skip
            refine zk_rI6 ?_
            refine zk_d10 (s_HM_can _ _ _ _ _ _ _ _ _ _ _ _ _ (by omega) (by omega) (by omega) h_t4 h_t16 h_t17) (fun v275 v276 v277 v278 v279 v280 a281 a282 a283 a284 hp_3 => ?_)
            try dsimp only at hp_3
            obtain ⟨hp_3p0, hp_3p1⟩ := hp_3
            refine zk_ret ?_
            try dsimp only
            exact ⟨by omega, by omega, by omega, hp_2p4, hp_3p0, hp_3p1⟩)
       · first
         | (exfalso; omega)
         | (skip
            refine zk_rI6 ?_
            refine zk_d10 (s_HM_can _ _ _ _ _ _ _ _ _ _ _ _ _ (by omega) (by omega) (by omega) h_t4 h_t16 h_t17) (fun v275_2 v276_2 v277_2 v278_2 v279_2 v280_2 a281_2 a282_2 a283_2 a284_2 hp_4 => ?_)
            try dsimp only at hp_4
            obtain ⟨hp_4p0, hp_4p1⟩ := hp_4
            refine zk_ret ?_
            try dsimp only
            exact ⟨by omega, by omega, by omega, hp_2p4, hp_4p0, hp_4p1⟩))
  · first
    | (exfalso; omega)
    | (skip
       refine zk_rI6 ?_
       refine zk_d10 (s_HM_can _ _ _ _ _ _ _ _ _ _ _ _ _ (by omega) (by omega) (by omega) h_t4 h_t16 h_t17) (fun v275_3 v276_3 v277_3 v278_3 v279_3 v280_3 a281_3 a282_3 a283_3 a284_3 hp_5 => ?_)
       try dsimp only at hp_5
       obtain ⟨hp_5p0, hp_5p1⟩ := hp_5
       refine zk_ret ?_
       try dsimp only
       exact ⟨by omega, by omega, by omega, h_t46, hp_5p0, hp_5p1⟩)
set_option maxHeartbeats 4000000 in
set_option maxRecDepth 10000 in
theorem st_17 (N : Int) (σ : Nat → Int) (τ : Nat → Nat → Int) (hI : INV N σ τ) (a1 : Int) (a2 : Int) (a3 : Int) (b_a1 : (-2147483648) ≤ a1 ∧ a1 ≤ 2147483647) (b_a2 : (-2147483648) ≤ a2 ∧ a2 ≤ 2147483647) (b_a3 : (-2147483648) ≤ a3 ∧ a3 ≤ 2147483647) : zok (f_OP_17 N a1 a2 a3 (σ 4) (σ 19) (σ 20) (σ 21) (σ 22) (σ 26) (σ 28) (σ 29) (σ 34) (σ 35) (σ 36) (σ 49) (τ 4) (τ 14) (τ 15) (τ 16) (τ 17) (τ 34) (τ 35) (τ 38) (τ 40) (τ 41) (τ 46) (τ 47) (τ 63) (τ 64)) (fun o => (True) ∧ INV (N + 6) (zst σ [(4, o.2.2.1), (19, o.2.2.2.1), (20, o.2.2.2.2.1), (21, o.2.2.2.2.2.1), (22, o.2.2.2.2.2.2.1), (34, o.2.2.2.2.2.2.2.1), (35, o.2.2.2.2.2.2.2.2.1), (36, o.2.2.2.2.2.2.2.2.2.1)]) (zta τ [(14, o.2.2.2.2.2.2.2.2.2.2.1), (15, o.2.2.2.2.2.2.2.2.2.2.2.1), (16, o.2.2.2.2.2.2.2.2.2.2.2.2.1), (17, o.2.2.2.2.2.2.2.2.2.2.2.2.2.1), (46, o.2.2.2.2.2.2.2.2.2.2.2.2.2.2.1), (47, o.2.2.2.2.2.2.2.2.2.2.2.2.2.2.2)])) := by
  obtain ⟨I_s0, I_s1, I_s3, I_s26, I_s27, I_s28, I_s29, I_s31, I_s32, I_s33, I_s34, I_s35, I_s36, I_s37, I_s38, I_s39, I_s41, I_s42, I_s46, I_s47, I_s48, I_s49, I_s50, I_s51, I_s52, I_s53, I_s54, I_s55, I_s56, I_s57, I_s58, I_s59, I_s60, I_s61, I_s62, I_s63, I_s65, I_s66, I_s68, I_s69, I_s71, I_s72, I_s30, I_t0, I_t1, I_t34, I_t35, I_t36, I_t37, I_t38, I_t39, I_t40, I_t41, I_t42, I_t43, I_t44, I_t46, I_t48, I_t49, I_t50, I_t52, I_t53, I_t54, I_t55, I_t56, I_t57, I_t58, I_t59, I_t60, I_t61, I_t63, I_t64, I_t65, I_t66, I_t67, I_t68, I_t69, I_t70, I_t71, I_t72, I_t73, I_t74, I_t75, I_t76, I_t77, I_t78, I_t79, I_t80, I_t81, I_t82, I_t83, I_t84, I_t85, I_t86, I_t87, I_t88, I_t89, I_t90, I_t91, I_t4, I_s7, I_s25, I_t7, I_t6, I_t16, I_t17, I_t28, I_t30, I_t31, I_t32, I_t18, I_t23, I_im, R_many, R_ch, R_pa, R_st, R_ex, R_tr, R_pl, R_te, R_go, R_tp, R_kp, R_i0, R_i1⟩ := hI
  refine zok_mono (s_OP_17 N a1 a2 a3 (σ 4) (σ 19) (σ 20) (σ 21) (σ 22) (σ 26) (σ 28) (σ 29) (σ 34) (σ 35) (σ 36) (σ 49) (τ 4) (τ 14) (τ 15) (τ 16) (τ 17) (τ 34) (τ 35) (τ 38) (τ 40) (τ 41) (τ 46) (τ 47) (τ 63) (τ 64) b_a1 b_a2 b_a3 I_s26 I_s28 I_s29 I_s34 I_s35 I_s36 I_s49 I_t4 I_t16 I_t17 I_t34 I_t35 I_t38 I_t40 I_t41 I_t46 I_t63 I_t64 R_many R_ch R_st R_ex R_te) (fun o ho => ?_)
  obtain ⟨p0, p1, p2, p3, p4, p5⟩ := ho
  exact ⟨trivial, ⟨I_s0, I_s1, I_s3, I_s26, I_s27, I_s28, I_s29, I_s31, I_s32, I_s33, p0, p1, p2, I_s37, I_s38, I_s39, I_s41, I_s42, I_s46, I_s47, I_s48, I_s49, I_s50, I_s51, I_s52, I_s53, I_s54, I_s55, I_s56, I_s57, I_s58, I_s59, I_s60, I_s61, I_s62, I_s63, I_s65, I_s66, I_s68, I_s69, I_s71, I_s72, ⟨I_s30.1, Int.le_trans I_s30.2 (Int.le_add_of_nonneg_right (by decide))⟩, I_t0, I_t1, I_t34, I_t35, I_t36, I_t37, I_t38, I_t39, I_t40, I_t41, I_t42, I_t43, I_t44, p3, I_t48, I_t49, I_t50, I_t52, I_t53, I_t54, I_t55, I_t56, I_t57, I_t58, I_t59, I_t60, I_t61, I_t63, I_t64, I_t65, I_t66, I_t67, I_t68, I_t69, I_t70, I_t71, I_t72, I_t73, I_t74, I_t75, I_t76, I_t77, I_t78, I_t79, I_t80, I_t81, I_t82, I_t83, I_t84, I_t85, I_t86, I_t87, I_t88, I_t89, I_t90, I_t91, I_t4, I_s7, I_s25, I_t7, I_t6, p4, p5, I_t28, I_t30, I_t31, I_t32, I_t18, I_t23, I_im, R_many, R_ch, R_pa, R_st, R_ex, R_tr, R_pl, R_te, R_go, R_tp, R_kp, R_i0, R_i1⟩⟩
def f_OP_18 (N : Int) (a1 : Int) (a2 : Int) (a3 : Int) (s4 : Int) (s19 : Int) (s20 : Int) (s21 : Int) (s22 : Int) (s26 : Int) (s28 : Int) (s29 : Int) (s34 : Int) (s35 : Int) (s36 : Int) (s49 : Int) (t4 : Nat → Int) (t14 : Nat → Int) (t15 : Nat → Int) (t16 : Nat → Int) (t17 : Nat → Int) (t34 : Nat → Int) (t35 : Nat → Int) (t38 : Nat → Int) (t40 : Nat → Int) (t41 : Nat → Int) (t46 : Nat → Int) (t47 : Nat → Int) (t63 : Nat → Int) (t64 : Nat → Int) : Option (Int × Int × Int × Int × Int × Int × Int × Int × Int × Int × (Nat → Int) × (Nat → Int) × (Nat → Int) × (Nat → Int) × (Nat → Int) × (Nat → Int)) :=
  zd6 (f_HS_tires a1 a2 a3 s26 s28 s29 s49 t34 t35 t38 t40 t41 t63 t64 s34 s35 s36 t46 t47) fun v291 v292 v293 v294 a295 a296 =>
  zd10 (f_HM_tires a1 a2 a3 t4 s4 s19 s20 s21 s22 t14 t15 t16 t17) fun v303 v304 v305 v306 v307 v308 a309 a310 a311 a312 =>
  some (v291, v303, v304, v305, v306, v307, v308, v292, v293, v294, a309, a310, a311, a312, a295, a296)
set_option maxHeartbeats 4000000 in
theorem s_OP_18 (N : Int) (a1 : Int) (a2 : Int) (a3 : Int) (s4 : Int) (s19 : Int) (s20 : Int) (s21 : Int) (s22 : Int) (s26 : Int) (s28 : Int) (s29 : Int) (s34 : Int) (s35 : Int) (s36 : Int) (s49 : Int) (t4 : Nat → Int) (t14 : Nat → Int) (t15 : Nat → Int) (t16 : Nat → Int) (t17 : Nat → Int) (t34 : Nat → Int) (t35 : Nat → Int) (t38 : Nat → Int) (t40 : Nat → Int) (t41 : Nat → Int) (t46 : Nat → Int) (t47 : Nat → Int) (t63 : Nat → Int) (t64 : Nat → Int) (b_a1 : (-2147483648) ≤ a1 ∧ a1 ≤ 2147483647) (b_a2 : (-2147483648) ≤ a2 ∧ a2 ≤ 2147483647) (b_a3 : (-2147483648) ≤ a3 ∧ a3 ≤ 2147483647) (b_s26 : 0 ≤ s26 ∧ s26 ≤ 6) (b_s28 : 0 ≤ s28 ∧ s28 ≤ 6) (b_s29 : (-1) ≤ s29 ∧ s29 ≤ 5) (b_s34 : 0 ≤ s34 ∧ s34 ≤ 32) (b_s35 : 0 ≤ s35 ∧ s35 ≤ 2147483647) (b_s36 : 0 ≤ s36 ∧ s36 ≤ 1) (b_s49 : 0 ≤ s49 ∧ s49 ≤ 12) (h_t4 : RI t4) (h_t16 : zR t16 0 10) (h_t17 : zR t17 0 30) (h_t34 : zR t34 0 60) (h_t35 : zR t35 0 1) (h_t38 : zR t38 0 99) (h_t40 : zR t40 (-2147483648) 2147483647) (h_t41 : zR t41 0 424) (h_t46 : zR t46 0 99) (h_t63 : zR t63 0 10) (h_t64 : zR t64 0 30) (R_many : s49 = t4 0) (R_ch : s26 = t4 1) (R_st : RV 3 153 s26 t34 t4) (R_ex : RV 3 154 s26 t35 t4) (R_te : RV 1 5 4 t38 t4) : zok (f_OP_18 N a1 a2 a3 s4 s19 s20 s21 s22 s26 s28 s29 s34 s35 s36 s49 t4 t14 t15 t16 t17 t34 t35 t38 t40 t41 t46 t47 t63 t64) (fun o => (0 ≤ o.2.2.2.2.2.2.2.1 ∧ o.2.2.2.2.2.2.2.1 ≤ 32) ∧ (0 ≤ o.2.2.2.2.2.2.2.2.1 ∧ o.2.2.2.2.2.2.2.2.1 ≤ 2147483647) ∧ (0 ≤ o.2.2.2.2.2.2.2.2.2.1 ∧ o.2.2.2.2.2.2.2.2.2.1 ≤ 1) ∧ zR o.2.2.2.2.2.2.2.2.2.2.2.2.2.2.1 0 99 ∧ zR o.2.2.2.2.2.2.2.2.2.2.2.2.1 0 10 ∧ zR o.2.2.2.2.2.2.2.2.2.2.2.2.2.1 0 30) := by
  unfold f_OP_18
  refine zk_dI6 ?_
  unfold f_HS_tires
  refine zk_d1 (s_HS_knows _ _ _ _ _ (by omega) (by omega) (by omega) (by omega) (by omega)) (fun v1 hp => ?_)
  try dsimp only at hp
  obtain ⟨hpp0, hpp1⟩ := hp
  refine zk_ifc (zci_eqr (by omega)) (fun hc => ?_) (fun hc => ?_)
  · first
    | (exfalso; omega)
    | (skip
       refine zk_rI6 ?_
       refine zk_d10 (s_HM_tires _ _ _ _ _ _ _ _ _ _ _ _ _ (by omega) (by omega) (by omega) h_t4 h_t16 h_t17) (fun v303 v304 v305 v306 v307 v308 a309 a310 a311 a312 hp_2 => ?_)
       try dsimp only at hp_2
       obtain ⟨hp_2p0, hp_2p1⟩ := hp_2
       refine zk_ret ?_
       try dsimp only
       exact ⟨by omega, by omega, by omega, h_t46, hp_2p0, hp_2p1⟩)
  · first
    | (exfalso; omega)
    | (skip
       refine zk_d6 (s_Judge_effortOn _ _ _ _ _ _ _ _ _ _ _ _ _ _ _ _ _ _ _ (by omega) (by omega) (by omega) (by omega) (by omega) (by omega) (by omega) h_t63 h_t64 h_t34 h_t35 h_t38 h_t40 h_t41 (by omega) (by omega) (by omega) h_t46) (fun v2 v3 v4 v5 a6 a7 hp_3 => ?_)
       try dsimp only at hp_3
       obtain ⟨hp_3p0, hp_3p1, hp_3p2, hp_3p3, hp_3p4⟩ := hp_3
       refine zk_rI6 ?_
       refine zk_d10 (s_HM_tires _ _ _ _ _ _ _ _ _ _ _ _ _ (by omega) (by omega) (by omega) h_t4 h_t16 h_t17) (fun v303_2 v304_2 v305_2 v306_2 v307_2 v308_2 a309_2 a310_2 a311_2 a312_2 hp_4 => ?_)
       try dsimp only at hp_4
       obtain ⟨hp_4p0, hp_4p1⟩ := hp_4
       refine zk_ret ?_
       try dsimp only
       exact ⟨by omega, by omega, by omega, hp_3p4, hp_4p0, hp_4p1⟩)
set_option maxHeartbeats 4000000 in
set_option maxRecDepth 10000 in
theorem st_18 (N : Int) (σ : Nat → Int) (τ : Nat → Nat → Int) (hI : INV N σ τ) (a1 : Int) (a2 : Int) (a3 : Int) (b_a1 : (-2147483648) ≤ a1 ∧ a1 ≤ 2147483647) (b_a2 : (-2147483648) ≤ a2 ∧ a2 ≤ 2147483647) (b_a3 : (-2147483648) ≤ a3 ∧ a3 ≤ 2147483647) : zok (f_OP_18 N a1 a2 a3 (σ 4) (σ 19) (σ 20) (σ 21) (σ 22) (σ 26) (σ 28) (σ 29) (σ 34) (σ 35) (σ 36) (σ 49) (τ 4) (τ 14) (τ 15) (τ 16) (τ 17) (τ 34) (τ 35) (τ 38) (τ 40) (τ 41) (τ 46) (τ 47) (τ 63) (τ 64)) (fun o => (True) ∧ INV (N + 6) (zst σ [(4, o.2.2.1), (19, o.2.2.2.1), (20, o.2.2.2.2.1), (21, o.2.2.2.2.2.1), (22, o.2.2.2.2.2.2.1), (34, o.2.2.2.2.2.2.2.1), (35, o.2.2.2.2.2.2.2.2.1), (36, o.2.2.2.2.2.2.2.2.2.1)]) (zta τ [(14, o.2.2.2.2.2.2.2.2.2.2.1), (15, o.2.2.2.2.2.2.2.2.2.2.2.1), (16, o.2.2.2.2.2.2.2.2.2.2.2.2.1), (17, o.2.2.2.2.2.2.2.2.2.2.2.2.2.1), (46, o.2.2.2.2.2.2.2.2.2.2.2.2.2.2.1), (47, o.2.2.2.2.2.2.2.2.2.2.2.2.2.2.2)])) := by
  obtain ⟨I_s0, I_s1, I_s3, I_s26, I_s27, I_s28, I_s29, I_s31, I_s32, I_s33, I_s34, I_s35, I_s36, I_s37, I_s38, I_s39, I_s41, I_s42, I_s46, I_s47, I_s48, I_s49, I_s50, I_s51, I_s52, I_s53, I_s54, I_s55, I_s56, I_s57, I_s58, I_s59, I_s60, I_s61, I_s62, I_s63, I_s65, I_s66, I_s68, I_s69, I_s71, I_s72, I_s30, I_t0, I_t1, I_t34, I_t35, I_t36, I_t37, I_t38, I_t39, I_t40, I_t41, I_t42, I_t43, I_t44, I_t46, I_t48, I_t49, I_t50, I_t52, I_t53, I_t54, I_t55, I_t56, I_t57, I_t58, I_t59, I_t60, I_t61, I_t63, I_t64, I_t65, I_t66, I_t67, I_t68, I_t69, I_t70, I_t71, I_t72, I_t73, I_t74, I_t75, I_t76, I_t77, I_t78, I_t79, I_t80, I_t81, I_t82, I_t83, I_t84, I_t85, I_t86, I_t87, I_t88, I_t89, I_t90, I_t91, I_t4, I_s7, I_s25, I_t7, I_t6, I_t16, I_t17, I_t28, I_t30, I_t31, I_t32, I_t18, I_t23, I_im, R_many, R_ch, R_pa, R_st, R_ex, R_tr, R_pl, R_te, R_go, R_tp, R_kp, R_i0, R_i1⟩ := hI
  refine zok_mono (s_OP_18 N a1 a2 a3 (σ 4) (σ 19) (σ 20) (σ 21) (σ 22) (σ 26) (σ 28) (σ 29) (σ 34) (σ 35) (σ 36) (σ 49) (τ 4) (τ 14) (τ 15) (τ 16) (τ 17) (τ 34) (τ 35) (τ 38) (τ 40) (τ 41) (τ 46) (τ 47) (τ 63) (τ 64) b_a1 b_a2 b_a3 I_s26 I_s28 I_s29 I_s34 I_s35 I_s36 I_s49 I_t4 I_t16 I_t17 I_t34 I_t35 I_t38 I_t40 I_t41 I_t46 I_t63 I_t64 R_many R_ch R_st R_ex R_te) (fun o ho => ?_)
  obtain ⟨p0, p1, p2, p3, p4, p5⟩ := ho
  exact ⟨trivial, ⟨I_s0, I_s1, I_s3, I_s26, I_s27, I_s28, I_s29, I_s31, I_s32, I_s33, p0, p1, p2, I_s37, I_s38, I_s39, I_s41, I_s42, I_s46, I_s47, I_s48, I_s49, I_s50, I_s51, I_s52, I_s53, I_s54, I_s55, I_s56, I_s57, I_s58, I_s59, I_s60, I_s61, I_s62, I_s63, I_s65, I_s66, I_s68, I_s69, I_s71, I_s72, ⟨I_s30.1, Int.le_trans I_s30.2 (Int.le_add_of_nonneg_right (by decide))⟩, I_t0, I_t1, I_t34, I_t35, I_t36, I_t37, I_t38, I_t39, I_t40, I_t41, I_t42, I_t43, I_t44, p3, I_t48, I_t49, I_t50, I_t52, I_t53, I_t54, I_t55, I_t56, I_t57, I_t58, I_t59, I_t60, I_t61, I_t63, I_t64, I_t65, I_t66, I_t67, I_t68, I_t69, I_t70, I_t71, I_t72, I_t73, I_t74, I_t75, I_t76, I_t77, I_t78, I_t79, I_t80, I_t81, I_t82, I_t83, I_t84, I_t85, I_t86, I_t87, I_t88, I_t89, I_t90, I_t91, I_t4, I_s7, I_s25, I_t7, I_t6, p4, p5, I_t28, I_t30, I_t31, I_t32, I_t18, I_t23, I_im, R_many, R_ch, R_pa, R_st, R_ex, R_tr, R_pl, R_te, R_go, R_tp, R_kp, R_i0, R_i1⟩⟩
def f_OP_19 (N : Int) (a1 : Int) (a2 : Int) (a3 : Int) (s3 : Int) (s4 : Int) (s5 : Int) (s19 : Int) (s20 : Int) (s21 : Int) (s22 : Int) (s26 : Int) (s27 : Int) (s28 : Int) (s29 : Int) (s30 : Int) (s34 : Int) (s35 : Int) (s36 : Int) (s49 : Int) (t2 : Nat → Int) (t3 : Nat → Int) (t4 : Nat → Int) (t14 : Nat → Int) (t15 : Nat → Int) (t16 : Nat → Int) (t17 : Nat → Int) (t34 : Nat → Int) (t35 : Nat → Int) (t36 : Nat → Int) (t37 : Nat → Int) (t38 : Nat → Int) (t39 : Nat → Int) (t40 : Nat → Int) (t41 : Nat → Int) (t46 : Nat → Int) (t47 : Nat → Int) (t63 : Nat → Int) (t64 : Nat → Int) : Option (Int × Int × Int × Int × Int × Int × Int × Int × Int × Int × Int × Int × Int × (Nat → Int) × (Nat → Int) × (Nat → Int) × (Nat → Int) × (Nat → Int) × (Nat → Int) × (Nat → Int) × (Nat → Int) × (Nat → Int) × (Nat → Int) × (Nat → Int)) :=
  zd11 (f_HS_carry a1 a2 a3 s26 s28 s29 s49 t34 t35 t38 t40 t41 s3 s30 t2 s34 s35 s36 t46 t47 t63 t64) fun v319 v320 v321 a322 v323 v324 v325 a326 a327 a328 a329 =>
  zd13 (f_HM_carry a1 a2 a3 s4 s5 s19 s20 s21 s22 t3 t4 t14 t15 t16 t17) fun v336 v337 v338 v339 v340 v341 v342 a343 a344 a345 a346 a347 a348 =>
  some (v319, v336, v320, v337, v338, v339, v340, v341, v342, v321, v323, v324, v325, a322, a343, a344, a345, a346, a347, a348, a326, a327, a328, a329)
set_option maxHeartbeats 4000000 in
theorem s_OP_19 (N : Int) (a1 : Int) (a2 : Int) (a3 : Int) (s3 : Int) (s4 : Int) (s5 : Int) (s19 : Int) (s20 : Int) (s21 : Int) (s22 : Int) (s26 : Int) (s27 : Int) (s28 : Int) (s29 : Int) (s30 : Int) (s34 : Int) (s35 : Int) (s36 : Int) (s49 : Int) (t2 : Nat → Int) (t3 : Nat → Int) (t4 : Nat → Int) (t14 : Nat → Int) (t15 : Nat → Int) (t16 : Nat → Int) (t17 : Nat → Int) (t34 : Nat → Int) (t35 : Nat → Int) (t36 : Nat → Int) (t37 : Nat → Int) (t38 : Nat → Int) (t39 : Nat → Int) (t40 : Nat → Int) (t41 : Nat → Int) (t46 : Nat → Int) (t47 : Nat → Int) (t63 : Nat → Int) (t64 : Nat → Int) (b_a1 : (-2147483648) ≤ a1 ∧ a1 ≤ 2147483647) (b_a2 : (-2147483648) ≤ a2 ∧ a2 ≤ 2147483647) (b_a3 : (-2147483648) ≤ a3 ∧ a3 ≤ 2147483647) (b_s3 : (-6) ≤ s3 ∧ s3 ≤ 0) (b_s26 : 0 ≤ s26 ∧ s26 ≤ 6) (b_s27 : 0 ≤ s27 ∧ s27 ≤ 6) (b_s28 : 0 ≤ s28 ∧ s28 ≤ 6) (b_s29 : (-1) ≤ s29 ∧ s29 ≤ 5) (b_s34 : 0 ≤ s34 ∧ s34 ≤ 32) (b_s35 : 0 ≤ s35 ∧ s35 ≤ 2147483647) (b_s36 : 0 ≤ s36 ∧ s36 ≤ 1) (b_s49 : 0 ≤ s49 ∧ s49 ≤ 12) (h_t4 : RI t4) (h_t16 : zR t16 0 10) (h_t17 : zR t17 0 30) (h_t34 : zR t34 0 60) (h_t35 : zR t35 0 1) (h_t36 : zR t36 0 20) (h_t37 : zR t37 0 11) (h_t38 : zR t38 0 99) (h_t39 : zR t39 (-1) 10) (h_t40 : zR t40 (-2147483648) 2147483647) (h_t41 : zR t41 0 424) (h_t46 : zR t46 0 99) (h_t63 : zR t63 0 10) (h_t64 : zR t64 0 30) (I_s30 : 0 ≤ s30 ∧ s30 ≤ N) (R_many : s49 = t4 0) (R_ch : s26 = t4 1) (R_pa : s27 = t4 2) (R_st : RV 3 153 s26 t34 t4) (R_ex : RV 3 154 s26 t35 t4) (R_tr : RV 3 155 s26 t36 t4) (R_pl : RV 1 171 s27 t37 t4) (R_te : RV 1 5 4 t38 t4) (R_go : RV 1 141 s49 t39 t4) : zok (f_OP_19 N a1 a2 a3 s3 s4 s5 s19 s20 s21 s22 s26 s27 s28 s29 s30 s34 s35 s36 s49 t2 t3 t4 t14 t15 t16 t17 t34 t35 t36 t37 t38 t39 t40 t41 t46 t47 t63 t64) (fun o => ((-6) ≤ o.2.2.1 ∧ o.2.2.1 ≤ 0) ∧ (0 ≤ o.2.2.2.2.2.2.2.2.2.2.1 ∧ o.2.2.2.2.2.2.2.2.2.2.1 ≤ 32) ∧ (0 ≤ o.2.2.2.2.2.2.2.2.2.2.2.1 ∧ o.2.2.2.2.2.2.2.2.2.2.2.1 ≤ 2147483647) ∧ (0 ≤ o.2.2.2.2.2.2.2.2.2.2.2.2.1 ∧ o.2.2.2.2.2.2.2.2.2.2.2.2.1 ≤ 1) ∧ (0 ≤ o.2.2.2.2.2.2.2.2.2.1 ∧ o.2.2.2.2.2.2.2.2.2.1 ≤ N + 6) ∧ zR o.2.2.2.2.2.2.2.2.2.2.2.2.2.2.2.2.2.2.2.2.1 0 99 ∧ zR o.2.2.2.2.2.2.2.2.2.2.2.2.2.2.2.2.2.2.2.2.2.2.1 0 10 ∧ zR o.2.2.2.2.2.2.2.2.2.2.2.2.2.2.2.2.2.2.2.2.2.2.2 0 30 ∧ RI o.2.2.2.2.2.2.2.2.2.2.2.2.2.2.2.1 ∧ zR o.2.2.2.2.2.2.2.2.2.2.2.2.2.2.2.2.2.2.1 0 10 ∧ zR o.2.2.2.2.2.2.2.2.2.2.2.2.2.2.2.2.2.2.2.1 0 30 ∧ (s49 = o.2.2.2.2.2.2.2.2.2.2.2.2.2.2.2.1 0) ∧ (s26 = o.2.2.2.2.2.2.2.2.2.2.2.2.2.2.2.1 1) ∧ (s27 = o.2.2.2.2.2.2.2.2.2.2.2.2.2.2.2.1 2) ∧ (RV 3 153 s26 t34 o.2.2.2.2.2.2.2.2.2.2.2.2.2.2.2.1) ∧ (RV 3 154 s26 t35 o.2.2.2.2.2.2.2.2.2.2.2.2.2.2.2.1) ∧ (RV 3 155 s26 t36 o.2.2.2.2.2.2.2.2.2.2.2.2.2.2.2.1) ∧ (RV 1 171 s27 t37 o.2.2.2.2.2.2.2.2.2.2.2.2.2.2.2.1) ∧ (RV 1 5 4 t38 o.2.2.2.2.2.2.2.2.2.2.2.2.2.2.2.1) ∧ (RV 1 141 s49 t39 o.2.2.2.2.2.2.2.2.2.2.2.2.2.2.2.1)) := by
  unfold f_OP_19
  refine zk_dI11 ?_
  unfold f_HS_carry
  refine zk_d1 (s_HS_knows _ _ _ _ _ (by omega) (by omega) (by omega) (by omega) (by omega)) (fun v1 hp => ?_)
  try dsimp only at hp
  obtain ⟨hpp0, hpp1⟩ := hp
  refine zk_ifc (zci_ner (by omega)) (fun hc => ?_) (fun hc => ?_)
  · first
    | (exfalso; omega)
    | (skip
       refine zk_d6 (s_Judge_effortOn _ _ _ _ _ _ _ _ _ _ _ _ _ _ _ _ _ _ _ (by omega) (by omega) (by omega) (by omega) (by omega) (by omega) (by omega) h_t63 h_t64 h_t34 h_t35 h_t38 h_t40 h_t41 (by omega) (by omega) (by omega) h_t46) (fun v2 v3 v4 v5 a6 a7 hp_2 => ?_)
       try dsimp only at hp_2
       obtain ⟨hp_2p0, hp_2p1, hp_2p2, hp_2p3, hp_2p4⟩ := hp_2
       refine zk_ifc (zci_ne (by omega) (by omega)) (fun hc_2 => ?_) (fun hc_2 => ?_)
       · first
         | (exfalso; omega)
         | (skip
            refine zk_d1 (s_Columns_top _ _ _ _ (by omega) (by omega) h_t63 h_t64) (fun v8 hp_3 => ?_)
            try dsimp only at hp_3
            have hp_3p0 := hp_3
            refine zk_d2 (s_Columns_move _ _ _ _ _ (by omega) (by omega) (by omega) h_t63 h_t64) (fun a9 a10 hp_4 => ?_)
            try dsimp only at hp_4
            obtain ⟨hp_4p0, hp_4p1⟩ := hp_4
            refine zk_dI3 ?_
            unfold f_HS_accept
            refine zk_n ?_
            refine zk_rI3 ?_
            refine zk_rI11 ?_
            refine zk_d13 (s_HM_carry _ _ _ _ _ _ _ _ _ _ _ _ _ _ _ (by omega) (by omega) (by omega) h_t4 h_t16 h_t17) (fun v336 v337 v338 v339 v340 v341 v342 a343 a344 a345 a346 a347 a348 hp_5 => ?_)
            try dsimp only at hp_5
            obtain ⟨hp_5p0, hp_5p1, hp_5p2, hp_5p3⟩ := hp_5
            refine zk_ret ?_
            try dsimp only
            exact ⟨by omega, by omega, by omega, by omega, by omega, hp_2p4, hp_4p0, hp_4p1, hp_5p0, hp_5p1, hp_5p2, by rw [hp_5p3 _ (by omega)]; exact R_many, by rw [hp_5p3 _ (by omega)]; exact R_ch, by rw [hp_5p3 _ (by omega)]; exact R_pa, by intro c hc; rw [hp_5p3 _ (by omega)]; exact R_st c hc, by intro c hc; rw [hp_5p3 _ (by omega)]; exact R_ex c hc, by intro c hc; rw [hp_5p3 _ (by omega)]; exact R_tr c hc, by intro c hc; rw [hp_5p3 _ (by omega)]; exact R_pl c hc, by intro c hc; rw [hp_5p3 _ (by omega)]; exact R_te c hc, by intro c hc; rw [hp_5p3 _ (by omega)]; exact R_go c hc⟩)
       · first
         | (exfalso; omega)
         | (skip
            refine zk_dI3 ?_
            unfold f_HS_refuse
            refine zk_nE (fun v1_3 h_v1_3 => ?_)
            refine zk_gv (by omega) (by decide) (fun v2_2 h_v2_2 => ?_)
            refine zk_n ?_
            refine zk_sv (by omega) (by decide) (fun a4 h_a4 => ?_)
            refine zk_rI3 ?_
            refine zk_rI11 ?_
            refine zk_d13 (s_HM_carry _ _ _ _ _ _ _ _ _ _ _ _ _ _ _ (by omega) (by omega) (by omega) h_t4 h_t16 h_t17) (fun v336_2 v337_2 v338_2 v339_2 v340_2 v341_2 v342_2 a343_2 a344_2 a345_2 a346_2 a347_2 a348_2 hp_6 => ?_)
            try dsimp only at hp_6
            obtain ⟨hp_6p0, hp_6p1, hp_6p2, hp_6p3⟩ := hp_6
            refine zk_ret ?_
            try dsimp only
            exact ⟨by omega, by omega, by omega, by omega, by omega, hp_2p4, h_t63, h_t64, hp_6p0, hp_6p1, hp_6p2, by rw [hp_6p3 _ (by omega)]; exact R_many, by rw [hp_6p3 _ (by omega)]; exact R_ch, by rw [hp_6p3 _ (by omega)]; exact R_pa, by intro c hc; rw [hp_6p3 _ (by omega)]; exact R_st c hc, by intro c hc; rw [hp_6p3 _ (by omega)]; exact R_ex c hc, by intro c hc; rw [hp_6p3 _ (by omega)]; exact R_tr c hc, by intro c hc; rw [hp_6p3 _ (by omega)]; exact R_pl c hc, by intro c hc; rw [hp_6p3 _ (by omega)]; exact R_te c hc, by intro c hc; rw [hp_6p3 _ (by omega)]; exact R_go c hc⟩))
  · first
    | (exfalso; omega)
    | (skip
       refine zk_dI3 ?_
       unfold f_HS_refuse
       refine zk_nE (fun v1_4 h_v1_4 => ?_)
       refine zk_gv (by omega) (by decide) (fun v2_3 h_v2_3 => ?_)
       refine zk_n ?_
       refine zk_sv (by omega) (by decide) (fun a4_2 h_a4_2 => ?_)
       refine zk_rI3 ?_
       refine zk_rI11 ?_
       refine zk_d13 (s_HM_carry _ _ _ _ _ _ _ _ _ _ _ _ _ _ _ (by omega) (by omega) (by omega) h_t4 h_t16 h_t17) (fun v336_3 v337_3 v338_3 v339_3 v340_3 v341_3 v342_3 a343_3 a344_3 a345_3 a346_3 a347_3 a348_3 hp_7 => ?_)
       try dsimp only at hp_7
       obtain ⟨hp_7p0, hp_7p1, hp_7p2, hp_7p3⟩ := hp_7
       refine zk_ret ?_
       try dsimp only
       exact ⟨by omega, by omega, by omega, by omega, by omega, h_t46, h_t63, h_t64, hp_7p0, hp_7p1, hp_7p2, by rw [hp_7p3 _ (by omega)]; exact R_many, by rw [hp_7p3 _ (by omega)]; exact R_ch, by rw [hp_7p3 _ (by omega)]; exact R_pa, by intro c hc; rw [hp_7p3 _ (by omega)]; exact R_st c hc, by intro c hc; rw [hp_7p3 _ (by omega)]; exact R_ex c hc, by intro c hc; rw [hp_7p3 _ (by omega)]; exact R_tr c hc, by intro c hc; rw [hp_7p3 _ (by omega)]; exact R_pl c hc, by intro c hc; rw [hp_7p3 _ (by omega)]; exact R_te c hc, by intro c hc; rw [hp_7p3 _ (by omega)]; exact R_go c hc⟩)
set_option maxHeartbeats 4000000 in
set_option maxRecDepth 10000 in
theorem st_19 (N : Int) (σ : Nat → Int) (τ : Nat → Nat → Int) (hI : INV N σ τ) (a1 : Int) (a2 : Int) (a3 : Int) (b_a1 : (-2147483648) ≤ a1 ∧ a1 ≤ 2147483647) (b_a2 : (-2147483648) ≤ a2 ∧ a2 ≤ 2147483647) (b_a3 : (-2147483648) ≤ a3 ∧ a3 ≤ 2147483647) : zok (f_OP_19 N a1 a2 a3 (σ 3) (σ 4) (σ 5) (σ 19) (σ 20) (σ 21) (σ 22) (σ 26) (σ 27) (σ 28) (σ 29) (σ 30) (σ 34) (σ 35) (σ 36) (σ 49) (τ 2) (τ 3) (τ 4) (τ 14) (τ 15) (τ 16) (τ 17) (τ 34) (τ 35) (τ 36) (τ 37) (τ 38) (τ 39) (τ 40) (τ 41) (τ 46) (τ 47) (τ 63) (τ 64)) (fun o => (True) ∧ INV (N + 6) (zst σ [(3, o.2.2.1), (4, o.2.2.2.1), (5, o.2.2.2.2.1), (19, o.2.2.2.2.2.1), (20, o.2.2.2.2.2.2.1), (21, o.2.2.2.2.2.2.2.1), (22, o.2.2.2.2.2.2.2.2.1), (30, o.2.2.2.2.2.2.2.2.2.1), (34, o.2.2.2.2.2.2.2.2.2.2.1), (35, o.2.2.2.2.2.2.2.2.2.2.2.1), (36, o.2.2.2.2.2.2.2.2.2.2.2.2.1)]) (zta τ [(2, o.2.2.2.2.2.2.2.2.2.2.2.2.2.1), (3, o.2.2.2.2.2.2.2.2.2.2.2.2.2.2.1), (4, o.2.2.2.2.2.2.2.2.2.2.2.2.2.2.2.1), (14, o.2.2.2.2.2.2.2.2.2.2.2.2.2.2.2.2.1), (15, o.2.2.2.2.2.2.2.2.2.2.2.2.2.2.2.2.2.1), (16, o.2.2.2.2.2.2.2.2.2.2.2.2.2.2.2.2.2.2.1), (17, o.2.2.2.2.2.2.2.2.2.2.2.2.2.2.2.2.2.2.2.1), (46, o.2.2.2.2.2.2.2.2.2.2.2.2.2.2.2.2.2.2.2.2.1), (47, o.2.2.2.2.2.2.2.2.2.2.2.2.2.2.2.2.2.2.2.2.2.1), (63, o.2.2.2.2.2.2.2.2.2.2.2.2.2.2.2.2.2.2.2.2.2.2.1), (64, o.2.2.2.2.2.2.2.2.2.2.2.2.2.2.2.2.2.2.2.2.2.2.2)])) := by
  obtain ⟨I_s0, I_s1, I_s3, I_s26, I_s27, I_s28, I_s29, I_s31, I_s32, I_s33, I_s34, I_s35, I_s36, I_s37, I_s38, I_s39, I_s41, I_s42, I_s46, I_s47, I_s48, I_s49, I_s50, I_s51, I_s52, I_s53, I_s54, I_s55, I_s56, I_s57, I_s58, I_s59, I_s60, I_s61, I_s62, I_s63, I_s65, I_s66, I_s68, I_s69, I_s71, I_s72, I_s30, I_t0, I_t1, I_t34, I_t35, I_t36, I_t37, I_t38, I_t39, I_t40, I_t41, I_t42, I_t43, I_t44, I_t46, I_t48, I_t49, I_t50, I_t52, I_t53, I_t54, I_t55, I_t56, I_t57, I_t58, I_t59, I_t60, I_t61, I_t63, I_t64, I_t65, I_t66, I_t67, I_t68, I_t69, I_t70, I_t71, I_t72, I_t73, I_t74, I_t75, I_t76, I_t77, I_t78, I_t79, I_t80, I_t81, I_t82, I_t83, I_t84, I_t85, I_t86, I_t87, I_t88, I_t89, I_t90, I_t91, I_t4, I_s7, I_s25, I_t7, I_t6, I_t16, I_t17, I_t28, I_t30, I_t31, I_t32, I_t18, I_t23, I_im, R_many, R_ch, R_pa, R_st, R_ex, R_tr, R_pl, R_te, R_go, R_tp, R_kp, R_i0, R_i1⟩ := hI
  refine zok_mono (s_OP_19 N a1 a2 a3 (σ 3) (σ 4) (σ 5) (σ 19) (σ 20) (σ 21) (σ 22) (σ 26) (σ 27) (σ 28) (σ 29) (σ 30) (σ 34) (σ 35) (σ 36) (σ 49) (τ 2) (τ 3) (τ 4) (τ 14) (τ 15) (τ 16) (τ 17) (τ 34) (τ 35) (τ 36) (τ 37) (τ 38) (τ 39) (τ 40) (τ 41) (τ 46) (τ 47) (τ 63) (τ 64) b_a1 b_a2 b_a3 I_s3 I_s26 I_s27 I_s28 I_s29 I_s34 I_s35 I_s36 I_s49 I_t4 I_t16 I_t17 I_t34 I_t35 I_t36 I_t37 I_t38 I_t39 I_t40 I_t41 I_t46 I_t63 I_t64 I_s30 R_many R_ch R_pa R_st R_ex R_tr R_pl R_te R_go) (fun o ho => ?_)
  obtain ⟨p0, p1, p2, p3, p4, p5, p6, p7, p8, p9, p10, p11, p12, p13, p14, p15, p16, p17, p18, p19⟩ := ho
  exact ⟨trivial, ⟨I_s0, I_s1, p0, I_s26, I_s27, I_s28, I_s29, I_s31, I_s32, I_s33, p1, p2, p3, I_s37, I_s38, I_s39, I_s41, I_s42, I_s46, I_s47, I_s48, I_s49, I_s50, I_s51, I_s52, I_s53, I_s54, I_s55, I_s56, I_s57, I_s58, I_s59, I_s60, I_s61, I_s62, I_s63, I_s65, I_s66, I_s68, I_s69, I_s71, I_s72, p4, I_t0, I_t1, I_t34, I_t35, I_t36, I_t37, I_t38, I_t39, I_t40, I_t41, I_t42, I_t43, I_t44, p5, I_t48, I_t49, I_t50, I_t52, I_t53, I_t54, I_t55, I_t56, I_t57, I_t58, I_t59, I_t60, I_t61, p6, p7, I_t65, I_t66, I_t67, I_t68, I_t69, I_t70, I_t71, I_t72, I_t73, I_t74, I_t75, I_t76, I_t77, I_t78, I_t79, I_t80, I_t81, I_t82, I_t83, I_t84, I_t85, I_t86, I_t87, I_t88, I_t89, I_t90, I_t91, p8, I_s7, I_s25, I_t7, I_t6, p9, p10, I_t28, I_t30, I_t31, I_t32, I_t18, I_t23, I_im, p11, p12, p13, p14, p15, p16, p17, p18, p19, R_tp, R_kp, R_i0, R_i1⟩⟩
