def f_OP_8 (N : Int) (a1 : Int) (s3 : Int) (s4 : Int) (s5 : Int) (s26 : Int) (s27 : Int) (s30 : Int) (s49 : Int) (t2 : Nat → Int) (t3 : Nat → Int) (t4 : Nat → Int) (t34 : Nat → Int) (t35 : Nat → Int) (t36 : Nat → Int) (t37 : Nat → Int) (t38 : Nat → Int) (t39 : Nat → Int) : Option (Int × Int × Int × Int × Int × Int × Int × (Nat → Int) × (Nat → Int) × (Nat → Int) × (Nat → Int)) :=
  zd6 (f_HS_parish a1 s49 s3 s27 s30 t2 t37) fun v117 v118 v119 v120 a121 a122 =>
  zd5 (f_HM_parish a1 s4 s5 t3 t4) fun v125 v126 v127 a128 a129 =>
  some (v117, v125, v118, v126, v127, v119, v120, a121, a128, a129, a122)
set_option maxHeartbeats 4000000 in
theorem s_OP_8 (N : Int) (a1 : Int) (s3 : Int) (s4 : Int) (s5 : Int) (s26 : Int) (s27 : Int) (s30 : Int) (s49 : Int) (t2 : Nat → Int) (t3 : Nat → Int) (t4 : Nat → Int) (t34 : Nat → Int) (t35 : Nat → Int) (t36 : Nat → Int) (t37 : Nat → Int) (t38 : Nat → Int) (t39 : Nat → Int) (b_a1 : (-2147483648) ≤ a1 ∧ a1 ≤ 2147483647) (b_s3 : (-6) ≤ s3 ∧ s3 ≤ 0) (b_s26 : 0 ≤ s26 ∧ s26 ≤ 6) (b_s27 : 0 ≤ s27 ∧ s27 ≤ 6) (b_s49 : 0 ≤ s49 ∧ s49 ≤ 12) (h_t4 : RI t4) (h_t34 : zR t34 0 60) (h_t35 : zR t35 0 1) (h_t36 : zR t36 0 20) (h_t37 : zR t37 0 11) (h_t38 : zR t38 0 99) (h_t39 : zR t39 (-1) 10) (I_s30 : 0 ≤ s30 ∧ s30 ≤ N) (R_many : s49 = t4 0) (R_ch : s26 = t4 1) (R_pa : s27 = t4 2) (R_st : RV 3 153 s26 t34 t4) (R_ex : RV 3 154 s26 t35 t4) (R_tr : RV 3 155 s26 t36 t4) (R_pl : RV 1 171 s27 t37 t4) (R_te : RV 1 5 4 t38 t4) (R_go : RV 1 141 s49 t39 t4) : zok (f_OP_8 N a1 s3 s4 s5 s26 s27 s30 s49 t2 t3 t4 t34 t35 t36 t37 t38 t39) (fun o => (o.1 = o.2.1) ∧ ((-6) ≤ o.2.2.1 ∧ o.2.2.1 ≤ 0) ∧ (0 ≤ o.2.2.2.2.2.1 ∧ o.2.2.2.2.2.1 ≤ 6) ∧ (0 ≤ o.2.2.2.2.2.2.1 ∧ o.2.2.2.2.2.2.1 ≤ N + 6) ∧ zR o.2.2.2.2.2.2.2.2.2.2 0 11 ∧ RI o.2.2.2.2.2.2.2.2.2.1 ∧ (s49 = o.2.2.2.2.2.2.2.2.2.1 0) ∧ (s26 = o.2.2.2.2.2.2.2.2.2.1 1) ∧ (o.2.2.2.2.2.1 = o.2.2.2.2.2.2.2.2.2.1 2) ∧ (RV 3 153 s26 t34 o.2.2.2.2.2.2.2.2.2.1) ∧ (RV 3 154 s26 t35 o.2.2.2.2.2.2.2.2.2.1) ∧ (RV 3 155 s26 t36 o.2.2.2.2.2.2.2.2.2.1) ∧ (RV 1 171 o.2.2.2.2.2.1 o.2.2.2.2.2.2.2.2.2.2 o.2.2.2.2.2.2.2.2.2.1) ∧ (RV 1 5 4 t38 o.2.2.2.2.2.2.2.2.2.1) ∧ (RV 1 141 s49 t39 o.2.2.2.2.2.2.2.2.2.1)) := by
  unfold f_OP_8
  refine zk_dI6 ?_
  unfold f_HS_parish
  refine zk_d1 (s_Columns_has _ _ (by omega) (by omega)) (fun v1 hp => ?_)
  try dsimp only at hp
  obtain ⟨hpp0, hpp1⟩ := hp
  refine zk_ifc (zci_ner (by omega)) (fun hc => ?_) (fun hc => ?_)
  · first
    | (exfalso; omega)
    | (skip
       refine zk_ifc (zci_lt (by omega) (by omega)) (fun hc_2 => ?_) (fun hc_2 => ?_)
       · first
         | (exfalso; omega)
         | (skip
            refine zk_sv (by omega) (by decide) (fun a2 h_a2 => ?_)
            have i_a2 : zR a2 0 11 := by rw [h_a2]; exact zR_zu h_t37 (by decide) (by decide) (by omega)
            refine zk_n ?_
            refine zk_dI3 ?_
            unfold f_HS_accept
            refine zk_n ?_
            refine zk_rI3 ?_
            refine zk_rI6 ?_
            refine zk_dI5 ?_
            unfold f_HM_parish
            refine zk_d1 (s_HM_isColumn _ _ (by omega) h_t4) (fun v1_3 hp_2 => ?_)
            try dsimp only at hp_2
            obtain ⟨hp_2p0, hp_2p1⟩ := hp_2
            refine zk_ifc (zci_ner (by omega)) (fun hc_3 => ?_) (fun hc_3 => ?_)
            · first
              | (exfalso; omega)
              | (skip
                 refine zk_gl 2 rfl (by decide) (by decide) (fun v2 h_v2 => ?_)
                 have r_v2 := RI_2 h_t4
                 refine zk_ifc (zci_ne (by omega) (by omega)) (fun hc_4 => ?_) (fun hc_4 => ?_)
                 · first
                   | (exfalso; omega)
                   | (skip
                      refine zk_n ?_
                      refine zk_sv (by omega) (by decide) (fun a4 h_a4 => ?_)
                      have i_a4 : RI a4 := by rw [h_a4]; exact RIz_p h_t4 (by omega) (by omega)
                      refine zk_gl 2 rfl (by decide) (by decide) (fun v5 h_v5 => ?_)
                      have z_v5_a4 := zu_rd h_a4 (2)
                      have r_v5 := RI_2 i_a4
                      refine zk_n ?_
                      refine zk_sl 2 rfl (by decide) (by decide) (fun a7 h_a7 => ?_)
                      have i_a7 : RI a7 := by rw [h_a7]; exact RIz_2 i_a4 (by omega)
                      refine zk_d3 (s_HM_tell _ _ _ (by omega)) (fun v8 v9 a10 hp_3 => ?_)
                      try dsimp only at hp_3
                      obtain ⟨hp_3p0, hp_3p1⟩ := hp_3
                      refine zk_rI5 ?_
                      refine zk_ret ?_
                      try dsimp only
                      exact ⟨by omega, by omega, by omega, by omega, i_a2, i_a7, by first | omega | (simp only [h_a7, h_a4, h_a2, zu, ↓reduceIte]; (repeat' split) <;> omega), by first | omega | (simp only [h_a7, h_a4, h_a2, zu, ↓reduceIte]; (repeat' split) <;> omega), by first | omega | (simp only [h_a7, h_a4, h_a2, zu, ↓reduceIte]; (repeat' split) <;> omega), by (intro c hc; first | (have q := fun h => R_st c h; simp only [h_a7, h_a4, h_a2, zu, ↓reduceIte]; (repeat' split) <;> first | omega | (exact q (by omega))) | exact R_st c hc), by (intro c hc; first | (have q := fun h => R_ex c h; simp only [h_a7, h_a4, h_a2, zu, ↓reduceIte]; (repeat' split) <;> first | omega | (exact q (by omega))) | exact R_ex c hc), by (intro c hc; first | (have q := fun h => R_tr c h; simp only [h_a7, h_a4, h_a2, zu, ↓reduceIte]; (repeat' split) <;> first | omega | (exact q (by omega))) | exact R_tr c hc), by (intro c hc; first | (have q := fun h => R_pl c h; simp only [h_a7, h_a4, h_a2, zu, ↓reduceIte]; (repeat' split) <;> first | omega | (exact q (by omega))) | exact R_pl c hc), by (intro c hc; first | (have q := fun h => R_te c h; simp only [h_a7, h_a4, h_a2, zu, ↓reduceIte]; (repeat' split) <;> first | omega | (exact q (by omega))) | exact R_te c hc), by (intro c hc; first | (have q := fun h => R_go c h; simp only [h_a7, h_a4, h_a2, zu, ↓reduceIte]; (repeat' split) <;> first | omega | (exact q (by omega))) | exact R_go c hc)⟩)
                 · first
                   | (exfalso; omega)
                   | (skip
                      refine zk_d3 (s_HM_tell _ _ _ (by omega)) (fun v11 v12 a13 hp_4 => ?_)
                      try dsimp only at hp_4
                      obtain ⟨hp_4p0, hp_4p1⟩ := hp_4
                      refine zk_rI5 ?_
                      refine zk_ret ?_
                      try dsimp only
                      exact ⟨by omega, by omega, by omega, by omega, i_a2, h_t4, by first | omega | (simp only [h_a2, zu, ↓reduceIte]; (repeat' split) <;> omega), by first | omega | (simp only [h_a2, zu, ↓reduceIte]; (repeat' split) <;> omega), by first | omega | (simp only [h_a2, zu, ↓reduceIte]; (repeat' split) <;> omega), by (intro c hc; first | (have q := fun h => R_st c h; simp only [h_a2, zu, ↓reduceIte]; (repeat' split) <;> first | omega | (exact q (by omega))) | exact R_st c hc), by (intro c hc; first | (have q := fun h => R_ex c h; simp only [h_a2, zu, ↓reduceIte]; (repeat' split) <;> first | omega | (exact q (by omega))) | exact R_ex c hc), by (intro c hc; first | (have q := fun h => R_tr c h; simp only [h_a2, zu, ↓reduceIte]; (repeat' split) <;> first | omega | (exact q (by omega))) | exact R_tr c hc), by (intro c hc; first | (have q := fun h => R_pl c h; simp only [h_a2, zu, ↓reduceIte]; (repeat' split) <;> first | omega | (exact q (by omega))) | exact R_pl c hc), by (intro c hc; first | (have q := fun h => R_te c h; simp only [h_a2, zu, ↓reduceIte]; (repeat' split) <;> first | omega | (exact q (by omega))) | exact R_te c hc), by (intro c hc; first | (have q := fun h => R_go c h; simp only [h_a2, zu, ↓reduceIte]; (repeat' split) <;> first | omega | (exact q (by omega))) | exact R_go c hc)⟩))
            · first
              | (exfalso; omega)
              | (skip
                 refine zk_d3 (s_HM_tell _ _ _ (by omega)) (fun v14 v15 a16 hp_5 => ?_)
                 try dsimp only at hp_5
                 obtain ⟨hp_5p0, hp_5p1⟩ := hp_5
                 refine zk_rI5 ?_
                 refine zk_ret ?_
                 try dsimp only
                 exact ⟨by omega, by omega, by omega, by omega, i_a2, h_t4, by first | omega | (simp only [h_a2, zu, ↓reduceIte]; (repeat' split) <;> omega), by first | omega | (simp only [h_a2, zu, ↓reduceIte]; (repeat' split) <;> omega), by first | omega | (simp only [h_a2, zu, ↓reduceIte]; (repeat' split) <;> omega), by (intro c hc; first | (have q := fun h => R_st c h; simp only [h_a2, zu, ↓reduceIte]; (repeat' split) <;> first | omega | (exact q (by omega))) | exact R_st c hc), by (intro c hc; first | (have q := fun h => R_ex c h; simp only [h_a2, zu, ↓reduceIte]; (repeat' split) <;> first | omega | (exact q (by omega))) | exact R_ex c hc), by (intro c hc; first | (have q := fun h => R_tr c h; simp only [h_a2, zu, ↓reduceIte]; (repeat' split) <;> first | omega | (exact q (by omega))) | exact R_tr c hc), by (intro c hc; first | (have q := fun h => R_pl c h; simp only [h_a2, zu, ↓reduceIte]; (repeat' split) <;> first | omega | (exact q (by omega))) | exact R_pl c hc), by (intro c hc; first | (have q := fun h => R_te c h; simp only [h_a2, zu, ↓reduceIte]; (repeat' split) <;> first | omega | (exact q (by omega))) | exact R_te c hc), by (intro c hc; first | (have q := fun h => R_go c h; simp only [h_a2, zu, ↓reduceIte]; (repeat' split) <;> first | omega | (exact q (by omega))) | exact R_go c hc)⟩))
       · first
         | (exfalso; omega)
         | (skip
            refine zk_dI3 ?_
            unfold f_HS_refuse
            refine zk_nE (fun v1_4 h_v1_4 => ?_)
            refine zk_gv (by omega) (by decide) (fun v2_2 h_v2_2 => ?_)
            refine zk_n ?_
            refine zk_sv (by omega) (by decide) (fun a4_2 h_a4_2 => ?_)
            refine zk_rI3 ?_
            refine zk_rI6 ?_
            refine zk_dI5 ?_
            unfold f_HM_parish
            refine zk_d1 (s_HM_isColumn _ _ (by omega) h_t4) (fun v1_5 hp_6 => ?_)
            try dsimp only at hp_6
            obtain ⟨hp_6p0, hp_6p1⟩ := hp_6
            refine zk_ifc (zci_ner (by omega)) (fun hc_5 => ?_) (fun hc_5 => ?_)
            · first
              | (exfalso; omega)
              | (skip
                 refine zk_gl 2 rfl (by decide) (by decide) (fun v2_3 h_v2_3 => ?_)
                 have r_v2_3 := RI_2 h_t4
                 refine zk_ifc (zci_ne (by omega) (by omega)) (fun hc_6 => ?_) (fun hc_6 => ?_)
                 · first
                   | (exfalso; omega)
                   | (skip
                      refine zk_n ?_
                      refine zk_sv (by omega) (by decide) (fun a4_3 h_a4_3 => ?_)
                      have i_a4_3 : RI a4_3 := by rw [h_a4_3]; exact RIz_p h_t4 (by omega) (by omega)
                      refine zk_gl 2 rfl (by decide) (by decide) (fun v5_2 h_v5_2 => ?_)
                      have z_v5_2_a4_3 := zu_rd h_a4_3 (2)
                      have r_v5_2 := RI_2 i_a4_3
                      refine zk_n ?_
                      refine zk_sl 2 rfl (by decide) (by decide) (fun a7_2 h_a7_2 => ?_)
                      have i_a7_2 : RI a7_2 := by rw [h_a7_2]; exact RIz_2 i_a4_3 (by omega)
                      refine zk_d3 (s_HM_tell _ _ _ (by omega)) (fun v8_2 v9_2 a10_2 hp_7 => ?_)
                      try dsimp only at hp_7
                      obtain ⟨hp_7p0, hp_7p1⟩ := hp_7
                      refine zk_rI5 ?_
                      refine zk_ret ?_
                      try dsimp only
                      exact ⟨by omega, by omega, by omega, by omega, h_t37, i_a7_2, by first | omega | (simp only [h_a7_2, h_a4_3, h_a4_2, zu, ↓reduceIte]; (repeat' split) <;> omega), by first | omega | (simp only [h_a7_2, h_a4_3, h_a4_2, zu, ↓reduceIte]; (repeat' split) <;> omega), by first | omega | (simp only [h_a7_2, h_a4_3, h_a4_2, zu, ↓reduceIte]; (repeat' split) <;> omega), by (intro c hc; first | (have q := fun h => R_st c h; simp only [h_a7_2, h_a4_3, h_a4_2, zu, ↓reduceIte]; (repeat' split) <;> first | omega | (exact q (by omega))) | exact R_st c hc), by (intro c hc; first | (have q := fun h => R_ex c h; simp only [h_a7_2, h_a4_3, h_a4_2, zu, ↓reduceIte]; (repeat' split) <;> first | omega | (exact q (by omega))) | exact R_ex c hc), by (intro c hc; first | (have q := fun h => R_tr c h; simp only [h_a7_2, h_a4_3, h_a4_2, zu, ↓reduceIte]; (repeat' split) <;> first | omega | (exact q (by omega))) | exact R_tr c hc), by (intro c hc; first | (have q := fun h => R_pl c h; simp only [h_a7_2, h_a4_3, h_a4_2, zu, ↓reduceIte]; (repeat' split) <;> first | omega | (exact q (by omega))) | exact R_pl c hc), by (intro c hc; first | (have q := fun h => R_te c h; simp only [h_a7_2, h_a4_3, h_a4_2, zu, ↓reduceIte]; (repeat' split) <;> first | omega | (exact q (by omega))) | exact R_te c hc), by (intro c hc; first | (have q := fun h => R_go c h; simp only [h_a7_2, h_a4_3, h_a4_2, zu, ↓reduceIte]; (repeat' split) <;> first | omega | (exact q (by omega))) | exact R_go c hc)⟩)
                 · first
                   | (exfalso; omega)
                   | (skip
                      refine zk_d3 (s_HM_tell _ _ _ (by omega)) (fun v11_2 v12_2 a13_2 hp_8 => ?_)
                      try dsimp only at hp_8
                      obtain ⟨hp_8p0, hp_8p1⟩ := hp_8
                      refine zk_rI5 ?_
                      refine zk_ret ?_
                      try dsimp only
                      exact ⟨by omega, by omega, by omega, by omega, h_t37, h_t4, by first | omega | (simp only [h_a4_2, zu, ↓reduceIte]; (repeat' split) <;> omega), by first | omega | (simp only [h_a4_2, zu, ↓reduceIte]; (repeat' split) <;> omega), by first | omega | (simp only [h_a4_2, zu, ↓reduceIte]; (repeat' split) <;> omega), by (intro c hc; first | (have q := fun h => R_st c h; simp only [h_a4_2, zu, ↓reduceIte]; (repeat' split) <;> first | omega | (exact q (by omega))) | exact R_st c hc), by (intro c hc; first | (have q := fun h => R_ex c h; simp only [h_a4_2, zu, ↓reduceIte]; (repeat' split) <;> first | omega | (exact q (by omega))) | exact R_ex c hc), by (intro c hc; first | (have q := fun h => R_tr c h; simp only [h_a4_2, zu, ↓reduceIte]; (repeat' split) <;> first | omega | (exact q (by omega))) | exact R_tr c hc), by (intro c hc; first | (have q := fun h => R_pl c h; simp only [h_a4_2, zu, ↓reduceIte]; (repeat' split) <;> first | omega | (exact q (by omega))) | exact R_pl c hc), by (intro c hc; first | (have q := fun h => R_te c h; simp only [h_a4_2, zu, ↓reduceIte]; (repeat' split) <;> first | omega | (exact q (by omega))) | exact R_te c hc), by (intro c hc; first | (have q := fun h => R_go c h; simp only [h_a4_2, zu, ↓reduceIte]; (repeat' split) <;> first | omega | (exact q (by omega))) | exact R_go c hc)⟩))
            · first
              | (exfalso; omega)
              | (skip
                 refine zk_d3 (s_HM_tell _ _ _ (by omega)) (fun v14_2 v15_2 a16_2 hp_9 => ?_)
                 try dsimp only at hp_9
                 obtain ⟨hp_9p0, hp_9p1⟩ := hp_9
                 refine zk_rI5 ?_
                 refine zk_ret ?_
                 try dsimp only
                 exact ⟨by omega, by omega, by omega, by omega, h_t37, h_t4, by first | omega | (simp only [h_a4_2, zu, ↓reduceIte]; (repeat' split) <;> omega), by first | omega | (simp only [h_a4_2, zu, ↓reduceIte]; (repeat' split) <;> omega), by first | omega | (simp only [h_a4_2, zu, ↓reduceIte]; (repeat' split) <;> omega), by (intro c hc; first | (have q := fun h => R_st c h; simp only [h_a4_2, zu, ↓reduceIte]; (repeat' split) <;> first | omega | (exact q (by omega))) | exact R_st c hc), by (intro c hc; first | (have q := fun h => R_ex c h; simp only [h_a4_2, zu, ↓reduceIte]; (repeat' split) <;> first | omega | (exact q (by omega))) | exact R_ex c hc), by (intro c hc; first | (have q := fun h => R_tr c h; simp only [h_a4_2, zu, ↓reduceIte]; (repeat' split) <;> first | omega | (exact q (by omega))) | exact R_tr c hc), by (intro c hc; first | (have q := fun h => R_pl c h; simp only [h_a4_2, zu, ↓reduceIte]; (repeat' split) <;> first | omega | (exact q (by omega))) | exact R_pl c hc), by (intro c hc; first | (have q := fun h => R_te c h; simp only [h_a4_2, zu, ↓reduceIte]; (repeat' split) <;> first | omega | (exact q (by omega))) | exact R_te c hc), by (intro c hc; first | (have q := fun h => R_go c h; simp only [h_a4_2, zu, ↓reduceIte]; (repeat' split) <;> first | omega | (exact q (by omega))) | exact R_go c hc)⟩)))
  · first
    | (exfalso; omega)
    | (skip
       refine zk_dI3 ?_
       unfold f_HS_refuse
       refine zk_nE (fun v1_6 h_v1_6 => ?_)
       refine zk_gv (by omega) (by decide) (fun v2_4 h_v2_4 => ?_)
       refine zk_n ?_
       refine zk_sv (by omega) (by decide) (fun a4_4 h_a4_4 => ?_)
       refine zk_rI3 ?_
       refine zk_rI6 ?_
       refine zk_dI5 ?_
       unfold f_HM_parish
       refine zk_d1 (s_HM_isColumn _ _ (by omega) h_t4) (fun v1_7 hp_10 => ?_)
       try dsimp only at hp_10
       obtain ⟨hp_10p0, hp_10p1⟩ := hp_10
       refine zk_ifc (zci_ner (by omega)) (fun hc_7 => ?_) (fun hc_7 => ?_)
       · first
         | (exfalso; omega)
         | (skip
            refine zk_gl 2 rfl (by decide) (by decide) (fun v2_5 h_v2_5 => ?_)
            have r_v2_5 := RI_2 h_t4
            refine zk_ifc (zci_ne (by omega) (by omega)) (fun hc_8 => ?_) (fun hc_8 => ?_)
            · first
              | (exfalso; omega)
              | (skip
                 refine zk_n ?_
                 refine zk_sv (by omega) (by decide) (fun a4_5 h_a4_5 => ?_)
                 have i_a4_5 : RI a4_5 := by rw [h_a4_5]; exact RIz_p h_t4 (by omega) (by omega)
                 refine zk_gl 2 rfl (by decide) (by decide) (fun v5_3 h_v5_3 => ?_)
                 have z_v5_3_a4_5 := zu_rd h_a4_5 (2)
                 have r_v5_3 := RI_2 i_a4_5
                 refine zk_n ?_
                 refine zk_sl 2 rfl (by decide) (by decide) (fun a7_3 h_a7_3 => ?_)
                 have i_a7_3 : RI a7_3 := by rw [h_a7_3]; exact RIz_2 i_a4_5 (by omega)
                 refine zk_d3 (s_HM_tell _ _ _ (by omega)) (fun v8_3 v9_3 a10_3 hp_11 => ?_)
                 try dsimp only at hp_11
                 obtain ⟨hp_11p0, hp_11p1⟩ := hp_11
                 refine zk_rI5 ?_
                 refine zk_ret ?_
                 try dsimp only
                 exact ⟨by omega, by omega, by omega, by omega, h_t37, i_a7_3, by first | omega | (simp only [h_a7_3, h_a4_5, h_a4_4, zu, ↓reduceIte]; (repeat' split) <;> omega), by first | omega | (simp only [h_a7_3, h_a4_5, h_a4_4, zu, ↓reduceIte]; (repeat' split) <;> omega), by first | omega | (simp only [h_a7_3, h_a4_5, h_a4_4, zu, ↓reduceIte]; (repeat' split) <;> omega), by (intro c hc; first | (have q := fun h => R_st c h; simp only [h_a7_3, h_a4_5, h_a4_4, zu, ↓reduceIte]; (repeat' split) <;> first | omega | (exact q (by omega))) | exact R_st c hc), by (intro c hc; first | (have q := fun h => R_ex c h; simp only [h_a7_3, h_a4_5, h_a4_4, zu, ↓reduceIte]; (repeat' split) <;> first | omega | (exact q (by omega))) | exact R_ex c hc), by (intro c hc; first | (have q := fun h => R_tr c h; simp only [h_a7_3, h_a4_5, h_a4_4, zu, ↓reduceIte]; (repeat' split) <;> first | omega | (exact q (by omega))) | exact R_tr c hc), by (intro c hc; first | (have q := fun h => R_pl c h; simp only [h_a7_3, h_a4_5, h_a4_4, zu, ↓reduceIte]; (repeat' split) <;> first | omega | (exact q (by omega))) | exact R_pl c hc), by (intro c hc; first | (have q := fun h => R_te c h; simp only [h_a7_3, h_a4_5, h_a4_4, zu, ↓reduceIte]; (repeat' split) <;> first | omega | (exact q (by omega))) | exact R_te c hc), by (intro c hc; first | (have q := fun h => R_go c h; simp only [h_a7_3, h_a4_5, h_a4_4, zu, ↓reduceIte]; (repeat' split) <;> first | omega | (exact q (by omega))) | exact R_go c hc)⟩)
            · first
              | (exfalso; omega)
              | (skip
                 refine zk_d3 (s_HM_tell _ _ _ (by omega)) (fun v11_3 v12_3 a13_3 hp_12 => ?_)
                 try dsimp only at hp_12
                 obtain ⟨hp_12p0, hp_12p1⟩ := hp_12
                 refine zk_rI5 ?_
                 refine zk_ret ?_
                 try dsimp only
                 exact ⟨by omega, by omega, by omega, by omega, h_t37, h_t4, by first | omega | (simp only [h_a4_4, zu, ↓reduceIte]; (repeat' split) <;> omega), by first | omega | (simp only [h_a4_4, zu, ↓reduceIte]; (repeat' split) <;> omega), by first | omega | (simp only [h_a4_4, zu, ↓reduceIte]; (repeat' split) <;> omega), by (intro c hc; first | (have q := fun h => R_st c h; simp only [h_a4_4, zu, ↓reduceIte]; (repeat' split) <;> first | omega | (exact q (by omega))) | exact R_st c hc), by (intro c hc; first | (have q := fun h => R_ex c h; simp only [h_a4_4, zu, ↓reduceIte]; (repeat' split) <;> first | omega | (exact q (by omega))) | exact R_ex c hc), by (intro c hc; first | (have q := fun h => R_tr c h; simp only [h_a4_4, zu, ↓reduceIte]; (repeat' split) <;> first | omega | (exact q (by omega))) | exact R_tr c hc), by (intro c hc; first | (have q := fun h => R_pl c h; simp only [h_a4_4, zu, ↓reduceIte]; (repeat' split) <;> first | omega | (exact q (by omega))) | exact R_pl c hc), by (intro c hc; first | (have q := fun h => R_te c h; simp only [h_a4_4, zu, ↓reduceIte]; (repeat' split) <;> first | omega | (exact q (by omega))) | exact R_te c hc), by (intro c hc; first | (have q := fun h => R_go c h; simp only [h_a4_4, zu, ↓reduceIte]; (repeat' split) <;> first | omega | (exact q (by omega))) | exact R_go c hc)⟩))
       · first
         | (exfalso; omega)
         | (skip
            refine zk_d3 (s_HM_tell _ _ _ (by omega)) (fun v14_3 v15_3 a16_3 hp_13 => ?_)
            try dsimp only at hp_13
            obtain ⟨hp_13p0, hp_13p1⟩ := hp_13
            refine zk_rI5 ?_
            refine zk_ret ?_
            try dsimp only
            exact ⟨by omega, by omega, by omega, by omega, h_t37, h_t4, by first | omega | (simp only [h_a4_4, zu, ↓reduceIte]; (repeat' split) <;> omega), by first | omega | (simp only [h_a4_4, zu, ↓reduceIte]; (repeat' split) <;> omega), by first | omega | (simp only [h_a4_4, zu, ↓reduceIte]; (repeat' split) <;> omega), by (intro c hc; first | (have q := fun h => R_st c h; simp only [h_a4_4, zu, ↓reduceIte]; (repeat' split) <;> first | omega | (exact q (by omega))) | exact R_st c hc), by (intro c hc; first | (have q := fun h => R_ex c h; simp only [h_a4_4, zu, ↓reduceIte]; (repeat' split) <;> first | omega | (exact q (by omega))) | exact R_ex c hc), by (intro c hc; first | (have q := fun h => R_tr c h; simp only [h_a4_4, zu, ↓reduceIte]; (repeat' split) <;> first | omega | (exact q (by omega))) | exact R_tr c hc), by (intro c hc; first | (have q := fun h => R_pl c h; simp only [h_a4_4, zu, ↓reduceIte]; (repeat' split) <;> first | omega | (exact q (by omega))) | exact R_pl c hc), by (intro c hc; first | (have q := fun h => R_te c h; simp only [h_a4_4, zu, ↓reduceIte]; (repeat' split) <;> first | omega | (exact q (by omega))) | exact R_te c hc), by (intro c hc; first | (have q := fun h => R_go c h; simp only [h_a4_4, zu, ↓reduceIte]; (repeat' split) <;> first | omega | (exact q (by omega))) | exact R_go c hc)⟩))
set_option maxHeartbeats 4000000 in
set_option maxRecDepth 10000 in
theorem st_8 (N : Int) (σ : Nat → Int) (τ : Nat → Nat → Int) (hI : INV N σ τ) (a1 : Int) (b_a1 : (-2147483648) ≤ a1 ∧ a1 ≤ 2147483647) : zok (f_OP_8 N a1 (σ 3) (σ 4) (σ 5) (σ 26) (σ 27) (σ 30) (σ 49) (τ 2) (τ 3) (τ 4) (τ 34) (τ 35) (τ 36) (τ 37) (τ 38) (τ 39)) (fun o => (o.1 = o.2.1) ∧ INV (N + 6) (zst σ [(3, o.2.2.1), (4, o.2.2.2.1), (5, o.2.2.2.2.1), (27, o.2.2.2.2.2.1), (30, o.2.2.2.2.2.2.1)]) (zta τ [(2, o.2.2.2.2.2.2.2.1), (3, o.2.2.2.2.2.2.2.2.1), (4, o.2.2.2.2.2.2.2.2.2.1), (37, o.2.2.2.2.2.2.2.2.2.2)])) := by
  obtain ⟨I_s0, I_s1, I_s3, I_s26, I_s27, I_s28, I_s29, I_s31, I_s32, I_s33, I_s34, I_s35, I_s36, I_s37, I_s38, I_s39, I_s41, I_s42, I_s46, I_s47, I_s48, I_s49, I_s50, I_s51, I_s52, I_s53, I_s54, I_s55, I_s56, I_s57, I_s58, I_s59, I_s60, I_s61, I_s62, I_s63, I_s65, I_s66, I_s68, I_s69, I_s71, I_s72, I_s30, I_t0, I_t1, I_t34, I_t35, I_t36, I_t37, I_t38, I_t39, I_t40, I_t41, I_t42, I_t43, I_t44, I_t46, I_t48, I_t49, I_t50, I_t52, I_t53, I_t54, I_t55, I_t56, I_t57, I_t58, I_t59, I_t60, I_t61, I_t63, I_t64, I_t65, I_t66, I_t67, I_t68, I_t69, I_t70, I_t71, I_t72, I_t73, I_t74, I_t75, I_t76, I_t77, I_t78, I_t79, I_t80, I_t81, I_t82, I_t83, I_t84, I_t85, I_t86, I_t87, I_t88, I_t89, I_t90, I_t91, I_t4, I_s7, I_s25, I_t7, I_t6, I_t16, I_t17, I_t28, I_t30, I_t31, I_t32, I_t18, I_t23, I_im, R_many, R_ch, R_pa, R_st, R_ex, R_tr, R_pl, R_te, R_go, R_tp, R_kp, R_i0, R_i1⟩ := hI
  refine zok_mono (s_OP_8 N a1 (σ 3) (σ 4) (σ 5) (σ 26) (σ 27) (σ 30) (σ 49) (τ 2) (τ 3) (τ 4) (τ 34) (τ 35) (τ 36) (τ 37) (τ 38) (τ 39) b_a1 I_s3 I_s26 I_s27 I_s49 I_t4 I_t34 I_t35 I_t36 I_t37 I_t38 I_t39 I_s30 R_many R_ch R_pa R_st R_ex R_tr R_pl R_te R_go) (fun o ho => ?_)
  obtain ⟨p0, p1, p2, p3, p4, p5, p6, p7, p8, p9, p10, p11, p12, p13, p14⟩ := ho
  exact ⟨p0, ⟨I_s0, I_s1, p1, I_s26, p2, I_s28, I_s29, I_s31, I_s32, I_s33, I_s34, I_s35, I_s36, I_s37, I_s38, I_s39, I_s41, I_s42, I_s46, I_s47, I_s48, I_s49, I_s50, I_s51, I_s52, I_s53, I_s54, I_s55, I_s56, I_s57, I_s58, I_s59, I_s60, I_s61, I_s62, I_s63, I_s65, I_s66, I_s68, I_s69, I_s71, I_s72, p3, I_t0, I_t1, I_t34, I_t35, I_t36, p4, I_t38, I_t39, I_t40, I_t41, I_t42, I_t43, I_t44, I_t46, I_t48, I_t49, I_t50, I_t52, I_t53, I_t54, I_t55, I_t56, I_t57, I_t58, I_t59, I_t60, I_t61, I_t63, I_t64, I_t65, I_t66, I_t67, I_t68, I_t69, I_t70, I_t71, I_t72, I_t73, I_t74, I_t75, I_t76, I_t77, I_t78, I_t79, I_t80, I_t81, I_t82, I_t83, I_t84, I_t85, I_t86, I_t87, I_t88, I_t89, I_t90, I_t91, p5, I_s7, I_s25, I_t7, I_t6, I_t16, I_t17, I_t28, I_t30, I_t31, I_t32, I_t18, I_t23, I_im, p6, p7, p8, p9, p10, p11, p12, p13, p14, R_tp, R_kp, R_i0, R_i1⟩⟩
def f_OP_9 (N : Int) (a1 : Int) (a2 : Int) (s3 : Int) (s4 : Int) (s5 : Int) (s26 : Int) (s27 : Int) (s30 : Int) (s49 : Int) (t2 : Nat → Int) (t3 : Nat → Int) (t4 : Nat → Int) (t34 : Nat → Int) (t35 : Nat → Int) (t36 : Nat → Int) (t37 : Nat → Int) (t38 : Nat → Int) (t39 : Nat → Int) : Option (Int × Int × Int × Int × Int × Int × (Nat → Int) × (Nat → Int) × (Nat → Int) × (Nat → Int)) :=
  zd5 (f_HS_terms a1 a2 s3 s30 t2 t38) fun v134 v135 v136 a137 a138 =>
  zd5 (f_HM_terms a1 a2 s4 s5 t3 t4) fun v143 v144 v145 a146 a147 =>
  some (v134, v143, v135, v144, v145, v136, a137, a146, a147, a138)
set_option maxHeartbeats 4000000 in
theorem s_OP_9 (N : Int) (a1 : Int) (a2 : Int) (s3 : Int) (s4 : Int) (s5 : Int) (s26 : Int) (s27 : Int) (s30 : Int) (s49 : Int) (t2 : Nat → Int) (t3 : Nat → Int) (t4 : Nat → Int) (t34 : Nat → Int) (t35 : Nat → Int) (t36 : Nat → Int) (t37 : Nat → Int) (t38 : Nat → Int) (t39 : Nat → Int) (b_a1 : (-2147483648) ≤ a1 ∧ a1 ≤ 2147483647) (b_a2 : (-2147483648) ≤ a2 ∧ a2 ≤ 2147483647) (b_s3 : (-6) ≤ s3 ∧ s3 ≤ 0) (b_s26 : 0 ≤ s26 ∧ s26 ≤ 6) (b_s27 : 0 ≤ s27 ∧ s27 ≤ 6) (b_s49 : 0 ≤ s49 ∧ s49 ≤ 12) (h_t4 : RI t4) (h_t34 : zR t34 0 60) (h_t35 : zR t35 0 1) (h_t36 : zR t36 0 20) (h_t37 : zR t37 0 11) (h_t38 : zR t38 0 99) (h_t39 : zR t39 (-1) 10) (I_s30 : 0 ≤ s30 ∧ s30 ≤ N) (R_many : s49 = t4 0) (R_ch : s26 = t4 1) (R_pa : s27 = t4 2) (R_st : RV 3 153 s26 t34 t4) (R_ex : RV 3 154 s26 t35 t4) (R_tr : RV 3 155 s26 t36 t4) (R_pl : RV 1 171 s27 t37 t4) (R_te : RV 1 5 4 t38 t4) (R_go : RV 1 141 s49 t39 t4) : zok (f_OP_9 N a1 a2 s3 s4 s5 s26 s27 s30 s49 t2 t3 t4 t34 t35 t36 t37 t38 t39) (fun o => (o.1 = o.2.1) ∧ ((-6) ≤ o.2.2.1 ∧ o.2.2.1 ≤ 0) ∧ (0 ≤ o.2.2.2.2.2.1 ∧ o.2.2.2.2.2.1 ≤ N + 6) ∧ zR o.2.2.2.2.2.2.2.2.2 0 99 ∧ RI o.2.2.2.2.2.2.2.2.1 ∧ (s49 = o.2.2.2.2.2.2.2.2.1 0) ∧ (s26 = o.2.2.2.2.2.2.2.2.1 1) ∧ (s27 = o.2.2.2.2.2.2.2.2.1 2) ∧ (RV 3 153 s26 t34 o.2.2.2.2.2.2.2.2.1) ∧ (RV 3 154 s26 t35 o.2.2.2.2.2.2.2.2.1) ∧ (RV 3 155 s26 t36 o.2.2.2.2.2.2.2.2.1) ∧ (RV 1 171 s27 t37 o.2.2.2.2.2.2.2.2.1) ∧ (RV 1 5 4 o.2.2.2.2.2.2.2.2.2 o.2.2.2.2.2.2.2.2.1) ∧ (RV 1 141 s49 t39 o.2.2.2.2.2.2.2.2.1)) := by
  unfold f_OP_9
  have q_te : (a1 < 0 ∨ 4 ≤ a1) ∨ t38 a1.toNat = t4 (5 + a1).toNat := by
    by_cases h : a1 < 0 ∨ 4 ≤ a1
    · exact Or.inl h
    · exact Or.inr (RV_at R_te (by omega) (by omega) (by omega))
  have q_zk := zk_t a1
  refine zk_dI5 ?_
  unfold f_HS_terms
  refine zk_ifc (zci_ltr (by omega)) (fun hc => ?_) (fun hc => ?_)
  · first
    | (exfalso; omega)
    | (skip
       unfold f_HS_terms_30
       refine zk_dI3 ?_
       unfold f_HS_refuse
       refine zk_nE (fun v1 h_v1 => ?_)
       refine zk_gv (by omega) (by decide) (fun v2 h_v2 => ?_)
       refine zk_n ?_
       refine zk_sv (by omega) (by decide) (fun a4 h_a4 => ?_)
       refine zk_rI3 ?_
       refine zk_rI5 ?_
       refine zk_dI5 ?_
       unfold f_HM_terms
       refine zk_d1 (s_HM_isTerm _ _ (by omega) (by omega)) (fun v1_2 hp => ?_)
       try dsimp only at hp
       have hpp0 := hp
       refine zk_ifc (zci_eqr (by omega)) (fun hc_2 => ?_) (fun hc_2 => ?_)
       · first
         | (exfalso; omega)
         | (skip
            refine zk_d3 (s_HM_tell _ _ _ (by omega)) (fun v2_2 v3_2 a4_2 hp_2 => ?_)
            try dsimp only at hp_2
            obtain ⟨hp_2p0, hp_2p1⟩ := hp_2
            refine zk_rI5 ?_
            refine zk_ret ?_
            try dsimp only
            exact ⟨by omega, by omega, by omega, h_t38, h_t4, by first | omega | (simp only [h_a4, zu, ↓reduceIte]; (repeat' split) <;> omega), by first | omega | (simp only [h_a4, zu, ↓reduceIte]; (repeat' split) <;> omega), by first | omega | (simp only [h_a4, zu, ↓reduceIte]; (repeat' split) <;> omega), by (intro c hc; first | (have q := fun h => R_st c h; simp only [h_a4, zu, ↓reduceIte]; (repeat' split) <;> first | omega | (exact q (by omega))) | exact R_st c hc), by (intro c hc; first | (have q := fun h => R_ex c h; simp only [h_a4, zu, ↓reduceIte]; (repeat' split) <;> first | omega | (exact q (by omega))) | exact R_ex c hc), by (intro c hc; first | (have q := fun h => R_tr c h; simp only [h_a4, zu, ↓reduceIte]; (repeat' split) <;> first | omega | (exact q (by omega))) | exact R_tr c hc), by (intro c hc; first | (have q := fun h => R_pl c h; simp only [h_a4, zu, ↓reduceIte]; (repeat' split) <;> first | omega | (exact q (by omega))) | exact R_pl c hc), by (intro c hc; first | (have q := fun h => R_te c h; simp only [h_a4, zu, ↓reduceIte]; (repeat' split) <;> first | omega | (exact q (by omega))) | exact R_te c hc), by (intro c hc; first | (have q := fun h => R_go c h; simp only [h_a4, zu, ↓reduceIte]; (repeat' split) <;> first | omega | (exact q (by omega))) | exact R_go c hc)⟩)
       · first
         | (exfalso; omega)
         | (skip
            refine zk_n ?_
            refine zk_d3 (s_HM_change _ _ _ _ (by omega)) (fun v6 v7 a8 hp_3 => ?_)
            try dsimp only at hp_3
            obtain ⟨hp_3p0, hp_3p1, hp_3p2⟩ := hp_3
            have i_a8 : RI a8 := by rw [hp_3p2]; exact RIz_t h_t4 (by omega) (by omega)
            refine zk_rI5 ?_
            refine zk_ret ?_
            try dsimp only
            exact ⟨by omega, by omega, by omega, h_t38, i_a8, by first | omega | (simp only [hp_3p2, h_a4, zu, ↓reduceIte]; (repeat' split) <;> omega), by first | omega | (simp only [hp_3p2, h_a4, zu, ↓reduceIte]; (repeat' split) <;> omega), by first | omega | (simp only [hp_3p2, h_a4, zu, ↓reduceIte]; (repeat' split) <;> omega), by (intro c hc; first | (have q := fun h => R_st c h; simp only [hp_3p2, h_a4, zu, ↓reduceIte]; (repeat' split) <;> first | omega | (exact q (by omega))) | exact R_st c hc), by (intro c hc; first | (have q := fun h => R_ex c h; simp only [hp_3p2, h_a4, zu, ↓reduceIte]; (repeat' split) <;> first | omega | (exact q (by omega))) | exact R_ex c hc), by (intro c hc; first | (have q := fun h => R_tr c h; simp only [hp_3p2, h_a4, zu, ↓reduceIte]; (repeat' split) <;> first | omega | (exact q (by omega))) | exact R_tr c hc), by (intro c hc; first | (have q := fun h => R_pl c h; simp only [hp_3p2, h_a4, zu, ↓reduceIte]; (repeat' split) <;> first | omega | (exact q (by omega))) | exact R_pl c hc), by (intro c hc; first | (have q := fun h => R_te c h; simp only [hp_3p2, h_a4, zu, ↓reduceIte]; (repeat' split) <;> first | omega | (exact q (by omega))) | exact R_te c hc), by (intro c hc; first | (have q := fun h => R_go c h; simp only [hp_3p2, h_a4, zu, ↓reduceIte]; (repeat' split) <;> first | omega | (exact q (by omega))) | exact R_go c hc)⟩))
  · first
    | (exfalso; omega)
    | (skip
       refine zk_ifc (zci_le (by omega) (by omega)) (fun hc_3 => ?_) (fun hc_3 => ?_)
       · first
         | (exfalso; omega)
         | (skip
            unfold f_HS_terms_30
            refine zk_dI3 ?_
            unfold f_HS_refuse
            refine zk_nE (fun v1_3 h_v1_3 => ?_)
            refine zk_gv (by omega) (by decide) (fun v2_3 h_v2_3 => ?_)
            refine zk_n ?_
            refine zk_sv (by omega) (by decide) (fun a4_3 h_a4_3 => ?_)
            refine zk_rI3 ?_
            refine zk_rI5 ?_
            refine zk_dI5 ?_
            unfold f_HM_terms
            refine zk_d1 (s_HM_isTerm _ _ (by omega) (by omega)) (fun v1_4 hp_4 => ?_)
            try dsimp only at hp_4
            have hp_4p0 := hp_4
            refine zk_ifc (zci_eqr (by omega)) (fun hc_4 => ?_) (fun hc_4 => ?_)
            · first
              | (exfalso; omega)
              | (skip
                 refine zk_d3 (s_HM_tell _ _ _ (by omega)) (fun v2_4 v3_4 a4_4 hp_5 => ?_)
                 try dsimp only at hp_5
                 obtain ⟨hp_5p0, hp_5p1⟩ := hp_5
                 refine zk_rI5 ?_
                 refine zk_ret ?_
                 try dsimp only
                 exact ⟨by omega, by omega, by omega, h_t38, h_t4, by first | omega | (simp only [h_a4_3, zu, ↓reduceIte]; (repeat' split) <;> omega), by first | omega | (simp only [h_a4_3, zu, ↓reduceIte]; (repeat' split) <;> omega), by first | omega | (simp only [h_a4_3, zu, ↓reduceIte]; (repeat' split) <;> omega), by (intro c hc; first | (have q := fun h => R_st c h; simp only [h_a4_3, zu, ↓reduceIte]; (repeat' split) <;> first | omega | (exact q (by omega))) | exact R_st c hc), by (intro c hc; first | (have q := fun h => R_ex c h; simp only [h_a4_3, zu, ↓reduceIte]; (repeat' split) <;> first | omega | (exact q (by omega))) | exact R_ex c hc), by (intro c hc; first | (have q := fun h => R_tr c h; simp only [h_a4_3, zu, ↓reduceIte]; (repeat' split) <;> first | omega | (exact q (by omega))) | exact R_tr c hc), by (intro c hc; first | (have q := fun h => R_pl c h; simp only [h_a4_3, zu, ↓reduceIte]; (repeat' split) <;> first | omega | (exact q (by omega))) | exact R_pl c hc), by (intro c hc; first | (have q := fun h => R_te c h; simp only [h_a4_3, zu, ↓reduceIte]; (repeat' split) <;> first | omega | (exact q (by omega))) | exact R_te c hc), by (intro c hc; first | (have q := fun h => R_go c h; simp only [h_a4_3, zu, ↓reduceIte]; (repeat' split) <;> first | omega | (exact q (by omega))) | exact R_go c hc)⟩)
            · first
              | (exfalso; omega)
              | (skip
                 refine zk_n ?_
                 refine zk_d3 (s_HM_change _ _ _ _ (by omega)) (fun v6_2 v7_2 a8_2 hp_6 => ?_)
                 try dsimp only at hp_6
                 obtain ⟨hp_6p0, hp_6p1, hp_6p2⟩ := hp_6
                 have i_a8_2 : RI a8_2 := by rw [hp_6p2]; exact RIz_t h_t4 (by omega) (by omega)
                 refine zk_rI5 ?_
                 refine zk_ret ?_
                 try dsimp only
                 exact ⟨by omega, by omega, by omega, h_t38, i_a8_2, by first | omega | (simp only [hp_6p2, h_a4_3, zu, ↓reduceIte]; (repeat' split) <;> omega), by first | omega | (simp only [hp_6p2, h_a4_3, zu, ↓reduceIte]; (repeat' split) <;> omega), by first | omega | (simp only [hp_6p2, h_a4_3, zu, ↓reduceIte]; (repeat' split) <;> omega), by (intro c hc; first | (have q := fun h => R_st c h; simp only [hp_6p2, h_a4_3, zu, ↓reduceIte]; (repeat' split) <;> first | omega | (exact q (by omega))) | exact R_st c hc), by (intro c hc; first | (have q := fun h => R_ex c h; simp only [hp_6p2, h_a4_3, zu, ↓reduceIte]; (repeat' split) <;> first | omega | (exact q (by omega))) | exact R_ex c hc), by (intro c hc; first | (have q := fun h => R_tr c h; simp only [hp_6p2, h_a4_3, zu, ↓reduceIte]; (repeat' split) <;> first | omega | (exact q (by omega))) | exact R_tr c hc), by (intro c hc; first | (have q := fun h => R_pl c h; simp only [hp_6p2, h_a4_3, zu, ↓reduceIte]; (repeat' split) <;> first | omega | (exact q (by omega))) | exact R_pl c hc), by (intro c hc; first | (have q := fun h => R_te c h; simp only [hp_6p2, h_a4_3, zu, ↓reduceIte]; (repeat' split) <;> first | omega | (exact q (by omega))) | exact R_te c hc), by (intro c hc; first | (have q := fun h => R_go c h; simp only [hp_6p2, h_a4_3, zu, ↓reduceIte]; (repeat' split) <;> first | omega | (exact q (by omega))) | exact R_go c hc)⟩))
       · first
         | (exfalso; omega)
         | (skip
            refine zk_gv (by omega) (by decide) (fun v1_5 h_v1_5 => ?_)
            have r_v1_5 := zk_r 0 (a1.toNat)
            refine zk_ifc (zci_lt (by omega) (by omega)) (fun hc_5 => ?_) (fun hc_5 => ?_)
            · first
              | (exfalso; omega)
              | (skip
                 unfold f_HS_terms_30
                 refine zk_dI3 ?_
                 unfold f_HS_refuse
                 refine zk_nE (fun v1_6 h_v1_6 => ?_)
                 refine zk_gv (by omega) (by decide) (fun v2_5 h_v2_5 => ?_)
                 refine zk_n ?_
                 refine zk_sv (by omega) (by decide) (fun a4_5 h_a4_5 => ?_)
                 refine zk_rI3 ?_
                 refine zk_rI5 ?_
                 refine zk_dI5 ?_
                 unfold f_HM_terms
                 refine zk_d1 (s_HM_isTerm _ _ (by omega) (by omega)) (fun v1_7 hp_7 => ?_)
                 try dsimp only at hp_7
                 have hp_7p0 := hp_7
                 refine zk_ifc (zci_eqr (by omega)) (fun hc_6 => ?_) (fun hc_6 => ?_)
                 · first
                   | (exfalso; omega)
                   | (skip
                      refine zk_d3 (s_HM_tell _ _ _ (by omega)) (fun v2_6 v3_6 a4_6 hp_8 => ?_)
                      try dsimp only at hp_8
                      obtain ⟨hp_8p0, hp_8p1⟩ := hp_8
                      refine zk_rI5 ?_
                      refine zk_ret ?_
                      try dsimp only
                      exact ⟨by omega, by omega, by omega, h_t38, h_t4, by first | omega | (simp only [h_a4_5, zu, ↓reduceIte]; (repeat' split) <;> omega), by first | omega | (simp only [h_a4_5, zu, ↓reduceIte]; (repeat' split) <;> omega), by first | omega | (simp only [h_a4_5, zu, ↓reduceIte]; (repeat' split) <;> omega), by (intro c hc; first | (have q := fun h => R_st c h; simp only [h_a4_5, zu, ↓reduceIte]; (repeat' split) <;> first | omega | (exact q (by omega))) | exact R_st c hc), by (intro c hc; first | (have q := fun h => R_ex c h; simp only [h_a4_5, zu, ↓reduceIte]; (repeat' split) <;> first | omega | (exact q (by omega))) | exact R_ex c hc), by (intro c hc; first | (have q := fun h => R_tr c h; simp only [h_a4_5, zu, ↓reduceIte]; (repeat' split) <;> first | omega | (exact q (by omega))) | exact R_tr c hc), by (intro c hc; first | (have q := fun h => R_pl c h; simp only [h_a4_5, zu, ↓reduceIte]; (repeat' split) <;> first | omega | (exact q (by omega))) | exact R_pl c hc), by (intro c hc; first | (have q := fun h => R_te c h; simp only [h_a4_5, zu, ↓reduceIte]; (repeat' split) <;> first | omega | (exact q (by omega))) | exact R_te c hc), by (intro c hc; first | (have q := fun h => R_go c h; simp only [h_a4_5, zu, ↓reduceIte]; (repeat' split) <;> first | omega | (exact q (by omega))) | exact R_go c hc)⟩)
                 · first
                   | (exfalso; omega)
                   | (skip
                      refine zk_n ?_
                      refine zk_d3 (s_HM_change _ _ _ _ (by omega)) (fun v6_3 v7_3 a8_3 hp_9 => ?_)
                      try dsimp only at hp_9
                      obtain ⟨hp_9p0, hp_9p1, hp_9p2⟩ := hp_9
                      have i_a8_3 : RI a8_3 := by rw [hp_9p2]; exact RIz_t h_t4 (by omega) (by omega)
                      refine zk_rI5 ?_
                      refine zk_ret ?_
                      try dsimp only
                      exact ⟨by omega, by omega, by omega, h_t38, i_a8_3, by first | omega | (simp only [hp_9p2, h_a4_5, zu, ↓reduceIte]; (repeat' split) <;> omega), by first | omega | (simp only [hp_9p2, h_a4_5, zu, ↓reduceIte]; (repeat' split) <;> omega), by first | omega | (simp only [hp_9p2, h_a4_5, zu, ↓reduceIte]; (repeat' split) <;> omega), by (intro c hc; first | (have q := fun h => R_st c h; simp only [hp_9p2, h_a4_5, zu, ↓reduceIte]; (repeat' split) <;> first | omega | (exact q (by omega))) | exact R_st c hc), by (intro c hc; first | (have q := fun h => R_ex c h; simp only [hp_9p2, h_a4_5, zu, ↓reduceIte]; (repeat' split) <;> first | omega | (exact q (by omega))) | exact R_ex c hc), by (intro c hc; first | (have q := fun h => R_tr c h; simp only [hp_9p2, h_a4_5, zu, ↓reduceIte]; (repeat' split) <;> first | omega | (exact q (by omega))) | exact R_tr c hc), by (intro c hc; first | (have q := fun h => R_pl c h; simp only [hp_9p2, h_a4_5, zu, ↓reduceIte]; (repeat' split) <;> first | omega | (exact q (by omega))) | exact R_pl c hc), by (intro c hc; first | (have q := fun h => R_te c h; simp only [hp_9p2, h_a4_5, zu, ↓reduceIte]; (repeat' split) <;> first | omega | (exact q (by omega))) | exact R_te c hc), by (intro c hc; first | (have q := fun h => R_go c h; simp only [hp_9p2, h_a4_5, zu, ↓reduceIte]; (repeat' split) <;> first | omega | (exact q (by omega))) | exact R_go c hc)⟩))
            · first
              | (exfalso; omega)
              | (skip
                 refine zk_gv (by omega) (by decide) (fun v2_7 h_v2_7 => ?_)
                 have r_v2_7 := zk_r 1 (a1.toNat)
                 refine zk_ifc (zci_le (by omega) (by omega)) (fun hc_7 => ?_) (fun hc_7 => ?_)
                 · first
                   | (exfalso; omega)
                   | (skip
                      refine zk_gv (by omega) (by decide) (fun v3_7 h_v3_7 => ?_)
                      have r_v3_7 := h_t38 (a1.toNat)
                      refine zk_sv (by omega) (by decide) (fun a4_7 h_a4_7 => ?_)
                      have i_a4_7 : zR a4_7 0 99 := by rw [h_a4_7]; exact zR_zu h_t38 (by decide) (by decide) (by omega)
                      refine zk_dI3 ?_
                      unfold f_HS_accept
                      refine zk_n ?_
                      refine zk_rI3 ?_
                      refine zk_rI5 ?_
                      refine zk_dI5 ?_
                      unfold f_HM_terms
                      refine zk_d1 (s_HM_isTerm _ _ (by omega) (by omega)) (fun v1_9 hp_10 => ?_)
                      try dsimp only at hp_10
                      have hp_10p0 := hp_10
                      refine zk_ifc (zci_eqr (by omega)) (fun hc_8 => ?_) (fun hc_8 => ?_)
                      · first
                        | (exfalso; omega)
                        | (skip
                           refine zk_d3 (s_HM_tell _ _ _ (by omega)) (fun v2_8 v3_8 a4_8 hp_11 => ?_)
                           try dsimp only at hp_11
                           obtain ⟨hp_11p0, hp_11p1⟩ := hp_11
                           refine zk_rI5 ?_
                           refine zk_ret ?_
                           try dsimp only
                           exact ⟨by omega, by omega, by omega, i_a4_7, h_t4, by first | omega | (simp only [h_a4_7, zu, ↓reduceIte]; (repeat' split) <;> omega), by first | omega | (simp only [h_a4_7, zu, ↓reduceIte]; (repeat' split) <;> omega), by first | omega | (simp only [h_a4_7, zu, ↓reduceIte]; (repeat' split) <;> omega), by (intro c hc; first | (have q := fun h => R_st c h; simp only [h_a4_7, zu, ↓reduceIte]; (repeat' split) <;> first | omega | (exact q (by omega))) | exact R_st c hc), by (intro c hc; first | (have q := fun h => R_ex c h; simp only [h_a4_7, zu, ↓reduceIte]; (repeat' split) <;> first | omega | (exact q (by omega))) | exact R_ex c hc), by (intro c hc; first | (have q := fun h => R_tr c h; simp only [h_a4_7, zu, ↓reduceIte]; (repeat' split) <;> first | omega | (exact q (by omega))) | exact R_tr c hc), by (intro c hc; first | (have q := fun h => R_pl c h; simp only [h_a4_7, zu, ↓reduceIte]; (repeat' split) <;> first | omega | (exact q (by omega))) | exact R_pl c hc), by (intro c hc; first | (have q := fun h => R_te c h; simp only [h_a4_7, zu, ↓reduceIte]; (repeat' split) <;> first | omega | (exact q (by omega))) | exact R_te c hc), by (intro c hc; first | (have q := fun h => R_go c h; simp only [h_a4_7, zu, ↓reduceIte]; (repeat' split) <;> first | omega | (exact q (by omega))) | exact R_go c hc)⟩)
                      · first
                        | (exfalso; omega)
                        | (skip
                           refine zk_n ?_
                           refine zk_d3 (s_HM_change _ _ _ _ (by omega)) (fun v6_4 v7_4 a8_4 hp_12 => ?_)
                           try dsimp only at hp_12
                           obtain ⟨hp_12p0, hp_12p1, hp_12p2⟩ := hp_12
                           have i_a8_4 : RI a8_4 := by rw [hp_12p2]; exact RIz_t h_t4 (by omega) (by omega)
                           refine zk_rI5 ?_
                           refine zk_ret ?_
                           try dsimp only
                           exact ⟨by omega, by omega, by omega, i_a4_7, i_a8_4, by first | omega | (simp only [hp_12p2, h_a4_7, zu, ↓reduceIte]; (repeat' split) <;> omega), by first | omega | (simp only [hp_12p2, h_a4_7, zu, ↓reduceIte]; (repeat' split) <;> omega), by first | omega | (simp only [hp_12p2, h_a4_7, zu, ↓reduceIte]; (repeat' split) <;> omega), by (intro c hc; first | (have q := fun h => R_st c h; simp only [hp_12p2, h_a4_7, zu, ↓reduceIte]; (repeat' split) <;> first | omega | (exact q (by omega))) | exact R_st c hc), by (intro c hc; first | (have q := fun h => R_ex c h; simp only [hp_12p2, h_a4_7, zu, ↓reduceIte]; (repeat' split) <;> first | omega | (exact q (by omega))) | exact R_ex c hc), by (intro c hc; first | (have q := fun h => R_tr c h; simp only [hp_12p2, h_a4_7, zu, ↓reduceIte]; (repeat' split) <;> first | omega | (exact q (by omega))) | exact R_tr c hc), by (intro c hc; first | (have q := fun h => R_pl c h; simp only [hp_12p2, h_a4_7, zu, ↓reduceIte]; (repeat' split) <;> first | omega | (exact q (by omega))) | exact R_pl c hc), by (intro c hc; first | (have q := fun h => R_te c h; simp only [hp_12p2, h_a4_7, zu, ↓reduceIte]; (repeat' split) <;> first | omega | (exact q (by omega))) | exact R_te c hc), by (intro c hc; first | (have q := fun h => R_go c h; simp only [hp_12p2, h_a4_7, zu, ↓reduceIte]; (repeat' split) <;> first | omega | (exact q (by omega))) | exact R_go c hc)⟩))
                 · first
                   | (exfalso; omega)
                   | (skip
                      unfold f_HS_terms_30
                      refine zk_dI3 ?_
                      unfold f_HS_refuse
                      refine zk_nE (fun v1_10 h_v1_10 => ?_)
                      refine zk_gv (by omega) (by decide) (fun v2_9 h_v2_9 => ?_)
                      refine zk_n ?_
                      refine zk_sv (by omega) (by decide) (fun a4_9 h_a4_9 => ?_)
                      refine zk_rI3 ?_
                      refine zk_rI5 ?_
                      refine zk_dI5 ?_
                      unfold f_HM_terms
                      refine zk_d1 (s_HM_isTerm _ _ (by omega) (by omega)) (fun v1_11 hp_13 => ?_)
                      try dsimp only at hp_13
                      have hp_13p0 := hp_13
                      refine zk_ifc (zci_eqr (by omega)) (fun hc_9 => ?_) (fun hc_9 => ?_)
                      · first
                        | (exfalso; omega)
                        | (skip
                           refine zk_d3 (s_HM_tell _ _ _ (by omega)) (fun v2_10 v3_10 a4_10 hp_14 => ?_)
                           try dsimp only at hp_14
                           obtain ⟨hp_14p0, hp_14p1⟩ := hp_14
                           refine zk_rI5 ?_
                           refine zk_ret ?_
                           try dsimp only
                           exact ⟨by omega, by omega, by omega, h_t38, h_t4, by first | omega | (simp only [h_a4_9, zu, ↓reduceIte]; (repeat' split) <;> omega), by first | omega | (simp only [h_a4_9, zu, ↓reduceIte]; (repeat' split) <;> omega), by first | omega | (simp only [h_a4_9, zu, ↓reduceIte]; (repeat' split) <;> omega), by (intro c hc; first | (have q := fun h => R_st c h; simp only [h_a4_9, zu, ↓reduceIte]; (repeat' split) <;> first | omega | (exact q (by omega))) | exact R_st c hc), by (intro c hc; first | (have q := fun h => R_ex c h; simp only [h_a4_9, zu, ↓reduceIte]; (repeat' split) <;> first | omega | (exact q (by omega))) | exact R_ex c hc), by (intro c hc; first | (have q := fun h => R_tr c h; simp only [h_a4_9, zu, ↓reduceIte]; (repeat' split) <;> first | omega | (exact q (by omega))) | exact R_tr c hc), by (intro c hc; first | (have q := fun h => R_pl c h; simp only [h_a4_9, zu, ↓reduceIte]; (repeat' split) <;> first | omega | (exact q (by omega))) | exact R_pl c hc), by (intro c hc; first | (have q := fun h => R_te c h; simp only [h_a4_9, zu, ↓reduceIte]; (repeat' split) <;> first | omega | (exact q (by omega))) | exact R_te c hc), by (intro c hc; first | (have q := fun h => R_go c h; simp only [h_a4_9, zu, ↓reduceIte]; (repeat' split) <;> first | omega | (exact q (by omega))) | exact R_go c hc)⟩)
                      · first
                        | (exfalso; omega)
                        | (skip
                           refine zk_n ?_
                           refine zk_d3 (s_HM_change _ _ _ _ (by omega)) (fun v6_5 v7_5 a8_5 hp_15 => ?_)
                           try dsimp only at hp_15
                           obtain ⟨hp_15p0, hp_15p1, hp_15p2⟩ := hp_15
                           have i_a8_5 : RI a8_5 := by rw [hp_15p2]; exact RIz_t h_t4 (by omega) (by omega)
                           refine zk_rI5 ?_
                           refine zk_ret ?_
                           try dsimp only
                           exact ⟨by omega, by omega, by omega, h_t38, i_a8_5, by first | omega | (simp only [hp_15p2, h_a4_9, zu, ↓reduceIte]; (repeat' split) <;> omega), by first | omega | (simp only [hp_15p2, h_a4_9, zu, ↓reduceIte]; (repeat' split) <;> omega), by first | omega | (simp only [hp_15p2, h_a4_9, zu, ↓reduceIte]; (repeat' split) <;> omega), by (intro c hc; first | (have q := fun h => R_st c h; simp only [hp_15p2, h_a4_9, zu, ↓reduceIte]; (repeat' split) <;> first | omega | (exact q (by omega))) | exact R_st c hc), by (intro c hc; first | (have q := fun h => R_ex c h; simp only [hp_15p2, h_a4_9, zu, ↓reduceIte]; (repeat' split) <;> first | omega | (exact q (by omega))) | exact R_ex c hc), by (intro c hc; first | (have q := fun h => R_tr c h; simp only [hp_15p2, h_a4_9, zu, ↓reduceIte]; (repeat' split) <;> first | omega | (exact q (by omega))) | exact R_tr c hc), by (intro c hc; first | (have q := fun h => R_pl c h; simp only [hp_15p2, h_a4_9, zu, ↓reduceIte]; (repeat' split) <;> first | omega | (exact q (by omega))) | exact R_pl c hc), by (intro c hc; first | (have q := fun h => R_te c h; simp only [hp_15p2, h_a4_9, zu, ↓reduceIte]; (repeat' split) <;> first | omega | (exact q (by omega))) | exact R_te c hc), by (intro c hc; first | (have q := fun h => R_go c h; simp only [hp_15p2, h_a4_9, zu, ↓reduceIte]; (repeat' split) <;> first | omega | (exact q (by omega))) | exact R_go c hc)⟩)))))
set_option maxHeartbeats 4000000 in
set_option maxRecDepth 10000 in
theorem st_9 (N : Int) (σ : Nat → Int) (τ : Nat → Nat → Int) (hI : INV N σ τ) (a1 : Int) (a2 : Int) (b_a1 : (-2147483648) ≤ a1 ∧ a1 ≤ 2147483647) (b_a2 : (-2147483648) ≤ a2 ∧ a2 ≤ 2147483647) : zok (f_OP_9 N a1 a2 (σ 3) (σ 4) (σ 5) (σ 26) (σ 27) (σ 30) (σ 49) (τ 2) (τ 3) (τ 4) (τ 34) (τ 35) (τ 36) (τ 37) (τ 38) (τ 39)) (fun o => (o.1 = o.2.1) ∧ INV (N + 6) (zst σ [(3, o.2.2.1), (4, o.2.2.2.1), (5, o.2.2.2.2.1), (30, o.2.2.2.2.2.1)]) (zta τ [(2, o.2.2.2.2.2.2.1), (3, o.2.2.2.2.2.2.2.1), (4, o.2.2.2.2.2.2.2.2.1), (38, o.2.2.2.2.2.2.2.2.2)])) := by
  obtain ⟨I_s0, I_s1, I_s3, I_s26, I_s27, I_s28, I_s29, I_s31, I_s32, I_s33, I_s34, I_s35, I_s36, I_s37, I_s38, I_s39, I_s41, I_s42, I_s46, I_s47, I_s48, I_s49, I_s50, I_s51, I_s52, I_s53, I_s54, I_s55, I_s56, I_s57, I_s58, I_s59, I_s60, I_s61, I_s62, I_s63, I_s65, I_s66, I_s68, I_s69, I_s71, I_s72, I_s30, I_t0, I_t1, I_t34, I_t35, I_t36, I_t37, I_t38, I_t39, I_t40, I_t41, I_t42, I_t43, I_t44, I_t46, I_t48, I_t49, I_t50, I_t52, I_t53, I_t54, I_t55, I_t56, I_t57, I_t58, I_t59, I_t60, I_t61, I_t63, I_t64, I_t65, I_t66, I_t67, I_t68, I_t69, I_t70, I_t71, I_t72, I_t73, I_t74, I_t75, I_t76, I_t77, I_t78, I_t79, I_t80, I_t81, I_t82, I_t83, I_t84, I_t85, I_t86, I_t87, I_t88, I_t89, I_t90, I_t91, I_t4, I_s7, I_s25, I_t7, I_t6, I_t16, I_t17, I_t28, I_t30, I_t31, I_t32, I_t18, I_t23, I_im, R_many, R_ch, R_pa, R_st, R_ex, R_tr, R_pl, R_te, R_go, R_tp, R_kp, R_i0, R_i1⟩ := hI
  refine zok_mono (s_OP_9 N a1 a2 (σ 3) (σ 4) (σ 5) (σ 26) (σ 27) (σ 30) (σ 49) (τ 2) (τ 3) (τ 4) (τ 34) (τ 35) (τ 36) (τ 37) (τ 38) (τ 39) b_a1 b_a2 I_s3 I_s26 I_s27 I_s49 I_t4 I_t34 I_t35 I_t36 I_t37 I_t38 I_t39 I_s30 R_many R_ch R_pa R_st R_ex R_tr R_pl R_te R_go) (fun o ho => ?_)
  obtain ⟨p0, p1, p2, p3, p4, p5, p6, p7, p8, p9, p10, p11, p12, p13⟩ := ho
  exact ⟨p0, ⟨I_s0, I_s1, p1, I_s26, I_s27, I_s28, I_s29, I_s31, I_s32, I_s33, I_s34, I_s35, I_s36, I_s37, I_s38, I_s39, I_s41, I_s42, I_s46, I_s47, I_s48, I_s49, I_s50, I_s51, I_s52, I_s53, I_s54, I_s55, I_s56, I_s57, I_s58, I_s59, I_s60, I_s61, I_s62, I_s63, I_s65, I_s66, I_s68, I_s69, I_s71, I_s72, p2, I_t0, I_t1, I_t34, I_t35, I_t36, I_t37, p3, I_t39, I_t40, I_t41, I_t42, I_t43, I_t44, I_t46, I_t48, I_t49, I_t50, I_t52, I_t53, I_t54, I_t55, I_t56, I_t57, I_t58, I_t59, I_t60, I_t61, I_t63, I_t64, I_t65, I_t66, I_t67, I_t68, I_t69, I_t70, I_t71, I_t72, I_t73, I_t74, I_t75, I_t76, I_t77, I_t78, I_t79, I_t80, I_t81, I_t82, I_t83, I_t84, I_t85, I_t86, I_t87, I_t88, I_t89, I_t90, I_t91, p4, I_s7, I_s25, I_t7, I_t6, I_t16, I_t17, I_t28, I_t30, I_t31, I_t32, I_t18, I_t23, I_im, p5, p6, p7, p8, p9, p10, p11, p12, p13, R_tp, R_kp, R_i0, R_i1⟩⟩
def f_OP_10 (N : Int) (a1 : Int) (a2 : Int) (a3 : Int) (a4 : Int) (a5 : Int) (s0 : Int) (s4 : Int) (s7 : Int) (t1 : Nat → Int) (t7 : Nat → Int) : Option (Int × Int × Int × Int × Int × (Nat → Int) × (Nat → Int)) :=
  zd3 (f_HS_feed a1 a2 a3 a4 a5 s0 t1) fun v158 v159 a160 =>
  zd4 (f_HM_feed a1 a2 a3 a4 a5 s4 s7 t7) fun v171 v172 v173 a174 =>
  some (v158, v171, v159, v172, v173, a160, a174)
set_option maxHeartbeats 4000000 in
theorem s_OP_10 (N : Int) (a1 : Int) (a2 : Int) (a3 : Int) (a4 : Int) (a5 : Int) (s0 : Int) (s4 : Int) (s7 : Int) (t1 : Nat → Int) (t7 : Nat → Int) (b_a1 : (-2147483648) ≤ a1 ∧ a1 ≤ 2147483647) (b_a2 : (-2147483648) ≤ a2 ∧ a2 ≤ 2147483647) (b_a3 : (-2147483648) ≤ a3 ∧ a3 ≤ 2147483647) (b_a4 : (-2147483648) ≤ a4 ∧ a4 ≤ 2147483647) (b_a5 : (-2147483648) ≤ a5 ∧ a5 ≤ 2147483647) (b_s0 : 0 ≤ s0 ∧ s0 ≤ 400) (b_s7 : 0 ≤ s7 ∧ s7 ≤ 400) (h_t1 : zR t1 0 255) (h_t7 : zR t7 0 255) (R_tp : s0 = s7) : zok (f_OP_10 N a1 a2 a3 a4 a5 s0 s4 s7 t1 t7) (fun o => (o.1 = o.2.1) ∧ (0 ≤ o.2.2.1 ∧ o.2.2.1 ≤ 400) ∧ zR o.2.2.2.2.2.1 0 255 ∧ (0 ≤ o.2.2.2.2.1 ∧ o.2.2.2.2.1 ≤ 400) ∧ zR o.2.2.2.2.2.2 0 255 ∧ (o.2.2.1 = o.2.2.2.2.1)) := by
  unfold f_OP_10
  refine zk_dI3 ?_
  unfold f_HS_feed
  refine zk_n ?_
  refine zk_ifc (zci_le (by omega) (by omega)) (fun hc => ?_) (fun hc => ?_)
  · first
    | (exfalso; omega)
    | (skip
       refine zk_d2 (s_HS_feedFour _ _ _ (by omega) (by omega) h_t1 (by omega)) (fun v2 a3_2 hp => ?_)
       try dsimp only at hp
       obtain ⟨hpp0, hpp1, hpp2⟩ := hp
       refine zk_d2 (s_HS_feedFour _ _ _ (by omega) (by omega) hpp1 (by omega)) (fun v4 a5_2 hp_2 => ?_)
       try dsimp only at hp_2
       obtain ⟨hp_2p0, hp_2p1, hp_2p2⟩ := hp_2
       refine zk_d2 (s_HS_feedFour _ _ _ (by omega) (by omega) hp_2p1 (by omega)) (fun v6 a7 hp_3 => ?_)
       try dsimp only at hp_3
       obtain ⟨hp_3p0, hp_3p1, hp_3p2⟩ := hp_3
       refine zk_d2 (s_HS_feedFour _ _ _ (by omega) (by omega) hp_3p1 (by omega)) (fun v8 a9 hp_4 => ?_)
       try dsimp only at hp_4
       obtain ⟨hp_4p0, hp_4p1, hp_4p2⟩ := hp_4
       refine zk_d2 (s_HS_feedFour _ _ _ (by omega) (by omega) hp_4p1 (by omega)) (fun v10 a11 hp_5 => ?_)
       try dsimp only at hp_5
       obtain ⟨hp_5p0, hp_5p1, hp_5p2⟩ := hp_5
       refine zk_rI3 ?_
       refine zk_d4 (s_HM_feed _ _ _ _ _ _ _ _ (by omega) (by omega) (by omega) (by omega) (by omega) (by omega) h_t7) (fun v171 v172 v173 a174 hp_6 => ?_)
       try dsimp only at hp_6
       obtain ⟨hp_6p0, hp_6p1, hp_6p2⟩ := hp_6
       refine zk_ret ?_
       try dsimp only
       exact ⟨by omega, by omega, hp_5p1, by omega, hp_6p1, by first | omega | (simp only [zu_eq, zu, ↓reduceIte]; (repeat' split) <;> omega)⟩)
  · first
    | (exfalso; omega)
    | (skip
       refine zk_rI3 ?_
       refine zk_d4 (s_HM_feed _ _ _ _ _ _ _ _ (by omega) (by omega) (by omega) (by omega) (by omega) (by omega) h_t7) (fun v171_2 v172_2 v173_2 a174_2 hp_7 => ?_)
       try dsimp only at hp_7
       obtain ⟨hp_7p0, hp_7p1, hp_7p2⟩ := hp_7
       refine zk_ret ?_
       try dsimp only
       exact ⟨by omega, by omega, h_t1, by omega, hp_7p1, by first | omega | (simp only [zu_eq, zu, ↓reduceIte]; (repeat' split) <;> omega)⟩)
set_option maxHeartbeats 4000000 in
set_option maxRecDepth 10000 in
theorem st_10 (N : Int) (σ : Nat → Int) (τ : Nat → Nat → Int) (hI : INV N σ τ) (a1 : Int) (a2 : Int) (a3 : Int) (a4 : Int) (a5 : Int) (b_a1 : (-2147483648) ≤ a1 ∧ a1 ≤ 2147483647) (b_a2 : (-2147483648) ≤ a2 ∧ a2 ≤ 2147483647) (b_a3 : (-2147483648) ≤ a3 ∧ a3 ≤ 2147483647) (b_a4 : (-2147483648) ≤ a4 ∧ a4 ≤ 2147483647) (b_a5 : (-2147483648) ≤ a5 ∧ a5 ≤ 2147483647) : zok (f_OP_10 N a1 a2 a3 a4 a5 (σ 0) (σ 4) (σ 7) (τ 1) (τ 7)) (fun o => (o.1 = o.2.1) ∧ INV (N + 6) (zst σ [(0, o.2.2.1), (4, o.2.2.2.1), (7, o.2.2.2.2.1)]) (zta τ [(1, o.2.2.2.2.2.1), (7, o.2.2.2.2.2.2)])) := by
  obtain ⟨I_s0, I_s1, I_s3, I_s26, I_s27, I_s28, I_s29, I_s31, I_s32, I_s33, I_s34, I_s35, I_s36, I_s37, I_s38, I_s39, I_s41, I_s42, I_s46, I_s47, I_s48, I_s49, I_s50, I_s51, I_s52, I_s53, I_s54, I_s55, I_s56, I_s57, I_s58, I_s59, I_s60, I_s61, I_s62, I_s63, I_s65, I_s66, I_s68, I_s69, I_s71, I_s72, I_s30, I_t0, I_t1, I_t34, I_t35, I_t36, I_t37, I_t38, I_t39, I_t40, I_t41, I_t42, I_t43, I_t44, I_t46, I_t48, I_t49, I_t50, I_t52, I_t53, I_t54, I_t55, I_t56, I_t57, I_t58, I_t59, I_t60, I_t61, I_t63, I_t64, I_t65, I_t66, I_t67, I_t68, I_t69, I_t70, I_t71, I_t72, I_t73, I_t74, I_t75, I_t76, I_t77, I_t78, I_t79, I_t80, I_t81, I_t82, I_t83, I_t84, I_t85, I_t86, I_t87, I_t88, I_t89, I_t90, I_t91, I_t4, I_s7, I_s25, I_t7, I_t6, I_t16, I_t17, I_t28, I_t30, I_t31, I_t32, I_t18, I_t23, I_im, R_many, R_ch, R_pa, R_st, R_ex, R_tr, R_pl, R_te, R_go, R_tp, R_kp, R_i0, R_i1⟩ := hI
  refine zok_mono (s_OP_10 N a1 a2 a3 a4 a5 (σ 0) (σ 4) (σ 7) (τ 1) (τ 7) b_a1 b_a2 b_a3 b_a4 b_a5 I_s0 I_s7 I_t1 I_t7 R_tp) (fun o ho => ?_)
  obtain ⟨p0, p1, p2, p3, p4, p5⟩ := ho
  exact ⟨p0, ⟨p1, I_s1, I_s3, I_s26, I_s27, I_s28, I_s29, I_s31, I_s32, I_s33, I_s34, I_s35, I_s36, I_s37, I_s38, I_s39, I_s41, I_s42, I_s46, I_s47, I_s48, I_s49, I_s50, I_s51, I_s52, I_s53, I_s54, I_s55, I_s56, I_s57, I_s58, I_s59, I_s60, I_s61, I_s62, I_s63, I_s65, I_s66, I_s68, I_s69, I_s71, I_s72, ⟨I_s30.1, Int.le_trans I_s30.2 (Int.le_add_of_nonneg_right (by decide))⟩, I_t0, p2, I_t34, I_t35, I_t36, I_t37, I_t38, I_t39, I_t40, I_t41, I_t42, I_t43, I_t44, I_t46, I_t48, I_t49, I_t50, I_t52, I_t53, I_t54, I_t55, I_t56, I_t57, I_t58, I_t59, I_t60, I_t61, I_t63, I_t64, I_t65, I_t66, I_t67, I_t68, I_t69, I_t70, I_t71, I_t72, I_t73, I_t74, I_t75, I_t76, I_t77, I_t78, I_t79, I_t80, I_t81, I_t82, I_t83, I_t84, I_t85, I_t86, I_t87, I_t88, I_t89, I_t90, I_t91, I_t4, p3, I_s25, p4, I_t6, I_t16, I_t17, I_t28, I_t30, I_t31, I_t32, I_t18, I_t23, I_im, R_many, R_ch, R_pa, R_st, R_ex, R_tr, R_pl, R_te, R_go, p5, R_kp, R_i0, R_i1⟩⟩
def f_OP_11 (N : Int) (a1 : Int) (s0 : Int) (s4 : Int) (s7 : Int) : Option (Int × Int × Int × Int × Int) :=
  zd2 (f_HS_end a1 s0) fun v177 v178 =>
  zd3 (f_HM_end a1 s4 s7) fun v181 v182 v183 =>
  some (v177, v181, v178, v182, v183)
set_option maxHeartbeats 4000000 in
theorem s_OP_11 (N : Int) (a1 : Int) (s0 : Int) (s4 : Int) (s7 : Int) (b_a1 : (-2147483648) ≤ a1 ∧ a1 ≤ 2147483647) (b_s0 : 0 ≤ s0 ∧ s0 ≤ 400) (b_s7 : 0 ≤ s7 ∧ s7 ≤ 400) (R_tp : s0 = s7) : zok (f_OP_11 N a1 s0 s4 s7) (fun o => (o.1 = o.2.1) ∧ (0 ≤ o.2.2.1 ∧ o.2.2.1 ≤ 400) ∧ (0 ≤ o.2.2.2.2 ∧ o.2.2.2.2 ≤ 400) ∧ (o.2.2.1 = o.2.2.2.2)) := by
  unfold f_OP_11
  refine zk_dI2 ?_
  unfold f_HS_end
  refine zk_ifc (zci_ltr (by omega)) (fun hc => ?_) (fun hc => ?_)
  · first
    | (exfalso; omega)
    | (skip
       refine zk_rI2 ?_
       refine zk_dI3 ?_
       unfold f_HM_end
       refine zk_ifc (zci_ltr (by omega)) (fun hc_2 => ?_) (fun hc_2 => ?_)
       · first
         | (exfalso; omega)
         | (skip
            refine zk_rI3 ?_
            refine zk_ret ?_
            try dsimp only
            exact ⟨by omega, by omega, by omega, by first | omega | (simp only [zu_eq, zu, ↓reduceIte]; (repeat' split) <;> omega)⟩)
       · first
         | (exfalso; omega)
         | (skip
            refine zk_ifc (zci_le (by omega) (by omega)) (fun hc_3 => ?_) (fun hc_3 => ?_)
            · first
              | (exfalso; omega)
              | (skip
                 refine zk_rI3 ?_
                 refine zk_ret ?_
                 try dsimp only
                 exact ⟨by omega, by omega, by omega, by first | omega | (simp only [zu_eq, zu, ↓reduceIte]; (repeat' split) <;> omega)⟩)
            · first
              | (exfalso; omega)
              | (skip
                 refine zk_rI3 ?_
                 refine zk_ret ?_
                 try dsimp only
                 exact ⟨by omega, by omega, by omega, by first | omega | (simp only [zu_eq, zu, ↓reduceIte]; (repeat' split) <;> omega)⟩)))
  · first
    | (exfalso; omega)
    | (skip
       refine zk_ifc (zci_le (by omega) (by omega)) (fun hc_4 => ?_) (fun hc_4 => ?_)
       · first
         | (exfalso; omega)
         | (skip
            refine zk_rI2 ?_
            refine zk_dI3 ?_
            unfold f_HM_end
            refine zk_ifc (zci_ltr (by omega)) (fun hc_5 => ?_) (fun hc_5 => ?_)
            · first
              | (exfalso; omega)
              | (skip
                 refine zk_rI3 ?_
                 refine zk_ret ?_
                 try dsimp only
                 exact ⟨by omega, by omega, by omega, by first | omega | (simp only [zu_eq, zu, ↓reduceIte]; (repeat' split) <;> omega)⟩)
            · first
              | (exfalso; omega)
              | (skip
                 refine zk_ifc (zci_le (by omega) (by omega)) (fun hc_6 => ?_) (fun hc_6 => ?_)
                 · first
                   | (exfalso; omega)
                   | (skip
                      refine zk_rI3 ?_
                      refine zk_ret ?_
                      try dsimp only
                      exact ⟨by omega, by omega, by omega, by first | omega | (simp only [zu_eq, zu, ↓reduceIte]; (repeat' split) <;> omega)⟩)
                 · first
                   | (exfalso; omega)
                   | (skip
                      refine zk_rI3 ?_
                      refine zk_ret ?_
                      try dsimp only
                      exact ⟨by omega, by omega, by omega, by first | omega | (simp only [zu_eq, zu, ↓reduceIte]; (repeat' split) <;> omega)⟩)))
       · first
         | (exfalso; omega)
         | (skip
            refine zk_rI2 ?_
            refine zk_dI3 ?_
            unfold f_HM_end
            refine zk_ifc (zci_ltr (by omega)) (fun hc_7 => ?_) (fun hc_7 => ?_)
            · first
              | (exfalso; omega)
              | (skip
                 refine zk_rI3 ?_
                 refine zk_ret ?_
                 try dsimp only
                 exact ⟨by omega, by omega, by omega, by first | omega | (simp only [zu_eq, zu, ↓reduceIte]; (repeat' split) <;> omega)⟩)
            · first
              | (exfalso; omega)
              | (skip
                 refine zk_ifc (zci_le (by omega) (by omega)) (fun hc_8 => ?_) (fun hc_8 => ?_)
                 · first
                   | (exfalso; omega)
                   | (skip
                      refine zk_rI3 ?_
                      refine zk_ret ?_
                      try dsimp only
                      exact ⟨by omega, by omega, by omega, by first | omega | (simp only [zu_eq, zu, ↓reduceIte]; (repeat' split) <;> omega)⟩)
                 · first
                   | (exfalso; omega)
                   | (skip
                      refine zk_rI3 ?_
                      refine zk_ret ?_
                      try dsimp only
                      exact ⟨by omega, by omega, by omega, by first | omega | (simp only [zu_eq, zu, ↓reduceIte]; (repeat' split) <;> omega)⟩))))
set_option maxHeartbeats 4000000 in
set_option maxRecDepth 10000 in
theorem st_11 (N : Int) (σ : Nat → Int) (τ : Nat → Nat → Int) (hI : INV N σ τ) (a1 : Int) (b_a1 : (-2147483648) ≤ a1 ∧ a1 ≤ 2147483647) : zok (f_OP_11 N a1 (σ 0) (σ 4) (σ 7)) (fun o => (o.1 = o.2.1) ∧ INV (N + 6) (zst σ [(0, o.2.2.1), (4, o.2.2.2.1), (7, o.2.2.2.2)]) τ) := by
  obtain ⟨I_s0, I_s1, I_s3, I_s26, I_s27, I_s28, I_s29, I_s31, I_s32, I_s33, I_s34, I_s35, I_s36, I_s37, I_s38, I_s39, I_s41, I_s42, I_s46, I_s47, I_s48, I_s49, I_s50, I_s51, I_s52, I_s53, I_s54, I_s55, I_s56, I_s57, I_s58, I_s59, I_s60, I_s61, I_s62, I_s63, I_s65, I_s66, I_s68, I_s69, I_s71, I_s72, I_s30, I_t0, I_t1, I_t34, I_t35, I_t36, I_t37, I_t38, I_t39, I_t40, I_t41, I_t42, I_t43, I_t44, I_t46, I_t48, I_t49, I_t50, I_t52, I_t53, I_t54, I_t55, I_t56, I_t57, I_t58, I_t59, I_t60, I_t61, I_t63, I_t64, I_t65, I_t66, I_t67, I_t68, I_t69, I_t70, I_t71, I_t72, I_t73, I_t74, I_t75, I_t76, I_t77, I_t78, I_t79, I_t80, I_t81, I_t82, I_t83, I_t84, I_t85, I_t86, I_t87, I_t88, I_t89, I_t90, I_t91, I_t4, I_s7, I_s25, I_t7, I_t6, I_t16, I_t17, I_t28, I_t30, I_t31, I_t32, I_t18, I_t23, I_im, R_many, R_ch, R_pa, R_st, R_ex, R_tr, R_pl, R_te, R_go, R_tp, R_kp, R_i0, R_i1⟩ := hI
  refine zok_mono (s_OP_11 N a1 (σ 0) (σ 4) (σ 7) b_a1 I_s0 I_s7 R_tp) (fun o ho => ?_)
  obtain ⟨p0, p1, p2, p3⟩ := ho
  exact ⟨p0, ⟨p1, I_s1, I_s3, I_s26, I_s27, I_s28, I_s29, I_s31, I_s32, I_s33, I_s34, I_s35, I_s36, I_s37, I_s38, I_s39, I_s41, I_s42, I_s46, I_s47, I_s48, I_s49, I_s50, I_s51, I_s52, I_s53, I_s54, I_s55, I_s56, I_s57, I_s58, I_s59, I_s60, I_s61, I_s62, I_s63, I_s65, I_s66, I_s68, I_s69, I_s71, I_s72, ⟨I_s30.1, Int.le_trans I_s30.2 (Int.le_add_of_nonneg_right (by decide))⟩, I_t0, I_t1, I_t34, I_t35, I_t36, I_t37, I_t38, I_t39, I_t40, I_t41, I_t42, I_t43, I_t44, I_t46, I_t48, I_t49, I_t50, I_t52, I_t53, I_t54, I_t55, I_t56, I_t57, I_t58, I_t59, I_t60, I_t61, I_t63, I_t64, I_t65, I_t66, I_t67, I_t68, I_t69, I_t70, I_t71, I_t72, I_t73, I_t74, I_t75, I_t76, I_t77, I_t78, I_t79, I_t80, I_t81, I_t82, I_t83, I_t84, I_t85, I_t86, I_t87, I_t88, I_t89, I_t90, I_t91, I_t4, p2, I_s25, I_t7, I_t6, I_t16, I_t17, I_t28, I_t30, I_t31, I_t32, I_t18, I_t23, I_im, R_many, R_ch, R_pa, R_st, R_ex, R_tr, R_pl, R_te, R_go, p3, R_kp, R_i0, R_i1⟩⟩
