section
noncomputable def f_OP_0 (N : Int) (s3 : Int) (s4 : Int) (s5 : Int) (s26 : Int) (s27 : Int) (s30 : Int) (s49 : Int) (t2 : Nat → Int) (t3 : Nat → Int) (t4 : Nat → Int) (t34 : Nat → Int) (t35 : Nat → Int) (t36 : Nat → Int) (t37 : Nat → Int) (t38 : Nat → Int) (t39 : Nat → Int) (t63 : Nat → Int) : Option (Int × Int × Int × Int × Int × Int × Int × (Nat → Int) × (Nat → Int) × (Nat → Int) × (Nat → Int) × (Nat → Int)) :=
  zd7 (f_HS_column s3 s30 t2 s49 t39 t63) fun v6 v7 v8 a9 v10 a11 a12 =>
  zd5 (f_HM_column s4 s5 t3 t4) fun v13 v14 v15 a16 a17 =>
  some (v6, v13, v7, v14, v15, v8, v10, a9, a16, a17, a11, a12)
set_option maxHeartbeats 4000000 in
theorem s_OP_0 (N : Int) (s3 : Int) (s4 : Int) (s5 : Int) (s26 : Int) (s27 : Int) (s30 : Int) (s49 : Int) (t2 : Nat → Int) (t3 : Nat → Int) (t4 : Nat → Int) (t34 : Nat → Int) (t35 : Nat → Int) (t36 : Nat → Int) (t37 : Nat → Int) (t38 : Nat → Int) (t39 : Nat → Int) (t63 : Nat → Int) (b_s3 : (-6) ≤ s3 ∧ s3 ≤ 0) (b_s26 : 0 ≤ s26 ∧ s26 ≤ 6) (b_s27 : 0 ≤ s27 ∧ s27 ≤ 6) (b_s49 : 0 ≤ s49 ∧ s49 ≤ 12) (h_t4 : RI t4) (h_t34 : zR t34 0 60) (h_t35 : zR t35 0 1) (h_t36 : zR t36 0 20) (h_t37 : zR t37 0 11) (h_t38 : zR t38 0 99) (h_t39 : zR t39 (-1) 10) (h_t63 : zR t63 0 10) (I_s30 : 0 ≤ s30 ∧ s30 ≤ N) (R_many : s49 = t4 0) (R_ch : s26 = t4 1) (R_pa : s27 = t4 2) (R_st : RV 3 153 s26 t34 t4) (R_ex : RV 3 154 s26 t35 t4) (R_tr : RV 3 155 s26 t36 t4) (R_pl : RV 1 171 s27 t37 t4) (R_te : RV 1 5 4 t38 t4) (R_go : RV 1 141 s49 t39 t4) : zok (f_OP_0 N s3 s4 s5 s26 s27 s30 s49 t2 t3 t4 t34 t35 t36 t37 t38 t39 t63) (fun o => (o.1 = o.2.1) ∧ ((-6) ≤ o.2.2.1 ∧ o.2.2.1 ≤ 0) ∧ (0 ≤ o.2.2.2.2.2.2.1 ∧ o.2.2.2.2.2.2.1 ≤ 12) ∧ (0 ≤ o.2.2.2.2.2.1 ∧ o.2.2.2.2.2.1 ≤ N + 6) ∧ zR o.2.2.2.2.2.2.2.2.2.2.1 (-1) 10 ∧ zR o.2.2.2.2.2.2.2.2.2.2.2 0 10 ∧ RI o.2.2.2.2.2.2.2.2.2.1 ∧ (o.2.2.2.2.2.2.1 = o.2.2.2.2.2.2.2.2.2.1 0) ∧ (s26 = o.2.2.2.2.2.2.2.2.2.1 1) ∧ (s27 = o.2.2.2.2.2.2.2.2.2.1 2) ∧ (RV 3 153 s26 t34 o.2.2.2.2.2.2.2.2.2.1) ∧ (RV 3 154 s26 t35 o.2.2.2.2.2.2.2.2.2.1) ∧ (RV 3 155 s26 t36 o.2.2.2.2.2.2.2.2.2.1) ∧ (RV 1 171 s27 t37 o.2.2.2.2.2.2.2.2.2.1) ∧ (RV 1 5 4 t38 o.2.2.2.2.2.2.2.2.2.1) ∧ (RV 1 141 o.2.2.2.2.2.2.1 o.2.2.2.2.2.2.2.2.2.2.1 o.2.2.2.2.2.2.2.2.2.1)) := by
  unfold f_OP_0
  refine zk_dI7 ?_
  unfold f_HS_column
  refine zk_dI3 ?_
  unfold f_Columns_grow
  refine zk_ifc (zci_lt (by omega) (by omega)) (fun hc => ?_) (fun hc => ?_)
  · first
    | (exfalso; omega)
    | (skip
       refine zk_sv (by omega) (by decide) (fun a1 h_a1 => ?_)
       have i_a1 : zR a1 0 10 := by rw [h_a1]; exact zR_zu h_t63 (by decide) (by decide) (by omega)
       refine zk_n ?_
       refine zk_rI3 ?_
       refine zk_ifc (zci_ner (by omega)) (fun hc_2 => ?_) (fun hc_2 => ?_)
       · refine zk_n ?_
         refine zk_sv (by omega) (by decide) (fun a5 h_a5 => ?_)
         have i_a5 : zR a5 (-1) 10 := by rw [h_a5]; exact zR_zu h_t39 (by decide) (by decide) (by omega)
         refine zk_dI3 ?_
         unfold f_HS_accept
         refine zk_n ?_
         refine zk_rI3 ?_
         refine zk_rI7 ?_
         refine zk_dI5 ?_
         unfold f_HM_column
         refine zk_d1 (s_HM_columns _ h_t4) (fun v1_2 hp => ?_)
         try dsimp only at hp
         obtain ⟨hpp0, hpp1⟩ := hp
         refine zk_ifc (zci_ne (by omega) (by omega)) (fun hc_3 => ?_) (fun hc_3 => ?_)
         · first
           | (exfalso; omega)
           | (skip
              refine zk_n ?_
              refine zk_sv (by omega) (by decide) (fun a3 h_a3 => ?_)
              have i_a3 : RI a3 := by rw [h_a3]; exact RIz_h h_t4 (by omega) (by omega)
              refine zk_n ?_
              refine zk_sv (by omega) (by decide) (fun a5_2 h_a5_2 => ?_)
              have i_a5_2 : RI a5_2 := by rw [h_a5_2]; exact RIz_g i_a3 (by omega) (by omega)
              refine zk_gl 0 rfl (by decide) (by decide) (fun v6 h_v6 => ?_)
              have z_v6_a5_2 := zu_rd h_a5_2 (0)
              have z_v6_a3 := zu_rd h_a3 (0)
              have r_v6 := RI_0 i_a5_2
              refine zk_n ?_
              refine zk_sl 0 rfl (by decide) (by decide) (fun a8 h_a8 => ?_)
              have i_a8 : RI a8 := by rw [h_a8]; exact RIz_0 i_a5_2 (by omega)
              refine zk_d3 (s_HM_tell _ _ _ (by omega)) (fun v9 v10 a11 hp_2 => ?_)
              try dsimp only at hp_2
              obtain ⟨hp_2p0, hp_2p1⟩ := hp_2
              refine zk_rI5 ?_
              refine zk_ret ?_
              try dsimp only
              exact ⟨by omega, by omega, by omega, by omega, i_a5, i_a1, i_a8, by first | omega | (simp only [h_a8, h_a5_2, h_a3, h_a5, h_a1, zu, ↓reduceIte]; (repeat' split) <;> omega), by first | omega | (simp only [h_a8, h_a5_2, h_a3, h_a5, h_a1, zu, ↓reduceIte]; (repeat' split) <;> omega), by first | omega | (simp only [h_a8, h_a5_2, h_a3, h_a5, h_a1, zu, ↓reduceIte]; (repeat' split) <;> omega), by (intro c hc; first | (have q := fun h => R_st c h; simp only [h_a8, h_a5_2, h_a3, h_a5, h_a1, zu, ↓reduceIte]; (repeat' split) <;> first | omega | (exact q (by omega))) | exact R_st c hc), by (intro c hc; first | (have q := fun h => R_ex c h; simp only [h_a8, h_a5_2, h_a3, h_a5, h_a1, zu, ↓reduceIte]; (repeat' split) <;> first | omega | (exact q (by omega))) | exact R_ex c hc), by (intro c hc; first | (have q := fun h => R_tr c h; simp only [h_a8, h_a5_2, h_a3, h_a5, h_a1, zu, ↓reduceIte]; (repeat' split) <;> first | omega | (exact q (by omega))) | exact R_tr c hc), by (intro c hc; first | (have q := fun h => R_pl c h; simp only [h_a8, h_a5_2, h_a3, h_a5, h_a1, zu, ↓reduceIte]; (repeat' split) <;> first | omega | (exact q (by omega))) | exact R_pl c hc), by (intro c hc; first | (have q := fun h => R_te c h; simp only [h_a8, h_a5_2, h_a3, h_a5, h_a1, zu, ↓reduceIte]; (repeat' split) <;> first | omega | (exact q (by omega))) | exact R_te c hc), by (intro c hc; first | (have q := fun h => R_go c h; simp only [h_a8, h_a5_2, h_a3, h_a5, h_a1, zu, ↓reduceIte]; (repeat' split) <;> first | omega | (exact q (by omega))) | exact R_go c hc)⟩)
         · first
           | (exfalso; omega)
           | (skip
              refine zk_d3 (s_HM_tell _ _ _ (by omega)) (fun v12 v13 a14 hp_3 => ?_)
              try dsimp only at hp_3
              obtain ⟨hp_3p0, hp_3p1⟩ := hp_3
              refine zk_rI5 ?_
              refine zk_ret ?_
              try dsimp only
              exact ⟨by omega, by omega, by omega, by omega, i_a5, i_a1, h_t4, by first | omega | (simp only [h_a5, h_a1, zu, ↓reduceIte]; (repeat' split) <;> omega), by first | omega | (simp only [h_a5, h_a1, zu, ↓reduceIte]; (repeat' split) <;> omega), by first | omega | (simp only [h_a5, h_a1, zu, ↓reduceIte]; (repeat' split) <;> omega), by (intro c hc; first | (have q := fun h => R_st c h; simp only [h_a5, h_a1, zu, ↓reduceIte]; (repeat' split) <;> first | omega | (exact q (by omega))) | exact R_st c hc), by (intro c hc; first | (have q := fun h => R_ex c h; simp only [h_a5, h_a1, zu, ↓reduceIte]; (repeat' split) <;> first | omega | (exact q (by omega))) | exact R_ex c hc), by (intro c hc; first | (have q := fun h => R_tr c h; simp only [h_a5, h_a1, zu, ↓reduceIte]; (repeat' split) <;> first | omega | (exact q (by omega))) | exact R_tr c hc), by (intro c hc; first | (have q := fun h => R_pl c h; simp only [h_a5, h_a1, zu, ↓reduceIte]; (repeat' split) <;> first | omega | (exact q (by omega))) | exact R_pl c hc), by (intro c hc; first | (have q := fun h => R_te c h; simp only [h_a5, h_a1, zu, ↓reduceIte]; (repeat' split) <;> first | omega | (exact q (by omega))) | exact R_te c hc), by (intro c hc; first | (have q := fun h => R_go c h; simp only [h_a5, h_a1, zu, ↓reduceIte]; (repeat' split) <;> first | omega | (exact q (by omega))) | exact R_go c hc)⟩)
       · exfalso; omega)
  · first
    | (exfalso; omega)
    | (skip
       refine zk_rI3 ?_
       refine zk_ifc (zci_ner (by omega)) (fun hc_4 => ?_) (fun hc_4 => ?_)
       · exfalso; omega
       · refine zk_dI3 ?_
         unfold f_HS_refuse
         refine zk_nE (fun v1_3 h_v1_3 => ?_)
         refine zk_gv (by omega) (by decide) (fun v2_3 h_v2_3 => ?_)
         refine zk_n ?_
         refine zk_sv (by omega) (by decide) (fun a4 h_a4 => ?_)
         refine zk_rI3 ?_
         refine zk_rI7 ?_
         refine zk_dI5 ?_
         unfold f_HM_column
         refine zk_d1 (s_HM_columns _ h_t4) (fun v1_4 hp_4 => ?_)
         try dsimp only at hp_4
         obtain ⟨hp_4p0, hp_4p1⟩ := hp_4
         refine zk_ifc (zci_ne (by omega) (by omega)) (fun hc_5 => ?_) (fun hc_5 => ?_)
         · first
           | (exfalso; omega)
           | (skip
              refine zk_n ?_
              refine zk_sv (by omega) (by decide) (fun a3_2 h_a3_2 => ?_)
              have i_a3_2 : RI a3_2 := by rw [h_a3_2]; exact RIz_h h_t4 (by omega) (by omega)
              refine zk_n ?_
              refine zk_sv (by omega) (by decide) (fun a5_3 h_a5_3 => ?_)
              have i_a5_3 : RI a5_3 := by rw [h_a5_3]; exact RIz_g i_a3_2 (by omega) (by omega)
              refine zk_gl 0 rfl (by decide) (by decide) (fun v6_2 h_v6_2 => ?_)
              have z_v6_2_a5_3 := zu_rd h_a5_3 (0)
              have z_v6_2_a3_2 := zu_rd h_a3_2 (0)
              have r_v6_2 := RI_0 i_a5_3
              refine zk_n ?_
              refine zk_sl 0 rfl (by decide) (by decide) (fun a8_2 h_a8_2 => ?_)
              have i_a8_2 : RI a8_2 := by rw [h_a8_2]; exact RIz_0 i_a5_3 (by omega)
              refine zk_d3 (s_HM_tell _ _ _ (by omega)) (fun v9_2 v10_2 a11_2 hp_5 => ?_)
              try dsimp only at hp_5
              obtain ⟨hp_5p0, hp_5p1⟩ := hp_5
              refine zk_rI5 ?_
              refine zk_ret ?_
              try dsimp only
              exact ⟨by omega, by omega, by omega, by omega, h_t39, h_t63, i_a8_2, by first | omega | (simp only [h_a8_2, h_a5_3, h_a3_2, h_a4, zu, ↓reduceIte]; (repeat' split) <;> omega), by first | omega | (simp only [h_a8_2, h_a5_3, h_a3_2, h_a4, zu, ↓reduceIte]; (repeat' split) <;> omega), by first | omega | (simp only [h_a8_2, h_a5_3, h_a3_2, h_a4, zu, ↓reduceIte]; (repeat' split) <;> omega), by (intro c hc; first | (have q := fun h => R_st c h; simp only [h_a8_2, h_a5_3, h_a3_2, h_a4, zu, ↓reduceIte]; (repeat' split) <;> first | omega | (exact q (by omega))) | exact R_st c hc), by (intro c hc; first | (have q := fun h => R_ex c h; simp only [h_a8_2, h_a5_3, h_a3_2, h_a4, zu, ↓reduceIte]; (repeat' split) <;> first | omega | (exact q (by omega))) | exact R_ex c hc), by (intro c hc; first | (have q := fun h => R_tr c h; simp only [h_a8_2, h_a5_3, h_a3_2, h_a4, zu, ↓reduceIte]; (repeat' split) <;> first | omega | (exact q (by omega))) | exact R_tr c hc), by (intro c hc; first | (have q := fun h => R_pl c h; simp only [h_a8_2, h_a5_3, h_a3_2, h_a4, zu, ↓reduceIte]; (repeat' split) <;> first | omega | (exact q (by omega))) | exact R_pl c hc), by (intro c hc; first | (have q := fun h => R_te c h; simp only [h_a8_2, h_a5_3, h_a3_2, h_a4, zu, ↓reduceIte]; (repeat' split) <;> first | omega | (exact q (by omega))) | exact R_te c hc), by (intro c hc; first | (have q := fun h => R_go c h; simp only [h_a8_2, h_a5_3, h_a3_2, h_a4, zu, ↓reduceIte]; (repeat' split) <;> first | omega | (exact q (by omega))) | exact R_go c hc)⟩)
         · first
           | (exfalso; omega)
           | (skip
              refine zk_d3 (s_HM_tell _ _ _ (by omega)) (fun v12_2 v13_2 a14_2 hp_6 => ?_)
              try dsimp only at hp_6
              obtain ⟨hp_6p0, hp_6p1⟩ := hp_6
              refine zk_rI5 ?_
              refine zk_ret ?_
              try dsimp only
              exact ⟨by omega, by omega, by omega, by omega, h_t39, h_t63, h_t4, by first | omega | (simp only [h_a4, zu, ↓reduceIte]; (repeat' split) <;> omega), by first | omega | (simp only [h_a4, zu, ↓reduceIte]; (repeat' split) <;> omega), by first | omega | (simp only [h_a4, zu, ↓reduceIte]; (repeat' split) <;> omega), by (intro c hc; first | (have q := fun h => R_st c h; simp only [h_a4, zu, ↓reduceIte]; (repeat' split) <;> first | omega | (exact q (by omega))) | exact R_st c hc), by (intro c hc; first | (have q := fun h => R_ex c h; simp only [h_a4, zu, ↓reduceIte]; (repeat' split) <;> first | omega | (exact q (by omega))) | exact R_ex c hc), by (intro c hc; first | (have q := fun h => R_tr c h; simp only [h_a4, zu, ↓reduceIte]; (repeat' split) <;> first | omega | (exact q (by omega))) | exact R_tr c hc), by (intro c hc; first | (have q := fun h => R_pl c h; simp only [h_a4, zu, ↓reduceIte]; (repeat' split) <;> first | omega | (exact q (by omega))) | exact R_pl c hc), by (intro c hc; first | (have q := fun h => R_te c h; simp only [h_a4, zu, ↓reduceIte]; (repeat' split) <;> first | omega | (exact q (by omega))) | exact R_te c hc), by (intro c hc; first | (have q := fun h => R_go c h; simp only [h_a4, zu, ↓reduceIte]; (repeat' split) <;> first | omega | (exact q (by omega))) | exact R_go c hc)⟩))
set_option maxHeartbeats 4000000 in
set_option maxRecDepth 10000 in
theorem st_0 (N : Int) (σ : Nat → Int) (τ : Nat → Nat → Int) (hI : INV N σ τ)   : zok (f_OP_0 N (σ 3) (σ 4) (σ 5) (σ 26) (σ 27) (σ 30) (σ 49) (τ 2) (τ 3) (τ 4) (τ 34) (τ 35) (τ 36) (τ 37) (τ 38) (τ 39) (τ 63)) (fun o => (o.1 = o.2.1) ∧ INV (N + 6) (zst σ [(3, o.2.2.1), (4, o.2.2.2.1), (5, o.2.2.2.2.1), (30, o.2.2.2.2.2.1), (49, o.2.2.2.2.2.2.1)]) (zta τ [(2, o.2.2.2.2.2.2.2.1), (3, o.2.2.2.2.2.2.2.2.1), (4, o.2.2.2.2.2.2.2.2.2.1), (39, o.2.2.2.2.2.2.2.2.2.2.1), (63, o.2.2.2.2.2.2.2.2.2.2.2)])) := by
  have zg1 := hI.2
  have zg2 := zg1.2
  have zg3 := zg2.2
  have zg4 := zg3.2
  have zg5 := zg4.2
  have zg6 := zg5.2
  have zg7 := zg6.2
  have zg8 := zg7.2
  have zg9 := zg8.2
  have zg10 := zg9.2
  have zg11 := zg10.2
  have zg12 := zg11.2
  have zg13 := zg12.2
  have zg14 := zg13.2
  have zg15 := zg14.2
  have zg16 := zg15.2
  have zg17 := zg16.2
  have zg18 := zg17.2
  have zg19 := zg18.2
  have zg20 := zg19.2
  have zg21 := zg20.2
  have zg22 := zg21.2
  have zg23 := zg22.2
  have zg24 := zg23.2
  have zg25 := zg24.2
  have zg26 := zg25.2
  have zg27 := zg26.2
  have zg28 := zg27.2
  have zg29 := zg28.2
  have zg30 := zg29.2
  have zg31 := zg30.2
  have zg32 := zg31.2
  have zg33 := zg32.2
  have zg34 := zg33.2
  have zg35 := zg34.2
  have zg36 := zg35.2
  have zg37 := zg36.2
  have zg38 := zg37.2
  have zg39 := zg38.2
  have zg40 := zg39.2
  have zg41 := zg40.2
  have zg42 := zg41.2
  have zg43 := zg42.2
  have zg44 := zg43.2
  have zg45 := zg44.2
  have zg46 := zg45.2
  have zg47 := zg46.2
  have zg48 := zg47.2
  have zg49 := zg48.2
  have zg50 := zg49.2
  have zg51 := zg50.2
  have zg52 := zg51.2
  have zg53 := zg52.2
  have zg54 := zg53.2
  have zg55 := zg54.2
  have zg56 := zg55.2
  have zg57 := zg56.2
  have zg58 := zg57.2
  have zg59 := zg58.2
  have zg60 := zg59.2
  have zg61 := zg60.2
  have zg62 := zg61.2
  have zg63 := zg62.2
  have zg64 := zg63.2
  have zg65 := zg64.2
  have zg66 := zg65.2
  have zg67 := zg66.2
  have zg68 := zg67.2
  have zg69 := zg68.2
  have zg70 := zg69.2
  have zg71 := zg70.2
  have zg72 := zg71.2
  have zg73 := zg72.2
  have zg74 := zg73.2
  have zg75 := zg74.2
  have zg76 := zg75.2
  have zg77 := zg76.2
  have zg78 := zg77.2
  have zg79 := zg78.2
  have zg80 := zg79.2
  have zg81 := zg80.2
  have zg82 := zg81.2
  have zg83 := zg82.2
  have zg84 := zg83.2
  have zg85 := zg84.2
  have zg86 := zg85.2
  have zg87 := zg86.2
  have zg88 := zg87.2
  have zg89 := zg88.2
  have zg90 := zg89.2
  have zg91 := zg90.2
  have zg92 := zg91.2
  have zg93 := zg92.2
  have zg94 := zg93.2
  have zg95 := zg94.2
  have zg96 := zg95.2
  have zg97 := zg96.2
  have zg98 := zg97.2
  have zg99 := zg98.2
  have zg100 := zg99.2
  have zg101 := zg100.2
  have zg102 := zg101.2
  have zg103 := zg102.2
  have zg104 := zg103.2
  have zg105 := zg104.2
  have zg106 := zg105.2
  have zg107 := zg106.2
  have zg108 := zg107.2
  have zg109 := zg108.2
  have zg110 := zg109.2
  have zg111 := zg110.2
  have zg112 := zg111.2
  have zg113 := zg112.2
  have zg114 := zg113.2
  have zg115 := zg114.2
  have zg116 := zg115.2
  have zg117 := zg116.2
  have zg118 := zg117.2
  have zg119 := zg118.2
  have zg120 := zg119.2
  have zg121 := zg120.2
  have zg122 := zg121.2
  have zg123 := zg122.2
  have zg124 := zg123.2
  have zg125 := zg124.2
  have I_s3 := zg2.1
  have I_s26 := zg3.1
  have I_s27 := zg4.1
  have I_s49 := zg21.1
  have I_t4 := zg99.1
  have I_t34 := zg45.1
  have I_t35 := zg46.1
  have I_t36 := zg47.1
  have I_t37 := zg48.1
  have I_t38 := zg49.1
  have I_t39 := zg50.1
  have I_t63 := zg70.1
  have I_s30 := zg42.1
  have R_many := zg113.1
  have R_ch := zg114.1
  have R_pa := zg115.1
  have R_st := zg116.1
  have R_ex := zg117.1
  have R_tr := zg118.1
  have R_pl := zg119.1
  have R_te := zg120.1
  have R_go := zg121.1
  refine zok_mono (s_OP_0 N (σ 3) (σ 4) (σ 5) (σ 26) (σ 27) (σ 30) (σ 49) (τ 2) (τ 3) (τ 4) (τ 34) (τ 35) (τ 36) (τ 37) (τ 38) (τ 39) (τ 63) I_s3 I_s26 I_s27 I_s49 I_t4 I_t34 I_t35 I_t36 I_t37 I_t38 I_t39 I_t63 I_s30 R_many R_ch R_pa R_st R_ex R_tr R_pl R_te R_go) (fun o ho => ?_)
  obtain ⟨p0, p1, p2, p3, p4, p5, p6, p7, p8, p9, p10, p11, p12, p13, p14, p15⟩ := ho
  exact ⟨p0, ⟨hI.1, zg1.1, p1, zg3.1, zg4.1, zg5.1, zg6.1, zg7.1, zg8.1, zg9.1, zg10.1, zg11.1, zg12.1, zg13.1, zg14.1, zg15.1, zg16.1, zg17.1, zg18.1, zg19.1, zg20.1, p2, zg22.1, zg23.1, zg24.1, zg25.1, zg26.1, zg27.1, zg28.1, zg29.1, zg30.1, zg31.1, zg32.1, zg33.1, zg34.1, zg35.1, zg36.1, zg37.1, zg38.1, zg39.1, zg40.1, zg41.1, p3, zg43.1, zg44.1, zg45.1, zg46.1, zg47.1, zg48.1, zg49.1, p4, zg51.1, zg52.1, zg53.1, zg54.1, zg55.1, zg56.1, zg57.1, zg58.1, zg59.1, zg60.1, zg61.1, zg62.1, zg63.1, zg64.1, zg65.1, zg66.1, zg67.1, zg68.1, zg69.1, p5, zg71.1, zg72.1, zg73.1, zg74.1, zg75.1, zg76.1, zg77.1, zg78.1, zg79.1, zg80.1, zg81.1, zg82.1, zg83.1, zg84.1, zg85.1, zg86.1, zg87.1, zg88.1, zg89.1, zg90.1, zg91.1, zg92.1, zg93.1, zg94.1, zg95.1, zg96.1, zg97.1, zg98.1, p6, zg100.1, zg101.1, zg102.1, zg103.1, zg104.1, zg105.1, zg106.1, zg107.1, zg108.1, zg109.1, zg110.1, zg111.1, zg112.1, p7, p8, p9, p10, p11, p12, p13, p14, p15, zg122.1, zg123.1, zg124.1, zg125⟩⟩
noncomputable def f_OP_1 (N : Int) (a1 : Int) (a2 : Int) (s3 : Int) (s4 : Int) (s5 : Int) (s26 : Int) (s27 : Int) (s30 : Int) (s49 : Int) (t2 : Nat → Int) (t3 : Nat → Int) (t4 : Nat → Int) (t34 : Nat → Int) (t35 : Nat → Int) (t36 : Nat → Int) (t37 : Nat → Int) (t38 : Nat → Int) (t39 : Nat → Int) (t63 : Nat → Int) (t64 : Nat → Int) : Option (Int × Int × Int × Int × Int × Int × (Nat → Int) × (Nat → Int) × (Nat → Int) × (Nat → Int) × (Nat → Int)) :=
  zd6 (f_HS_stone a1 a2 s49 s3 s30 t2 t63 t64) fun v22 v23 v24 a25 a26 a27 =>
  zd5 (f_HM_stone a1 a2 s4 s5 t3 t4) fun v32 v33 v34 a35 a36 =>
  some (v22, v32, v23, v33, v34, v24, a25, a35, a36, a26, a27)
set_option maxHeartbeats 4000000 in
theorem s_OP_1 (N : Int) (a1 : Int) (a2 : Int) (s3 : Int) (s4 : Int) (s5 : Int) (s26 : Int) (s27 : Int) (s30 : Int) (s49 : Int) (t2 : Nat → Int) (t3 : Nat → Int) (t4 : Nat → Int) (t34 : Nat → Int) (t35 : Nat → Int) (t36 : Nat → Int) (t37 : Nat → Int) (t38 : Nat → Int) (t39 : Nat → Int) (t63 : Nat → Int) (t64 : Nat → Int) (b_a1 : (-2147483648) ≤ a1 ∧ a1 ≤ 2147483647) (b_a2 : (-2147483648) ≤ a2 ∧ a2 ≤ 2147483647) (b_s3 : (-6) ≤ s3 ∧ s3 ≤ 0) (b_s26 : 0 ≤ s26 ∧ s26 ≤ 6) (b_s27 : 0 ≤ s27 ∧ s27 ≤ 6) (b_s49 : 0 ≤ s49 ∧ s49 ≤ 12) (h_t4 : RI t4) (h_t34 : zR t34 0 60) (h_t35 : zR t35 0 1) (h_t36 : zR t36 0 20) (h_t37 : zR t37 0 11) (h_t38 : zR t38 0 99) (h_t39 : zR t39 (-1) 10) (h_t63 : zR t63 0 10) (h_t64 : zR t64 0 30) (I_s30 : 0 ≤ s30 ∧ s30 ≤ N) (R_many : s49 = t4 0) (R_ch : s26 = t4 1) (R_pa : s27 = t4 2) (R_st : RV 3 153 s26 t34 t4) (R_ex : RV 3 154 s26 t35 t4) (R_tr : RV 3 155 s26 t36 t4) (R_pl : RV 1 171 s27 t37 t4) (R_te : RV 1 5 4 t38 t4) (R_go : RV 1 141 s49 t39 t4) : zok (f_OP_1 N a1 a2 s3 s4 s5 s26 s27 s30 s49 t2 t3 t4 t34 t35 t36 t37 t38 t39 t63 t64) (fun o => ((-6) ≤ o.2.2.1 ∧ o.2.2.1 ≤ 0) ∧ (0 ≤ o.2.2.2.2.2.1 ∧ o.2.2.2.2.2.1 ≤ N + 6) ∧ zR o.2.2.2.2.2.2.2.2.2.1 0 10 ∧ zR o.2.2.2.2.2.2.2.2.2.2 0 30 ∧ RI o.2.2.2.2.2.2.2.2.1 ∧ (s49 = o.2.2.2.2.2.2.2.2.1 0) ∧ (s26 = o.2.2.2.2.2.2.2.2.1 1) ∧ (s27 = o.2.2.2.2.2.2.2.2.1 2) ∧ (RV 3 153 s26 t34 o.2.2.2.2.2.2.2.2.1) ∧ (RV 3 154 s26 t35 o.2.2.2.2.2.2.2.2.1) ∧ (RV 3 155 s26 t36 o.2.2.2.2.2.2.2.2.1) ∧ (RV 1 171 s27 t37 o.2.2.2.2.2.2.2.2.1) ∧ (RV 1 5 4 t38 o.2.2.2.2.2.2.2.2.1) ∧ (RV 1 141 s49 t39 o.2.2.2.2.2.2.2.2.1)) := by
  unfold f_OP_1
  refine zk_dI6 ?_
  unfold f_HS_stone
  refine zk_ifc (zci_lt (by omega) (by omega)) (fun hc => ?_) (fun hc => ?_)
  · first
    | (exfalso; omega)
    | (skip
       unfold f_HS_stone_11
       refine zk_dI3 ?_
       unfold f_HS_refuse
       refine zk_nE (fun v1 h_v1 => ?_)
       refine zk_gv (by omega) (by decide) (fun v2 h_v2 => ?_)
       refine zk_n ?_
       refine zk_sv (by omega) (by decide) (fun a4 h_a4 => ?_)
       refine zk_rI3 ?_
       refine zk_rI6 ?_
       refine zk_d5 (s_HM_stone _ _ _ _ _ _ (by omega) (by omega) h_t4) (fun v32 v33 v34 a35 a36 hp => ?_)
       try dsimp only at hp
       obtain ⟨hpp0, hpp1⟩ := hp
       refine zk_ret ?_
       try dsimp only
       exact ⟨by omega, by omega, h_t63, h_t64, hpp0, by rw [hpp1 _ (by omega)]; exact R_many, by rw [hpp1 _ (by omega)]; exact R_ch, by rw [hpp1 _ (by omega)]; exact R_pa, by intro c hc; rw [hpp1 _ (by omega)]; exact R_st c hc, by intro c hc; rw [hpp1 _ (by omega)]; exact R_ex c hc, by intro c hc; rw [hpp1 _ (by omega)]; exact R_tr c hc, by intro c hc; rw [hpp1 _ (by omega)]; exact R_pl c hc, by intro c hc; rw [hpp1 _ (by omega)]; exact R_te c hc, by intro c hc; rw [hpp1 _ (by omega)]; exact R_go c hc⟩)
  · first
    | (exfalso; omega)
    | (skip
       refine zk_ifc (zci_le (by omega) (by omega)) (fun hc_2 => ?_) (fun hc_2 => ?_)
       · first
         | (exfalso; omega)
         | (skip
            refine zk_d1 (s_Columns_has _ _ (by omega) (by omega)) (fun v1_2 hp_2 => ?_)
            try dsimp only at hp_2
            obtain ⟨hp_2p0, hp_2p1⟩ := hp_2
            refine zk_ifc (zci_ner (by omega)) (fun hc_3 => ?_) (fun hc_3 => ?_)
            · first
              | (exfalso; omega)
              | (skip
                 refine zk_d3 (s_Columns_put _ _ _ _ _ (by omega) (by omega) (by omega) h_t63 h_t64) (fun v2_2 a3 a4_2 hp_3 => ?_)
                 try dsimp only at hp_3
                 obtain ⟨hp_3p0, hp_3p1, hp_3p2, hp_3p3⟩ := hp_3
                 refine zk_ifc (zci_ner (by omega)) (fun hc_4 => ?_) (fun hc_4 => ?_)
                 · first
                   | (exfalso; omega)
                   | (skip
                      refine zk_d1 (s_Columns_high _ _ _ (by omega) (by omega) hp_3p1) (fun v5 hp_4 => ?_)
                      try dsimp only at hp_4
                      obtain ⟨hp_4p0, hp_4p1⟩ := hp_4
                      refine zk_dI3 ?_
                      unfold f_HS_accept
                      refine zk_n ?_
                      refine zk_rI3 ?_
                      refine zk_rI6 ?_
                      refine zk_d5 (s_HM_stone _ _ _ _ _ _ (by omega) (by omega) h_t4) (fun v32_2 v33_2 v34_2 a35_2 a36_2 hp_5 => ?_)
                      try dsimp only at hp_5
                      obtain ⟨hp_5p0, hp_5p1⟩ := hp_5
                      refine zk_ret ?_
                      try dsimp only
                      exact ⟨by omega, by omega, hp_3p1, hp_3p2, hp_5p0, by rw [hp_5p1 _ (by omega)]; exact R_many, by rw [hp_5p1 _ (by omega)]; exact R_ch, by rw [hp_5p1 _ (by omega)]; exact R_pa, by intro c hc; rw [hp_5p1 _ (by omega)]; exact R_st c hc, by intro c hc; rw [hp_5p1 _ (by omega)]; exact R_ex c hc, by intro c hc; rw [hp_5p1 _ (by omega)]; exact R_tr c hc, by intro c hc; rw [hp_5p1 _ (by omega)]; exact R_pl c hc, by intro c hc; rw [hp_5p1 _ (by omega)]; exact R_te c hc, by intro c hc; rw [hp_5p1 _ (by omega)]; exact R_go c hc⟩)
                 · first
                   | (exfalso; omega)
                   | (skip
                      refine zk_dI3 ?_
                      unfold f_HS_refuse
                      refine zk_nE (fun v1_4 h_v1_4 => ?_)
                      refine zk_gv (by omega) (by decide) (fun v2_3 h_v2_3 => ?_)
                      refine zk_n ?_
                      refine zk_sv (by omega) (by decide) (fun a4_3 h_a4_3 => ?_)
                      refine zk_rI3 ?_
                      refine zk_rI6 ?_
                      refine zk_d5 (s_HM_stone _ _ _ _ _ _ (by omega) (by omega) h_t4) (fun v32_3 v33_3 v34_3 a35_3 a36_3 hp_6 => ?_)
                      try dsimp only at hp_6
                      obtain ⟨hp_6p0, hp_6p1⟩ := hp_6
                      refine zk_ret ?_
                      try dsimp only
                      exact ⟨by omega, by omega, hp_3p1, hp_3p2, hp_6p0, by rw [hp_6p1 _ (by omega)]; exact R_many, by rw [hp_6p1 _ (by omega)]; exact R_ch, by rw [hp_6p1 _ (by omega)]; exact R_pa, by intro c hc; rw [hp_6p1 _ (by omega)]; exact R_st c hc, by intro c hc; rw [hp_6p1 _ (by omega)]; exact R_ex c hc, by intro c hc; rw [hp_6p1 _ (by omega)]; exact R_tr c hc, by intro c hc; rw [hp_6p1 _ (by omega)]; exact R_pl c hc, by intro c hc; rw [hp_6p1 _ (by omega)]; exact R_te c hc, by intro c hc; rw [hp_6p1 _ (by omega)]; exact R_go c hc⟩))
            · first
              | (exfalso; omega)
              | (skip
                 refine zk_dI3 ?_
                 unfold f_HS_refuse
                 refine zk_nE (fun v1_5 h_v1_5 => ?_)
                 refine zk_gv (by omega) (by decide) (fun v2_4 h_v2_4 => ?_)
                 refine zk_n ?_
                 refine zk_sv (by omega) (by decide) (fun a4_4 h_a4_4 => ?_)
                 refine zk_rI3 ?_
                 refine zk_rI6 ?_
                 refine zk_d5 (s_HM_stone _ _ _ _ _ _ (by omega) (by omega) h_t4) (fun v32_4 v33_4 v34_4 a35_4 a36_4 hp_7 => ?_)
                 try dsimp only at hp_7
                 obtain ⟨hp_7p0, hp_7p1⟩ := hp_7
                 refine zk_ret ?_
                 try dsimp only
                 exact ⟨by omega, by omega, h_t63, h_t64, hp_7p0, by rw [hp_7p1 _ (by omega)]; exact R_many, by rw [hp_7p1 _ (by omega)]; exact R_ch, by rw [hp_7p1 _ (by omega)]; exact R_pa, by intro c hc; rw [hp_7p1 _ (by omega)]; exact R_st c hc, by intro c hc; rw [hp_7p1 _ (by omega)]; exact R_ex c hc, by intro c hc; rw [hp_7p1 _ (by omega)]; exact R_tr c hc, by intro c hc; rw [hp_7p1 _ (by omega)]; exact R_pl c hc, by intro c hc; rw [hp_7p1 _ (by omega)]; exact R_te c hc, by intro c hc; rw [hp_7p1 _ (by omega)]; exact R_go c hc⟩))
       · first
         | (exfalso; omega)
         | (skip
            unfold f_HS_stone_11
            refine zk_dI3 ?_
            unfold f_HS_refuse
            refine zk_nE (fun v1_6 h_v1_6 => ?_)
            refine zk_gv (by omega) (by decide) (fun v2_5 h_v2_5 => ?_)
            refine zk_n ?_
            refine zk_sv (by omega) (by decide) (fun a4_5 h_a4_5 => ?_)
            refine zk_rI3 ?_
            refine zk_rI6 ?_
            refine zk_d5 (s_HM_stone _ _ _ _ _ _ (by omega) (by omega) h_t4) (fun v32_5 v33_5 v34_5 a35_5 a36_5 hp_8 => ?_)
            try dsimp only at hp_8
            obtain ⟨hp_8p0, hp_8p1⟩ := hp_8
            refine zk_ret ?_
            try dsimp only
            exact ⟨by omega, by omega, h_t63, h_t64, hp_8p0, by rw [hp_8p1 _ (by omega)]; exact R_many, by rw [hp_8p1 _ (by omega)]; exact R_ch, by rw [hp_8p1 _ (by omega)]; exact R_pa, by intro c hc; rw [hp_8p1 _ (by omega)]; exact R_st c hc, by intro c hc; rw [hp_8p1 _ (by omega)]; exact R_ex c hc, by intro c hc; rw [hp_8p1 _ (by omega)]; exact R_tr c hc, by intro c hc; rw [hp_8p1 _ (by omega)]; exact R_pl c hc, by intro c hc; rw [hp_8p1 _ (by omega)]; exact R_te c hc, by intro c hc; rw [hp_8p1 _ (by omega)]; exact R_go c hc⟩))
set_option maxHeartbeats 4000000 in
set_option maxRecDepth 10000 in
theorem st_1 (N : Int) (σ : Nat → Int) (τ : Nat → Nat → Int) (hI : INV N σ τ) (a1 : Int) (a2 : Int) (b_a1 : (-2147483648) ≤ a1 ∧ a1 ≤ 2147483647) (b_a2 : (-2147483648) ≤ a2 ∧ a2 ≤ 2147483647) : zok (f_OP_1 N a1 a2 (σ 3) (σ 4) (σ 5) (σ 26) (σ 27) (σ 30) (σ 49) (τ 2) (τ 3) (τ 4) (τ 34) (τ 35) (τ 36) (τ 37) (τ 38) (τ 39) (τ 63) (τ 64)) (fun o => (True) ∧ INV (N + 6) (zst σ [(3, o.2.2.1), (4, o.2.2.2.1), (5, o.2.2.2.2.1), (30, o.2.2.2.2.2.1)]) (zta τ [(2, o.2.2.2.2.2.2.1), (3, o.2.2.2.2.2.2.2.1), (4, o.2.2.2.2.2.2.2.2.1), (63, o.2.2.2.2.2.2.2.2.2.1), (64, o.2.2.2.2.2.2.2.2.2.2)])) := by
  have zg1 := hI.2
  have zg2 := zg1.2
  have zg3 := zg2.2
  have zg4 := zg3.2
  have zg5 := zg4.2
  have zg6 := zg5.2
  have zg7 := zg6.2
  have zg8 := zg7.2
  have zg9 := zg8.2
  have zg10 := zg9.2
  have zg11 := zg10.2
  have zg12 := zg11.2
  have zg13 := zg12.2
  have zg14 := zg13.2
  have zg15 := zg14.2
  have zg16 := zg15.2
  have zg17 := zg16.2
  have zg18 := zg17.2
  have zg19 := zg18.2
  have zg20 := zg19.2
  have zg21 := zg20.2
  have zg22 := zg21.2
  have zg23 := zg22.2
  have zg24 := zg23.2
  have zg25 := zg24.2
  have zg26 := zg25.2
  have zg27 := zg26.2
  have zg28 := zg27.2
  have zg29 := zg28.2
  have zg30 := zg29.2
  have zg31 := zg30.2
  have zg32 := zg31.2
  have zg33 := zg32.2
  have zg34 := zg33.2
  have zg35 := zg34.2
  have zg36 := zg35.2
  have zg37 := zg36.2
  have zg38 := zg37.2
  have zg39 := zg38.2
  have zg40 := zg39.2
  have zg41 := zg40.2
  have zg42 := zg41.2
  have zg43 := zg42.2
  have zg44 := zg43.2
  have zg45 := zg44.2
  have zg46 := zg45.2
  have zg47 := zg46.2
  have zg48 := zg47.2
  have zg49 := zg48.2
  have zg50 := zg49.2
  have zg51 := zg50.2
  have zg52 := zg51.2
  have zg53 := zg52.2
  have zg54 := zg53.2
  have zg55 := zg54.2
  have zg56 := zg55.2
  have zg57 := zg56.2
  have zg58 := zg57.2
  have zg59 := zg58.2
  have zg60 := zg59.2
  have zg61 := zg60.2
  have zg62 := zg61.2
  have zg63 := zg62.2
  have zg64 := zg63.2
  have zg65 := zg64.2
  have zg66 := zg65.2
  have zg67 := zg66.2
  have zg68 := zg67.2
  have zg69 := zg68.2
  have zg70 := zg69.2
  have zg71 := zg70.2
  have zg72 := zg71.2
  have zg73 := zg72.2
  have zg74 := zg73.2
  have zg75 := zg74.2
  have zg76 := zg75.2
  have zg77 := zg76.2
  have zg78 := zg77.2
  have zg79 := zg78.2
  have zg80 := zg79.2
  have zg81 := zg80.2
  have zg82 := zg81.2
  have zg83 := zg82.2
  have zg84 := zg83.2
  have zg85 := zg84.2
  have zg86 := zg85.2
  have zg87 := zg86.2
  have zg88 := zg87.2
  have zg89 := zg88.2
  have zg90 := zg89.2
  have zg91 := zg90.2
  have zg92 := zg91.2
  have zg93 := zg92.2
  have zg94 := zg93.2
  have zg95 := zg94.2
  have zg96 := zg95.2
  have zg97 := zg96.2
  have zg98 := zg97.2
  have zg99 := zg98.2
  have zg100 := zg99.2
  have zg101 := zg100.2
  have zg102 := zg101.2
  have zg103 := zg102.2
  have zg104 := zg103.2
  have zg105 := zg104.2
  have zg106 := zg105.2
  have zg107 := zg106.2
  have zg108 := zg107.2
  have zg109 := zg108.2
  have zg110 := zg109.2
  have zg111 := zg110.2
  have zg112 := zg111.2
  have zg113 := zg112.2
  have zg114 := zg113.2
  have zg115 := zg114.2
  have zg116 := zg115.2
  have zg117 := zg116.2
  have zg118 := zg117.2
  have zg119 := zg118.2
  have zg120 := zg119.2
  have zg121 := zg120.2
  have zg122 := zg121.2
  have zg123 := zg122.2
  have zg124 := zg123.2
  have zg125 := zg124.2
  have I_s3 := zg2.1
  have I_s26 := zg3.1
  have I_s27 := zg4.1
  have I_s49 := zg21.1
  have I_t4 := zg99.1
  have I_t34 := zg45.1
  have I_t35 := zg46.1
  have I_t36 := zg47.1
  have I_t37 := zg48.1
  have I_t38 := zg49.1
  have I_t39 := zg50.1
  have I_t63 := zg70.1
  have I_t64 := zg71.1
  have I_s30 := zg42.1
  have R_many := zg113.1
  have R_ch := zg114.1
  have R_pa := zg115.1
  have R_st := zg116.1
  have R_ex := zg117.1
  have R_tr := zg118.1
  have R_pl := zg119.1
  have R_te := zg120.1
  have R_go := zg121.1
  refine zok_mono (s_OP_1 N a1 a2 (σ 3) (σ 4) (σ 5) (σ 26) (σ 27) (σ 30) (σ 49) (τ 2) (τ 3) (τ 4) (τ 34) (τ 35) (τ 36) (τ 37) (τ 38) (τ 39) (τ 63) (τ 64) b_a1 b_a2 I_s3 I_s26 I_s27 I_s49 I_t4 I_t34 I_t35 I_t36 I_t37 I_t38 I_t39 I_t63 I_t64 I_s30 R_many R_ch R_pa R_st R_ex R_tr R_pl R_te R_go) (fun o ho => ?_)
  obtain ⟨p0, p1, p2, p3, p4, p5, p6, p7, p8, p9, p10, p11, p12, p13⟩ := ho
  exact ⟨trivial, ⟨hI.1, zg1.1, p0, zg3.1, zg4.1, zg5.1, zg6.1, zg7.1, zg8.1, zg9.1, zg10.1, zg11.1, zg12.1, zg13.1, zg14.1, zg15.1, zg16.1, zg17.1, zg18.1, zg19.1, zg20.1, zg21.1, zg22.1, zg23.1, zg24.1, zg25.1, zg26.1, zg27.1, zg28.1, zg29.1, zg30.1, zg31.1, zg32.1, zg33.1, zg34.1, zg35.1, zg36.1, zg37.1, zg38.1, zg39.1, zg40.1, zg41.1, p1, zg43.1, zg44.1, zg45.1, zg46.1, zg47.1, zg48.1, zg49.1, zg50.1, zg51.1, zg52.1, zg53.1, zg54.1, zg55.1, zg56.1, zg57.1, zg58.1, zg59.1, zg60.1, zg61.1, zg62.1, zg63.1, zg64.1, zg65.1, zg66.1, zg67.1, zg68.1, zg69.1, p2, p3, zg72.1, zg73.1, zg74.1, zg75.1, zg76.1, zg77.1, zg78.1, zg79.1, zg80.1, zg81.1, zg82.1, zg83.1, zg84.1, zg85.1, zg86.1, zg87.1, zg88.1, zg89.1, zg90.1, zg91.1, zg92.1, zg93.1, zg94.1, zg95.1, zg96.1, zg97.1, zg98.1, p4, zg100.1, zg101.1, zg102.1, zg103.1, zg104.1, zg105.1, zg106.1, zg107.1, zg108.1, zg109.1, zg110.1, zg111.1, zg112.1, p5, p6, p7, p8, p9, p10, p11, p12, p13, zg122.1, zg123.1, zg124.1, zg125⟩⟩
noncomputable def f_OP_2 (N : Int) (a1 : Int) (s3 : Int) (s4 : Int) (s5 : Int) (s26 : Int) (s27 : Int) (s30 : Int) (s49 : Int) (t2 : Nat → Int) (t3 : Nat → Int) (t4 : Nat → Int) (t34 : Nat → Int) (t35 : Nat → Int) (t36 : Nat → Int) (t37 : Nat → Int) (t38 : Nat → Int) (t39 : Nat → Int) (t63 : Nat → Int) (t64 : Nat → Int) : Option (Int × Int × Int × Int × Int × Int × (Nat → Int) × (Nat → Int) × (Nat → Int) × (Nat → Int)) :=
  zd5 (f_HS_lift a1 s49 t64 s3 s30 t2 t63) fun v39 v40 v41 a42 a43 =>
  zd5 (f_HM_lift a1 s4 s5 t3 t4) fun v46 v47 v48 a49 a50 =>
  some (v39, v46, v40, v47, v48, v41, a42, a49, a50, a43)
set_option maxHeartbeats 4000000 in
theorem s_OP_2 (N : Int) (a1 : Int) (s3 : Int) (s4 : Int) (s5 : Int) (s26 : Int) (s27 : Int) (s30 : Int) (s49 : Int) (t2 : Nat → Int) (t3 : Nat → Int) (t4 : Nat → Int) (t34 : Nat → Int) (t35 : Nat → Int) (t36 : Nat → Int) (t37 : Nat → Int) (t38 : Nat → Int) (t39 : Nat → Int) (t63 : Nat → Int) (t64 : Nat → Int) (b_a1 : (-2147483648) ≤ a1 ∧ a1 ≤ 2147483647) (b_s3 : (-6) ≤ s3 ∧ s3 ≤ 0) (b_s26 : 0 ≤ s26 ∧ s26 ≤ 6) (b_s27 : 0 ≤ s27 ∧ s27 ≤ 6) (b_s49 : 0 ≤ s49 ∧ s49 ≤ 12) (h_t4 : RI t4) (h_t34 : zR t34 0 60) (h_t35 : zR t35 0 1) (h_t36 : zR t36 0 20) (h_t37 : zR t37 0 11) (h_t38 : zR t38 0 99) (h_t39 : zR t39 (-1) 10) (h_t63 : zR t63 0 10) (h_t64 : zR t64 0 30) (I_s30 : 0 ≤ s30 ∧ s30 ≤ N) (R_many : s49 = t4 0) (R_ch : s26 = t4 1) (R_pa : s27 = t4 2) (R_st : RV 3 153 s26 t34 t4) (R_ex : RV 3 154 s26 t35 t4) (R_tr : RV 3 155 s26 t36 t4) (R_pl : RV 1 171 s27 t37 t4) (R_te : RV 1 5 4 t38 t4) (R_go : RV 1 141 s49 t39 t4) : zok (f_OP_2 N a1 s3 s4 s5 s26 s27 s30 s49 t2 t3 t4 t34 t35 t36 t37 t38 t39 t63 t64) (fun o => ((-6) ≤ o.2.2.1 ∧ o.2.2.1 ≤ 0) ∧ (0 ≤ o.2.2.2.2.2.1 ∧ o.2.2.2.2.2.1 ≤ N + 6) ∧ zR o.2.2.2.2.2.2.2.2.2 0 10 ∧ RI o.2.2.2.2.2.2.2.2.1 ∧ (s49 = o.2.2.2.2.2.2.2.2.1 0) ∧ (s26 = o.2.2.2.2.2.2.2.2.1 1) ∧ (s27 = o.2.2.2.2.2.2.2.2.1 2) ∧ (RV 3 153 s26 t34 o.2.2.2.2.2.2.2.2.1) ∧ (RV 3 154 s26 t35 o.2.2.2.2.2.2.2.2.1) ∧ (RV 3 155 s26 t36 o.2.2.2.2.2.2.2.2.1) ∧ (RV 1 171 s27 t37 o.2.2.2.2.2.2.2.2.1) ∧ (RV 1 5 4 t38 o.2.2.2.2.2.2.2.2.1) ∧ (RV 1 141 s49 t39 o.2.2.2.2.2.2.2.2.1)) := by
  unfold f_OP_2
  refine zk_dI5 ?_
  unfold f_HS_lift
  refine zk_d1 (s_Columns_has _ _ (by omega) (by omega)) (fun v1 hp => ?_)
  try dsimp only at hp
  obtain ⟨hpp0, hpp1⟩ := hp
  refine zk_ifc (zci_ner (by omega)) (fun hc => ?_) (fun hc => ?_)
  · first
    | (exfalso; omega)
    | (skip
       refine zk_d1 (s_Columns_high _ _ _ (by omega) (by omega) h_t63) (fun v2 hp_2 => ?_)
       try dsimp only at hp_2
       obtain ⟨hp_2p0, hp_2p1⟩ := hp_2
       refine zk_ifc (zci_ner (by omega)) (fun hc_2 => ?_) (fun hc_2 => ?_)
       · first
         | (exfalso; omega)
         | (skip
            refine zk_d2 (s_Columns_take _ _ _ _ (by omega) (by omega) h_t64 h_t63) (fun v3 a4 hp_3 => ?_)
            try dsimp only at hp_3
            obtain ⟨hp_3p0, hp_3p1⟩ := hp_3
            refine zk_dI3 ?_
            unfold f_HS_accept
            refine zk_n ?_
            refine zk_rI3 ?_
            refine zk_rI5 ?_
            refine zk_d5 (s_HM_lift _ _ _ _ _ (by omega) h_t4) (fun v46 v47 v48 a49 a50 hp_4 => ?_)
            try dsimp only at hp_4
            obtain ⟨hp_4p0, hp_4p1⟩ := hp_4
            refine zk_ret ?_
            try dsimp only
            exact ⟨by omega, by omega, hp_3p1, hp_4p0, by rw [hp_4p1 _ (by omega)]; exact R_many, by rw [hp_4p1 _ (by omega)]; exact R_ch, by rw [hp_4p1 _ (by omega)]; exact R_pa, by intro c hc; rw [hp_4p1 _ (by omega)]; exact R_st c hc, by intro c hc; rw [hp_4p1 _ (by omega)]; exact R_ex c hc, by intro c hc; rw [hp_4p1 _ (by omega)]; exact R_tr c hc, by intro c hc; rw [hp_4p1 _ (by omega)]; exact R_pl c hc, by intro c hc; rw [hp_4p1 _ (by omega)]; exact R_te c hc, by intro c hc; rw [hp_4p1 _ (by omega)]; exact R_go c hc⟩)
       · first
         | (exfalso; omega)
         | (skip
            refine zk_dI3 ?_
            unfold f_HS_refuse
            refine zk_nE (fun v1_3 h_v1_3 => ?_)
            refine zk_gv (by omega) (by decide) (fun v2_2 h_v2_2 => ?_)
            refine zk_n ?_
            refine zk_sv (by omega) (by decide) (fun a4_2 h_a4_2 => ?_)
            refine zk_rI3 ?_
            refine zk_rI5 ?_
            refine zk_d5 (s_HM_lift _ _ _ _ _ (by omega) h_t4) (fun v46_2 v47_2 v48_2 a49_2 a50_2 hp_5 => ?_)
            try dsimp only at hp_5
            obtain ⟨hp_5p0, hp_5p1⟩ := hp_5
            refine zk_ret ?_
            try dsimp only
            exact ⟨by omega, by omega, h_t63, hp_5p0, by rw [hp_5p1 _ (by omega)]; exact R_many, by rw [hp_5p1 _ (by omega)]; exact R_ch, by rw [hp_5p1 _ (by omega)]; exact R_pa, by intro c hc; rw [hp_5p1 _ (by omega)]; exact R_st c hc, by intro c hc; rw [hp_5p1 _ (by omega)]; exact R_ex c hc, by intro c hc; rw [hp_5p1 _ (by omega)]; exact R_tr c hc, by intro c hc; rw [hp_5p1 _ (by omega)]; exact R_pl c hc, by intro c hc; rw [hp_5p1 _ (by omega)]; exact R_te c hc, by intro c hc; rw [hp_5p1 _ (by omega)]; exact R_go c hc⟩))
  · first
    | (exfalso; omega)
    | (skip
       refine zk_dI3 ?_
       unfold f_HS_refuse
       refine zk_nE (fun v1_4 h_v1_4 => ?_)
       refine zk_gv (by omega) (by decide) (fun v2_3 h_v2_3 => ?_)
       refine zk_n ?_
       refine zk_sv (by omega) (by decide) (fun a4_3 h_a4_3 => ?_)
       refine zk_rI3 ?_
       refine zk_rI5 ?_
       refine zk_d5 (s_HM_lift _ _ _ _ _ (by omega) h_t4) (fun v46_3 v47_3 v48_3 a49_3 a50_3 hp_6 => ?_)
       try dsimp only at hp_6
       obtain ⟨hp_6p0, hp_6p1⟩ := hp_6
       refine zk_ret ?_
       try dsimp only
       exact ⟨by omega, by omega, h_t63, hp_6p0, by rw [hp_6p1 _ (by omega)]; exact R_many, by rw [hp_6p1 _ (by omega)]; exact R_ch, by rw [hp_6p1 _ (by omega)]; exact R_pa, by intro c hc; rw [hp_6p1 _ (by omega)]; exact R_st c hc, by intro c hc; rw [hp_6p1 _ (by omega)]; exact R_ex c hc, by intro c hc; rw [hp_6p1 _ (by omega)]; exact R_tr c hc, by intro c hc; rw [hp_6p1 _ (by omega)]; exact R_pl c hc, by intro c hc; rw [hp_6p1 _ (by omega)]; exact R_te c hc, by intro c hc; rw [hp_6p1 _ (by omega)]; exact R_go c hc⟩)
set_option maxHeartbeats 4000000 in
set_option maxRecDepth 10000 in
theorem st_2 (N : Int) (σ : Nat → Int) (τ : Nat → Nat → Int) (hI : INV N σ τ) (a1 : Int) (b_a1 : (-2147483648) ≤ a1 ∧ a1 ≤ 2147483647) : zok (f_OP_2 N a1 (σ 3) (σ 4) (σ 5) (σ 26) (σ 27) (σ 30) (σ 49) (τ 2) (τ 3) (τ 4) (τ 34) (τ 35) (τ 36) (τ 37) (τ 38) (τ 39) (τ 63) (τ 64)) (fun o => (True) ∧ INV (N + 6) (zst σ [(3, o.2.2.1), (4, o.2.2.2.1), (5, o.2.2.2.2.1), (30, o.2.2.2.2.2.1)]) (zta τ [(2, o.2.2.2.2.2.2.1), (3, o.2.2.2.2.2.2.2.1), (4, o.2.2.2.2.2.2.2.2.1), (63, o.2.2.2.2.2.2.2.2.2)])) := by
  have zg1 := hI.2
  have zg2 := zg1.2
  have zg3 := zg2.2
  have zg4 := zg3.2
  have zg5 := zg4.2
  have zg6 := zg5.2
  have zg7 := zg6.2
  have zg8 := zg7.2
  have zg9 := zg8.2
  have zg10 := zg9.2
  have zg11 := zg10.2
  have zg12 := zg11.2
  have zg13 := zg12.2
  have zg14 := zg13.2
  have zg15 := zg14.2
  have zg16 := zg15.2
  have zg17 := zg16.2
  have zg18 := zg17.2
  have zg19 := zg18.2
  have zg20 := zg19.2
  have zg21 := zg20.2
  have zg22 := zg21.2
  have zg23 := zg22.2
  have zg24 := zg23.2
  have zg25 := zg24.2
  have zg26 := zg25.2
  have zg27 := zg26.2
  have zg28 := zg27.2
  have zg29 := zg28.2
  have zg30 := zg29.2
  have zg31 := zg30.2
  have zg32 := zg31.2
  have zg33 := zg32.2
  have zg34 := zg33.2
  have zg35 := zg34.2
  have zg36 := zg35.2
  have zg37 := zg36.2
  have zg38 := zg37.2
  have zg39 := zg38.2
  have zg40 := zg39.2
  have zg41 := zg40.2
  have zg42 := zg41.2
  have zg43 := zg42.2
  have zg44 := zg43.2
  have zg45 := zg44.2
  have zg46 := zg45.2
  have zg47 := zg46.2
  have zg48 := zg47.2
  have zg49 := zg48.2
  have zg50 := zg49.2
  have zg51 := zg50.2
  have zg52 := zg51.2
  have zg53 := zg52.2
  have zg54 := zg53.2
  have zg55 := zg54.2
  have zg56 := zg55.2
  have zg57 := zg56.2
  have zg58 := zg57.2
  have zg59 := zg58.2
  have zg60 := zg59.2
  have zg61 := zg60.2
  have zg62 := zg61.2
  have zg63 := zg62.2
  have zg64 := zg63.2
  have zg65 := zg64.2
  have zg66 := zg65.2
  have zg67 := zg66.2
  have zg68 := zg67.2
  have zg69 := zg68.2
  have zg70 := zg69.2
  have zg71 := zg70.2
  have zg72 := zg71.2
  have zg73 := zg72.2
  have zg74 := zg73.2
  have zg75 := zg74.2
  have zg76 := zg75.2
  have zg77 := zg76.2
  have zg78 := zg77.2
  have zg79 := zg78.2
  have zg80 := zg79.2
  have zg81 := zg80.2
  have zg82 := zg81.2
  have zg83 := zg82.2
  have zg84 := zg83.2
  have zg85 := zg84.2
  have zg86 := zg85.2
  have zg87 := zg86.2
  have zg88 := zg87.2
  have zg89 := zg88.2
  have zg90 := zg89.2
  have zg91 := zg90.2
  have zg92 := zg91.2
  have zg93 := zg92.2
  have zg94 := zg93.2
  have zg95 := zg94.2
  have zg96 := zg95.2
  have zg97 := zg96.2
  have zg98 := zg97.2
  have zg99 := zg98.2
  have zg100 := zg99.2
  have zg101 := zg100.2
  have zg102 := zg101.2
  have zg103 := zg102.2
  have zg104 := zg103.2
  have zg105 := zg104.2
  have zg106 := zg105.2
  have zg107 := zg106.2
  have zg108 := zg107.2
  have zg109 := zg108.2
  have zg110 := zg109.2
  have zg111 := zg110.2
  have zg112 := zg111.2
  have zg113 := zg112.2
  have zg114 := zg113.2
  have zg115 := zg114.2
  have zg116 := zg115.2
  have zg117 := zg116.2
  have zg118 := zg117.2
  have zg119 := zg118.2
  have zg120 := zg119.2
  have zg121 := zg120.2
  have zg122 := zg121.2
  have zg123 := zg122.2
  have zg124 := zg123.2
  have zg125 := zg124.2
  have I_s3 := zg2.1
  have I_s26 := zg3.1
  have I_s27 := zg4.1
  have I_s49 := zg21.1
  have I_t4 := zg99.1
  have I_t34 := zg45.1
  have I_t35 := zg46.1
  have I_t36 := zg47.1
  have I_t37 := zg48.1
  have I_t38 := zg49.1
  have I_t39 := zg50.1
  have I_t63 := zg70.1
  have I_t64 := zg71.1
  have I_s30 := zg42.1
  have R_many := zg113.1
  have R_ch := zg114.1
  have R_pa := zg115.1
  have R_st := zg116.1
  have R_ex := zg117.1
  have R_tr := zg118.1
  have R_pl := zg119.1
  have R_te := zg120.1
  have R_go := zg121.1
  refine zok_mono (s_OP_2 N a1 (σ 3) (σ 4) (σ 5) (σ 26) (σ 27) (σ 30) (σ 49) (τ 2) (τ 3) (τ 4) (τ 34) (τ 35) (τ 36) (τ 37) (τ 38) (τ 39) (τ 63) (τ 64) b_a1 I_s3 I_s26 I_s27 I_s49 I_t4 I_t34 I_t35 I_t36 I_t37 I_t38 I_t39 I_t63 I_t64 I_s30 R_many R_ch R_pa R_st R_ex R_tr R_pl R_te R_go) (fun o ho => ?_)
  obtain ⟨p0, p1, p2, p3, p4, p5, p6, p7, p8, p9, p10, p11, p12⟩ := ho
  exact ⟨trivial, ⟨hI.1, zg1.1, p0, zg3.1, zg4.1, zg5.1, zg6.1, zg7.1, zg8.1, zg9.1, zg10.1, zg11.1, zg12.1, zg13.1, zg14.1, zg15.1, zg16.1, zg17.1, zg18.1, zg19.1, zg20.1, zg21.1, zg22.1, zg23.1, zg24.1, zg25.1, zg26.1, zg27.1, zg28.1, zg29.1, zg30.1, zg31.1, zg32.1, zg33.1, zg34.1, zg35.1, zg36.1, zg37.1, zg38.1, zg39.1, zg40.1, zg41.1, p1, zg43.1, zg44.1, zg45.1, zg46.1, zg47.1, zg48.1, zg49.1, zg50.1, zg51.1, zg52.1, zg53.1, zg54.1, zg55.1, zg56.1, zg57.1, zg58.1, zg59.1, zg60.1, zg61.1, zg62.1, zg63.1, zg64.1, zg65.1, zg66.1, zg67.1, zg68.1, zg69.1, p2, zg71.1, zg72.1, zg73.1, zg74.1, zg75.1, zg76.1, zg77.1, zg78.1, zg79.1, zg80.1, zg81.1, zg82.1, zg83.1, zg84.1, zg85.1, zg86.1, zg87.1, zg88.1, zg89.1, zg90.1, zg91.1, zg92.1, zg93.1, zg94.1, zg95.1, zg96.1, zg97.1, zg98.1, p3, zg100.1, zg101.1, zg102.1, zg103.1, zg104.1, zg105.1, zg106.1, zg107.1, zg108.1, zg109.1, zg110.1, zg111.1, zg112.1, p4, p5, p6, p7, p8, p9, p10, p11, p12, zg122.1, zg123.1, zg124.1, zg125⟩⟩
noncomputable def f_OP_3 (N : Int) (a1 : Int) (a2 : Int) (s4 : Int) (s49 : Int) (t4 : Nat → Int) (t63 : Nat → Int) (t64 : Nat → Int) : Option (Int × Int × Int) :=
  zd1 (f_HS_of a1 a2 s49 t63 t64) fun v55 =>
  zd2 (f_HM_of a1 a2 t4 s4) fun v60 v61 =>
  some (v55, v60, v61)
set_option maxHeartbeats 4000000 in
theorem s_OP_3 (N : Int) (a1 : Int) (a2 : Int) (s4 : Int) (s49 : Int) (t4 : Nat → Int) (t63 : Nat → Int) (t64 : Nat → Int) (b_a1 : (-2147483648) ≤ a1 ∧ a1 ≤ 2147483647) (b_a2 : (-2147483648) ≤ a2 ∧ a2 ≤ 2147483647) (b_s49 : 0 ≤ s49 ∧ s49 ≤ 12) (h_t4 : RI t4) (h_t63 : zR t63 0 10) (h_t64 : zR t64 0 30) (R_many : s49 = t4 0) : zok (f_OP_3 N a1 a2 s4 s49 t4 t63 t64) (fun o => True) := by
  unfold f_OP_3
  refine zk_dI1 ?_
  unfold f_HS_of
  refine zk_d1 (s_Columns_has _ _ (by omega) (by omega)) (fun v1 hp => ?_)
  try dsimp only at hp
  obtain ⟨hpp0, hpp1⟩ := hp
  refine zk_ifc (zci_ner (by omega)) (fun hc => ?_) (fun hc => ?_)
  · first
    | (exfalso; omega)
    | (skip
       refine zk_ifc (zci_ne (by omega) (by omega)) (fun hc_2 => ?_) (fun hc_2 => ?_)
       · first
         | (exfalso; omega)
         | (skip
            refine zk_ifc (zci_ltr (by omega)) (fun hc_3 => ?_) (fun hc_3 => ?_)
            · first
              | (exfalso; omega)
              | (skip
                 refine zk_rI1 ?_
                 refine zk_d2 (s_HM_of _ _ _ _ (by omega) (by omega) h_t4) (fun v60 v61 hp_2 => ?_)
                 exact zk_ret trivial)
            · first
              | (exfalso; omega)
              | (skip
                 refine zk_d1 (s_Columns_high _ _ _ (by omega) (by omega) h_t63) (fun v2 hp_3 => ?_)
                 try dsimp only at hp_3
                 obtain ⟨hp_3p0, hp_3p1⟩ := hp_3
                 refine zk_ifc (zci_lt (by omega) (by omega)) (fun hc_4 => ?_) (fun hc_4 => ?_)
                 · first
                   | (exfalso; omega)
                   | (skip
                      refine zk_d1 (s_Columns_heft _ _ _ _ _ (by omega) (by omega) (by omega) h_t63 h_t64) (fun v3 hp_4 => ?_)
                      try dsimp only at hp_4
                      have hp_4p0 := hp_4
                      refine zk_rI1 ?_
                      refine zk_d2 (s_HM_of _ _ _ _ (by omega) (by omega) h_t4) (fun v60_2 v61_2 hp_5 => ?_)
                      exact zk_ret trivial)
                 · first
                   | (exfalso; omega)
                   | (skip
                      refine zk_rI1 ?_
                      refine zk_d2 (s_HM_of _ _ _ _ (by omega) (by omega) h_t4) (fun v60_3 v61_3 hp_6 => ?_)
                      exact zk_ret trivial)))
       · first
         | (exfalso; omega)
         | (skip
            refine zk_d1 (s_Columns_high _ _ _ (by omega) (by omega) h_t63) (fun v4 hp_7 => ?_)
            try dsimp only at hp_7
            obtain ⟨hp_7p0, hp_7p1⟩ := hp_7
            refine zk_rI1 ?_
            refine zk_d2 (s_HM_of _ _ _ _ (by omega) (by omega) h_t4) (fun v60_4 v61_4 hp_8 => ?_)
            exact zk_ret trivial))
  · first
    | (exfalso; omega)
    | (skip
       refine zk_rI1 ?_
       refine zk_d2 (s_HM_of _ _ _ _ (by omega) (by omega) h_t4) (fun v60_5 v61_5 hp_9 => ?_)
       exact zk_ret trivial)
set_option maxHeartbeats 4000000 in
set_option maxRecDepth 10000 in
theorem st_3 (N : Int) (σ : Nat → Int) (τ : Nat → Nat → Int) (hI : INV N σ τ) (a1 : Int) (a2 : Int) (b_a1 : (-2147483648) ≤ a1 ∧ a1 ≤ 2147483647) (b_a2 : (-2147483648) ≤ a2 ∧ a2 ≤ 2147483647) : zok (f_OP_3 N a1 a2 (σ 4) (σ 49) (τ 4) (τ 63) (τ 64)) (fun o => (True) ∧ INV (N + 6) (zst σ [(4, o.2.2)]) τ) := by
  have zg1 := hI.2
  have zg2 := zg1.2
  have zg3 := zg2.2
  have zg4 := zg3.2
  have zg5 := zg4.2
  have zg6 := zg5.2
  have zg7 := zg6.2
  have zg8 := zg7.2
  have zg9 := zg8.2
  have zg10 := zg9.2
  have zg11 := zg10.2
  have zg12 := zg11.2
  have zg13 := zg12.2
  have zg14 := zg13.2
  have zg15 := zg14.2
  have zg16 := zg15.2
  have zg17 := zg16.2
  have zg18 := zg17.2
  have zg19 := zg18.2
  have zg20 := zg19.2
  have zg21 := zg20.2
  have zg22 := zg21.2
  have zg23 := zg22.2
  have zg24 := zg23.2
  have zg25 := zg24.2
  have zg26 := zg25.2
  have zg27 := zg26.2
  have zg28 := zg27.2
  have zg29 := zg28.2
  have zg30 := zg29.2
  have zg31 := zg30.2
  have zg32 := zg31.2
  have zg33 := zg32.2
  have zg34 := zg33.2
  have zg35 := zg34.2
  have zg36 := zg35.2
  have zg37 := zg36.2
  have zg38 := zg37.2
  have zg39 := zg38.2
  have zg40 := zg39.2
  have zg41 := zg40.2
  have zg42 := zg41.2
  have zg43 := zg42.2
  have zg44 := zg43.2
  have zg45 := zg44.2
  have zg46 := zg45.2
  have zg47 := zg46.2
  have zg48 := zg47.2
  have zg49 := zg48.2
  have zg50 := zg49.2
  have zg51 := zg50.2
  have zg52 := zg51.2
  have zg53 := zg52.2
  have zg54 := zg53.2
  have zg55 := zg54.2
  have zg56 := zg55.2
  have zg57 := zg56.2
  have zg58 := zg57.2
  have zg59 := zg58.2
  have zg60 := zg59.2
  have zg61 := zg60.2
  have zg62 := zg61.2
  have zg63 := zg62.2
  have zg64 := zg63.2
  have zg65 := zg64.2
  have zg66 := zg65.2
  have zg67 := zg66.2
  have zg68 := zg67.2
  have zg69 := zg68.2
  have zg70 := zg69.2
  have zg71 := zg70.2
  have zg72 := zg71.2
  have zg73 := zg72.2
  have zg74 := zg73.2
  have zg75 := zg74.2
  have zg76 := zg75.2
  have zg77 := zg76.2
  have zg78 := zg77.2
  have zg79 := zg78.2
  have zg80 := zg79.2
  have zg81 := zg80.2
  have zg82 := zg81.2
  have zg83 := zg82.2
  have zg84 := zg83.2
  have zg85 := zg84.2
  have zg86 := zg85.2
  have zg87 := zg86.2
  have zg88 := zg87.2
  have zg89 := zg88.2
  have zg90 := zg89.2
  have zg91 := zg90.2
  have zg92 := zg91.2
  have zg93 := zg92.2
  have zg94 := zg93.2
  have zg95 := zg94.2
  have zg96 := zg95.2
  have zg97 := zg96.2
  have zg98 := zg97.2
  have zg99 := zg98.2
  have zg100 := zg99.2
  have zg101 := zg100.2
  have zg102 := zg101.2
  have zg103 := zg102.2
  have zg104 := zg103.2
  have zg105 := zg104.2
  have zg106 := zg105.2
  have zg107 := zg106.2
  have zg108 := zg107.2
  have zg109 := zg108.2
  have zg110 := zg109.2
  have zg111 := zg110.2
  have zg112 := zg111.2
  have zg113 := zg112.2
  have zg114 := zg113.2
  have zg115 := zg114.2
  have zg116 := zg115.2
  have zg117 := zg116.2
  have zg118 := zg117.2
  have zg119 := zg118.2
  have zg120 := zg119.2
  have zg121 := zg120.2
  have zg122 := zg121.2
  have zg123 := zg122.2
  have zg124 := zg123.2
  have zg125 := zg124.2
  have I_s49 := zg21.1
  have I_t4 := zg99.1
  have I_t63 := zg70.1
  have I_t64 := zg71.1
  have R_many := zg113.1
  refine zok_mono (s_OP_3 N a1 a2 (σ 4) (σ 49) (τ 4) (τ 63) (τ 64) b_a1 b_a2 I_s49 I_t4 I_t63 I_t64 R_many) (fun o ho => ?_)
  skip
  exact ⟨trivial, ⟨hI.1, zg1.1, zg2.1, zg3.1, zg4.1, zg5.1, zg6.1, zg7.1, zg8.1, zg9.1, zg10.1, zg11.1, zg12.1, zg13.1, zg14.1, zg15.1, zg16.1, zg17.1, zg18.1, zg19.1, zg20.1, zg21.1, zg22.1, zg23.1, zg24.1, zg25.1, zg26.1, zg27.1, zg28.1, zg29.1, zg30.1, zg31.1, zg32.1, zg33.1, zg34.1, zg35.1, zg36.1, zg37.1, zg38.1, zg39.1, zg40.1, zg41.1, ⟨zg42.1.1, Int.le_trans zg42.1.2 (Int.le_add_of_nonneg_right (by decide))⟩, zg43.1, zg44.1, zg45.1, zg46.1, zg47.1, zg48.1, zg49.1, zg50.1, zg51.1, zg52.1, zg53.1, zg54.1, zg55.1, zg56.1, zg57.1, zg58.1, zg59.1, zg60.1, zg61.1, zg62.1, zg63.1, zg64.1, zg65.1, zg66.1, zg67.1, zg68.1, zg69.1, zg70.1, zg71.1, zg72.1, zg73.1, zg74.1, zg75.1, zg76.1, zg77.1, zg78.1, zg79.1, zg80.1, zg81.1, zg82.1, zg83.1, zg84.1, zg85.1, zg86.1, zg87.1, zg88.1, zg89.1, zg90.1, zg91.1, zg92.1, zg93.1, zg94.1, zg95.1, zg96.1, zg97.1, zg98.1, zg99.1, zg100.1, zg101.1, zg102.1, zg103.1, zg104.1, zg105.1, zg106.1, zg107.1, zg108.1, zg109.1, zg110.1, zg111.1, zg112.1, zg113.1, zg114.1, zg115.1, zg116.1, zg117.1, zg118.1, zg119.1, zg120.1, zg121.1, zg122.1, zg123.1, zg124.1, zg125⟩⟩
end
section
noncomputable def f_OP_4 (N : Int) (a1 : Int) (s4 : Int) (s49 : Int) (t4 : Nat → Int) (t63 : Nat → Int) (t64 : Nat → Int) : Option (Int × Int × Int) :=
  zd1 (f_HS_weight a1 s49 t63 t64) fun v64 =>
  zd2 (f_HM_weight a1 t4 s4) fun v67 v68 =>
  some (v64, v67, v68)
set_option maxHeartbeats 4000000 in
theorem s_OP_4 (N : Int) (a1 : Int) (s4 : Int) (s49 : Int) (t4 : Nat → Int) (t63 : Nat → Int) (t64 : Nat → Int) (b_a1 : (-2147483648) ≤ a1 ∧ a1 ≤ 2147483647) (b_s49 : 0 ≤ s49 ∧ s49 ≤ 12) (h_t4 : RI t4) (h_t63 : zR t63 0 10) (h_t64 : zR t64 0 30) (R_many : s49 = t4 0) : zok (f_OP_4 N a1 s4 s49 t4 t63 t64) (fun o => True) := by
  unfold f_OP_4
  refine zk_dI1 ?_
  unfold f_HS_weight
  refine zk_d1 (s_Columns_has _ _ (by omega) (by omega)) (fun v1 hp => ?_)
  try dsimp only at hp
  obtain ⟨hpp0, hpp1⟩ := hp
  refine zk_ifc (zci_eqr (by omega)) (fun hc => ?_) (fun hc => ?_)
  · first
    | (exfalso; omega)
    | (skip
       refine zk_rI1 ?_
       refine zk_d2 (s_HM_weight _ _ _ (by omega) h_t4) (fun v67 v68 hp_2 => ?_)
       exact zk_ret trivial)
  · first
    | (exfalso; omega)
    | (skip
       refine zk_d1 (s_Columns_load _ _ _ _ (by omega) (by omega) h_t63 h_t64) (fun v2 hp_3 => ?_)
       refine zk_rI1 ?_
       refine zk_d2 (s_HM_weight _ _ _ (by omega) h_t4) (fun v67_2 v68_2 hp_4 => ?_)
       exact zk_ret trivial)
set_option maxHeartbeats 4000000 in
set_option maxRecDepth 10000 in
theorem st_4 (N : Int) (σ : Nat → Int) (τ : Nat → Nat → Int) (hI : INV N σ τ) (a1 : Int) (b_a1 : (-2147483648) ≤ a1 ∧ a1 ≤ 2147483647) : zok (f_OP_4 N a1 (σ 4) (σ 49) (τ 4) (τ 63) (τ 64)) (fun o => (True) ∧ INV (N + 6) (zst σ [(4, o.2.2)]) τ) := by
  have zg1 := hI.2
  have zg2 := zg1.2
  have zg3 := zg2.2
  have zg4 := zg3.2
  have zg5 := zg4.2
  have zg6 := zg5.2
  have zg7 := zg6.2
  have zg8 := zg7.2
  have zg9 := zg8.2
  have zg10 := zg9.2
  have zg11 := zg10.2
  have zg12 := zg11.2
  have zg13 := zg12.2
  have zg14 := zg13.2
  have zg15 := zg14.2
  have zg16 := zg15.2
  have zg17 := zg16.2
  have zg18 := zg17.2
  have zg19 := zg18.2
  have zg20 := zg19.2
  have zg21 := zg20.2
  have zg22 := zg21.2
  have zg23 := zg22.2
  have zg24 := zg23.2
  have zg25 := zg24.2
  have zg26 := zg25.2
  have zg27 := zg26.2
  have zg28 := zg27.2
  have zg29 := zg28.2
  have zg30 := zg29.2
  have zg31 := zg30.2
  have zg32 := zg31.2
  have zg33 := zg32.2
  have zg34 := zg33.2
  have zg35 := zg34.2
  have zg36 := zg35.2
  have zg37 := zg36.2
  have zg38 := zg37.2
  have zg39 := zg38.2
  have zg40 := zg39.2
  have zg41 := zg40.2
  have zg42 := zg41.2
  have zg43 := zg42.2
  have zg44 := zg43.2
  have zg45 := zg44.2
  have zg46 := zg45.2
  have zg47 := zg46.2
  have zg48 := zg47.2
  have zg49 := zg48.2
  have zg50 := zg49.2
  have zg51 := zg50.2
  have zg52 := zg51.2
  have zg53 := zg52.2
  have zg54 := zg53.2
  have zg55 := zg54.2
  have zg56 := zg55.2
  have zg57 := zg56.2
  have zg58 := zg57.2
  have zg59 := zg58.2
  have zg60 := zg59.2
  have zg61 := zg60.2
  have zg62 := zg61.2
  have zg63 := zg62.2
  have zg64 := zg63.2
  have zg65 := zg64.2
  have zg66 := zg65.2
  have zg67 := zg66.2
  have zg68 := zg67.2
  have zg69 := zg68.2
  have zg70 := zg69.2
  have zg71 := zg70.2
  have zg72 := zg71.2
  have zg73 := zg72.2
  have zg74 := zg73.2
  have zg75 := zg74.2
  have zg76 := zg75.2
  have zg77 := zg76.2
  have zg78 := zg77.2
  have zg79 := zg78.2
  have zg80 := zg79.2
  have zg81 := zg80.2
  have zg82 := zg81.2
  have zg83 := zg82.2
  have zg84 := zg83.2
  have zg85 := zg84.2
  have zg86 := zg85.2
  have zg87 := zg86.2
  have zg88 := zg87.2
  have zg89 := zg88.2
  have zg90 := zg89.2
  have zg91 := zg90.2
  have zg92 := zg91.2
  have zg93 := zg92.2
  have zg94 := zg93.2
  have zg95 := zg94.2
  have zg96 := zg95.2
  have zg97 := zg96.2
  have zg98 := zg97.2
  have zg99 := zg98.2
  have zg100 := zg99.2
  have zg101 := zg100.2
  have zg102 := zg101.2
  have zg103 := zg102.2
  have zg104 := zg103.2
  have zg105 := zg104.2
  have zg106 := zg105.2
  have zg107 := zg106.2
  have zg108 := zg107.2
  have zg109 := zg108.2
  have zg110 := zg109.2
  have zg111 := zg110.2
  have zg112 := zg111.2
  have zg113 := zg112.2
  have zg114 := zg113.2
  have zg115 := zg114.2
  have zg116 := zg115.2
  have zg117 := zg116.2
  have zg118 := zg117.2
  have zg119 := zg118.2
  have zg120 := zg119.2
  have zg121 := zg120.2
  have zg122 := zg121.2
  have zg123 := zg122.2
  have zg124 := zg123.2
  have zg125 := zg124.2
  have I_s49 := zg21.1
  have I_t4 := zg99.1
  have I_t63 := zg70.1
  have I_t64 := zg71.1
  have R_many := zg113.1
  refine zok_mono (s_OP_4 N a1 (σ 4) (σ 49) (τ 4) (τ 63) (τ 64) b_a1 I_s49 I_t4 I_t63 I_t64 R_many) (fun o ho => ?_)
  skip
  exact ⟨trivial, ⟨hI.1, zg1.1, zg2.1, zg3.1, zg4.1, zg5.1, zg6.1, zg7.1, zg8.1, zg9.1, zg10.1, zg11.1, zg12.1, zg13.1, zg14.1, zg15.1, zg16.1, zg17.1, zg18.1, zg19.1, zg20.1, zg21.1, zg22.1, zg23.1, zg24.1, zg25.1, zg26.1, zg27.1, zg28.1, zg29.1, zg30.1, zg31.1, zg32.1, zg33.1, zg34.1, zg35.1, zg36.1, zg37.1, zg38.1, zg39.1, zg40.1, zg41.1, ⟨zg42.1.1, Int.le_trans zg42.1.2 (Int.le_add_of_nonneg_right (by decide))⟩, zg43.1, zg44.1, zg45.1, zg46.1, zg47.1, zg48.1, zg49.1, zg50.1, zg51.1, zg52.1, zg53.1, zg54.1, zg55.1, zg56.1, zg57.1, zg58.1, zg59.1, zg60.1, zg61.1, zg62.1, zg63.1, zg64.1, zg65.1, zg66.1, zg67.1, zg68.1, zg69.1, zg70.1, zg71.1, zg72.1, zg73.1, zg74.1, zg75.1, zg76.1, zg77.1, zg78.1, zg79.1, zg80.1, zg81.1, zg82.1, zg83.1, zg84.1, zg85.1, zg86.1, zg87.1, zg88.1, zg89.1, zg90.1, zg91.1, zg92.1, zg93.1, zg94.1, zg95.1, zg96.1, zg97.1, zg98.1, zg99.1, zg100.1, zg101.1, zg102.1, zg103.1, zg104.1, zg105.1, zg106.1, zg107.1, zg108.1, zg109.1, zg110.1, zg111.1, zg112.1, zg113.1, zg114.1, zg115.1, zg116.1, zg117.1, zg118.1, zg119.1, zg120.1, zg121.1, zg122.1, zg123.1, zg124.1, zg125⟩⟩
noncomputable def f_OP_5 (N : Int) (a1 : Int) (s3 : Int) (s4 : Int) (s5 : Int) (s26 : Int) (s27 : Int) (s30 : Int) (s49 : Int) (t2 : Nat → Int) (t3 : Nat → Int) (t4 : Nat → Int) (t34 : Nat → Int) (t35 : Nat → Int) (t36 : Nat → Int) (t37 : Nat → Int) (t38 : Nat → Int) (t39 : Nat → Int) : Option (Int × Int × Int × Int × Int × Int × Int × (Nat → Int) × (Nat → Int) × (Nat → Int) × (Nat → Int) × (Nat → Int) × (Nat → Int)) :=
  zd8 (f_HS_child a1 s3 s26 s30 t2 t34 t35 t36) fun v71 v72 v73 v74 a75 a76 a77 a78 =>
  zd5 (f_HM_child a1 s4 s5 t3 t4) fun v81 v82 v83 a84 a85 =>
  some (v71, v81, v72, v82, v83, v73, v74, a75, a84, a85, a76, a77, a78)
set_option maxHeartbeats 4000000 in
theorem s_OP_5 (N : Int) (a1 : Int) (s3 : Int) (s4 : Int) (s5 : Int) (s26 : Int) (s27 : Int) (s30 : Int) (s49 : Int) (t2 : Nat → Int) (t3 : Nat → Int) (t4 : Nat → Int) (t34 : Nat → Int) (t35 : Nat → Int) (t36 : Nat → Int) (t37 : Nat → Int) (t38 : Nat → Int) (t39 : Nat → Int) (b_a1 : (-2147483648) ≤ a1 ∧ a1 ≤ 2147483647) (b_s3 : (-6) ≤ s3 ∧ s3 ≤ 0) (b_s26 : 0 ≤ s26 ∧ s26 ≤ 6) (b_s27 : 0 ≤ s27 ∧ s27 ≤ 6) (b_s49 : 0 ≤ s49 ∧ s49 ≤ 12) (h_t4 : RI t4) (h_t34 : zR t34 0 60) (h_t35 : zR t35 0 1) (h_t36 : zR t36 0 20) (h_t37 : zR t37 0 11) (h_t38 : zR t38 0 99) (h_t39 : zR t39 (-1) 10) (I_s30 : 0 ≤ s30 ∧ s30 ≤ N) (R_many : s49 = t4 0) (R_ch : s26 = t4 1) (R_pa : s27 = t4 2) (R_st : RV 3 153 s26 t34 t4) (R_ex : RV 3 154 s26 t35 t4) (R_tr : RV 3 155 s26 t36 t4) (R_pl : RV 1 171 s27 t37 t4) (R_te : RV 1 5 4 t38 t4) (R_go : RV 1 141 s49 t39 t4) : zok (f_OP_5 N a1 s3 s4 s5 s26 s27 s30 s49 t2 t3 t4 t34 t35 t36 t37 t38 t39) (fun o => (o.1 = o.2.1) ∧ ((-6) ≤ o.2.2.1 ∧ o.2.2.1 ≤ 0) ∧ (0 ≤ o.2.2.2.2.2.1 ∧ o.2.2.2.2.2.1 ≤ 6) ∧ (0 ≤ o.2.2.2.2.2.2.1 ∧ o.2.2.2.2.2.2.1 ≤ N + 6) ∧ zR o.2.2.2.2.2.2.2.2.2.2.1 0 60 ∧ zR o.2.2.2.2.2.2.2.2.2.2.2.1 0 1 ∧ zR o.2.2.2.2.2.2.2.2.2.2.2.2 0 20 ∧ RI o.2.2.2.2.2.2.2.2.2.1 ∧ (s49 = o.2.2.2.2.2.2.2.2.2.1 0) ∧ (o.2.2.2.2.2.1 = o.2.2.2.2.2.2.2.2.2.1 1) ∧ (s27 = o.2.2.2.2.2.2.2.2.2.1 2) ∧ (RV 3 153 o.2.2.2.2.2.1 o.2.2.2.2.2.2.2.2.2.2.1 o.2.2.2.2.2.2.2.2.2.1) ∧ (RV 3 154 o.2.2.2.2.2.1 o.2.2.2.2.2.2.2.2.2.2.2.1 o.2.2.2.2.2.2.2.2.2.1) ∧ (RV 3 155 o.2.2.2.2.2.1 o.2.2.2.2.2.2.2.2.2.2.2.2 o.2.2.2.2.2.2.2.2.2.1) ∧ (RV 1 171 s27 t37 o.2.2.2.2.2.2.2.2.2.1) ∧ (RV 1 5 4 t38 o.2.2.2.2.2.2.2.2.2.1) ∧ (RV 1 141 s49 t39 o.2.2.2.2.2.2.2.2.2.1)) := by
  unfold f_OP_5
  refine zk_dI8 ?_
  unfold f_HS_child
  refine zk_ifc (zci_lt (by omega) (by omega)) (fun hc => ?_) (fun hc => ?_)
  · first
    | (exfalso; omega)
    | (skip
       unfold f_HS_child_11
       refine zk_dI3 ?_
       unfold f_HS_refuse
       refine zk_nE (fun v1 h_v1 => ?_)
       refine zk_gv (by omega) (by decide) (fun v2 h_v2 => ?_)
       refine zk_n ?_
       refine zk_sv (by omega) (by decide) (fun a4 h_a4 => ?_)
       refine zk_rI3 ?_
       refine zk_rI8 ?_
       refine zk_dI5 ?_
       unfold f_HM_child
       refine zk_nE (fun v1_2 h_v1_2 => ?_)
       rw [zwi (by omega)] at h_v1_2
       replace h_v1_2 := h_v1_2.symm
       subst h_v1_2
       refine zk_d1 (s_HM_in _ _ _ (by omega) (by omega) (by omega)) (fun v2_2 hp => ?_)
       try dsimp only at hp
       have hpp0 := hp
       refine zk_ifc (zci_ner (by omega)) (fun hc_2 => ?_) (fun hc_2 => ?_)
       · first
         | (exfalso; omega)
         | (skip
            refine zk_gl 1 rfl (by decide) (by decide) (fun v3_2 h_v3_2 => ?_)
            have r_v3_2 := RI_1 h_t4
            refine zk_ifc (zci_ne (by omega) (by omega)) (fun hc_3 => ?_) (fun hc_3 => ?_)
            · first
              | (exfalso; omega)
              | (skip
                 refine zk_n ?_
                 refine zk_n ?_
                 refine zk_sv (by omega) (by decide) (fun a6 h_a6 => ?_)
                 have i_a6 : RI a6 := by rw [h_a6]; exact RIz_c h_t4 (by omega) (by omega)
                 refine zk_n ?_
                 refine zk_n ?_
                 refine zk_n ?_
                 refine zk_sv (by omega) (by decide) (fun a10 h_a10 => ?_)
                 have i_a10 : RI a10 := by rw [h_a10]; exact RIz_c i_a6 (by omega) (by omega)
                 refine zk_n ?_
                 refine zk_n ?_
                 refine zk_n ?_
                 refine zk_sv (by omega) (by decide) (fun a14 h_a14 => ?_)
                 have i_a14 : RI a14 := by rw [h_a14]; exact RIz_c i_a10 (by omega) (by omega)
                 refine zk_gl 1 rfl (by decide) (by decide) (fun v15 h_v15 => ?_)
                 have z_v15_a14 := zu_rd h_a14 (1)
                 have z_v15_a10 := zu_rd h_a10 (1)
                 have z_v15_a6 := zu_rd h_a6 (1)
                 have r_v15 := RI_1 i_a14
                 refine zk_n ?_
                 refine zk_sl 1 rfl (by decide) (by decide) (fun a17 h_a17 => ?_)
                 have i_a17 : RI a17 := by rw [h_a17]; exact RIz_1 i_a14 (by omega)
                 refine zk_d3 (s_HM_tell _ _ _ (by omega)) (fun v18 v19 a20 hp_2 => ?_)
                 try dsimp only at hp_2
                 obtain ⟨hp_2p0, hp_2p1⟩ := hp_2
                 refine zk_rI5 ?_
                 refine zk_ret ?_
                 try dsimp only
                 exact ⟨by omega, by omega, by omega, by omega, h_t34, h_t35, h_t36, i_a17, by first | omega | (simp only [h_a17, h_a14, h_a10, h_a6, h_a4, zu, ↓reduceIte]; (repeat' split) <;> omega), by first | omega | (simp only [h_a17, h_a14, h_a10, h_a6, h_a4, zu, ↓reduceIte]; (repeat' split) <;> omega), by first | omega | (simp only [h_a17, h_a14, h_a10, h_a6, h_a4, zu, ↓reduceIte]; (repeat' split) <;> omega), by (intro c hc; first | (have q := fun h => R_st c h; simp only [h_a17, h_a14, h_a10, h_a6, h_a4, zu, ↓reduceIte]; (repeat' split) <;> first | omega | (exact q (by omega))) | exact R_st c hc), by (intro c hc; first | (have q := fun h => R_ex c h; simp only [h_a17, h_a14, h_a10, h_a6, h_a4, zu, ↓reduceIte]; (repeat' split) <;> first | omega | (exact q (by omega))) | exact R_ex c hc), by (intro c hc; first | (have q := fun h => R_tr c h; simp only [h_a17, h_a14, h_a10, h_a6, h_a4, zu, ↓reduceIte]; (repeat' split) <;> first | omega | (exact q (by omega))) | exact R_tr c hc), by (intro c hc; first | (have q := fun h => R_pl c h; simp only [h_a17, h_a14, h_a10, h_a6, h_a4, zu, ↓reduceIte]; (repeat' split) <;> first | omega | (exact q (by omega))) | exact R_pl c hc), by (intro c hc; first | (have q := fun h => R_te c h; simp only [h_a17, h_a14, h_a10, h_a6, h_a4, zu, ↓reduceIte]; (repeat' split) <;> first | omega | (exact q (by omega))) | exact R_te c hc), by (intro c hc; first | (have q := fun h => R_go c h; simp only [h_a17, h_a14, h_a10, h_a6, h_a4, zu, ↓reduceIte]; (repeat' split) <;> first | omega | (exact q (by omega))) | exact R_go c hc)⟩)
            · first
              | (exfalso; omega)
              | (skip
                 refine zk_d3 (s_HM_tell _ _ _ (by omega)) (fun v21 v22 a23 hp_3 => ?_)
                 try dsimp only at hp_3
                 obtain ⟨hp_3p0, hp_3p1⟩ := hp_3
                 refine zk_rI5 ?_
                 refine zk_ret ?_
                 try dsimp only
                 exact ⟨by omega, by omega, by omega, by omega, h_t34, h_t35, h_t36, h_t4, by first | omega | (simp only [h_a4, zu, ↓reduceIte]; (repeat' split) <;> omega), by first | omega | (simp only [h_a4, zu, ↓reduceIte]; (repeat' split) <;> omega), by first | omega | (simp only [h_a4, zu, ↓reduceIte]; (repeat' split) <;> omega), by (intro c hc; first | (have q := fun h => R_st c h; simp only [h_a4, zu, ↓reduceIte]; (repeat' split) <;> first | omega | (exact q (by omega))) | exact R_st c hc), by (intro c hc; first | (have q := fun h => R_ex c h; simp only [h_a4, zu, ↓reduceIte]; (repeat' split) <;> first | omega | (exact q (by omega))) | exact R_ex c hc), by (intro c hc; first | (have q := fun h => R_tr c h; simp only [h_a4, zu, ↓reduceIte]; (repeat' split) <;> first | omega | (exact q (by omega))) | exact R_tr c hc), by (intro c hc; first | (have q := fun h => R_pl c h; simp only [h_a4, zu, ↓reduceIte]; (repeat' split) <;> first | omega | (exact q (by omega))) | exact R_pl c hc), by (intro c hc; first | (have q := fun h => R_te c h; simp only [h_a4, zu, ↓reduceIte]; (repeat' split) <;> first | omega | (exact q (by omega))) | exact R_te c hc), by (intro c hc; first | (have q := fun h => R_go c h; simp only [h_a4, zu, ↓reduceIte]; (repeat' split) <;> first | omega | (exact q (by omega))) | exact R_go c hc)⟩))
       · first
         | (exfalso; omega)
         | (skip
            refine zk_d3 (s_HM_tell _ _ _ (by omega)) (fun v24 v25 a26 hp_4 => ?_)
            try dsimp only at hp_4
            obtain ⟨hp_4p0, hp_4p1⟩ := hp_4
            refine zk_rI5 ?_
            refine zk_ret ?_
            try dsimp only
            exact ⟨by omega, by omega, by omega, by omega, h_t34, h_t35, h_t36, h_t4, by first | omega | (simp only [h_a4, zu, ↓reduceIte]; (repeat' split) <;> omega), by first | omega | (simp only [h_a4, zu, ↓reduceIte]; (repeat' split) <;> omega), by first | omega | (simp only [h_a4, zu, ↓reduceIte]; (repeat' split) <;> omega), by (intro c hc; first | (have q := fun h => R_st c h; simp only [h_a4, zu, ↓reduceIte]; (repeat' split) <;> first | omega | (exact q (by omega))) | exact R_st c hc), by (intro c hc; first | (have q := fun h => R_ex c h; simp only [h_a4, zu, ↓reduceIte]; (repeat' split) <;> first | omega | (exact q (by omega))) | exact R_ex c hc), by (intro c hc; first | (have q := fun h => R_tr c h; simp only [h_a4, zu, ↓reduceIte]; (repeat' split) <;> first | omega | (exact q (by omega))) | exact R_tr c hc), by (intro c hc; first | (have q := fun h => R_pl c h; simp only [h_a4, zu, ↓reduceIte]; (repeat' split) <;> first | omega | (exact q (by omega))) | exact R_pl c hc), by (intro c hc; first | (have q := fun h => R_te c h; simp only [h_a4, zu, ↓reduceIte]; (repeat' split) <;> first | omega | (exact q (by omega))) | exact R_te c hc), by (intro c hc; first | (have q := fun h => R_go c h; simp only [h_a4, zu, ↓reduceIte]; (repeat' split) <;> first | omega | (exact q (by omega))) | exact R_go c hc)⟩))
  · first
    | (exfalso; omega)
    | (skip
       refine zk_ifc (zci_le (by omega) (by omega)) (fun hc_4 => ?_) (fun hc_4 => ?_)
       · first
         | (exfalso; omega)
         | (skip
            refine zk_ifc (zci_lt (by omega) (by omega)) (fun hc_5 => ?_) (fun hc_5 => ?_)
            · first
              | (exfalso; omega)
              | (skip
                 refine zk_dI5 ?_
                 unfold f_Hill_enroll
                 refine zk_ifc (zci_lt (by omega) (by omega)) (fun hc_6 => ?_) (fun hc_6 => ?_)
                 · first
                   | (exfalso; omega)
                   | (skip
                      refine zk_sv (by omega) (by decide) (fun a1_2 h_a1_2 => ?_)
                      have i_a1_2 : zR a1_2 0 60 := by rw [h_a1_2]; exact zR_zu h_t34 (by decide) (by decide) (by omega)
                      refine zk_sv (by omega) (by decide) (fun a2 h_a2 => ?_)
                      have i_a2 : zR a2 0 1 := by rw [h_a2]; exact zR_zu h_t35 (by decide) (by decide) (by omega)
                      refine zk_sv (by omega) (by decide) (fun a3 h_a3 => ?_)
                      have i_a3 : zR a3 0 20 := by rw [h_a3]; exact zR_zu h_t36 (by decide) (by decide) (by omega)
                      refine zk_n ?_
                      refine zk_rI5 ?_
                      refine zk_dI3 ?_
                      unfold f_HS_accept
                      refine zk_n ?_
                      refine zk_rI3 ?_
                      refine zk_rI8 ?_
                      refine zk_dI5 ?_
                      unfold f_HM_child
                      refine zk_nE (fun v1_4 h_v1_4 => ?_)
                      rw [zwi (by omega)] at h_v1_4
                      replace h_v1_4 := h_v1_4.symm
                      subst h_v1_4
                      refine zk_d1 (s_HM_in _ _ _ (by omega) (by omega) (by omega)) (fun v2_3 hp_5 => ?_)
                      try dsimp only at hp_5
                      have hp_5p0 := hp_5
                      refine zk_ifc (zci_ner (by omega)) (fun hc_7 => ?_) (fun hc_7 => ?_)
                      · first
                        | (exfalso; omega)
                        | (skip
                           refine zk_gl 1 rfl (by decide) (by decide) (fun v3_3 h_v3_3 => ?_)
                           have r_v3_3 := RI_1 h_t4
                           refine zk_ifc (zci_ne (by omega) (by omega)) (fun hc_8 => ?_) (fun hc_8 => ?_)
                           · first
                             | (exfalso; omega)
                             | (skip
                                refine zk_n ?_
                                refine zk_n ?_
                                refine zk_sv (by omega) (by decide) (fun a6_2 h_a6_2 => ?_)
                                have i_a6_2 : RI a6_2 := by rw [h_a6_2]; exact RIz_c h_t4 (by omega) (by omega)
                                refine zk_n ?_
                                refine zk_n ?_
                                refine zk_n ?_
                                refine zk_sv (by omega) (by decide) (fun a10_2 h_a10_2 => ?_)
                                have i_a10_2 : RI a10_2 := by rw [h_a10_2]; exact RIz_c i_a6_2 (by omega) (by omega)
                                refine zk_n ?_
                                refine zk_n ?_
                                refine zk_n ?_
                                refine zk_sv (by omega) (by decide) (fun a14_2 h_a14_2 => ?_)
                                have i_a14_2 : RI a14_2 := by rw [h_a14_2]; exact RIz_c i_a10_2 (by omega) (by omega)
                                refine zk_gl 1 rfl (by decide) (by decide) (fun v15_2 h_v15_2 => ?_)
                                have z_v15_2_a14_2 := zu_rd h_a14_2 (1)
                                have z_v15_2_a10_2 := zu_rd h_a10_2 (1)
                                have z_v15_2_a6_2 := zu_rd h_a6_2 (1)
                                have r_v15_2 := RI_1 i_a14_2
                                refine zk_n ?_
                                refine zk_sl 1 rfl (by decide) (by decide) (fun a17_2 h_a17_2 => ?_)
                                have i_a17_2 : RI a17_2 := by rw [h_a17_2]; exact RIz_1 i_a14_2 (by omega)
                                refine zk_d3 (s_HM_tell _ _ _ (by omega)) (fun v18_2 v19_2 a20_2 hp_6 => ?_)
                                try dsimp only at hp_6
                                obtain ⟨hp_6p0, hp_6p1⟩ := hp_6
                                refine zk_rI5 ?_
                                refine zk_ret ?_
                                try dsimp only
                                exact ⟨by omega, by omega, by omega, by omega, i_a1_2, i_a2, i_a3, i_a17_2, by first | omega | (simp only [h_a17_2, h_a14_2, h_a10_2, h_a6_2, h_a3, h_a2, h_a1_2, zu, ↓reduceIte]; (repeat' split) <;> omega), by first | omega | (simp only [h_a17_2, h_a14_2, h_a10_2, h_a6_2, h_a3, h_a2, h_a1_2, zu, ↓reduceIte]; (repeat' split) <;> omega), by first | omega | (simp only [h_a17_2, h_a14_2, h_a10_2, h_a6_2, h_a3, h_a2, h_a1_2, zu, ↓reduceIte]; (repeat' split) <;> omega), by (intro c hc; first | (have q := fun h => R_st c h; simp only [h_a17_2, h_a14_2, h_a10_2, h_a6_2, h_a3, h_a2, h_a1_2, zu, ↓reduceIte]; (repeat' split) <;> first | omega | (exact q (by omega))) | exact R_st c hc), by (intro c hc; first | (have q := fun h => R_ex c h; simp only [h_a17_2, h_a14_2, h_a10_2, h_a6_2, h_a3, h_a2, h_a1_2, zu, ↓reduceIte]; (repeat' split) <;> first | omega | (exact q (by omega))) | exact R_ex c hc), by (intro c hc; first | (have q := fun h => R_tr c h; simp only [h_a17_2, h_a14_2, h_a10_2, h_a6_2, h_a3, h_a2, h_a1_2, zu, ↓reduceIte]; (repeat' split) <;> first | omega | (exact q (by omega))) | exact R_tr c hc), by (intro c hc; first | (have q := fun h => R_pl c h; simp only [h_a17_2, h_a14_2, h_a10_2, h_a6_2, h_a3, h_a2, h_a1_2, zu, ↓reduceIte]; (repeat' split) <;> first | omega | (exact q (by omega))) | exact R_pl c hc), by (intro c hc; first | (have q := fun h => R_te c h; simp only [h_a17_2, h_a14_2, h_a10_2, h_a6_2, h_a3, h_a2, h_a1_2, zu, ↓reduceIte]; (repeat' split) <;> first | omega | (exact q (by omega))) | exact R_te c hc), by (intro c hc; first | (have q := fun h => R_go c h; simp only [h_a17_2, h_a14_2, h_a10_2, h_a6_2, h_a3, h_a2, h_a1_2, zu, ↓reduceIte]; (repeat' split) <;> first | omega | (exact q (by omega))) | exact R_go c hc)⟩)
                           · first
                             | (exfalso; omega)
                             | (skip
                                refine zk_d3 (s_HM_tell _ _ _ (by omega)) (fun v21_2 v22_2 a23_2 hp_7 => ?_)
                                try dsimp only at hp_7
                                obtain ⟨hp_7p0, hp_7p1⟩ := hp_7
                                refine zk_rI5 ?_
                                refine zk_ret ?_
                                try dsimp only
                                exact ⟨by omega, by omega, by omega, by omega, i_a1_2, i_a2, i_a3, h_t4, by first | omega | (simp only [h_a3, h_a2, h_a1_2, zu, ↓reduceIte]; (repeat' split) <;> omega), by first | omega | (simp only [h_a3, h_a2, h_a1_2, zu, ↓reduceIte]; (repeat' split) <;> omega), by first | omega | (simp only [h_a3, h_a2, h_a1_2, zu, ↓reduceIte]; (repeat' split) <;> omega), by (intro c hc; first | (have q := fun h => R_st c h; simp only [h_a3, h_a2, h_a1_2, zu, ↓reduceIte]; (repeat' split) <;> first | omega | (exact q (by omega))) | exact R_st c hc), by (intro c hc; first | (have q := fun h => R_ex c h; simp only [h_a3, h_a2, h_a1_2, zu, ↓reduceIte]; (repeat' split) <;> first | omega | (exact q (by omega))) | exact R_ex c hc), by (intro c hc; first | (have q := fun h => R_tr c h; simp only [h_a3, h_a2, h_a1_2, zu, ↓reduceIte]; (repeat' split) <;> first | omega | (exact q (by omega))) | exact R_tr c hc), by (intro c hc; first | (have q := fun h => R_pl c h; simp only [h_a3, h_a2, h_a1_2, zu, ↓reduceIte]; (repeat' split) <;> first | omega | (exact q (by omega))) | exact R_pl c hc), by (intro c hc; first | (have q := fun h => R_te c h; simp only [h_a3, h_a2, h_a1_2, zu, ↓reduceIte]; (repeat' split) <;> first | omega | (exact q (by omega))) | exact R_te c hc), by (intro c hc; first | (have q := fun h => R_go c h; simp only [h_a3, h_a2, h_a1_2, zu, ↓reduceIte]; (repeat' split) <;> first | omega | (exact q (by omega))) | exact R_go c hc)⟩))
                      · first
                        | (exfalso; omega)
                        | (skip
                           refine zk_d3 (s_HM_tell _ _ _ (by omega)) (fun v24_2 v25_2 a26_2 hp_8 => ?_)
                           try dsimp only at hp_8
                           obtain ⟨hp_8p0, hp_8p1⟩ := hp_8
                           refine zk_rI5 ?_
                           refine zk_ret ?_
                           try dsimp only
                           exact ⟨by omega, by omega, by omega, by omega, i_a1_2, i_a2, i_a3, h_t4, by first | omega | (simp only [h_a3, h_a2, h_a1_2, zu, ↓reduceIte]; (repeat' split) <;> omega), by first | omega | (simp only [h_a3, h_a2, h_a1_2, zu, ↓reduceIte]; (repeat' split) <;> omega), by first | omega | (simp only [h_a3, h_a2, h_a1_2, zu, ↓reduceIte]; (repeat' split) <;> omega), by (intro c hc; first | (have q := fun h => R_st c h; simp only [h_a3, h_a2, h_a1_2, zu, ↓reduceIte]; (repeat' split) <;> first | omega | (exact q (by omega))) | exact R_st c hc), by (intro c hc; first | (have q := fun h => R_ex c h; simp only [h_a3, h_a2, h_a1_2, zu, ↓reduceIte]; (repeat' split) <;> first | omega | (exact q (by omega))) | exact R_ex c hc), by (intro c hc; first | (have q := fun h => R_tr c h; simp only [h_a3, h_a2, h_a1_2, zu, ↓reduceIte]; (repeat' split) <;> first | omega | (exact q (by omega))) | exact R_tr c hc), by (intro c hc; first | (have q := fun h => R_pl c h; simp only [h_a3, h_a2, h_a1_2, zu, ↓reduceIte]; (repeat' split) <;> first | omega | (exact q (by omega))) | exact R_pl c hc), by (intro c hc; first | (have q := fun h => R_te c h; simp only [h_a3, h_a2, h_a1_2, zu, ↓reduceIte]; (repeat' split) <;> first | omega | (exact q (by omega))) | exact R_te c hc), by (intro c hc; first | (have q := fun h => R_go c h; simp only [h_a3, h_a2, h_a1_2, zu, ↓reduceIte]; (repeat' split) <;> first | omega | (exact q (by omega))) | exact R_go c hc)⟩))
                 · first
                   | (exfalso; omega)
                   | (skip
                      refine zk_rI5 ?_
                      refine zk_dI3 ?_
                      unfold f_HS_accept
                      refine zk_n ?_
                      refine zk_rI3 ?_
                      refine zk_rI8 ?_
                      refine zk_dI5 ?_
                      unfold f_HM_child
                      refine zk_nE (fun v1_6 h_v1_6 => ?_)
                      rw [zwi (by omega)] at h_v1_6
                      replace h_v1_6 := h_v1_6.symm
                      subst h_v1_6
                      refine zk_d1 (s_HM_in _ _ _ (by omega) (by omega) (by omega)) (fun v2_4 hp_9 => ?_)
                      try dsimp only at hp_9
                      have hp_9p0 := hp_9
                      refine zk_ifc (zci_ner (by omega)) (fun hc_9 => ?_) (fun hc_9 => ?_)
                      · first
                        | (exfalso; omega)
                        | (skip
                           refine zk_gl 1 rfl (by decide) (by decide) (fun v3_4 h_v3_4 => ?_)
                           have r_v3_4 := RI_1 h_t4
                           refine zk_ifc (zci_ne (by omega) (by omega)) (fun hc_10 => ?_) (fun hc_10 => ?_)
                           · first
                             | (exfalso; omega)
                             | (skip
                                refine zk_n ?_
                                refine zk_n ?_
                                refine zk_sv (by omega) (by decide) (fun a6_3 h_a6_3 => ?_)
                                have i_a6_3 : RI a6_3 := by rw [h_a6_3]; exact RIz_c h_t4 (by omega) (by omega)
                                refine zk_n ?_
                                refine zk_n ?_
                                refine zk_n ?_
                                refine zk_sv (by omega) (by decide) (fun a10_3 h_a10_3 => ?_)
                                have i_a10_3 : RI a10_3 := by rw [h_a10_3]; exact RIz_c i_a6_3 (by omega) (by omega)
                                refine zk_n ?_
                                refine zk_n ?_
                                refine zk_n ?_
                                refine zk_sv (by omega) (by decide) (fun a14_3 h_a14_3 => ?_)
                                have i_a14_3 : RI a14_3 := by rw [h_a14_3]; exact RIz_c i_a10_3 (by omega) (by omega)
                                refine zk_gl 1 rfl (by decide) (by decide) (fun v15_3 h_v15_3 => ?_)
                                have z_v15_3_a14_3 := zu_rd h_a14_3 (1)
                                have z_v15_3_a10_3 := zu_rd h_a10_3 (1)
                                have z_v15_3_a6_3 := zu_rd h_a6_3 (1)
                                have r_v15_3 := RI_1 i_a14_3
                                refine zk_n ?_
                                refine zk_sl 1 rfl (by decide) (by decide) (fun a17_3 h_a17_3 => ?_)
                                have i_a17_3 : RI a17_3 := by rw [h_a17_3]; exact RIz_1 i_a14_3 (by omega)
                                refine zk_d3 (s_HM_tell _ _ _ (by omega)) (fun v18_3 v19_3 a20_3 hp_10 => ?_)
                                try dsimp only at hp_10
                                obtain ⟨hp_10p0, hp_10p1⟩ := hp_10
                                refine zk_rI5 ?_
                                refine zk_ret ?_
                                try dsimp only
                                exact ⟨by omega, by omega, by omega, by omega, h_t34, h_t35, h_t36, i_a17_3, by first | omega | (simp only [h_a17_3, h_a14_3, h_a10_3, h_a6_3, zu, ↓reduceIte]; (repeat' split) <;> omega), by first | omega | (simp only [h_a17_3, h_a14_3, h_a10_3, h_a6_3, zu, ↓reduceIte]; (repeat' split) <;> omega), by first | omega | (simp only [h_a17_3, h_a14_3, h_a10_3, h_a6_3, zu, ↓reduceIte]; (repeat' split) <;> omega), by (intro c hc; first | (have q := fun h => R_st c h; simp only [h_a17_3, h_a14_3, h_a10_3, h_a6_3, zu, ↓reduceIte]; (repeat' split) <;> first | omega | (exact q (by omega))) | exact R_st c hc), by (intro c hc; first | (have q := fun h => R_ex c h; simp only [h_a17_3, h_a14_3, h_a10_3, h_a6_3, zu, ↓reduceIte]; (repeat' split) <;> first | omega | (exact q (by omega))) | exact R_ex c hc), by (intro c hc; first | (have q := fun h => R_tr c h; simp only [h_a17_3, h_a14_3, h_a10_3, h_a6_3, zu, ↓reduceIte]; (repeat' split) <;> first | omega | (exact q (by omega))) | exact R_tr c hc), by (intro c hc; first | (have q := fun h => R_pl c h; simp only [h_a17_3, h_a14_3, h_a10_3, h_a6_3, zu, ↓reduceIte]; (repeat' split) <;> first | omega | (exact q (by omega))) | exact R_pl c hc), by (intro c hc; first | (have q := fun h => R_te c h; simp only [h_a17_3, h_a14_3, h_a10_3, h_a6_3, zu, ↓reduceIte]; (repeat' split) <;> first | omega | (exact q (by omega))) | exact R_te c hc), by (intro c hc; first | (have q := fun h => R_go c h; simp only [h_a17_3, h_a14_3, h_a10_3, h_a6_3, zu, ↓reduceIte]; (repeat' split) <;> first | omega | (exact q (by omega))) | exact R_go c hc)⟩)
                           · first
                             | (exfalso; omega)
                             | (skip
                                refine zk_d3 (s_HM_tell _ _ _ (by omega)) (fun v21_3 v22_3 a23_3 hp_11 => ?_)
                                try dsimp only at hp_11
                                obtain ⟨hp_11p0, hp_11p1⟩ := hp_11
                                refine zk_rI5 ?_
                                refine zk_ret ?_
                                try dsimp only
                                exact ⟨by omega, by omega, by omega, by omega, h_t34, h_t35, h_t36, h_t4, by first | omega | (simp only [zu_eq, zu, ↓reduceIte]; (repeat' split) <;> omega), by first | omega | (simp only [zu_eq, zu, ↓reduceIte]; (repeat' split) <;> omega), by first | omega | (simp only [zu_eq, zu, ↓reduceIte]; (repeat' split) <;> omega), by (intro c hc; first | (have q := fun h => R_st c h; simp only [zu_eq, zu, ↓reduceIte]; (repeat' split) <;> first | omega | (exact q (by omega))) | exact R_st c hc), by (intro c hc; first | (have q := fun h => R_ex c h; simp only [zu_eq, zu, ↓reduceIte]; (repeat' split) <;> first | omega | (exact q (by omega))) | exact R_ex c hc), by (intro c hc; first | (have q := fun h => R_tr c h; simp only [zu_eq, zu, ↓reduceIte]; (repeat' split) <;> first | omega | (exact q (by omega))) | exact R_tr c hc), by (intro c hc; first | (have q := fun h => R_pl c h; simp only [zu_eq, zu, ↓reduceIte]; (repeat' split) <;> first | omega | (exact q (by omega))) | exact R_pl c hc), by (intro c hc; first | (have q := fun h => R_te c h; simp only [zu_eq, zu, ↓reduceIte]; (repeat' split) <;> first | omega | (exact q (by omega))) | exact R_te c hc), by (intro c hc; first | (have q := fun h => R_go c h; simp only [zu_eq, zu, ↓reduceIte]; (repeat' split) <;> first | omega | (exact q (by omega))) | exact R_go c hc)⟩))
                      · first
                        | (exfalso; omega)
                        | (skip
                           refine zk_d3 (s_HM_tell _ _ _ (by omega)) (fun v24_3 v25_3 a26_3 hp_12 => ?_)
                           try dsimp only at hp_12
                           obtain ⟨hp_12p0, hp_12p1⟩ := hp_12
                           refine zk_rI5 ?_
                           refine zk_ret ?_
                           try dsimp only
                           exact ⟨by omega, by omega, by omega, by omega, h_t34, h_t35, h_t36, h_t4, by first | omega | (simp only [zu_eq, zu, ↓reduceIte]; (repeat' split) <;> omega), by first | omega | (simp only [zu_eq, zu, ↓reduceIte]; (repeat' split) <;> omega), by first | omega | (simp only [zu_eq, zu, ↓reduceIte]; (repeat' split) <;> omega), by (intro c hc; first | (have q := fun h => R_st c h; simp only [zu_eq, zu, ↓reduceIte]; (repeat' split) <;> first | omega | (exact q (by omega))) | exact R_st c hc), by (intro c hc; first | (have q := fun h => R_ex c h; simp only [zu_eq, zu, ↓reduceIte]; (repeat' split) <;> first | omega | (exact q (by omega))) | exact R_ex c hc), by (intro c hc; first | (have q := fun h => R_tr c h; simp only [zu_eq, zu, ↓reduceIte]; (repeat' split) <;> first | omega | (exact q (by omega))) | exact R_tr c hc), by (intro c hc; first | (have q := fun h => R_pl c h; simp only [zu_eq, zu, ↓reduceIte]; (repeat' split) <;> first | omega | (exact q (by omega))) | exact R_pl c hc), by (intro c hc; first | (have q := fun h => R_te c h; simp only [zu_eq, zu, ↓reduceIte]; (repeat' split) <;> first | omega | (exact q (by omega))) | exact R_te c hc), by (intro c hc; first | (have q := fun h => R_go c h; simp only [zu_eq, zu, ↓reduceIte]; (repeat' split) <;> first | omega | (exact q (by omega))) | exact R_go c hc)⟩)))
            · first
              | (exfalso; omega)
              | (skip
                 refine zk_dI3 ?_
                 unfold f_HS_refuse
                 refine zk_nE (fun v1_7 h_v1_7 => ?_)
                 refine zk_gv (by omega) (by decide) (fun v2_5 h_v2_5 => ?_)
                 refine zk_n ?_
                 refine zk_sv (by omega) (by decide) (fun a4_2 h_a4_2 => ?_)
                 refine zk_rI3 ?_
                 refine zk_rI8 ?_
                 refine zk_dI5 ?_
                 unfold f_HM_child
                 refine zk_nE (fun v1_8 h_v1_8 => ?_)
                 rw [zwi (by omega)] at h_v1_8
                 replace h_v1_8 := h_v1_8.symm
                 subst h_v1_8
                 refine zk_d1 (s_HM_in _ _ _ (by omega) (by omega) (by omega)) (fun v2_6 hp_13 => ?_)
                 try dsimp only at hp_13
                 have hp_13p0 := hp_13
                 refine zk_ifc (zci_ner (by omega)) (fun hc_11 => ?_) (fun hc_11 => ?_)
                 · first
                   | (exfalso; omega)
                   | (skip
                      refine zk_gl 1 rfl (by decide) (by decide) (fun v3_6 h_v3_6 => ?_)
                      have r_v3_6 := RI_1 h_t4
                      refine zk_ifc (zci_ne (by omega) (by omega)) (fun hc_12 => ?_) (fun hc_12 => ?_)
                      · first
                        | (exfalso; omega)
                        | (skip
                           refine zk_n ?_
                           refine zk_n ?_
                           refine zk_sv (by omega) (by decide) (fun a6_4 h_a6_4 => ?_)
                           have i_a6_4 : RI a6_4 := by rw [h_a6_4]; exact RIz_c h_t4 (by omega) (by omega)
                           refine zk_n ?_
                           refine zk_n ?_
                           refine zk_n ?_
                           refine zk_sv (by omega) (by decide) (fun a10_4 h_a10_4 => ?_)
                           have i_a10_4 : RI a10_4 := by rw [h_a10_4]; exact RIz_c i_a6_4 (by omega) (by omega)
                           refine zk_n ?_
                           refine zk_n ?_
                           refine zk_n ?_
                           refine zk_sv (by omega) (by decide) (fun a14_4 h_a14_4 => ?_)
                           have i_a14_4 : RI a14_4 := by rw [h_a14_4]; exact RIz_c i_a10_4 (by omega) (by omega)
                           refine zk_gl 1 rfl (by decide) (by decide) (fun v15_4 h_v15_4 => ?_)
                           have z_v15_4_a14_4 := zu_rd h_a14_4 (1)
                           have z_v15_4_a10_4 := zu_rd h_a10_4 (1)
                           have z_v15_4_a6_4 := zu_rd h_a6_4 (1)
                           have r_v15_4 := RI_1 i_a14_4
                           refine zk_n ?_
                           refine zk_sl 1 rfl (by decide) (by decide) (fun a17_4 h_a17_4 => ?_)
                           have i_a17_4 : RI a17_4 := by rw [h_a17_4]; exact RIz_1 i_a14_4 (by omega)
                           refine zk_d3 (s_HM_tell _ _ _ (by omega)) (fun v18_4 v19_4 a20_4 hp_14 => ?_)
                           try dsimp only at hp_14
                           obtain ⟨hp_14p0, hp_14p1⟩ := hp_14
                           refine zk_rI5 ?_
                           refine zk_ret ?_
                           try dsimp only
                           exact ⟨by omega, by omega, by omega, by omega, h_t34, h_t35, h_t36, i_a17_4, by first | omega | (simp only [h_a17_4, h_a14_4, h_a10_4, h_a6_4, h_a4_2, zu, ↓reduceIte]; (repeat' split) <;> omega), by first | omega | (simp only [h_a17_4, h_a14_4, h_a10_4, h_a6_4, h_a4_2, zu, ↓reduceIte]; (repeat' split) <;> omega), by first | omega | (simp only [h_a17_4, h_a14_4, h_a10_4, h_a6_4, h_a4_2, zu, ↓reduceIte]; (repeat' split) <;> omega), by (intro c hc; first | (have q := fun h => R_st c h; simp only [h_a17_4, h_a14_4, h_a10_4, h_a6_4, h_a4_2, zu, ↓reduceIte]; (repeat' split) <;> first | omega | (exact q (by omega))) | exact R_st c hc), by (intro c hc; first | (have q := fun h => R_ex c h; simp only [h_a17_4, h_a14_4, h_a10_4, h_a6_4, h_a4_2, zu, ↓reduceIte]; (repeat' split) <;> first | omega | (exact q (by omega))) | exact R_ex c hc), by (intro c hc; first | (have q := fun h => R_tr c h; simp only [h_a17_4, h_a14_4, h_a10_4, h_a6_4, h_a4_2, zu, ↓reduceIte]; (repeat' split) <;> first | omega | (exact q (by omega))) | exact R_tr c hc), by (intro c hc; first | (have q := fun h => R_pl c h; simp only [h_a17_4, h_a14_4, h_a10_4, h_a6_4, h_a4_2, zu, ↓reduceIte]; (repeat' split) <;> first | omega | (exact q (by omega))) | exact R_pl c hc), by (intro c hc; first | (have q := fun h => R_te c h; simp only [h_a17_4, h_a14_4, h_a10_4, h_a6_4, h_a4_2, zu, ↓reduceIte]; (repeat' split) <;> first | omega | (exact q (by omega))) | exact R_te c hc), by (intro c hc; first | (have q := fun h => R_go c h; simp only [h_a17_4, h_a14_4, h_a10_4, h_a6_4, h_a4_2, zu, ↓reduceIte]; (repeat' split) <;> first | omega | (exact q (by omega))) | exact R_go c hc)⟩)
                      · first
                        | (exfalso; omega)
                        | (skip
                           refine zk_d3 (s_HM_tell _ _ _ (by omega)) (fun v21_4 v22_4 a23_4 hp_15 => ?_)
                           try dsimp only at hp_15
                           obtain ⟨hp_15p0, hp_15p1⟩ := hp_15
                           refine zk_rI5 ?_
                           refine zk_ret ?_
                           try dsimp only
                           exact ⟨by omega, by omega, by omega, by omega, h_t34, h_t35, h_t36, h_t4, by first | omega | (simp only [h_a4_2, zu, ↓reduceIte]; (repeat' split) <;> omega), by first | omega | (simp only [h_a4_2, zu, ↓reduceIte]; (repeat' split) <;> omega), by first | omega | (simp only [h_a4_2, zu, ↓reduceIte]; (repeat' split) <;> omega), by (intro c hc; first | (have q := fun h => R_st c h; simp only [h_a4_2, zu, ↓reduceIte]; (repeat' split) <;> first | omega | (exact q (by omega))) | exact R_st c hc), by (intro c hc; first | (have q := fun h => R_ex c h; simp only [h_a4_2, zu, ↓reduceIte]; (repeat' split) <;> first | omega | (exact q (by omega))) | exact R_ex c hc), by (intro c hc; first | (have q := fun h => R_tr c h; simp only [h_a4_2, zu, ↓reduceIte]; (repeat' split) <;> first | omega | (exact q (by omega))) | exact R_tr c hc), by (intro c hc; first | (have q := fun h => R_pl c h; simp only [h_a4_2, zu, ↓reduceIte]; (repeat' split) <;> first | omega | (exact q (by omega))) | exact R_pl c hc), by (intro c hc; first | (have q := fun h => R_te c h; simp only [h_a4_2, zu, ↓reduceIte]; (repeat' split) <;> first | omega | (exact q (by omega))) | exact R_te c hc), by (intro c hc; first | (have q := fun h => R_go c h; simp only [h_a4_2, zu, ↓reduceIte]; (repeat' split) <;> first | omega | (exact q (by omega))) | exact R_go c hc)⟩))
                 · first
                   | (exfalso; omega)
                   | (skip
                      refine zk_d3 (s_HM_tell _ _ _ (by omega)) (fun v24_4 v25_4 a26_4 hp_16 => ?_)
                      try dsimp only at hp_16
                      obtain ⟨hp_16p0, hp_16p1⟩ := hp_16
                      refine zk_rI5 ?_
                      refine zk_ret ?_
                      try dsimp only
                      exact ⟨by omega, by omega, by omega, by omega, h_t34, h_t35, h_t36, h_t4, by first | omega | (simp only [h_a4_2, zu, ↓reduceIte]; (repeat' split) <;> omega), by first | omega | (simp only [h_a4_2, zu, ↓reduceIte]; (repeat' split) <;> omega), by first | omega | (simp only [h_a4_2, zu, ↓reduceIte]; (repeat' split) <;> omega), by (intro c hc; first | (have q := fun h => R_st c h; simp only [h_a4_2, zu, ↓reduceIte]; (repeat' split) <;> first | omega | (exact q (by omega))) | exact R_st c hc), by (intro c hc; first | (have q := fun h => R_ex c h; simp only [h_a4_2, zu, ↓reduceIte]; (repeat' split) <;> first | omega | (exact q (by omega))) | exact R_ex c hc), by (intro c hc; first | (have q := fun h => R_tr c h; simp only [h_a4_2, zu, ↓reduceIte]; (repeat' split) <;> first | omega | (exact q (by omega))) | exact R_tr c hc), by (intro c hc; first | (have q := fun h => R_pl c h; simp only [h_a4_2, zu, ↓reduceIte]; (repeat' split) <;> first | omega | (exact q (by omega))) | exact R_pl c hc), by (intro c hc; first | (have q := fun h => R_te c h; simp only [h_a4_2, zu, ↓reduceIte]; (repeat' split) <;> first | omega | (exact q (by omega))) | exact R_te c hc), by (intro c hc; first | (have q := fun h => R_go c h; simp only [h_a4_2, zu, ↓reduceIte]; (repeat' split) <;> first | omega | (exact q (by omega))) | exact R_go c hc)⟩)))
       · first
         | (exfalso; omega)
         | (skip
            unfold f_HS_child_11
            refine zk_dI3 ?_
            unfold f_HS_refuse
            refine zk_nE (fun v1_9 h_v1_9 => ?_)
            refine zk_gv (by omega) (by decide) (fun v2_7 h_v2_7 => ?_)
            refine zk_n ?_
            refine zk_sv (by omega) (by decide) (fun a4_3 h_a4_3 => ?_)
            refine zk_rI3 ?_
            refine zk_rI8 ?_
            refine zk_dI5 ?_
            unfold f_HM_child
            refine zk_nE (fun v1_10 h_v1_10 => ?_)
            rw [zwi (by omega)] at h_v1_10
            replace h_v1_10 := h_v1_10.symm
            subst h_v1_10
            refine zk_d1 (s_HM_in _ _ _ (by omega) (by omega) (by omega)) (fun v2_8 hp_17 => ?_)
            try dsimp only at hp_17
            have hp_17p0 := hp_17
            refine zk_ifc (zci_ner (by omega)) (fun hc_13 => ?_) (fun hc_13 => ?_)
            · first
              | (exfalso; omega)
              | (skip
                 refine zk_gl 1 rfl (by decide) (by decide) (fun v3_8 h_v3_8 => ?_)
                 have r_v3_8 := RI_1 h_t4
                 refine zk_ifc (zci_ne (by omega) (by omega)) (fun hc_14 => ?_) (fun hc_14 => ?_)
                 · first
                   | (exfalso; omega)
                   | (skip
                      refine zk_n ?_
                      refine zk_n ?_
                      refine zk_sv (by omega) (by decide) (fun a6_5 h_a6_5 => ?_)
                      have i_a6_5 : RI a6_5 := by rw [h_a6_5]; exact RIz_c h_t4 (by omega) (by omega)
                      refine zk_n ?_
                      refine zk_n ?_
                      refine zk_n ?_
                      refine zk_sv (by omega) (by decide) (fun a10_5 h_a10_5 => ?_)
                      have i_a10_5 : RI a10_5 := by rw [h_a10_5]; exact RIz_c i_a6_5 (by omega) (by omega)
                      refine zk_n ?_
                      refine zk_n ?_
                      refine zk_n ?_
                      refine zk_sv (by omega) (by decide) (fun a14_5 h_a14_5 => ?_)
                      have i_a14_5 : RI a14_5 := by rw [h_a14_5]; exact RIz_c i_a10_5 (by omega) (by omega)
                      refine zk_gl 1 rfl (by decide) (by decide) (fun v15_5 h_v15_5 => ?_)
                      have z_v15_5_a14_5 := zu_rd h_a14_5 (1)
                      have z_v15_5_a10_5 := zu_rd h_a10_5 (1)
                      have z_v15_5_a6_5 := zu_rd h_a6_5 (1)
                      have r_v15_5 := RI_1 i_a14_5
                      refine zk_n ?_
                      refine zk_sl 1 rfl (by decide) (by decide) (fun a17_5 h_a17_5 => ?_)
                      have i_a17_5 : RI a17_5 := by rw [h_a17_5]; exact RIz_1 i_a14_5 (by omega)
                      refine zk_d3 (s_HM_tell _ _ _ (by omega)) (fun v18_5 v19_5 a20_5 hp_18 => ?_)
                      try dsimp only at hp_18
                      obtain ⟨hp_18p0, hp_18p1⟩ := hp_18
                      refine zk_rI5 ?_
                      refine zk_ret ?_
                      try dsimp only
                      exact ⟨by omega, by omega, by omega, by omega, h_t34, h_t35, h_t36, i_a17_5, by first | omega | (simp only [h_a17_5, h_a14_5, h_a10_5, h_a6_5, h_a4_3, zu, ↓reduceIte]; (repeat' split) <;> omega), by first | omega | (simp only [h_a17_5, h_a14_5, h_a10_5, h_a6_5, h_a4_3, zu, ↓reduceIte]; (repeat' split) <;> omega), by first | omega | (simp only [h_a17_5, h_a14_5, h_a10_5, h_a6_5, h_a4_3, zu, ↓reduceIte]; (repeat' split) <;> omega), by (intro c hc; first | (have q := fun h => R_st c h; simp only [h_a17_5, h_a14_5, h_a10_5, h_a6_5, h_a4_3, zu, ↓reduceIte]; (repeat' split) <;> first | omega | (exact q (by omega))) | exact R_st c hc), by (intro c hc; first | (have q := fun h => R_ex c h; simp only [h_a17_5, h_a14_5, h_a10_5, h_a6_5, h_a4_3, zu, ↓reduceIte]; (repeat' split) <;> first | omega | (exact q (by omega))) | exact R_ex c hc), by (intro c hc; first | (have q := fun h => R_tr c h; simp only [h_a17_5, h_a14_5, h_a10_5, h_a6_5, h_a4_3, zu, ↓reduceIte]; (repeat' split) <;> first | omega | (exact q (by omega))) | exact R_tr c hc), by (intro c hc; first | (have q := fun h => R_pl c h; simp only [h_a17_5, h_a14_5, h_a10_5, h_a6_5, h_a4_3, zu, ↓reduceIte]; (repeat' split) <;> first | omega | (exact q (by omega))) | exact R_pl c hc), by (intro c hc; first | (have q := fun h => R_te c h; simp only [h_a17_5, h_a14_5, h_a10_5, h_a6_5, h_a4_3, zu, ↓reduceIte]; (repeat' split) <;> first | omega | (exact q (by omega))) | exact R_te c hc), by (intro c hc; first | (have q := fun h => R_go c h; simp only [h_a17_5, h_a14_5, h_a10_5, h_a6_5, h_a4_3, zu, ↓reduceIte]; (repeat' split) <;> first | omega | (exact q (by omega))) | exact R_go c hc)⟩)
                 · first
                   | (exfalso; omega)
                   | (skip
                      refine zk_d3 (s_HM_tell _ _ _ (by omega)) (fun v21_5 v22_5 a23_5 hp_19 => ?_)
                      try dsimp only at hp_19
                      obtain ⟨hp_19p0, hp_19p1⟩ := hp_19
                      refine zk_rI5 ?_
                      refine zk_ret ?_
                      try dsimp only
                      exact ⟨by omega, by omega, by omega, by omega, h_t34, h_t35, h_t36, h_t4, by first | omega | (simp only [h_a4_3, zu, ↓reduceIte]; (repeat' split) <;> omega), by first | omega | (simp only [h_a4_3, zu, ↓reduceIte]; (repeat' split) <;> omega), by first | omega | (simp only [h_a4_3, zu, ↓reduceIte]; (repeat' split) <;> omega), by (intro c hc; first | (have q := fun h => R_st c h; simp only [h_a4_3, zu, ↓reduceIte]; (repeat' split) <;> first | omega | (exact q (by omega))) | exact R_st c hc), by (intro c hc; first | (have q := fun h => R_ex c h; simp only [h_a4_3, zu, ↓reduceIte]; (repeat' split) <;> first | omega | (exact q (by omega))) | exact R_ex c hc), by (intro c hc; first | (have q := fun h => R_tr c h; simp only [h_a4_3, zu, ↓reduceIte]; (repeat' split) <;> first | omega | (exact q (by omega))) | exact R_tr c hc), by (intro c hc; first | (have q := fun h => R_pl c h; simp only [h_a4_3, zu, ↓reduceIte]; (repeat' split) <;> first | omega | (exact q (by omega))) | exact R_pl c hc), by (intro c hc; first | (have q := fun h => R_te c h; simp only [h_a4_3, zu, ↓reduceIte]; (repeat' split) <;> first | omega | (exact q (by omega))) | exact R_te c hc), by (intro c hc; first | (have q := fun h => R_go c h; simp only [h_a4_3, zu, ↓reduceIte]; (repeat' split) <;> first | omega | (exact q (by omega))) | exact R_go c hc)⟩))
            · first
              | (exfalso; omega)
              | (skip
                 refine zk_d3 (s_HM_tell _ _ _ (by omega)) (fun v24_5 v25_5 a26_5 hp_20 => ?_)
                 try dsimp only at hp_20
                 obtain ⟨hp_20p0, hp_20p1⟩ := hp_20
                 refine zk_rI5 ?_
                 refine zk_ret ?_
                 try dsimp only
                 exact ⟨by omega, by omega, by omega, by omega, h_t34, h_t35, h_t36, h_t4, by first | omega | (simp only [h_a4_3, zu, ↓reduceIte]; (repeat' split) <;> omega), by first | omega | (simp only [h_a4_3, zu, ↓reduceIte]; (repeat' split) <;> omega), by first | omega | (simp only [h_a4_3, zu, ↓reduceIte]; (repeat' split) <;> omega), by (intro c hc; first | (have q := fun h => R_st c h; simp only [h_a4_3, zu, ↓reduceIte]; (repeat' split) <;> first | omega | (exact q (by omega))) | exact R_st c hc), by (intro c hc; first | (have q := fun h => R_ex c h; simp only [h_a4_3, zu, ↓reduceIte]; (repeat' split) <;> first | omega | (exact q (by omega))) | exact R_ex c hc), by (intro c hc; first | (have q := fun h => R_tr c h; simp only [h_a4_3, zu, ↓reduceIte]; (repeat' split) <;> first | omega | (exact q (by omega))) | exact R_tr c hc), by (intro c hc; first | (have q := fun h => R_pl c h; simp only [h_a4_3, zu, ↓reduceIte]; (repeat' split) <;> first | omega | (exact q (by omega))) | exact R_pl c hc), by (intro c hc; first | (have q := fun h => R_te c h; simp only [h_a4_3, zu, ↓reduceIte]; (repeat' split) <;> first | omega | (exact q (by omega))) | exact R_te c hc), by (intro c hc; first | (have q := fun h => R_go c h; simp only [h_a4_3, zu, ↓reduceIte]; (repeat' split) <;> first | omega | (exact q (by omega))) | exact R_go c hc)⟩)))
set_option maxHeartbeats 4000000 in
set_option maxRecDepth 10000 in
theorem st_5 (N : Int) (σ : Nat → Int) (τ : Nat → Nat → Int) (hI : INV N σ τ) (a1 : Int) (b_a1 : (-2147483648) ≤ a1 ∧ a1 ≤ 2147483647) : zok (f_OP_5 N a1 (σ 3) (σ 4) (σ 5) (σ 26) (σ 27) (σ 30) (σ 49) (τ 2) (τ 3) (τ 4) (τ 34) (τ 35) (τ 36) (τ 37) (τ 38) (τ 39)) (fun o => (o.1 = o.2.1) ∧ INV (N + 6) (zst σ [(3, o.2.2.1), (4, o.2.2.2.1), (5, o.2.2.2.2.1), (26, o.2.2.2.2.2.1), (30, o.2.2.2.2.2.2.1)]) (zta τ [(2, o.2.2.2.2.2.2.2.1), (3, o.2.2.2.2.2.2.2.2.1), (4, o.2.2.2.2.2.2.2.2.2.1), (34, o.2.2.2.2.2.2.2.2.2.2.1), (35, o.2.2.2.2.2.2.2.2.2.2.2.1), (36, o.2.2.2.2.2.2.2.2.2.2.2.2)])) := by
  have zg1 := hI.2
  have zg2 := zg1.2
  have zg3 := zg2.2
  have zg4 := zg3.2
  have zg5 := zg4.2
  have zg6 := zg5.2
  have zg7 := zg6.2
  have zg8 := zg7.2
  have zg9 := zg8.2
  have zg10 := zg9.2
  have zg11 := zg10.2
  have zg12 := zg11.2
  have zg13 := zg12.2
  have zg14 := zg13.2
  have zg15 := zg14.2
  have zg16 := zg15.2
  have zg17 := zg16.2
  have zg18 := zg17.2
  have zg19 := zg18.2
  have zg20 := zg19.2
  have zg21 := zg20.2
  have zg22 := zg21.2
  have zg23 := zg22.2
  have zg24 := zg23.2
  have zg25 := zg24.2
  have zg26 := zg25.2
  have zg27 := zg26.2
  have zg28 := zg27.2
  have zg29 := zg28.2
  have zg30 := zg29.2
  have zg31 := zg30.2
  have zg32 := zg31.2
  have zg33 := zg32.2
  have zg34 := zg33.2
  have zg35 := zg34.2
  have zg36 := zg35.2
  have zg37 := zg36.2
  have zg38 := zg37.2
  have zg39 := zg38.2
  have zg40 := zg39.2
  have zg41 := zg40.2
  have zg42 := zg41.2
  have zg43 := zg42.2
  have zg44 := zg43.2
  have zg45 := zg44.2
  have zg46 := zg45.2
  have zg47 := zg46.2
  have zg48 := zg47.2
  have zg49 := zg48.2
  have zg50 := zg49.2
  have zg51 := zg50.2
  have zg52 := zg51.2
  have zg53 := zg52.2
  have zg54 := zg53.2
  have zg55 := zg54.2
  have zg56 := zg55.2
  have zg57 := zg56.2
  have zg58 := zg57.2
  have zg59 := zg58.2
  have zg60 := zg59.2
  have zg61 := zg60.2
  have zg62 := zg61.2
  have zg63 := zg62.2
  have zg64 := zg63.2
  have zg65 := zg64.2
  have zg66 := zg65.2
  have zg67 := zg66.2
  have zg68 := zg67.2
  have zg69 := zg68.2
  have zg70 := zg69.2
  have zg71 := zg70.2
  have zg72 := zg71.2
  have zg73 := zg72.2
  have zg74 := zg73.2
  have zg75 := zg74.2
  have zg76 := zg75.2
  have zg77 := zg76.2
  have zg78 := zg77.2
  have zg79 := zg78.2
  have zg80 := zg79.2
  have zg81 := zg80.2
  have zg82 := zg81.2
  have zg83 := zg82.2
  have zg84 := zg83.2
  have zg85 := zg84.2
  have zg86 := zg85.2
  have zg87 := zg86.2
  have zg88 := zg87.2
  have zg89 := zg88.2
  have zg90 := zg89.2
  have zg91 := zg90.2
  have zg92 := zg91.2
  have zg93 := zg92.2
  have zg94 := zg93.2
  have zg95 := zg94.2
  have zg96 := zg95.2
  have zg97 := zg96.2
  have zg98 := zg97.2
  have zg99 := zg98.2
  have zg100 := zg99.2
  have zg101 := zg100.2
  have zg102 := zg101.2
  have zg103 := zg102.2
  have zg104 := zg103.2
  have zg105 := zg104.2
  have zg106 := zg105.2
  have zg107 := zg106.2
  have zg108 := zg107.2
  have zg109 := zg108.2
  have zg110 := zg109.2
  have zg111 := zg110.2
  have zg112 := zg111.2
  have zg113 := zg112.2
  have zg114 := zg113.2
  have zg115 := zg114.2
  have zg116 := zg115.2
  have zg117 := zg116.2
  have zg118 := zg117.2
  have zg119 := zg118.2
  have zg120 := zg119.2
  have zg121 := zg120.2
  have zg122 := zg121.2
  have zg123 := zg122.2
  have zg124 := zg123.2
  have zg125 := zg124.2
  have I_s3 := zg2.1
  have I_s26 := zg3.1
  have I_s27 := zg4.1
  have I_s49 := zg21.1
  have I_t4 := zg99.1
  have I_t34 := zg45.1
  have I_t35 := zg46.1
  have I_t36 := zg47.1
  have I_t37 := zg48.1
  have I_t38 := zg49.1
  have I_t39 := zg50.1
  have I_s30 := zg42.1
  have R_many := zg113.1
  have R_ch := zg114.1
  have R_pa := zg115.1
  have R_st := zg116.1
  have R_ex := zg117.1
  have R_tr := zg118.1
  have R_pl := zg119.1
  have R_te := zg120.1
  have R_go := zg121.1
  refine zok_mono (s_OP_5 N a1 (σ 3) (σ 4) (σ 5) (σ 26) (σ 27) (σ 30) (σ 49) (τ 2) (τ 3) (τ 4) (τ 34) (τ 35) (τ 36) (τ 37) (τ 38) (τ 39) b_a1 I_s3 I_s26 I_s27 I_s49 I_t4 I_t34 I_t35 I_t36 I_t37 I_t38 I_t39 I_s30 R_many R_ch R_pa R_st R_ex R_tr R_pl R_te R_go) (fun o ho => ?_)
  obtain ⟨p0, p1, p2, p3, p4, p5, p6, p7, p8, p9, p10, p11, p12, p13, p14, p15, p16⟩ := ho
  exact ⟨p0, ⟨hI.1, zg1.1, p1, p2, zg4.1, zg5.1, zg6.1, zg7.1, zg8.1, zg9.1, zg10.1, zg11.1, zg12.1, zg13.1, zg14.1, zg15.1, zg16.1, zg17.1, zg18.1, zg19.1, zg20.1, zg21.1, zg22.1, zg23.1, zg24.1, zg25.1, zg26.1, zg27.1, zg28.1, zg29.1, zg30.1, zg31.1, zg32.1, zg33.1, zg34.1, zg35.1, zg36.1, zg37.1, zg38.1, zg39.1, zg40.1, zg41.1, p3, zg43.1, zg44.1, p4, p5, p6, zg48.1, zg49.1, zg50.1, zg51.1, zg52.1, zg53.1, zg54.1, zg55.1, zg56.1, zg57.1, zg58.1, zg59.1, zg60.1, zg61.1, zg62.1, zg63.1, zg64.1, zg65.1, zg66.1, zg67.1, zg68.1, zg69.1, zg70.1, zg71.1, zg72.1, zg73.1, zg74.1, zg75.1, zg76.1, zg77.1, zg78.1, zg79.1, zg80.1, zg81.1, zg82.1, zg83.1, zg84.1, zg85.1, zg86.1, zg87.1, zg88.1, zg89.1, zg90.1, zg91.1, zg92.1, zg93.1, zg94.1, zg95.1, zg96.1, zg97.1, zg98.1, p7, zg100.1, zg101.1, zg102.1, zg103.1, zg104.1, zg105.1, zg106.1, zg107.1, zg108.1, zg109.1, zg110.1, zg111.1, zg112.1, p8, p9, p10, p11, p12, p13, p14, p15, p16, zg122.1, zg123.1, zg124.1, zg125⟩⟩
noncomputable def f_OP_6 (N : Int) (a1 : Int) (a2 : Int) (s3 : Int) (s4 : Int) (s5 : Int) (s26 : Int) (s27 : Int) (s30 : Int) (s49 : Int) (t2 : Nat → Int) (t3 : Nat → Int) (t4 : Nat → Int) (t34 : Nat → Int) (t35 : Nat → Int) (t36 : Nat → Int) (t37 : Nat → Int) (t38 : Nat → Int) (t39 : Nat → Int) : Option (Int × Int × Int × Int × Int × Int × (Nat → Int) × (Nat → Int) × (Nat → Int) × (Nat → Int)) :=
  zd5 (f_HS_expel a1 a2 s26 s3 s30 t2 t35) fun v90 v91 v92 a93 a94 =>
  zd5 (f_HM_expel a1 a2 s4 s5 t3 t4) fun v99 v100 v101 a102 a103 =>
  some (v90, v99, v91, v100, v101, v92, a93, a102, a103, a94)
set_option maxHeartbeats 4000000 in
theorem s_OP_6 (N : Int) (a1 : Int) (a2 : Int) (s3 : Int) (s4 : Int) (s5 : Int) (s26 : Int) (s27 : Int) (s30 : Int) (s49 : Int) (t2 : Nat → Int) (t3 : Nat → Int) (t4 : Nat → Int) (t34 : Nat → Int) (t35 : Nat → Int) (t36 : Nat → Int) (t37 : Nat → Int) (t38 : Nat → Int) (t39 : Nat → Int) (b_a1 : (-2147483648) ≤ a1 ∧ a1 ≤ 2147483647) (b_a2 : (-2147483648) ≤ a2 ∧ a2 ≤ 2147483647) (b_s3 : (-6) ≤ s3 ∧ s3 ≤ 0) (b_s26 : 0 ≤ s26 ∧ s26 ≤ 6) (b_s27 : 0 ≤ s27 ∧ s27 ≤ 6) (b_s49 : 0 ≤ s49 ∧ s49 ≤ 12) (h_t4 : RI t4) (h_t34 : zR t34 0 60) (h_t35 : zR t35 0 1) (h_t36 : zR t36 0 20) (h_t37 : zR t37 0 11) (h_t38 : zR t38 0 99) (h_t39 : zR t39 (-1) 10) (I_s30 : 0 ≤ s30 ∧ s30 ≤ N) (R_many : s49 = t4 0) (R_ch : s26 = t4 1) (R_pa : s27 = t4 2) (R_st : RV 3 153 s26 t34 t4) (R_ex : RV 3 154 s26 t35 t4) (R_tr : RV 3 155 s26 t36 t4) (R_pl : RV 1 171 s27 t37 t4) (R_te : RV 1 5 4 t38 t4) (R_go : RV 1 141 s49 t39 t4) : zok (f_OP_6 N a1 a2 s3 s4 s5 s26 s27 s30 s49 t2 t3 t4 t34 t35 t36 t37 t38 t39) (fun o => (o.1 = o.2.1) ∧ ((-6) ≤ o.2.2.1 ∧ o.2.2.1 ≤ 0) ∧ (0 ≤ o.2.2.2.2.2.1 ∧ o.2.2.2.2.2.1 ≤ N + 6) ∧ zR o.2.2.2.2.2.2.2.2.2 0 1 ∧ RI o.2.2.2.2.2.2.2.2.1 ∧ (s49 = o.2.2.2.2.2.2.2.2.1 0) ∧ (s26 = o.2.2.2.2.2.2.2.2.1 1) ∧ (s27 = o.2.2.2.2.2.2.2.2.1 2) ∧ (RV 3 153 s26 t34 o.2.2.2.2.2.2.2.2.1) ∧ (RV 3 154 s26 o.2.2.2.2.2.2.2.2.2 o.2.2.2.2.2.2.2.2.1) ∧ (RV 3 155 s26 t36 o.2.2.2.2.2.2.2.2.1) ∧ (RV 1 171 s27 t37 o.2.2.2.2.2.2.2.2.1) ∧ (RV 1 5 4 t38 o.2.2.2.2.2.2.2.2.1) ∧ (RV 1 141 s49 t39 o.2.2.2.2.2.2.2.2.1)) := by
  unfold f_OP_6
  have q_ex : (a1 < 0 ∨ s26 ≤ a1) ∨ t35 a1.toNat = t4 (153 + 3 * a1 + 1).toNat := by
    by_cases h : a1 < 0 ∨ s26 ≤ a1
    · exact Or.inl h
    · exact Or.inr (RV_at R_ex (by omega) (by omega) (by omega))
  refine zk_dI5 ?_
  unfold f_HS_expel
  refine zk_ifc (zci_ltr (by omega)) (fun hc => ?_) (fun hc => ?_)
  · first
    | (exfalso; omega)
    | (skip
       unfold f_HS_expel_9
       refine zk_dI3 ?_
       unfold f_HS_refuse
       refine zk_nE (fun v1 h_v1 => ?_)
       refine zk_gv (by omega) (by decide) (fun v2 h_v2 => ?_)
       refine zk_n ?_
       refine zk_sv (by omega) (by decide) (fun a4 h_a4 => ?_)
       refine zk_rI3 ?_
       refine zk_rI5 ?_
       refine zk_dI5 ?_
       unfold f_HM_expel
       refine zk_nE (fun v1_2 h_v1_2 => ?_)
       rw [zwi (by omega)] at h_v1_2
       replace h_v1_2 := h_v1_2.symm
       subst h_v1_2
       refine zk_d1 (s_HM_in _ _ _ (by omega) (by omega) (by omega)) (fun v2_2 hp => ?_)
       try dsimp only at hp
       have hpp0 := hp
       refine zk_ifc (zci_ner (by omega)) (fun hc_2 => ?_) (fun hc_2 => ?_)
       · first
         | (exfalso; omega)
         | (skip
            refine zk_d1 (s_HM_isChild _ _ (by omega) h_t4) (fun v3_2 hp_2 => ?_)
            try dsimp only at hp_2
            obtain ⟨hp_2p0, hp_2p1⟩ := hp_2
            refine zk_ifc (zci_eqr (by omega)) (fun hc_3 => ?_) (fun hc_3 => ?_)
            · first
              | (exfalso; omega)
              | (skip
                 refine zk_d3 (s_HM_tell _ _ _ (by omega)) (fun v4 v5 a6 hp_3 => ?_)
                 try dsimp only at hp_3
                 obtain ⟨hp_3p0, hp_3p1⟩ := hp_3
                 refine zk_rI5 ?_
                 refine zk_ret ?_
                 try dsimp only
                 exact ⟨by omega, by omega, by omega, h_t35, h_t4, by first | omega | (simp only [h_a4, zu, ↓reduceIte]; (repeat' split) <;> omega), by first | omega | (simp only [h_a4, zu, ↓reduceIte]; (repeat' split) <;> omega), by first | omega | (simp only [h_a4, zu, ↓reduceIte]; (repeat' split) <;> omega), by (intro c hc; first | (have q := fun h => R_st c h; simp only [h_a4, zu, ↓reduceIte]; (repeat' split) <;> first | omega | (exact q (by omega))) | exact R_st c hc), by (intro c hc; first | (have q := fun h => R_ex c h; simp only [h_a4, zu, ↓reduceIte]; (repeat' split) <;> first | omega | (exact q (by omega))) | exact R_ex c hc), by (intro c hc; first | (have q := fun h => R_tr c h; simp only [h_a4, zu, ↓reduceIte]; (repeat' split) <;> first | omega | (exact q (by omega))) | exact R_tr c hc), by (intro c hc; first | (have q := fun h => R_pl c h; simp only [h_a4, zu, ↓reduceIte]; (repeat' split) <;> first | omega | (exact q (by omega))) | exact R_pl c hc), by (intro c hc; first | (have q := fun h => R_te c h; simp only [h_a4, zu, ↓reduceIte]; (repeat' split) <;> first | omega | (exact q (by omega))) | exact R_te c hc), by (intro c hc; first | (have q := fun h => R_go c h; simp only [h_a4, zu, ↓reduceIte]; (repeat' split) <;> first | omega | (exact q (by omega))) | exact R_go c hc)⟩)
            · first
              | (exfalso; omega)
              | (skip
                 refine zk_n ?_
                 refine zk_n ?_
                 refine zk_n ?_
                 refine zk_d3 (s_HM_change _ _ _ _ (by omega)) (fun v10 v11 a12 hp_4 => ?_)
                 try dsimp only at hp_4
                 obtain ⟨hp_4p0, hp_4p1, hp_4p2⟩ := hp_4
                 have i_a12 : RI a12 := by rw [hp_4p2]; exact RIz_c h_t4 (by omega) (by omega)
                 refine zk_rI5 ?_
                 refine zk_ret ?_
                 try dsimp only
                 exact ⟨by omega, by omega, by omega, h_t35, i_a12, by first | omega | (simp only [hp_4p2, h_a4, zu, ↓reduceIte]; (repeat' split) <;> omega), by first | omega | (simp only [hp_4p2, h_a4, zu, ↓reduceIte]; (repeat' split) <;> omega), by first | omega | (simp only [hp_4p2, h_a4, zu, ↓reduceIte]; (repeat' split) <;> omega), by (intro c hc; first | (have q := fun h => R_st c h; simp only [hp_4p2, h_a4, zu, ↓reduceIte]; (repeat' split) <;> first | omega | (exact q (by omega))) | exact R_st c hc), by (intro c hc; first | (have q := fun h => R_ex c h; simp only [hp_4p2, h_a4, zu, ↓reduceIte]; (repeat' split) <;> first | omega | (exact q (by omega))) | exact R_ex c hc), by (intro c hc; first | (have q := fun h => R_tr c h; simp only [hp_4p2, h_a4, zu, ↓reduceIte]; (repeat' split) <;> first | omega | (exact q (by omega))) | exact R_tr c hc), by (intro c hc; first | (have q := fun h => R_pl c h; simp only [hp_4p2, h_a4, zu, ↓reduceIte]; (repeat' split) <;> first | omega | (exact q (by omega))) | exact R_pl c hc), by (intro c hc; first | (have q := fun h => R_te c h; simp only [hp_4p2, h_a4, zu, ↓reduceIte]; (repeat' split) <;> first | omega | (exact q (by omega))) | exact R_te c hc), by (intro c hc; first | (have q := fun h => R_go c h; simp only [hp_4p2, h_a4, zu, ↓reduceIte]; (repeat' split) <;> first | omega | (exact q (by omega))) | exact R_go c hc)⟩))
       · first
         | (exfalso; omega)
         | (skip
            refine zk_d3 (s_HM_tell _ _ _ (by omega)) (fun v13 v14 a15 hp_5 => ?_)
            try dsimp only at hp_5
            obtain ⟨hp_5p0, hp_5p1⟩ := hp_5
            refine zk_rI5 ?_
            refine zk_ret ?_
            try dsimp only
            exact ⟨by omega, by omega, by omega, h_t35, h_t4, by first | omega | (simp only [h_a4, zu, ↓reduceIte]; (repeat' split) <;> omega), by first | omega | (simp only [h_a4, zu, ↓reduceIte]; (repeat' split) <;> omega), by first | omega | (simp only [h_a4, zu, ↓reduceIte]; (repeat' split) <;> omega), by (intro c hc; first | (have q := fun h => R_st c h; simp only [h_a4, zu, ↓reduceIte]; (repeat' split) <;> first | omega | (exact q (by omega))) | exact R_st c hc), by (intro c hc; first | (have q := fun h => R_ex c h; simp only [h_a4, zu, ↓reduceIte]; (repeat' split) <;> first | omega | (exact q (by omega))) | exact R_ex c hc), by (intro c hc; first | (have q := fun h => R_tr c h; simp only [h_a4, zu, ↓reduceIte]; (repeat' split) <;> first | omega | (exact q (by omega))) | exact R_tr c hc), by (intro c hc; first | (have q := fun h => R_pl c h; simp only [h_a4, zu, ↓reduceIte]; (repeat' split) <;> first | omega | (exact q (by omega))) | exact R_pl c hc), by (intro c hc; first | (have q := fun h => R_te c h; simp only [h_a4, zu, ↓reduceIte]; (repeat' split) <;> first | omega | (exact q (by omega))) | exact R_te c hc), by (intro c hc; first | (have q := fun h => R_go c h; simp only [h_a4, zu, ↓reduceIte]; (repeat' split) <;> first | omega | (exact q (by omega))) | exact R_go c hc)⟩))
  · first
    | (exfalso; omega)
    | (skip
       refine zk_ifc (zci_le (by omega) (by omega)) (fun hc_4 => ?_) (fun hc_4 => ?_)
       · first
         | (exfalso; omega)
         | (skip
            refine zk_d1 (s_Hill_hasChild _ _ (by omega) (by omega)) (fun v1_3 hp_6 => ?_)
            try dsimp only at hp_6
            obtain ⟨hp_6p0, hp_6p1⟩ := hp_6
            refine zk_ifc (zci_ner (by omega)) (fun hc_5 => ?_) (fun hc_5 => ?_)
            · first
              | (exfalso; omega)
              | (skip
                 refine zk_gv (by omega) (by decide) (fun v2_3 h_v2_3 => ?_)
                 have r_v2_3 := h_t35 (a1.toNat)
                 refine zk_sv (by omega) (by decide) (fun a3 h_a3 => ?_)
                 have i_a3 : zR a3 0 1 := by rw [h_a3]; exact zR_zu h_t35 (by decide) (by decide) (by omega)
                 refine zk_dI3 ?_
                 unfold f_HS_accept
                 refine zk_n ?_
                 refine zk_rI3 ?_
                 refine zk_rI5 ?_
                 refine zk_dI5 ?_
                 unfold f_HM_expel
                 refine zk_nE (fun v1_5 h_v1_5 => ?_)
                 rw [zwi (by omega)] at h_v1_5
                 replace h_v1_5 := h_v1_5.symm
                 subst h_v1_5
                 refine zk_d1 (s_HM_in _ _ _ (by omega) (by omega) (by omega)) (fun v2_4 hp_7 => ?_)
                 try dsimp only at hp_7
                 have hp_7p0 := hp_7
                 refine zk_ifc (zci_ner (by omega)) (fun hc_6 => ?_) (fun hc_6 => ?_)
                 · first
                   | (exfalso; omega)
                   | (skip
                      refine zk_d1 (s_HM_isChild _ _ (by omega) h_t4) (fun v3_3 hp_8 => ?_)
                      try dsimp only at hp_8
                      obtain ⟨hp_8p0, hp_8p1⟩ := hp_8
                      refine zk_ifc (zci_eqr (by omega)) (fun hc_7 => ?_) (fun hc_7 => ?_)
                      · first
                        | (exfalso; omega)
                        | (skip
                           refine zk_d3 (s_HM_tell _ _ _ (by omega)) (fun v4_2 v5_2 a6_2 hp_9 => ?_)
                           try dsimp only at hp_9
                           obtain ⟨hp_9p0, hp_9p1⟩ := hp_9
                           refine zk_rI5 ?_
                           refine zk_ret ?_
                           try dsimp only
                           exact ⟨by omega, by omega, by omega, i_a3, h_t4, by first | omega | (simp only [h_a3, zu, ↓reduceIte]; (repeat' split) <;> omega), by first | omega | (simp only [h_a3, zu, ↓reduceIte]; (repeat' split) <;> omega), by first | omega | (simp only [h_a3, zu, ↓reduceIte]; (repeat' split) <;> omega), by (intro c hc; first | (have q := fun h => R_st c h; simp only [h_a3, zu, ↓reduceIte]; (repeat' split) <;> first | omega | (exact q (by omega))) | exact R_st c hc), by (intro c hc; first | (have q := fun h => R_ex c h; simp only [h_a3, zu, ↓reduceIte]; (repeat' split) <;> first | omega | (exact q (by omega))) | exact R_ex c hc), by (intro c hc; first | (have q := fun h => R_tr c h; simp only [h_a3, zu, ↓reduceIte]; (repeat' split) <;> first | omega | (exact q (by omega))) | exact R_tr c hc), by (intro c hc; first | (have q := fun h => R_pl c h; simp only [h_a3, zu, ↓reduceIte]; (repeat' split) <;> first | omega | (exact q (by omega))) | exact R_pl c hc), by (intro c hc; first | (have q := fun h => R_te c h; simp only [h_a3, zu, ↓reduceIte]; (repeat' split) <;> first | omega | (exact q (by omega))) | exact R_te c hc), by (intro c hc; first | (have q := fun h => R_go c h; simp only [h_a3, zu, ↓reduceIte]; (repeat' split) <;> first | omega | (exact q (by omega))) | exact R_go c hc)⟩)
                      · first
                        | (exfalso; omega)
                        | (skip
                           refine zk_n ?_
                           refine zk_n ?_
                           refine zk_n ?_
                           refine zk_d3 (s_HM_change _ _ _ _ (by omega)) (fun v10_2 v11_2 a12_2 hp_10 => ?_)
                           try dsimp only at hp_10
                           obtain ⟨hp_10p0, hp_10p1, hp_10p2⟩ := hp_10
                           have i_a12_2 : RI a12_2 := by rw [hp_10p2]; exact RIz_c h_t4 (by omega) (by omega)
                           refine zk_rI5 ?_
                           refine zk_ret ?_
                           try dsimp only
                           exact ⟨by omega, by omega, by omega, i_a3, i_a12_2, by first | omega | (simp only [hp_10p2, h_a3, zu, ↓reduceIte]; (repeat' split) <;> omega), by first | omega | (simp only [hp_10p2, h_a3, zu, ↓reduceIte]; (repeat' split) <;> omega), by first | omega | (simp only [hp_10p2, h_a3, zu, ↓reduceIte]; (repeat' split) <;> omega), by (intro c hc; first | (have q := fun h => R_st c h; simp only [hp_10p2, h_a3, zu, ↓reduceIte]; (repeat' split) <;> first | omega | (exact q (by omega))) | exact R_st c hc), by (intro c hc; first | (have q := fun h => R_ex c h; simp only [hp_10p2, h_a3, zu, ↓reduceIte]; (repeat' split) <;> first | omega | (exact q (by omega))) | exact R_ex c hc), by (intro c hc; first | (have q := fun h => R_tr c h; simp only [hp_10p2, h_a3, zu, ↓reduceIte]; (repeat' split) <;> first | omega | (exact q (by omega))) | exact R_tr c hc), by (intro c hc; first | (have q := fun h => R_pl c h; simp only [hp_10p2, h_a3, zu, ↓reduceIte]; (repeat' split) <;> first | omega | (exact q (by omega))) | exact R_pl c hc), by (intro c hc; first | (have q := fun h => R_te c h; simp only [hp_10p2, h_a3, zu, ↓reduceIte]; (repeat' split) <;> first | omega | (exact q (by omega))) | exact R_te c hc), by (intro c hc; first | (have q := fun h => R_go c h; simp only [hp_10p2, h_a3, zu, ↓reduceIte]; (repeat' split) <;> first | omega | (exact q (by omega))) | exact R_go c hc)⟩))
                 · first
                   | (exfalso; omega)
                   | (skip
                      refine zk_d3 (s_HM_tell _ _ _ (by omega)) (fun v13_2 v14_2 a15_2 hp_11 => ?_)
                      try dsimp only at hp_11
                      obtain ⟨hp_11p0, hp_11p1⟩ := hp_11
                      refine zk_rI5 ?_
                      refine zk_ret ?_
                      try dsimp only
                      exact ⟨by omega, by omega, by omega, i_a3, h_t4, by first | omega | (simp only [h_a3, zu, ↓reduceIte]; (repeat' split) <;> omega), by first | omega | (simp only [h_a3, zu, ↓reduceIte]; (repeat' split) <;> omega), by first | omega | (simp only [h_a3, zu, ↓reduceIte]; (repeat' split) <;> omega), by (intro c hc; first | (have q := fun h => R_st c h; simp only [h_a3, zu, ↓reduceIte]; (repeat' split) <;> first | omega | (exact q (by omega))) | exact R_st c hc), by (intro c hc; first | (have q := fun h => R_ex c h; simp only [h_a3, zu, ↓reduceIte]; (repeat' split) <;> first | omega | (exact q (by omega))) | exact R_ex c hc), by (intro c hc; first | (have q := fun h => R_tr c h; simp only [h_a3, zu, ↓reduceIte]; (repeat' split) <;> first | omega | (exact q (by omega))) | exact R_tr c hc), by (intro c hc; first | (have q := fun h => R_pl c h; simp only [h_a3, zu, ↓reduceIte]; (repeat' split) <;> first | omega | (exact q (by omega))) | exact R_pl c hc), by (intro c hc; first | (have q := fun h => R_te c h; simp only [h_a3, zu, ↓reduceIte]; (repeat' split) <;> first | omega | (exact q (by omega))) | exact R_te c hc), by (intro c hc; first | (have q := fun h => R_go c h; simp only [h_a3, zu, ↓reduceIte]; (repeat' split) <;> first | omega | (exact q (by omega))) | exact R_go c hc)⟩))
            · first
              | (exfalso; omega)
              | (skip
                 refine zk_dI3 ?_
                 unfold f_HS_refuse
                 refine zk_nE (fun v1_6 h_v1_6 => ?_)
                 refine zk_gv (by omega) (by decide) (fun v2_5 h_v2_5 => ?_)
                 refine zk_n ?_
                 refine zk_sv (by omega) (by decide) (fun a4_2 h_a4_2 => ?_)
                 refine zk_rI3 ?_
                 refine zk_rI5 ?_
                 refine zk_dI5 ?_
                 unfold f_HM_expel
                 refine zk_nE (fun v1_7 h_v1_7 => ?_)
                 rw [zwi (by omega)] at h_v1_7
                 replace h_v1_7 := h_v1_7.symm
                 subst h_v1_7
                 refine zk_d1 (s_HM_in _ _ _ (by omega) (by omega) (by omega)) (fun v2_6 hp_12 => ?_)
                 try dsimp only at hp_12
                 have hp_12p0 := hp_12
                 refine zk_ifc (zci_ner (by omega)) (fun hc_8 => ?_) (fun hc_8 => ?_)
                 · first
                   | (exfalso; omega)
                   | (skip
                      refine zk_d1 (s_HM_isChild _ _ (by omega) h_t4) (fun v3_5 hp_13 => ?_)
                      try dsimp only at hp_13
                      obtain ⟨hp_13p0, hp_13p1⟩ := hp_13
                      refine zk_ifc (zci_eqr (by omega)) (fun hc_9 => ?_) (fun hc_9 => ?_)
                      · first
                        | (exfalso; omega)
                        | (skip
                           refine zk_d3 (s_HM_tell _ _ _ (by omega)) (fun v4_3 v5_3 a6_3 hp_14 => ?_)
                           try dsimp only at hp_14
                           obtain ⟨hp_14p0, hp_14p1⟩ := hp_14
                           refine zk_rI5 ?_
                           refine zk_ret ?_
                           try dsimp only
                           exact ⟨by omega, by omega, by omega, h_t35, h_t4, by first | omega | (simp only [h_a4_2, zu, ↓reduceIte]; (repeat' split) <;> omega), by first | omega | (simp only [h_a4_2, zu, ↓reduceIte]; (repeat' split) <;> omega), by first | omega | (simp only [h_a4_2, zu, ↓reduceIte]; (repeat' split) <;> omega), by (intro c hc; first | (have q := fun h => R_st c h; simp only [h_a4_2, zu, ↓reduceIte]; (repeat' split) <;> first | omega | (exact q (by omega))) | exact R_st c hc), by (intro c hc; first | (have q := fun h => R_ex c h; simp only [h_a4_2, zu, ↓reduceIte]; (repeat' split) <;> first | omega | (exact q (by omega))) | exact R_ex c hc), by (intro c hc; first | (have q := fun h => R_tr c h; simp only [h_a4_2, zu, ↓reduceIte]; (repeat' split) <;> first | omega | (exact q (by omega))) | exact R_tr c hc), by (intro c hc; first | (have q := fun h => R_pl c h; simp only [h_a4_2, zu, ↓reduceIte]; (repeat' split) <;> first | omega | (exact q (by omega))) | exact R_pl c hc), by (intro c hc; first | (have q := fun h => R_te c h; simp only [h_a4_2, zu, ↓reduceIte]; (repeat' split) <;> first | omega | (exact q (by omega))) | exact R_te c hc), by (intro c hc; first | (have q := fun h => R_go c h; simp only [h_a4_2, zu, ↓reduceIte]; (repeat' split) <;> first | omega | (exact q (by omega))) | exact R_go c hc)⟩)
                      · first
                        | (exfalso; omega)
                        | (skip
                           refine zk_n ?_
                           refine zk_n ?_
                           refine zk_n ?_
                           refine zk_d3 (s_HM_change _ _ _ _ (by omega)) (fun v10_3 v11_3 a12_3 hp_15 => ?_)
                           try dsimp only at hp_15
                           obtain ⟨hp_15p0, hp_15p1, hp_15p2⟩ := hp_15
                           have i_a12_3 : RI a12_3 := by rw [hp_15p2]; exact RIz_c h_t4 (by omega) (by omega)
                           refine zk_rI5 ?_
                           refine zk_ret ?_
                           try dsimp only
                           exact ⟨by omega, by omega, by omega, h_t35, i_a12_3, by first | omega | (simp only [hp_15p2, h_a4_2, zu, ↓reduceIte]; (repeat' split) <;> omega), by first | omega | (simp only [hp_15p2, h_a4_2, zu, ↓reduceIte]; (repeat' split) <;> omega), by first | omega | (simp only [hp_15p2, h_a4_2, zu, ↓reduceIte]; (repeat' split) <;> omega), by (intro c hc; first | (have q := fun h => R_st c h; simp only [hp_15p2, h_a4_2, zu, ↓reduceIte]; (repeat' split) <;> first | omega | (exact q (by omega))) | exact R_st c hc), by (intro c hc; first | (have q := fun h => R_ex c h; simp only [hp_15p2, h_a4_2, zu, ↓reduceIte]; (repeat' split) <;> first | omega | (exact q (by omega))) | exact R_ex c hc), by (intro c hc; first | (have q := fun h => R_tr c h; simp only [hp_15p2, h_a4_2, zu, ↓reduceIte]; (repeat' split) <;> first | omega | (exact q (by omega))) | exact R_tr c hc), by (intro c hc; first | (have q := fun h => R_pl c h; simp only [hp_15p2, h_a4_2, zu, ↓reduceIte]; (repeat' split) <;> first | omega | (exact q (by omega))) | exact R_pl c hc), by (intro c hc; first | (have q := fun h => R_te c h; simp only [hp_15p2, h_a4_2, zu, ↓reduceIte]; (repeat' split) <;> first | omega | (exact q (by omega))) | exact R_te c hc), by (intro c hc; first | (have q := fun h => R_go c h; simp only [hp_15p2, h_a4_2, zu, ↓reduceIte]; (repeat' split) <;> first | omega | (exact q (by omega))) | exact R_go c hc)⟩))
                 · first
                   | (exfalso; omega)
                   | (skip
                      refine zk_d3 (s_HM_tell _ _ _ (by omega)) (fun v13_3 v14_3 a15_3 hp_16 => ?_)
                      try dsimp only at hp_16
                      obtain ⟨hp_16p0, hp_16p1⟩ := hp_16
                      refine zk_rI5 ?_
                      refine zk_ret ?_
                      try dsimp only
                      exact ⟨by omega, by omega, by omega, h_t35, h_t4, by first | omega | (simp only [h_a4_2, zu, ↓reduceIte]; (repeat' split) <;> omega), by first | omega | (simp only [h_a4_2, zu, ↓reduceIte]; (repeat' split) <;> omega), by first | omega | (simp only [h_a4_2, zu, ↓reduceIte]; (repeat' split) <;> omega), by (intro c hc; first | (have q := fun h => R_st c h; simp only [h_a4_2, zu, ↓reduceIte]; (repeat' split) <;> first | omega | (exact q (by omega))) | exact R_st c hc), by (intro c hc; first | (have q := fun h => R_ex c h; simp only [h_a4_2, zu, ↓reduceIte]; (repeat' split) <;> first | omega | (exact q (by omega))) | exact R_ex c hc), by (intro c hc; first | (have q := fun h => R_tr c h; simp only [h_a4_2, zu, ↓reduceIte]; (repeat' split) <;> first | omega | (exact q (by omega))) | exact R_tr c hc), by (intro c hc; first | (have q := fun h => R_pl c h; simp only [h_a4_2, zu, ↓reduceIte]; (repeat' split) <;> first | omega | (exact q (by omega))) | exact R_pl c hc), by (intro c hc; first | (have q := fun h => R_te c h; simp only [h_a4_2, zu, ↓reduceIte]; (repeat' split) <;> first | omega | (exact q (by omega))) | exact R_te c hc), by (intro c hc; first | (have q := fun h => R_go c h; simp only [h_a4_2, zu, ↓reduceIte]; (repeat' split) <;> first | omega | (exact q (by omega))) | exact R_go c hc)⟩)))
       · first
         | (exfalso; omega)
         | (skip
            unfold f_HS_expel_9
            refine zk_dI3 ?_
            unfold f_HS_refuse
            refine zk_nE (fun v1_8 h_v1_8 => ?_)
            refine zk_gv (by omega) (by decide) (fun v2_7 h_v2_7 => ?_)
            refine zk_n ?_
            refine zk_sv (by omega) (by decide) (fun a4_3 h_a4_3 => ?_)
            refine zk_rI3 ?_
            refine zk_rI5 ?_
            refine zk_dI5 ?_
            unfold f_HM_expel
            refine zk_nE (fun v1_9 h_v1_9 => ?_)
            rw [zwi (by omega)] at h_v1_9
            replace h_v1_9 := h_v1_9.symm
            subst h_v1_9
            refine zk_d1 (s_HM_in _ _ _ (by omega) (by omega) (by omega)) (fun v2_8 hp_17 => ?_)
            try dsimp only at hp_17
            have hp_17p0 := hp_17
            refine zk_ifc (zci_ner (by omega)) (fun hc_10 => ?_) (fun hc_10 => ?_)
            · first
              | (exfalso; omega)
              | (skip
                 refine zk_d1 (s_HM_isChild _ _ (by omega) h_t4) (fun v3_7 hp_18 => ?_)
                 try dsimp only at hp_18
                 obtain ⟨hp_18p0, hp_18p1⟩ := hp_18
                 refine zk_ifc (zci_eqr (by omega)) (fun hc_11 => ?_) (fun hc_11 => ?_)
                 · first
                   | (exfalso; omega)
                   | (skip
                      refine zk_d3 (s_HM_tell _ _ _ (by omega)) (fun v4_4 v5_4 a6_4 hp_19 => ?_)
                      try dsimp only at hp_19
                      obtain ⟨hp_19p0, hp_19p1⟩ := hp_19
                      refine zk_rI5 ?_
                      refine zk_ret ?_
                      try dsimp only
                      exact ⟨by omega, by omega, by omega, h_t35, h_t4, by first | omega | (simp only [h_a4_3, zu, ↓reduceIte]; (repeat' split) <;> omega), by first | omega | (simp only [h_a4_3, zu, ↓reduceIte]; (repeat' split) <;> omega), by first | omega | (simp only [h_a4_3, zu, ↓reduceIte]; (repeat' split) <;> omega), by (intro c hc; first | (have q := fun h => R_st c h; simp only [h_a4_3, zu, ↓reduceIte]; (repeat' split) <;> first | omega | (exact q (by omega))) | exact R_st c hc), by (intro c hc; first | (have q := fun h => R_ex c h; simp only [h_a4_3, zu, ↓reduceIte]; (repeat' split) <;> first | omega | (exact q (by omega))) | exact R_ex c hc), by (intro c hc; first | (have q := fun h => R_tr c h; simp only [h_a4_3, zu, ↓reduceIte]; (repeat' split) <;> first | omega | (exact q (by omega))) | exact R_tr c hc), by (intro c hc; first | (have q := fun h => R_pl c h; simp only [h_a4_3, zu, ↓reduceIte]; (repeat' split) <;> first | omega | (exact q (by omega))) | exact R_pl c hc), by (intro c hc; first | (have q := fun h => R_te c h; simp only [h_a4_3, zu, ↓reduceIte]; (repeat' split) <;> first | omega | (exact q (by omega))) | exact R_te c hc), by (intro c hc; first | (have q := fun h => R_go c h; simp only [h_a4_3, zu, ↓reduceIte]; (repeat' split) <;> first | omega | (exact q (by omega))) | exact R_go c hc)⟩)
                 · first
                   | (exfalso; omega)
                   | (skip
                      refine zk_n ?_
                      refine zk_n ?_
                      refine zk_n ?_
                      refine zk_d3 (s_HM_change _ _ _ _ (by omega)) (fun v10_4 v11_4 a12_4 hp_20 => ?_)
                      try dsimp only at hp_20
                      obtain ⟨hp_20p0, hp_20p1, hp_20p2⟩ := hp_20
                      have i_a12_4 : RI a12_4 := by rw [hp_20p2]; exact RIz_c h_t4 (by omega) (by omega)
                      refine zk_rI5 ?_
                      refine zk_ret ?_
                      try dsimp only
                      exact ⟨by omega, by omega, by omega, h_t35, i_a12_4, by first | omega | (simp only [hp_20p2, h_a4_3, zu, ↓reduceIte]; (repeat' split) <;> omega), by first | omega | (simp only [hp_20p2, h_a4_3, zu, ↓reduceIte]; (repeat' split) <;> omega), by first | omega | (simp only [hp_20p2, h_a4_3, zu, ↓reduceIte]; (repeat' split) <;> omega), by (intro c hc; first | (have q := fun h => R_st c h; simp only [hp_20p2, h_a4_3, zu, ↓reduceIte]; (repeat' split) <;> first | omega | (exact q (by omega))) | exact R_st c hc), by (intro c hc; first | (have q := fun h => R_ex c h; simp only [hp_20p2, h_a4_3, zu, ↓reduceIte]; (repeat' split) <;> first | omega | (exact q (by omega))) | exact R_ex c hc), by (intro c hc; first | (have q := fun h => R_tr c h; simp only [hp_20p2, h_a4_3, zu, ↓reduceIte]; (repeat' split) <;> first | omega | (exact q (by omega))) | exact R_tr c hc), by (intro c hc; first | (have q := fun h => R_pl c h; simp only [hp_20p2, h_a4_3, zu, ↓reduceIte]; (repeat' split) <;> first | omega | (exact q (by omega))) | exact R_pl c hc), by (intro c hc; first | (have q := fun h => R_te c h; simp only [hp_20p2, h_a4_3, zu, ↓reduceIte]; (repeat' split) <;> first | omega | (exact q (by omega))) | exact R_te c hc), by (intro c hc; first | (have q := fun h => R_go c h; simp only [hp_20p2, h_a4_3, zu, ↓reduceIte]; (repeat' split) <;> first | omega | (exact q (by omega))) | exact R_go c hc)⟩))
            · first
              | (exfalso; omega)
              | (skip
                 refine zk_d3 (s_HM_tell _ _ _ (by omega)) (fun v13_4 v14_4 a15_4 hp_21 => ?_)
                 try dsimp only at hp_21
                 obtain ⟨hp_21p0, hp_21p1⟩ := hp_21
                 refine zk_rI5 ?_
                 refine zk_ret ?_
                 try dsimp only
                 exact ⟨by omega, by omega, by omega, h_t35, h_t4, by first | omega | (simp only [h_a4_3, zu, ↓reduceIte]; (repeat' split) <;> omega), by first | omega | (simp only [h_a4_3, zu, ↓reduceIte]; (repeat' split) <;> omega), by first | omega | (simp only [h_a4_3, zu, ↓reduceIte]; (repeat' split) <;> omega), by (intro c hc; first | (have q := fun h => R_st c h; simp only [h_a4_3, zu, ↓reduceIte]; (repeat' split) <;> first | omega | (exact q (by omega))) | exact R_st c hc), by (intro c hc; first | (have q := fun h => R_ex c h; simp only [h_a4_3, zu, ↓reduceIte]; (repeat' split) <;> first | omega | (exact q (by omega))) | exact R_ex c hc), by (intro c hc; first | (have q := fun h => R_tr c h; simp only [h_a4_3, zu, ↓reduceIte]; (repeat' split) <;> first | omega | (exact q (by omega))) | exact R_tr c hc), by (intro c hc; first | (have q := fun h => R_pl c h; simp only [h_a4_3, zu, ↓reduceIte]; (repeat' split) <;> first | omega | (exact q (by omega))) | exact R_pl c hc), by (intro c hc; first | (have q := fun h => R_te c h; simp only [h_a4_3, zu, ↓reduceIte]; (repeat' split) <;> first | omega | (exact q (by omega))) | exact R_te c hc), by (intro c hc; first | (have q := fun h => R_go c h; simp only [h_a4_3, zu, ↓reduceIte]; (repeat' split) <;> first | omega | (exact q (by omega))) | exact R_go c hc)⟩)))
set_option maxHeartbeats 4000000 in
set_option maxRecDepth 10000 in
theorem st_6 (N : Int) (σ : Nat → Int) (τ : Nat → Nat → Int) (hI : INV N σ τ) (a1 : Int) (a2 : Int) (b_a1 : (-2147483648) ≤ a1 ∧ a1 ≤ 2147483647) (b_a2 : (-2147483648) ≤ a2 ∧ a2 ≤ 2147483647) : zok (f_OP_6 N a1 a2 (σ 3) (σ 4) (σ 5) (σ 26) (σ 27) (σ 30) (σ 49) (τ 2) (τ 3) (τ 4) (τ 34) (τ 35) (τ 36) (τ 37) (τ 38) (τ 39)) (fun o => (o.1 = o.2.1) ∧ INV (N + 6) (zst σ [(3, o.2.2.1), (4, o.2.2.2.1), (5, o.2.2.2.2.1), (30, o.2.2.2.2.2.1)]) (zta τ [(2, o.2.2.2.2.2.2.1), (3, o.2.2.2.2.2.2.2.1), (4, o.2.2.2.2.2.2.2.2.1), (35, o.2.2.2.2.2.2.2.2.2)])) := by
  have zg1 := hI.2
  have zg2 := zg1.2
  have zg3 := zg2.2
  have zg4 := zg3.2
  have zg5 := zg4.2
  have zg6 := zg5.2
  have zg7 := zg6.2
  have zg8 := zg7.2
  have zg9 := zg8.2
  have zg10 := zg9.2
  have zg11 := zg10.2
  have zg12 := zg11.2
  have zg13 := zg12.2
  have zg14 := zg13.2
  have zg15 := zg14.2
  have zg16 := zg15.2
  have zg17 := zg16.2
  have zg18 := zg17.2
  have zg19 := zg18.2
  have zg20 := zg19.2
  have zg21 := zg20.2
  have zg22 := zg21.2
  have zg23 := zg22.2
  have zg24 := zg23.2
  have zg25 := zg24.2
  have zg26 := zg25.2
  have zg27 := zg26.2
  have zg28 := zg27.2
  have zg29 := zg28.2
  have zg30 := zg29.2
  have zg31 := zg30.2
  have zg32 := zg31.2
  have zg33 := zg32.2
  have zg34 := zg33.2
  have zg35 := zg34.2
  have zg36 := zg35.2
  have zg37 := zg36.2
  have zg38 := zg37.2
  have zg39 := zg38.2
  have zg40 := zg39.2
  have zg41 := zg40.2
  have zg42 := zg41.2
  have zg43 := zg42.2
  have zg44 := zg43.2
  have zg45 := zg44.2
  have zg46 := zg45.2
  have zg47 := zg46.2
  have zg48 := zg47.2
  have zg49 := zg48.2
  have zg50 := zg49.2
  have zg51 := zg50.2
  have zg52 := zg51.2
  have zg53 := zg52.2
  have zg54 := zg53.2
  have zg55 := zg54.2
  have zg56 := zg55.2
  have zg57 := zg56.2
  have zg58 := zg57.2
  have zg59 := zg58.2
  have zg60 := zg59.2
  have zg61 := zg60.2
  have zg62 := zg61.2
  have zg63 := zg62.2
  have zg64 := zg63.2
  have zg65 := zg64.2
  have zg66 := zg65.2
  have zg67 := zg66.2
  have zg68 := zg67.2
  have zg69 := zg68.2
  have zg70 := zg69.2
  have zg71 := zg70.2
  have zg72 := zg71.2
  have zg73 := zg72.2
  have zg74 := zg73.2
  have zg75 := zg74.2
  have zg76 := zg75.2
  have zg77 := zg76.2
  have zg78 := zg77.2
  have zg79 := zg78.2
  have zg80 := zg79.2
  have zg81 := zg80.2
  have zg82 := zg81.2
  have zg83 := zg82.2
  have zg84 := zg83.2
  have zg85 := zg84.2
  have zg86 := zg85.2
  have zg87 := zg86.2
  have zg88 := zg87.2
  have zg89 := zg88.2
  have zg90 := zg89.2
  have zg91 := zg90.2
  have zg92 := zg91.2
  have zg93 := zg92.2
  have zg94 := zg93.2
  have zg95 := zg94.2
  have zg96 := zg95.2
  have zg97 := zg96.2
  have zg98 := zg97.2
  have zg99 := zg98.2
  have zg100 := zg99.2
  have zg101 := zg100.2
  have zg102 := zg101.2
  have zg103 := zg102.2
  have zg104 := zg103.2
  have zg105 := zg104.2
  have zg106 := zg105.2
  have zg107 := zg106.2
  have zg108 := zg107.2
  have zg109 := zg108.2
  have zg110 := zg109.2
  have zg111 := zg110.2
  have zg112 := zg111.2
  have zg113 := zg112.2
  have zg114 := zg113.2
  have zg115 := zg114.2
  have zg116 := zg115.2
  have zg117 := zg116.2
  have zg118 := zg117.2
  have zg119 := zg118.2
  have zg120 := zg119.2
  have zg121 := zg120.2
  have zg122 := zg121.2
  have zg123 := zg122.2
  have zg124 := zg123.2
  have zg125 := zg124.2
  have I_s3 := zg2.1
  have I_s26 := zg3.1
  have I_s27 := zg4.1
  have I_s49 := zg21.1
  have I_t4 := zg99.1
  have I_t34 := zg45.1
  have I_t35 := zg46.1
  have I_t36 := zg47.1
  have I_t37 := zg48.1
  have I_t38 := zg49.1
  have I_t39 := zg50.1
  have I_s30 := zg42.1
  have R_many := zg113.1
  have R_ch := zg114.1
  have R_pa := zg115.1
  have R_st := zg116.1
  have R_ex := zg117.1
  have R_tr := zg118.1
  have R_pl := zg119.1
  have R_te := zg120.1
  have R_go := zg121.1
  refine zok_mono (s_OP_6 N a1 a2 (σ 3) (σ 4) (σ 5) (σ 26) (σ 27) (σ 30) (σ 49) (τ 2) (τ 3) (τ 4) (τ 34) (τ 35) (τ 36) (τ 37) (τ 38) (τ 39) b_a1 b_a2 I_s3 I_s26 I_s27 I_s49 I_t4 I_t34 I_t35 I_t36 I_t37 I_t38 I_t39 I_s30 R_many R_ch R_pa R_st R_ex R_tr R_pl R_te R_go) (fun o ho => ?_)
  obtain ⟨p0, p1, p2, p3, p4, p5, p6, p7, p8, p9, p10, p11, p12, p13⟩ := ho
  exact ⟨p0, ⟨hI.1, zg1.1, p1, zg3.1, zg4.1, zg5.1, zg6.1, zg7.1, zg8.1, zg9.1, zg10.1, zg11.1, zg12.1, zg13.1, zg14.1, zg15.1, zg16.1, zg17.1, zg18.1, zg19.1, zg20.1, zg21.1, zg22.1, zg23.1, zg24.1, zg25.1, zg26.1, zg27.1, zg28.1, zg29.1, zg30.1, zg31.1, zg32.1, zg33.1, zg34.1, zg35.1, zg36.1, zg37.1, zg38.1, zg39.1, zg40.1, zg41.1, p2, zg43.1, zg44.1, zg45.1, p3, zg47.1, zg48.1, zg49.1, zg50.1, zg51.1, zg52.1, zg53.1, zg54.1, zg55.1, zg56.1, zg57.1, zg58.1, zg59.1, zg60.1, zg61.1, zg62.1, zg63.1, zg64.1, zg65.1, zg66.1, zg67.1, zg68.1, zg69.1, zg70.1, zg71.1, zg72.1, zg73.1, zg74.1, zg75.1, zg76.1, zg77.1, zg78.1, zg79.1, zg80.1, zg81.1, zg82.1, zg83.1, zg84.1, zg85.1, zg86.1, zg87.1, zg88.1, zg89.1, zg90.1, zg91.1, zg92.1, zg93.1, zg94.1, zg95.1, zg96.1, zg97.1, zg98.1, p4, zg100.1, zg101.1, zg102.1, zg103.1, zg104.1, zg105.1, zg106.1, zg107.1, zg108.1, zg109.1, zg110.1, zg111.1, zg112.1, p5, p6, p7, p8, p9, p10, p11, p12, p13, zg122.1, zg123.1, zg124.1, zg125⟩⟩
noncomputable def f_OP_7 (N : Int) (a1 : Int) (a2 : Int) (s4 : Int) (s26 : Int) (t4 : Nat → Int) (t34 : Nat → Int) (t35 : Nat → Int) (t36 : Nat → Int) : Option (Int × Int × Int) :=
  zd1 (f_HS_fact a1 a2 s26 t34 t35 t36) fun v108 =>
  zd2 (f_HM_fact a1 a2 t4 s4) fun v113 v114 =>
  some (v108, v113, v114)
set_option maxHeartbeats 4000000 in
theorem s_OP_7 (N : Int) (a1 : Int) (a2 : Int) (s4 : Int) (s26 : Int) (t4 : Nat → Int) (t34 : Nat → Int) (t35 : Nat → Int) (t36 : Nat → Int) (b_a1 : (-2147483648) ≤ a1 ∧ a1 ≤ 2147483647) (b_a2 : (-2147483648) ≤ a2 ∧ a2 ≤ 2147483647) (b_s26 : 0 ≤ s26 ∧ s26 ≤ 6) (h_t4 : RI t4) (h_t34 : zR t34 0 60) (h_t35 : zR t35 0 1) (h_t36 : zR t36 0 20) (R_ch : s26 = t4 1) (R_st : RV 3 153 s26 t34 t4) (R_ex : RV 3 154 s26 t35 t4) (R_tr : RV 3 155 s26 t36 t4) : zok (f_OP_7 N a1 a2 s4 s26 t4 t34 t35 t36) (fun o => (o.1 = o.2.1)) := by
  unfold f_OP_7
  have q_st : (a1 < 0 ∨ s26 ≤ a1 ∨ a2 ≠ 0) ∨ t34 a1.toNat = t4 (153 + 3 * a1 + a2).toNat := by
    by_cases h : a1 < 0 ∨ s26 ≤ a1 ∨ a2 ≠ 0
    · exact Or.inl h
    · exact Or.inr (RV_at R_st (by omega) (by omega) (by omega))
  have q_ex : (a1 < 0 ∨ s26 ≤ a1 ∨ a2 ≠ 1) ∨ t35 a1.toNat = t4 (153 + 3 * a1 + a2).toNat := by
    by_cases h : a1 < 0 ∨ s26 ≤ a1 ∨ a2 ≠ 1
    · exact Or.inl h
    · exact Or.inr (RV_at R_ex (by omega) (by omega) (by omega))
  have q_tr : (a1 < 0 ∨ s26 ≤ a1 ∨ a2 ≠ 2) ∨ t36 a1.toNat = t4 (153 + 3 * a1 + a2).toNat := by
    by_cases h : a1 < 0 ∨ s26 ≤ a1 ∨ a2 ≠ 2
    · exact Or.inl h
    · exact Or.inr (RV_at R_tr (by omega) (by omega) (by omega))
  refine zk_dI1 ?_
  unfold f_HS_fact
  refine zk_d1 (s_Hill_hasChild _ _ (by omega) (by omega)) (fun v1 hp => ?_)
  try dsimp only at hp
  obtain ⟨hpp0, hpp1⟩ := hp
  refine zk_ifc (zci_ner (by omega)) (fun hc => ?_) (fun hc => ?_)
  · first
    | (exfalso; omega)
    | (skip
       refine zk_ifc (zci_eqr (by omega)) (fun hc_2 => ?_) (fun hc_2 => ?_)
       · first
         | (exfalso; omega)
         | (skip
            refine zk_gv (by omega) (by decide) (fun v2 h_v2 => ?_)
            have r_v2 := h_t34 (a1.toNat)
            refine zk_rI1 ?_
            refine zk_dI2 ?_
            unfold f_HM_fact
            refine zk_d1 (s_HM_isChild _ _ (by omega) h_t4) (fun v1_2 hp_2 => ?_)
            try dsimp only at hp_2
            obtain ⟨hp_2p0, hp_2p1⟩ := hp_2
            refine zk_ifc (zci_eqr (by omega)) (fun hc_3 => ?_) (fun hc_3 => ?_)
            · first
              | (exfalso; omega)
              | (skip
                 refine zk_rI2 ?_
                 refine zk_ret ?_
                 try dsimp only
                 all_goals exact (by omega))
            · first
              | (exfalso; omega)
              | (skip
                 refine zk_nE (fun v2_2 h_v2_2 => ?_)
                 rw [zwi (by omega)] at h_v2_2
                 replace h_v2_2 := h_v2_2.symm
                 subst h_v2_2
                 refine zk_d1 (s_HM_in _ _ _ (by omega) (by omega) (by omega)) (fun v3 hp_3 => ?_)
                 try dsimp only at hp_3
                 have hp_3p0 := hp_3
                 refine zk_ifc (zci_eqr (by omega)) (fun hc_4 => ?_) (fun hc_4 => ?_)
                 · first
                   | (exfalso; omega)
                   | (skip
                      refine zk_rI2 ?_
                      refine zk_ret ?_
                      try dsimp only
                      all_goals exact (by omega))
                 · first
                   | (exfalso; omega)
                   | (skip
                      refine zk_n ?_
                      refine zk_n ?_
                      refine zk_n ?_
                      refine zk_gv (by omega) (by decide) (fun v7 h_v7 => ?_)
                      have r_v7 := RI_c h_t4 (i := ((153 + (3 * a1)) + a2)) (by omega)
                      refine zk_rI2 ?_
                      refine zk_ret ?_
                      try dsimp only
                      all_goals exact (by omega))))
       · first
         | (exfalso; omega)
         | (skip
            refine zk_ifc (zci_eqr (by omega)) (fun hc_5 => ?_) (fun hc_5 => ?_)
            · first
              | (exfalso; omega)
              | (skip
                 refine zk_gv (by omega) (by decide) (fun v3_2 h_v3_2 => ?_)
                 have r_v3_2 := h_t35 (a1.toNat)
                 refine zk_rI1 ?_
                 refine zk_dI2 ?_
                 unfold f_HM_fact
                 refine zk_d1 (s_HM_isChild _ _ (by omega) h_t4) (fun v1_3 hp_4 => ?_)
                 try dsimp only at hp_4
                 obtain ⟨hp_4p0, hp_4p1⟩ := hp_4
                 refine zk_ifc (zci_eqr (by omega)) (fun hc_6 => ?_) (fun hc_6 => ?_)
                 · first
                   | (exfalso; omega)
                   | (skip
                      refine zk_rI2 ?_
                      refine zk_ret ?_
                      try dsimp only
                      all_goals exact (by omega))
                 · first
                   | (exfalso; omega)
                   | (skip
                      refine zk_nE (fun v2_3 h_v2_3 => ?_)
                      rw [zwi (by omega)] at h_v2_3
                      replace h_v2_3 := h_v2_3.symm
                      subst h_v2_3
                      refine zk_d1 (s_HM_in _ _ _ (by omega) (by omega) (by omega)) (fun v3_3 hp_5 => ?_)
                      try dsimp only at hp_5
                      have hp_5p0 := hp_5
                      refine zk_ifc (zci_eqr (by omega)) (fun hc_7 => ?_) (fun hc_7 => ?_)
                      · first
                        | (exfalso; omega)
                        | (skip
                           refine zk_rI2 ?_
                           refine zk_ret ?_
                           try dsimp only
                           all_goals exact (by omega))
                      · first
                        | (exfalso; omega)
                        | (skip
                           refine zk_n ?_
                           refine zk_n ?_
                           refine zk_n ?_
                           refine zk_gv (by omega) (by decide) (fun v7_2 h_v7_2 => ?_)
                           have r_v7_2 := RI_c h_t4 (i := ((153 + (3 * a1)) + a2)) (by omega)
                           refine zk_rI2 ?_
                           refine zk_ret ?_
                           try dsimp only
                           all_goals exact (by omega))))
            · first
              | (exfalso; omega)
              | (skip
                 refine zk_ifc (zci_eqr (by omega)) (fun hc_8 => ?_) (fun hc_8 => ?_)
                 · first
                   | (exfalso; omega)
                   | (skip
                      refine zk_gv (by omega) (by decide) (fun v4_3 h_v4_3 => ?_)
                      have r_v4_3 := h_t36 (a1.toNat)
                      refine zk_rI1 ?_
                      refine zk_dI2 ?_
                      unfold f_HM_fact
                      refine zk_d1 (s_HM_isChild _ _ (by omega) h_t4) (fun v1_4 hp_6 => ?_)
                      try dsimp only at hp_6
                      obtain ⟨hp_6p0, hp_6p1⟩ := hp_6
                      refine zk_ifc (zci_eqr (by omega)) (fun hc_9 => ?_) (fun hc_9 => ?_)
                      · first
                        | (exfalso; omega)
                        | (skip
                           refine zk_rI2 ?_
                           refine zk_ret ?_
                           try dsimp only
                           all_goals exact (by omega))
                      · first
                        | (exfalso; omega)
                        | (skip
                           refine zk_nE (fun v2_4 h_v2_4 => ?_)
                           rw [zwi (by omega)] at h_v2_4
                           replace h_v2_4 := h_v2_4.symm
                           subst h_v2_4
                           refine zk_d1 (s_HM_in _ _ _ (by omega) (by omega) (by omega)) (fun v3_4 hp_7 => ?_)
                           try dsimp only at hp_7
                           have hp_7p0 := hp_7
                           refine zk_ifc (zci_eqr (by omega)) (fun hc_10 => ?_) (fun hc_10 => ?_)
                           · first
                             | (exfalso; omega)
                             | (skip
                                refine zk_rI2 ?_
                                refine zk_ret ?_
                                try dsimp only
                                all_goals exact (by omega))
                           · first
                             | (exfalso; omega)
                             | (skip
                                refine zk_n ?_
                                refine zk_n ?_
                                refine zk_n ?_
                                refine zk_gv (by omega) (by decide) (fun v7_3 h_v7_3 => ?_)
                                have r_v7_3 := RI_c h_t4 (i := ((153 + (3 * a1)) + a2)) (by omega)
                                refine zk_rI2 ?_
                                refine zk_ret ?_
                                try dsimp only
                                all_goals exact (by omega))))
                 · first
                   | (exfalso; omega)
                   | (skip
                      refine zk_rI1 ?_
                      refine zk_dI2 ?_
                      unfold f_HM_fact
                      refine zk_d1 (s_HM_isChild _ _ (by omega) h_t4) (fun v1_5 hp_8 => ?_)
                      try dsimp only at hp_8
                      obtain ⟨hp_8p0, hp_8p1⟩ := hp_8
                      refine zk_ifc (zci_eqr (by omega)) (fun hc_11 => ?_) (fun hc_11 => ?_)
                      · first
                        | (exfalso; omega)
                        | (skip
                           refine zk_rI2 ?_
                           refine zk_ret ?_
                           try dsimp only
                           all_goals exact (by omega))
                      · first
                        | (exfalso; omega)
                        | (skip
                           refine zk_nE (fun v2_5 h_v2_5 => ?_)
                           rw [zwi (by omega)] at h_v2_5
                           replace h_v2_5 := h_v2_5.symm
                           subst h_v2_5
                           refine zk_d1 (s_HM_in _ _ _ (by omega) (by omega) (by omega)) (fun v3_5 hp_9 => ?_)
                           try dsimp only at hp_9
                           have hp_9p0 := hp_9
                           refine zk_ifc (zci_eqr (by omega)) (fun hc_12 => ?_) (fun hc_12 => ?_)
                           · first
                             | (exfalso; omega)
                             | (skip
                                refine zk_rI2 ?_
                                refine zk_ret ?_
                                try dsimp only
                                all_goals exact (by omega))
                           · first
                             | (exfalso; omega)
                             | (skip
                                refine zk_n ?_
                                refine zk_n ?_
                                refine zk_n ?_
                                refine zk_gv (by omega) (by decide) (fun v7_4 h_v7_4 => ?_)
                                have r_v7_4 := RI_c h_t4 (i := ((153 + (3 * a1)) + a2)) (by omega)
                                refine zk_rI2 ?_
                                refine zk_ret ?_
                                try dsimp only
                                all_goals exact (by omega)))))))
  · first
    | (exfalso; omega)
    | (skip
       refine zk_rI1 ?_
       refine zk_dI2 ?_
       unfold f_HM_fact
       refine zk_d1 (s_HM_isChild _ _ (by omega) h_t4) (fun v1_6 hp_10 => ?_)
       try dsimp only at hp_10
       obtain ⟨hp_10p0, hp_10p1⟩ := hp_10
       refine zk_ifc (zci_eqr (by omega)) (fun hc_13 => ?_) (fun hc_13 => ?_)
       · first
         | (exfalso; omega)
         | (skip
            refine zk_rI2 ?_
            refine zk_ret ?_
            try dsimp only
            all_goals exact (by omega))
       · first
         | (exfalso; omega)
         | (skip
            refine zk_nE (fun v2_6 h_v2_6 => ?_)
            rw [zwi (by omega)] at h_v2_6
            replace h_v2_6 := h_v2_6.symm
            subst h_v2_6
            refine zk_d1 (s_HM_in _ _ _ (by omega) (by omega) (by omega)) (fun v3_6 hp_11 => ?_)
            try dsimp only at hp_11
            have hp_11p0 := hp_11
            refine zk_ifc (zci_eqr (by omega)) (fun hc_14 => ?_) (fun hc_14 => ?_)
            · first
              | (exfalso; omega)
              | (skip
                 refine zk_rI2 ?_
                 refine zk_ret ?_
                 try dsimp only
                 all_goals exact (by omega))
            · first
              | (exfalso; omega)
              | (skip
                 refine zk_n ?_
                 refine zk_n ?_
                 refine zk_n ?_
                 refine zk_gv (by omega) (by decide) (fun v7_5 h_v7_5 => ?_)
                 have r_v7_5 := RI_c h_t4 (i := ((153 + (3 * a1)) + a2)) (by omega)
                 refine zk_rI2 ?_
                 refine zk_ret ?_
                 try dsimp only
                 all_goals exact (by omega))))
set_option maxHeartbeats 4000000 in
set_option maxRecDepth 10000 in
theorem st_7 (N : Int) (σ : Nat → Int) (τ : Nat → Nat → Int) (hI : INV N σ τ) (a1 : Int) (a2 : Int) (b_a1 : (-2147483648) ≤ a1 ∧ a1 ≤ 2147483647) (b_a2 : (-2147483648) ≤ a2 ∧ a2 ≤ 2147483647) : zok (f_OP_7 N a1 a2 (σ 4) (σ 26) (τ 4) (τ 34) (τ 35) (τ 36)) (fun o => (o.1 = o.2.1) ∧ INV (N + 6) (zst σ [(4, o.2.2)]) τ) := by
  have zg1 := hI.2
  have zg2 := zg1.2
  have zg3 := zg2.2
  have zg4 := zg3.2
  have zg5 := zg4.2
  have zg6 := zg5.2
  have zg7 := zg6.2
  have zg8 := zg7.2
  have zg9 := zg8.2
  have zg10 := zg9.2
  have zg11 := zg10.2
  have zg12 := zg11.2
  have zg13 := zg12.2
  have zg14 := zg13.2
  have zg15 := zg14.2
  have zg16 := zg15.2
  have zg17 := zg16.2
  have zg18 := zg17.2
  have zg19 := zg18.2
  have zg20 := zg19.2
  have zg21 := zg20.2
  have zg22 := zg21.2
  have zg23 := zg22.2
  have zg24 := zg23.2
  have zg25 := zg24.2
  have zg26 := zg25.2
  have zg27 := zg26.2
  have zg28 := zg27.2
  have zg29 := zg28.2
  have zg30 := zg29.2
  have zg31 := zg30.2
  have zg32 := zg31.2
  have zg33 := zg32.2
  have zg34 := zg33.2
  have zg35 := zg34.2
  have zg36 := zg35.2
  have zg37 := zg36.2
  have zg38 := zg37.2
  have zg39 := zg38.2
  have zg40 := zg39.2
  have zg41 := zg40.2
  have zg42 := zg41.2
  have zg43 := zg42.2
  have zg44 := zg43.2
  have zg45 := zg44.2
  have zg46 := zg45.2
  have zg47 := zg46.2
  have zg48 := zg47.2
  have zg49 := zg48.2
  have zg50 := zg49.2
  have zg51 := zg50.2
  have zg52 := zg51.2
  have zg53 := zg52.2
  have zg54 := zg53.2
  have zg55 := zg54.2
  have zg56 := zg55.2
  have zg57 := zg56.2
  have zg58 := zg57.2
  have zg59 := zg58.2
  have zg60 := zg59.2
  have zg61 := zg60.2
  have zg62 := zg61.2
  have zg63 := zg62.2
  have zg64 := zg63.2
  have zg65 := zg64.2
  have zg66 := zg65.2
  have zg67 := zg66.2
  have zg68 := zg67.2
  have zg69 := zg68.2
  have zg70 := zg69.2
  have zg71 := zg70.2
  have zg72 := zg71.2
  have zg73 := zg72.2
  have zg74 := zg73.2
  have zg75 := zg74.2
  have zg76 := zg75.2
  have zg77 := zg76.2
  have zg78 := zg77.2
  have zg79 := zg78.2
  have zg80 := zg79.2
  have zg81 := zg80.2
  have zg82 := zg81.2
  have zg83 := zg82.2
  have zg84 := zg83.2
  have zg85 := zg84.2
  have zg86 := zg85.2
  have zg87 := zg86.2
  have zg88 := zg87.2
  have zg89 := zg88.2
  have zg90 := zg89.2
  have zg91 := zg90.2
  have zg92 := zg91.2
  have zg93 := zg92.2
  have zg94 := zg93.2
  have zg95 := zg94.2
  have zg96 := zg95.2
  have zg97 := zg96.2
  have zg98 := zg97.2
  have zg99 := zg98.2
  have zg100 := zg99.2
  have zg101 := zg100.2
  have zg102 := zg101.2
  have zg103 := zg102.2
  have zg104 := zg103.2
  have zg105 := zg104.2
  have zg106 := zg105.2
  have zg107 := zg106.2
  have zg108 := zg107.2
  have zg109 := zg108.2
  have zg110 := zg109.2
  have zg111 := zg110.2
  have zg112 := zg111.2
  have zg113 := zg112.2
  have zg114 := zg113.2
  have zg115 := zg114.2
  have zg116 := zg115.2
  have zg117 := zg116.2
  have zg118 := zg117.2
  have zg119 := zg118.2
  have zg120 := zg119.2
  have zg121 := zg120.2
  have zg122 := zg121.2
  have zg123 := zg122.2
  have zg124 := zg123.2
  have zg125 := zg124.2
  have I_s26 := zg3.1
  have I_t4 := zg99.1
  have I_t34 := zg45.1
  have I_t35 := zg46.1
  have I_t36 := zg47.1
  have R_ch := zg114.1
  have R_st := zg116.1
  have R_ex := zg117.1
  have R_tr := zg118.1
  refine zok_mono (s_OP_7 N a1 a2 (σ 4) (σ 26) (τ 4) (τ 34) (τ 35) (τ 36) b_a1 b_a2 I_s26 I_t4 I_t34 I_t35 I_t36 R_ch R_st R_ex R_tr) (fun o ho => ?_)
  have p0 := ho
  exact ⟨p0, ⟨hI.1, zg1.1, zg2.1, zg3.1, zg4.1, zg5.1, zg6.1, zg7.1, zg8.1, zg9.1, zg10.1, zg11.1, zg12.1, zg13.1, zg14.1, zg15.1, zg16.1, zg17.1, zg18.1, zg19.1, zg20.1, zg21.1, zg22.1, zg23.1, zg24.1, zg25.1, zg26.1, zg27.1, zg28.1, zg29.1, zg30.1, zg31.1, zg32.1, zg33.1, zg34.1, zg35.1, zg36.1, zg37.1, zg38.1, zg39.1, zg40.1, zg41.1, ⟨zg42.1.1, Int.le_trans zg42.1.2 (Int.le_add_of_nonneg_right (by decide))⟩, zg43.1, zg44.1, zg45.1, zg46.1, zg47.1, zg48.1, zg49.1, zg50.1, zg51.1, zg52.1, zg53.1, zg54.1, zg55.1, zg56.1, zg57.1, zg58.1, zg59.1, zg60.1, zg61.1, zg62.1, zg63.1, zg64.1, zg65.1, zg66.1, zg67.1, zg68.1, zg69.1, zg70.1, zg71.1, zg72.1, zg73.1, zg74.1, zg75.1, zg76.1, zg77.1, zg78.1, zg79.1, zg80.1, zg81.1, zg82.1, zg83.1, zg84.1, zg85.1, zg86.1, zg87.1, zg88.1, zg89.1, zg90.1, zg91.1, zg92.1, zg93.1, zg94.1, zg95.1, zg96.1, zg97.1, zg98.1, zg99.1, zg100.1, zg101.1, zg102.1, zg103.1, zg104.1, zg105.1, zg106.1, zg107.1, zg108.1, zg109.1, zg110.1, zg111.1, zg112.1, zg113.1, zg114.1, zg115.1, zg116.1, zg117.1, zg118.1, zg119.1, zg120.1, zg121.1, zg122.1, zg123.1, zg124.1, zg125⟩⟩
end
section
noncomputable def f_OP_8 (N : Int) (a1 : Int) (s3 : Int) (s4 : Int) (s5 : Int) (s26 : Int) (s27 : Int) (s30 : Int) (s49 : Int) (t2 : Nat → Int) (t3 : Nat → Int) (t4 : Nat → Int) (t34 : Nat → Int) (t35 : Nat → Int) (t36 : Nat → Int) (t37 : Nat → Int) (t38 : Nat → Int) (t39 : Nat → Int) : Option (Int × Int × Int × Int × Int × Int × Int × (Nat → Int) × (Nat → Int) × (Nat → Int) × (Nat → Int)) :=
  zd6 (f_HS_parish a1 s49 s3 s27 s30 t2 t37) fun v117 v118 v119 v120 a121 a122 =>
  zd5 (f_HM_parish a1 s4 s5 t3 t4) fun v125 v126 v127 a128 a129 =>
  some (v117, v125, v118, v126, v127, v119, v120, a121, a128, a129, a122)
set_option maxHeartbeats 4000000 in
theorem s_OP_8 (N : Int) (a1 : Int) (s3 : Int) (s4 : Int) (s5 : Int) (s26 : Int) (s27 : Int) (s30 : Int) (s49 : Int) (t2 : Nat → Int) (t3 : Nat → Int) (t4 : Nat → Int) (t34 : Nat → Int) (t35 : Nat → Int) (t36 : Nat → Int) (t37 : Nat → Int) (t38 : Nat → Int) (t39 : Nat → Int) (b_a1 : (-2147483648) ≤ a1 ∧ a1 ≤ 2147483647) (b_s3 : (-6) ≤ s3 ∧ s3 ≤ 0) (b_s26 : 0 ≤ s26 ∧ s26 ≤ 6) (b_s27 : 0 ≤ s27 ∧ s27 ≤ 6) (b_s49 : 0 ≤ s49 ∧ s49 ≤ 12) (h_t4 : RI t4) (h_t34 : zR t34 0 60) (h_t35 : zR t35 0 1) (h_t36 : zR t36 0 20) (h_t37 : zR t37 0 11) (h_t38 : zR t38 0 99) (h_t39 : zR t39 (-1) 10) (I_s30 : 0 ≤ s30 ∧ s30 ≤ N) (R_many : s49 = t4 0) (R_ch : s26 = t4 1) (R_pa : s27 = t4 2) (R_st : RV 3 153 s26 t34 t4) (R_ex : RV 3 154 s26 t35 t4) (R_tr : RV 3 155 s26 t36 t4) (R_pl : RV 1 171 s27 t37 t4) (R_te : RV 1 5 4 t38 t4) (R_go : RV 1 141 s49 t39 t4) : zok (f_OP_8 N a1 s3 s4 s5 s26 s27 s30 s49 t2 t3 t4 t34 t35 t36 t37 t38 t39) (fun o => (o.1 = o.2.1) ∧ ((-6) ≤ o.2.2.1 ∧ o.2.2.1 ≤ 0) ∧ (0 ≤ o.2.2.2.2.2.1 ∧ o.2.2.2.2.2.1 ≤ 6) ∧ (0 ≤ o.2.2.2.2.2.2.1 ∧ o.2.2.2.2.2.2.1 ≤ N + 6) ∧ zR o.2.2.2.2.2.2.2.2.2.2 0 11 ∧ RI o.2.2.2.2.2.2.2.2.2.1 ∧ (s49 = o.2.2.2.2.2.2.2.2.2.1 0) ∧ (s26 = o.2.2.2.2.2.2.2.2.2.1 1) ∧ (o.2.2.2.2.2.1 = o.2.2.2.2.2.2.2.2.2.1 2) ∧ (RV 3 153 s26 t34 o.2.2.2.2.2.2.2.2.2.1) ∧ (RV 3 154 s26 t35 o.2.2.2.2.2.2.2.2.2.1) ∧ (RV 3 155 s26 t36 o.2.2.2.2.2.2.2.2.2.1) ∧ (RV 1 171 o.2.2.2.2.2.1 o.2.2.2.2.2.2.2.2.2.2 o.2.2.2.2.2.2.2.2.2.1) ∧ (RV 1 5 4 t38 o.2.2.2.2.2.2.2.2.2.1) ∧ (RV 1 141 s49 t39 o.2.2.2.2.2.2.2.2.2.1)) := by
  unfold f_OP_8
  refine zk_dI6 ?_
  unfold f_HS_parish
  refine zk_d1 (s_Columns_has _ _ (by omega) (by omega)) (fun v1 hp => ?_)
  try dsimp only at hp
  obtain ⟨hpp0, hpp1⟩ := hp
  refine zk_ifc (zci_ner (by omega)) (fun hc => ?_) (fun hc => ?_)
  · first
    | (exfalso; omega)
    | (skip
       refine zk_ifc (zci_lt (by omega) (by omega)) (fun hc_2 => ?_) (fun hc_2 => ?_)
       · first
         | (exfalso; omega)
         | (skip
            refine zk_sv (by omega) (by decide) (fun a2 h_a2 => ?_)
            have i_a2 : zR a2 0 11 := by rw [h_a2]; exact zR_zu h_t37 (by decide) (by decide) (by omega)
            refine zk_n ?_
            refine zk_dI3 ?_
            unfold f_HS_accept
            refine zk_n ?_
            refine zk_rI3 ?_
            refine zk_rI6 ?_
            refine zk_dI5 ?_
            unfold f_HM_parish
            refine zk_d1 (s_HM_isColumn _ _ (by omega) h_t4) (fun v1_3 hp_2 => ?_)
            try dsimp only at hp_2
            obtain ⟨hp_2p0, hp_2p1⟩ := hp_2
            refine zk_ifc (zci_ner (by omega)) (fun hc_3 => ?_) (fun hc_3 => ?_)
            · first
              | (exfalso; omega)
              | (skip
                 refine zk_gl 2 rfl (by decide) (by decide) (fun v2 h_v2 => ?_)
                 have r_v2 := RI_2 h_t4
                 refine zk_ifc (zci_ne (by omega) (by omega)) (fun hc_4 => ?_) (fun hc_4 => ?_)
                 · first
                   | (exfalso; omega)
                   | (skip
                      refine zk_n ?_
                      refine zk_sv (by omega) (by decide) (fun a4 h_a4 => ?_)
                      have i_a4 : RI a4 := by rw [h_a4]; exact RIz_p h_t4 (by omega) (by omega)
                      refine zk_gl 2 rfl (by decide) (by decide) (fun v5 h_v5 => ?_)
                      have z_v5_a4 := zu_rd h_a4 (2)
                      have r_v5 := RI_2 i_a4
                      refine zk_n ?_
                      refine zk_sl 2 rfl (by decide) (by decide) (fun a7 h_a7 => ?_)
                      have i_a7 : RI a7 := by rw [h_a7]; exact RIz_2 i_a4 (by omega)
                      refine zk_d3 (s_HM_tell _ _ _ (by omega)) (fun v8 v9 a10 hp_3 => ?_)
                      try dsimp only at hp_3
                      obtain ⟨hp_3p0, hp_3p1⟩ := hp_3
                      refine zk_rI5 ?_
                      refine zk_ret ?_
                      try dsimp only
                      exact ⟨by omega, by omega, by omega, by omega, i_a2, i_a7, by first | omega | (simp only [h_a7, h_a4, h_a2, zu, ↓reduceIte]; (repeat' split) <;> omega), by first | omega | (simp only [h_a7, h_a4, h_a2, zu, ↓reduceIte]; (repeat' split) <;> omega), by first | omega | (simp only [h_a7, h_a4, h_a2, zu, ↓reduceIte]; (repeat' split) <;> omega), by (intro c hc; first | (have q := fun h => R_st c h; simp only [h_a7, h_a4, h_a2, zu, ↓reduceIte]; (repeat' split) <;> first | omega | (exact q (by omega))) | exact R_st c hc), by (intro c hc; first | (have q := fun h => R_ex c h; simp only [h_a7, h_a4, h_a2, zu, ↓reduceIte]; (repeat' split) <;> first | omega | (exact q (by omega))) | exact R_ex c hc), by (intro c hc; first | (have q := fun h => R_tr c h; simp only [h_a7, h_a4, h_a2, zu, ↓reduceIte]; (repeat' split) <;> first | omega | (exact q (by omega))) | exact R_tr c hc), by (intro c hc; first | (have q := fun h => R_pl c h; simp only [h_a7, h_a4, h_a2, zu, ↓reduceIte]; (repeat' split) <;> first | omega | (exact q (by omega))) | exact R_pl c hc), by (intro c hc; first | (have q := fun h => R_te c h; simp only [h_a7, h_a4, h_a2, zu, ↓reduceIte]; (repeat' split) <;> first | omega | (exact q (by omega))) | exact R_te c hc), by (intro c hc; first | (have q := fun h => R_go c h; simp only [h_a7, h_a4, h_a2, zu, ↓reduceIte]; (repeat' split) <;> first | omega | (exact q (by omega))) | exact R_go c hc)⟩)
                 · first
                   | (exfalso; omega)
                   | (skip
                      refine zk_d3 (s_HM_tell _ _ _ (by omega)) (fun v11 v12 a13 hp_4 => ?_)
                      try dsimp only at hp_4
                      obtain ⟨hp_4p0, hp_4p1⟩ := hp_4
                      refine zk_rI5 ?_
                      refine zk_ret ?_
                      try dsimp only
                      exact ⟨by omega, by omega, by omega, by omega, i_a2, h_t4, by first | omega | (simp only [h_a2, zu, ↓reduceIte]; (repeat' split) <;> omega), by first | omega | (simp only [h_a2, zu, ↓reduceIte]; (repeat' split) <;> omega), by first | omega | (simp only [h_a2, zu, ↓reduceIte]; (repeat' split) <;> omega), by (intro c hc; first | (have q := fun h => R_st c h; simp only [h_a2, zu, ↓reduceIte]; (repeat' split) <;> first | omega | (exact q (by omega))) | exact R_st c hc), by (intro c hc; first | (have q := fun h => R_ex c h; simp only [h_a2, zu, ↓reduceIte]; (repeat' split) <;> first | omega | (exact q (by omega))) | exact R_ex c hc), by (intro c hc; first | (have q := fun h => R_tr c h; simp only [h_a2, zu, ↓reduceIte]; (repeat' split) <;> first | omega | (exact q (by omega))) | exact R_tr c hc), by (intro c hc; first | (have q := fun h => R_pl c h; simp only [h_a2, zu, ↓reduceIte]; (repeat' split) <;> first | omega | (exact q (by omega))) | exact R_pl c hc), by (intro c hc; first | (have q := fun h => R_te c h; simp only [h_a2, zu, ↓reduceIte]; (repeat' split) <;> first | omega | (exact q (by omega))) | exact R_te c hc), by (intro c hc; first | (have q := fun h => R_go c h; simp only [h_a2, zu, ↓reduceIte]; (repeat' split) <;> first | omega | (exact q (by omega))) | exact R_go c hc)⟩))
            · first
              | (exfalso; omega)
              | (skip
                 refine zk_d3 (s_HM_tell _ _ _ (by omega)) (fun v14 v15 a16 hp_5 => ?_)
                 try dsimp only at hp_5
                 obtain ⟨hp_5p0, hp_5p1⟩ := hp_5
                 refine zk_rI5 ?_
                 refine zk_ret ?_
                 try dsimp only
                 exact ⟨by omega, by omega, by omega, by omega, i_a2, h_t4, by first | omega | (simp only [h_a2, zu, ↓reduceIte]; (repeat' split) <;> omega), by first | omega | (simp only [h_a2, zu, ↓reduceIte]; (repeat' split) <;> omega), by first | omega | (simp only [h_a2, zu, ↓reduceIte]; (repeat' split) <;> omega), by (intro c hc; first | (have q := fun h => R_st c h; simp only [h_a2, zu, ↓reduceIte]; (repeat' split) <;> first | omega | (exact q (by omega))) | exact R_st c hc), by (intro c hc; first | (have q := fun h => R_ex c h; simp only [h_a2, zu, ↓reduceIte]; (repeat' split) <;> first | omega | (exact q (by omega))) | exact R_ex c hc), by (intro c hc; first | (have q := fun h => R_tr c h; simp only [h_a2, zu, ↓reduceIte]; (repeat' split) <;> first | omega | (exact q (by omega))) | exact R_tr c hc), by (intro c hc; first | (have q := fun h => R_pl c h; simp only [h_a2, zu, ↓reduceIte]; (repeat' split) <;> first | omega | (exact q (by omega))) | exact R_pl c hc), by (intro c hc; first | (have q := fun h => R_te c h; simp only [h_a2, zu, ↓reduceIte]; (repeat' split) <;> first | omega | (exact q (by omega))) | exact R_te c hc), by (intro c hc; first | (have q := fun h => R_go c h; simp only [h_a2, zu, ↓reduceIte]; (repeat' split) <;> first | omega | (exact q (by omega))) | exact R_go c hc)⟩))
       · first
         | (exfalso; omega)
         | (skip
            refine zk_dI3 ?_
            unfold f_HS_refuse
            refine zk_nE (fun v1_4 h_v1_4 => ?_)
            refine zk_gv (by omega) (by decide) (fun v2_2 h_v2_2 => ?_)
            refine zk_n ?_
            refine zk_sv (by omega) (by decide) (fun a4_2 h_a4_2 => ?_)
            refine zk_rI3 ?_
            refine zk_rI6 ?_
            refine zk_dI5 ?_
            unfold f_HM_parish
            refine zk_d1 (s_HM_isColumn _ _ (by omega) h_t4) (fun v1_5 hp_6 => ?_)
            try dsimp only at hp_6
            obtain ⟨hp_6p0, hp_6p1⟩ := hp_6
            refine zk_ifc (zci_ner (by omega)) (fun hc_5 => ?_) (fun hc_5 => ?_)
            · first
              | (exfalso; omega)
              | (skip
                 refine zk_gl 2 rfl (by decide) (by decide) (fun v2_3 h_v2_3 => ?_)
                 have r_v2_3 := RI_2 h_t4
                 refine zk_ifc (zci_ne (by omega) (by omega)) (fun hc_6 => ?_) (fun hc_6 => ?_)
                 · first
                   | (exfalso; omega)
                   | (skip
                      refine zk_n ?_
                      refine zk_sv (by omega) (by decide) (fun a4_3 h_a4_3 => ?_)
                      have i_a4_3 : RI a4_3 := by rw [h_a4_3]; exact RIz_p h_t4 (by omega) (by omega)
                      refine zk_gl 2 rfl (by decide) (by decide) (fun v5_2 h_v5_2 => ?_)
                      have z_v5_2_a4_3 := zu_rd h_a4_3 (2)
                      have r_v5_2 := RI_2 i_a4_3
                      refine zk_n ?_
                      refine zk_sl 2 rfl (by decide) (by decide) (fun a7_2 h_a7_2 => ?_)
                      have i_a7_2 : RI a7_2 := by rw [h_a7_2]; exact RIz_2 i_a4_3 (by omega)
                      refine zk_d3 (s_HM_tell _ _ _ (by omega)) (fun v8_2 v9_2 a10_2 hp_7 => ?_)
                      try dsimp only at hp_7
                      obtain ⟨hp_7p0, hp_7p1⟩ := hp_7
                      refine zk_rI5 ?_
                      refine zk_ret ?_
                      try dsimp only
                      exact ⟨by omega, by omega, by omega, by omega, h_t37, i_a7_2, by first | omega | (simp only [h_a7_2, h_a4_3, h_a4_2, zu, ↓reduceIte]; (repeat' split) <;> omega), by first | omega | (simp only [h_a7_2, h_a4_3, h_a4_2, zu, ↓reduceIte]; (repeat' split) <;> omega), by first | omega | (simp only [h_a7_2, h_a4_3, h_a4_2, zu, ↓reduceIte]; (repeat' split) <;> omega), by (intro c hc; first | (have q := fun h => R_st c h; simp only [h_a7_2, h_a4_3, h_a4_2, zu, ↓reduceIte]; (repeat' split) <;> first | omega | (exact q (by omega))) | exact R_st c hc), by (intro c hc; first | (have q := fun h => R_ex c h; simp only [h_a7_2, h_a4_3, h_a4_2, zu, ↓reduceIte]; (repeat' split) <;> first | omega | (exact q (by omega))) | exact R_ex c hc), by (intro c hc; first | (have q := fun h => R_tr c h; simp only [h_a7_2, h_a4_3, h_a4_2, zu, ↓reduceIte]; (repeat' split) <;> first | omega | (exact q (by omega))) | exact R_tr c hc), by (intro c hc; first | (have q := fun h => R_pl c h; simp only [h_a7_2, h_a4_3, h_a4_2, zu, ↓reduceIte]; (repeat' split) <;> first | omega | (exact q (by omega))) | exact R_pl c hc), by (intro c hc; first | (have q := fun h => R_te c h; simp only [h_a7_2, h_a4_3, h_a4_2, zu, ↓reduceIte]; (repeat' split) <;> first | omega | (exact q (by omega))) | exact R_te c hc), by (intro c hc; first | (have q := fun h => R_go c h; simp only [h_a7_2, h_a4_3, h_a4_2, zu, ↓reduceIte]; (repeat' split) <;> first | omega | (exact q (by omega))) | exact R_go c hc)⟩)
                 · first
                   | (exfalso; omega)
                   | (skip
                      refine zk_d3 (s_HM_tell _ _ _ (by omega)) (fun v11_2 v12_2 a13_2 hp_8 => ?_)
                      try dsimp only at hp_8
                      obtain ⟨hp_8p0, hp_8p1⟩ := hp_8
                      refine zk_rI5 ?_
                      refine zk_ret ?_
                      try dsimp only
                      exact ⟨by omega, by omega, by omega, by omega, h_t37, h_t4, by first | omega | (simp only [h_a4_2, zu, ↓reduceIte]; (repeat' split) <;> omega), by first | omega | (simp only [h_a4_2, zu, ↓reduceIte]; (repeat' split) <;> omega), by first | omega | (simp only [h_a4_2, zu, ↓reduceIte]; (repeat' split) <;> omega), by (intro c hc; first | (have q := fun h => R_st c h; simp only [h_a4_2, zu, ↓reduceIte]; (repeat' split) <;> first | omega | (exact q (by omega))) | exact R_st c hc), by (intro c hc; first | (have q := fun h => R_ex c h; simp only [h_a4_2, zu, ↓reduceIte]; (repeat' split) <;> first | omega | (exact q (by omega))) | exact R_ex c hc), by (intro c hc; first | (have q := fun h => R_tr c h; simp only [h_a4_2, zu, ↓reduceIte]; (repeat' split) <;> first | omega | (exact q (by omega))) | exact R_tr c hc), by (intro c hc; first | (have q := fun h => R_pl c h; simp only [h_a4_2, zu, ↓reduceIte]; (repeat' split) <;> first | omega | (exact q (by omega))) | exact R_pl c hc), by (intro c hc; first | (have q := fun h => R_te c h; simp only [h_a4_2, zu, ↓reduceIte]; (repeat' split) <;> first | omega | (exact q (by omega))) | exact R_te c hc), by (intro c hc; first | (have q := fun h => R_go c h; simp only [h_a4_2, zu, ↓reduceIte]; (repeat' split) <;> first | omega | (exact q (by omega))) | exact R_go c hc)⟩))
            · first
              | (exfalso; omega)
              | (skip
                 refine zk_d3 (s_HM_tell _ _ _ (by omega)) (fun v14_2 v15_2 a16_2 hp_9 => ?_)
                 try dsimp only at hp_9
                 obtain ⟨hp_9p0, hp_9p1⟩ := hp_9
                 refine zk_rI5 ?_
                 refine zk_ret ?_
                 try dsimp only
                 exact ⟨by omega, by omega, by omega, by omega, h_t37, h_t4, by first | omega | (simp only [h_a4_2, zu, ↓reduceIte]; (repeat' split) <;> omega), by first | omega | (simp only [h_a4_2, zu, ↓reduceIte]; (repeat' split) <;> omega), by first | omega | (simp only [h_a4_2, zu, ↓reduceIte]; (repeat' split) <;> omega), by (intro c hc; first | (have q := fun h => R_st c h; simp only [h_a4_2, zu, ↓reduceIte]; (repeat' split) <;> first | omega | (exact q (by omega))) | exact R_st c hc), by (intro c hc; first | (have q := fun h => R_ex c h; simp only [h_a4_2, zu, ↓reduceIte]; (repeat' split) <;> first | omega | (exact q (by omega))) | exact R_ex c hc), by (intro c hc; first | (have q := fun h => R_tr c h; simp only [h_a4_2, zu, ↓reduceIte]; (repeat' split) <;> first | omega | (exact q (by omega))) | exact R_tr c hc), by (intro c hc; first | (have q := fun h => R_pl c h; simp only [h_a4_2, zu, ↓reduceIte]; (repeat' split) <;> first | omega | (exact q (by omega))) | exact R_pl c hc), by (intro c hc; first | (have q := fun h => R_te c h; simp only [h_a4_2, zu, ↓reduceIte]; (repeat' split) <;> first | omega | (exact q (by omega))) | exact R_te c hc), by (intro c hc; first | (have q := fun h => R_go c h; simp only [h_a4_2, zu, ↓reduceIte]; (repeat' split) <;> first | omega | (exact q (by omega))) | exact R_go c hc)⟩)))
  · first
    | (exfalso; omega)
    | (skip
       refine zk_dI3 ?_
       unfold f_HS_refuse
       refine zk_nE (fun v1_6 h_v1_6 => ?_)
       refine zk_gv (by omega) (by decide) (fun v2_4 h_v2_4 => ?_)
       refine zk_n ?_
       refine zk_sv (by omega) (by decide) (fun a4_4 h_a4_4 => ?_)
       refine zk_rI3 ?_
       refine zk_rI6 ?_
       refine zk_dI5 ?_
       unfold f_HM_parish
       refine zk_d1 (s_HM_isColumn _ _ (by omega) h_t4) (fun v1_7 hp_10 => ?_)
       try dsimp only at hp_10
       obtain ⟨hp_10p0, hp_10p1⟩ := hp_10
       refine zk_ifc (zci_ner (by omega)) (fun hc_7 => ?_) (fun hc_7 => ?_)
       · first
         | (exfalso; omega)
         | (skip
            refine zk_gl 2 rfl (by decide) (by decide) (fun v2_5 h_v2_5 => ?_)
            have r_v2_5 := RI_2 h_t4
            refine zk_ifc (zci_ne (by omega) (by omega)) (fun hc_8 => ?_) (fun hc_8 => ?_)
            · first
              | (exfalso; omega)
              | (skip
                 refine zk_n ?_
                 refine zk_sv (by omega) (by decide) (fun a4_5 h_a4_5 => ?_)
                 have i_a4_5 : RI a4_5 := by rw [h_a4_5]; exact RIz_p h_t4 (by omega) (by omega)
                 refine zk_gl 2 rfl (by decide) (by decide) (fun v5_3 h_v5_3 => ?_)
                 have z_v5_3_a4_5 := zu_rd h_a4_5 (2)
                 have r_v5_3 := RI_2 i_a4_5
                 refine zk_n ?_
                 refine zk_sl 2 rfl (by decide) (by decide) (fun a7_3 h_a7_3 => ?_)
                 have i_a7_3 : RI a7_3 := by rw [h_a7_3]; exact RIz_2 i_a4_5 (by omega)
                 refine zk_d3 (s_HM_tell _ _ _ (by omega)) (fun v8_3 v9_3 a10_3 hp_11 => ?_)
                 try dsimp only at hp_11
                 obtain ⟨hp_11p0, hp_11p1⟩ := hp_11
                 refine zk_rI5 ?_
                 refine zk_ret ?_
                 try dsimp only
                 exact ⟨by omega, by omega, by omega, by omega, h_t37, i_a7_3, by first | omega | (simp only [h_a7_3, h_a4_5, h_a4_4, zu, ↓reduceIte]; (repeat' split) <;> omega), by first | omega | (simp only [h_a7_3, h_a4_5, h_a4_4, zu, ↓reduceIte]; (repeat' split) <;> omega), by first | omega | (simp only [h_a7_3, h_a4_5, h_a4_4, zu, ↓reduceIte]; (repeat' split) <;> omega), by (intro c hc; first | (have q := fun h => R_st c h; simp only [h_a7_3, h_a4_5, h_a4_4, zu, ↓reduceIte]; (repeat' split) <;> first | omega | (exact q (by omega))) | exact R_st c hc), by (intro c hc; first | (have q := fun h => R_ex c h; simp only [h_a7_3, h_a4_5, h_a4_4, zu, ↓reduceIte]; (repeat' split) <;> first | omega | (exact q (by omega))) | exact R_ex c hc), by (intro c hc; first | (have q := fun h => R_tr c h; simp only [h_a7_3, h_a4_5, h_a4_4, zu, ↓reduceIte]; (repeat' split) <;> first | omega | (exact q (by omega))) | exact R_tr c hc), by (intro c hc; first | (have q := fun h => R_pl c h; simp only [h_a7_3, h_a4_5, h_a4_4, zu, ↓reduceIte]; (repeat' split) <;> first | omega | (exact q (by omega))) | exact R_pl c hc), by (intro c hc; first | (have q := fun h => R_te c h; simp only [h_a7_3, h_a4_5, h_a4_4, zu, ↓reduceIte]; (repeat' split) <;> first | omega | (exact q (by omega))) | exact R_te c hc), by (intro c hc; first | (have q := fun h => R_go c h; simp only [h_a7_3, h_a4_5, h_a4_4, zu, ↓reduceIte]; (repeat' split) <;> first | omega | (exact q (by omega))) | exact R_go c hc)⟩)
            · first
              | (exfalso; omega)
              | (skip
                 refine zk_d3 (s_HM_tell _ _ _ (by omega)) (fun v11_3 v12_3 a13_3 hp_12 => ?_)
                 try dsimp only at hp_12
                 obtain ⟨hp_12p0, hp_12p1⟩ := hp_12
                 refine zk_rI5 ?_
                 refine zk_ret ?_
                 try dsimp only
                 exact ⟨by omega, by omega, by omega, by omega, h_t37, h_t4, by first | omega | (simp only [h_a4_4, zu, ↓reduceIte]; (repeat' split) <;> omega), by first | omega | (simp only [h_a4_4, zu, ↓reduceIte]; (repeat' split) <;> omega), by first | omega | (simp only [h_a4_4, zu, ↓reduceIte]; (repeat' split) <;> omega), by (intro c hc; first | (have q := fun h => R_st c h; simp only [h_a4_4, zu, ↓reduceIte]; (repeat' split) <;> first | omega | (exact q (by omega))) | exact R_st c hc), by (intro c hc; first | (have q := fun h => R_ex c h; simp only [h_a4_4, zu, ↓reduceIte]; (repeat' split) <;> first | omega | (exact q (by omega))) | exact R_ex c hc), by (intro c hc; first | (have q := fun h => R_tr c h; simp only [h_a4_4, zu, ↓reduceIte]; (repeat' split) <;> first | omega | (exact q (by omega))) | exact R_tr c hc), by (intro c hc; first | (have q := fun h => R_pl c h; simp only [h_a4_4, zu, ↓reduceIte]; (repeat' split) <;> first | omega | (exact q (by omega))) | exact R_pl c hc), by (intro c hc; first | (have q := fun h => R_te c h; simp only [h_a4_4, zu, ↓reduceIte]; (repeat' split) <;> first | omega | (exact q (by omega))) | exact R_te c hc), by (intro c hc; first | (have q := fun h => R_go c h; simp only [h_a4_4, zu, ↓reduceIte]; (repeat' split) <;> first | omega | (exact q (by omega))) | exact R_go c hc)⟩))
       · first
         | (exfalso; omega)
         | (skip
            refine zk_d3 (s_HM_tell _ _ _ (by omega)) (fun v14_3 v15_3 a16_3 hp_13 => ?_)
            try dsimp only at hp_13
            obtain ⟨hp_13p0, hp_13p1⟩ := hp_13
            refine zk_rI5 ?_
            refine zk_ret ?_
            try dsimp only
            exact ⟨by omega, by omega, by omega, by omega, h_t37, h_t4, by first | omega | (simp only [h_a4_4, zu, ↓reduceIte]; (repeat' split) <;> omega), by first | omega | (simp only [h_a4_4, zu, ↓reduceIte]; (repeat' split) <;> omega), by first | omega | (simp only [h_a4_4, zu, ↓reduceIte]; (repeat' split) <;> omega), by (intro c hc; first | (have q := fun h => R_st c h; simp only [h_a4_4, zu, ↓reduceIte]; (repeat' split) <;> first | omega | (exact q (by omega))) | exact R_st c hc), by (intro c hc; first | (have q := fun h => R_ex c h; simp only [h_a4_4, zu, ↓reduceIte]; (repeat' split) <;> first | omega | (exact q (by omega))) | exact R_ex c hc), by (intro c hc; first | (have q := fun h => R_tr c h; simp only [h_a4_4, zu, ↓reduceIte]; (repeat' split) <;> first | omega | (exact q (by omega))) | exact R_tr c hc), by (intro c hc; first | (have q := fun h => R_pl c h; simp only [h_a4_4, zu, ↓reduceIte]; (repeat' split) <;> first | omega | (exact q (by omega))) | exact R_pl c hc), by (intro c hc; first | (have q := fun h => R_te c h; simp only [h_a4_4, zu, ↓reduceIte]; (repeat' split) <;> first | omega | (exact q (by omega))) | exact R_te c hc), by (intro c hc; first | (have q := fun h => R_go c h; simp only [h_a4_4, zu, ↓reduceIte]; (repeat' split) <;> first | omega | (exact q (by omega))) | exact R_go c hc)⟩))
set_option maxHeartbeats 4000000 in
set_option maxRecDepth 10000 in
theorem st_8 (N : Int) (σ : Nat → Int) (τ : Nat → Nat → Int) (hI : INV N σ τ) (a1 : Int) (b_a1 : (-2147483648) ≤ a1 ∧ a1 ≤ 2147483647) : zok (f_OP_8 N a1 (σ 3) (σ 4) (σ 5) (σ 26) (σ 27) (σ 30) (σ 49) (τ 2) (τ 3) (τ 4) (τ 34) (τ 35) (τ 36) (τ 37) (τ 38) (τ 39)) (fun o => (o.1 = o.2.1) ∧ INV (N + 6) (zst σ [(3, o.2.2.1), (4, o.2.2.2.1), (5, o.2.2.2.2.1), (27, o.2.2.2.2.2.1), (30, o.2.2.2.2.2.2.1)]) (zta τ [(2, o.2.2.2.2.2.2.2.1), (3, o.2.2.2.2.2.2.2.2.1), (4, o.2.2.2.2.2.2.2.2.2.1), (37, o.2.2.2.2.2.2.2.2.2.2)])) := by
  have zg1 := hI.2
  have zg2 := zg1.2
  have zg3 := zg2.2
  have zg4 := zg3.2
  have zg5 := zg4.2
  have zg6 := zg5.2
  have zg7 := zg6.2
  have zg8 := zg7.2
  have zg9 := zg8.2
  have zg10 := zg9.2
  have zg11 := zg10.2
  have zg12 := zg11.2
  have zg13 := zg12.2
  have zg14 := zg13.2
  have zg15 := zg14.2
  have zg16 := zg15.2
  have zg17 := zg16.2
  have zg18 := zg17.2
  have zg19 := zg18.2
  have zg20 := zg19.2
  have zg21 := zg20.2
  have zg22 := zg21.2
  have zg23 := zg22.2
  have zg24 := zg23.2
  have zg25 := zg24.2
  have zg26 := zg25.2
  have zg27 := zg26.2
  have zg28 := zg27.2
  have zg29 := zg28.2
  have zg30 := zg29.2
  have zg31 := zg30.2
  have zg32 := zg31.2
  have zg33 := zg32.2
  have zg34 := zg33.2
  have zg35 := zg34.2
  have zg36 := zg35.2
  have zg37 := zg36.2
  have zg38 := zg37.2
  have zg39 := zg38.2
  have zg40 := zg39.2
  have zg41 := zg40.2
  have zg42 := zg41.2
  have zg43 := zg42.2
  have zg44 := zg43.2
  have zg45 := zg44.2
  have zg46 := zg45.2
  have zg47 := zg46.2
  have zg48 := zg47.2
  have zg49 := zg48.2
  have zg50 := zg49.2
  have zg51 := zg50.2
  have zg52 := zg51.2
  have zg53 := zg52.2
  have zg54 := zg53.2
  have zg55 := zg54.2
  have zg56 := zg55.2
  have zg57 := zg56.2
  have zg58 := zg57.2
  have zg59 := zg58.2
  have zg60 := zg59.2
  have zg61 := zg60.2
  have zg62 := zg61.2
  have zg63 := zg62.2
  have zg64 := zg63.2
  have zg65 := zg64.2
  have zg66 := zg65.2
  have zg67 := zg66.2
  have zg68 := zg67.2
  have zg69 := zg68.2
  have zg70 := zg69.2
  have zg71 := zg70.2
  have zg72 := zg71.2
  have zg73 := zg72.2
  have zg74 := zg73.2
  have zg75 := zg74.2
  have zg76 := zg75.2
  have zg77 := zg76.2
  have zg78 := zg77.2
  have zg79 := zg78.2
  have zg80 := zg79.2
  have zg81 := zg80.2
  have zg82 := zg81.2
  have zg83 := zg82.2
  have zg84 := zg83.2
  have zg85 := zg84.2
  have zg86 := zg85.2
  have zg87 := zg86.2
  have zg88 := zg87.2
  have zg89 := zg88.2
  have zg90 := zg89.2
  have zg91 := zg90.2
  have zg92 := zg91.2
  have zg93 := zg92.2
  have zg94 := zg93.2
  have zg95 := zg94.2
  have zg96 := zg95.2
  have zg97 := zg96.2
  have zg98 := zg97.2
  have zg99 := zg98.2
  have zg100 := zg99.2
  have zg101 := zg100.2
  have zg102 := zg101.2
  have zg103 := zg102.2
  have zg104 := zg103.2
  have zg105 := zg104.2
  have zg106 := zg105.2
  have zg107 := zg106.2
  have zg108 := zg107.2
  have zg109 := zg108.2
  have zg110 := zg109.2
  have zg111 := zg110.2
  have zg112 := zg111.2
  have zg113 := zg112.2
  have zg114 := zg113.2
  have zg115 := zg114.2
  have zg116 := zg115.2
  have zg117 := zg116.2
  have zg118 := zg117.2
  have zg119 := zg118.2
  have zg120 := zg119.2
  have zg121 := zg120.2
  have zg122 := zg121.2
  have zg123 := zg122.2
  have zg124 := zg123.2
  have zg125 := zg124.2
  have I_s3 := zg2.1
  have I_s26 := zg3.1
  have I_s27 := zg4.1
  have I_s49 := zg21.1
  have I_t4 := zg99.1
  have I_t34 := zg45.1
  have I_t35 := zg46.1
  have I_t36 := zg47.1
  have I_t37 := zg48.1
  have I_t38 := zg49.1
  have I_t39 := zg50.1
  have I_s30 := zg42.1
  have R_many := zg113.1
  have R_ch := zg114.1
  have R_pa := zg115.1
  have R_st := zg116.1
  have R_ex := zg117.1
  have R_tr := zg118.1
  have R_pl := zg119.1
  have R_te := zg120.1
  have R_go := zg121.1
  refine zok_mono (s_OP_8 N a1 (σ 3) (σ 4) (σ 5) (σ 26) (σ 27) (σ 30) (σ 49) (τ 2) (τ 3) (τ 4) (τ 34) (τ 35) (τ 36) (τ 37) (τ 38) (τ 39) b_a1 I_s3 I_s26 I_s27 I_s49 I_t4 I_t34 I_t35 I_t36 I_t37 I_t38 I_t39 I_s30 R_many R_ch R_pa R_st R_ex R_tr R_pl R_te R_go) (fun o ho => ?_)
  obtain ⟨p0, p1, p2, p3, p4, p5, p6, p7, p8, p9, p10, p11, p12, p13, p14⟩ := ho
  exact ⟨p0, ⟨hI.1, zg1.1, p1, zg3.1, p2, zg5.1, zg6.1, zg7.1, zg8.1, zg9.1, zg10.1, zg11.1, zg12.1, zg13.1, zg14.1, zg15.1, zg16.1, zg17.1, zg18.1, zg19.1, zg20.1, zg21.1, zg22.1, zg23.1, zg24.1, zg25.1, zg26.1, zg27.1, zg28.1, zg29.1, zg30.1, zg31.1, zg32.1, zg33.1, zg34.1, zg35.1, zg36.1, zg37.1, zg38.1, zg39.1, zg40.1, zg41.1, p3, zg43.1, zg44.1, zg45.1, zg46.1, zg47.1, p4, zg49.1, zg50.1, zg51.1, zg52.1, zg53.1, zg54.1, zg55.1, zg56.1, zg57.1, zg58.1, zg59.1, zg60.1, zg61.1, zg62.1, zg63.1, zg64.1, zg65.1, zg66.1, zg67.1, zg68.1, zg69.1, zg70.1, zg71.1, zg72.1, zg73.1, zg74.1, zg75.1, zg76.1, zg77.1, zg78.1, zg79.1, zg80.1, zg81.1, zg82.1, zg83.1, zg84.1, zg85.1, zg86.1, zg87.1, zg88.1, zg89.1, zg90.1, zg91.1, zg92.1, zg93.1, zg94.1, zg95.1, zg96.1, zg97.1, zg98.1, p5, zg100.1, zg101.1, zg102.1, zg103.1, zg104.1, zg105.1, zg106.1, zg107.1, zg108.1, zg109.1, zg110.1, zg111.1, zg112.1, p6, p7, p8, p9, p10, p11, p12, p13, p14, zg122.1, zg123.1, zg124.1, zg125⟩⟩
noncomputable def f_OP_9 (N : Int) (a1 : Int) (a2 : Int) (s3 : Int) (s4 : Int) (s5 : Int) (s26 : Int) (s27 : Int) (s30 : Int) (s49 : Int) (t2 : Nat → Int) (t3 : Nat → Int) (t4 : Nat → Int) (t34 : Nat → Int) (t35 : Nat → Int) (t36 : Nat → Int) (t37 : Nat → Int) (t38 : Nat → Int) (t39 : Nat → Int) : Option (Int × Int × Int × Int × Int × Int × (Nat → Int) × (Nat → Int) × (Nat → Int) × (Nat → Int)) :=
  zd5 (f_HS_terms a1 a2 s3 s30 t2 t38) fun v134 v135 v136 a137 a138 =>
  zd5 (f_HM_terms a1 a2 s4 s5 t3 t4) fun v143 v144 v145 a146 a147 =>
  some (v134, v143, v135, v144, v145, v136, a137, a146, a147, a138)
set_option maxHeartbeats 4000000 in
theorem s_OP_9 (N : Int) (a1 : Int) (a2 : Int) (s3 : Int) (s4 : Int) (s5 : Int) (s26 : Int) (s27 : Int) (s30 : Int) (s49 : Int) (t2 : Nat → Int) (t3 : Nat → Int) (t4 : Nat → Int) (t34 : Nat → Int) (t35 : Nat → Int) (t36 : Nat → Int) (t37 : Nat → Int) (t38 : Nat → Int) (t39 : Nat → Int) (b_a1 : (-2147483648) ≤ a1 ∧ a1 ≤ 2147483647) (b_a2 : (-2147483648) ≤ a2 ∧ a2 ≤ 2147483647) (b_s3 : (-6) ≤ s3 ∧ s3 ≤ 0) (b_s26 : 0 ≤ s26 ∧ s26 ≤ 6) (b_s27 : 0 ≤ s27 ∧ s27 ≤ 6) (b_s49 : 0 ≤ s49 ∧ s49 ≤ 12) (h_t4 : RI t4) (h_t34 : zR t34 0 60) (h_t35 : zR t35 0 1) (h_t36 : zR t36 0 20) (h_t37 : zR t37 0 11) (h_t38 : zR t38 0 99) (h_t39 : zR t39 (-1) 10) (I_s30 : 0 ≤ s30 ∧ s30 ≤ N) (R_many : s49 = t4 0) (R_ch : s26 = t4 1) (R_pa : s27 = t4 2) (R_st : RV 3 153 s26 t34 t4) (R_ex : RV 3 154 s26 t35 t4) (R_tr : RV 3 155 s26 t36 t4) (R_pl : RV 1 171 s27 t37 t4) (R_te : RV 1 5 4 t38 t4) (R_go : RV 1 141 s49 t39 t4) : zok (f_OP_9 N a1 a2 s3 s4 s5 s26 s27 s30 s49 t2 t3 t4 t34 t35 t36 t37 t38 t39) (fun o => (o.1 = o.2.1) ∧ ((-6) ≤ o.2.2.1 ∧ o.2.2.1 ≤ 0) ∧ (0 ≤ o.2.2.2.2.2.1 ∧ o.2.2.2.2.2.1 ≤ N + 6) ∧ zR o.2.2.2.2.2.2.2.2.2 0 99 ∧ RI o.2.2.2.2.2.2.2.2.1 ∧ (s49 = o.2.2.2.2.2.2.2.2.1 0) ∧ (s26 = o.2.2.2.2.2.2.2.2.1 1) ∧ (s27 = o.2.2.2.2.2.2.2.2.1 2) ∧ (RV 3 153 s26 t34 o.2.2.2.2.2.2.2.2.1) ∧ (RV 3 154 s26 t35 o.2.2.2.2.2.2.2.2.1) ∧ (RV 3 155 s26 t36 o.2.2.2.2.2.2.2.2.1) ∧ (RV 1 171 s27 t37 o.2.2.2.2.2.2.2.2.1) ∧ (RV 1 5 4 o.2.2.2.2.2.2.2.2.2 o.2.2.2.2.2.2.2.2.1) ∧ (RV 1 141 s49 t39 o.2.2.2.2.2.2.2.2.1)) := by
  unfold f_OP_9
  have q_te : (a1 < 0 ∨ 4 ≤ a1) ∨ t38 a1.toNat = t4 (5 + a1).toNat := by
    by_cases h : a1 < 0 ∨ 4 ≤ a1
    · exact Or.inl h
    · exact Or.inr (RV_at R_te (by omega) (by omega) (by omega))
  have q_zk := zk_t a1
  refine zk_dI5 ?_
  unfold f_HS_terms
  refine zk_ifc (zci_ltr (by omega)) (fun hc => ?_) (fun hc => ?_)
  · first
    | (exfalso; omega)
    | (skip
       unfold f_HS_terms_30
       refine zk_dI3 ?_
       unfold f_HS_refuse
       refine zk_nE (fun v1 h_v1 => ?_)
       refine zk_gv (by omega) (by decide) (fun v2 h_v2 => ?_)
       refine zk_n ?_
       refine zk_sv (by omega) (by decide) (fun a4 h_a4 => ?_)
       refine zk_rI3 ?_
       refine zk_rI5 ?_
       refine zk_dI5 ?_
       unfold f_HM_terms
       refine zk_d1 (s_HM_isTerm _ _ (by omega) (by omega)) (fun v1_2 hp => ?_)
       try dsimp only at hp
       have hpp0 := hp
       refine zk_ifc (zci_eqr (by omega)) (fun hc_2 => ?_) (fun hc_2 => ?_)
       · first
         | (exfalso; omega)
         | (skip
            refine zk_d3 (s_HM_tell _ _ _ (by omega)) (fun v2_2 v3_2 a4_2 hp_2 => ?_)
            try dsimp only at hp_2
            obtain ⟨hp_2p0, hp_2p1⟩ := hp_2
            refine zk_rI5 ?_
            refine zk_ret ?_
            try dsimp only
            exact ⟨by omega, by omega, by omega, h_t38, h_t4, by first | omega | (simp only [h_a4, zu, ↓reduceIte]; (repeat' split) <;> omega), by first | omega | (simp only [h_a4, zu, ↓reduceIte]; (repeat' split) <;> omega), by first | omega | (simp only [h_a4, zu, ↓reduceIte]; (repeat' split) <;> omega), by (intro c hc; first | (have q := fun h => R_st c h; simp only [h_a4, zu, ↓reduceIte]; (repeat' split) <;> first | omega | (exact q (by omega))) | exact R_st c hc), by (intro c hc; first | (have q := fun h => R_ex c h; simp only [h_a4, zu, ↓reduceIte]; (repeat' split) <;> first | omega | (exact q (by omega))) | exact R_ex c hc), by (intro c hc; first | (have q := fun h => R_tr c h; simp only [h_a4, zu, ↓reduceIte]; (repeat' split) <;> first | omega | (exact q (by omega))) | exact R_tr c hc), by (intro c hc; first | (have q := fun h => R_pl c h; simp only [h_a4, zu, ↓reduceIte]; (repeat' split) <;> first | omega | (exact q (by omega))) | exact R_pl c hc), by (intro c hc; first | (have q := fun h => R_te c h; simp only [h_a4, zu, ↓reduceIte]; (repeat' split) <;> first | omega | (exact q (by omega))) | exact R_te c hc), by (intro c hc; first | (have q := fun h => R_go c h; simp only [h_a4, zu, ↓reduceIte]; (repeat' split) <;> first | omega | (exact q (by omega))) | exact R_go c hc)⟩)
       · first
         | (exfalso; omega)
         | (skip
            refine zk_n ?_
            refine zk_d3 (s_HM_change _ _ _ _ (by omega)) (fun v6 v7 a8 hp_3 => ?_)
            try dsimp only at hp_3
            obtain ⟨hp_3p0, hp_3p1, hp_3p2⟩ := hp_3
            have i_a8 : RI a8 := by rw [hp_3p2]; exact RIz_t h_t4 (by omega) (by omega)
            refine zk_rI5 ?_
            refine zk_ret ?_
            try dsimp only
            exact ⟨by omega, by omega, by omega, h_t38, i_a8, by first | omega | (simp only [hp_3p2, h_a4, zu, ↓reduceIte]; (repeat' split) <;> omega), by first | omega | (simp only [hp_3p2, h_a4, zu, ↓reduceIte]; (repeat' split) <;> omega), by first | omega | (simp only [hp_3p2, h_a4, zu, ↓reduceIte]; (repeat' split) <;> omega), by (intro c hc; first | (have q := fun h => R_st c h; simp only [hp_3p2, h_a4, zu, ↓reduceIte]; (repeat' split) <;> first | omega | (exact q (by omega))) | exact R_st c hc), by (intro c hc; first | (have q := fun h => R_ex c h; simp only [hp_3p2, h_a4, zu, ↓reduceIte]; (repeat' split) <;> first | omega | (exact q (by omega))) | exact R_ex c hc), by (intro c hc; first | (have q := fun h => R_tr c h; simp only [hp_3p2, h_a4, zu, ↓reduceIte]; (repeat' split) <;> first | omega | (exact q (by omega))) | exact R_tr c hc), by (intro c hc; first | (have q := fun h => R_pl c h; simp only [hp_3p2, h_a4, zu, ↓reduceIte]; (repeat' split) <;> first | omega | (exact q (by omega))) | exact R_pl c hc), by (intro c hc; first | (have q := fun h => R_te c h; simp only [hp_3p2, h_a4, zu, ↓reduceIte]; (repeat' split) <;> first | omega | (exact q (by omega))) | exact R_te c hc), by (intro c hc; first | (have q := fun h => R_go c h; simp only [hp_3p2, h_a4, zu, ↓reduceIte]; (repeat' split) <;> first | omega | (exact q (by omega))) | exact R_go c hc)⟩))
  · first
    | (exfalso; omega)
    | (skip
       refine zk_ifc (zci_le (by omega) (by omega)) (fun hc_3 => ?_) (fun hc_3 => ?_)
       · first
         | (exfalso; omega)
         | (skip
            unfold f_HS_terms_30
            refine zk_dI3 ?_
            unfold f_HS_refuse
            refine zk_nE (fun v1_3 h_v1_3 => ?_)
            refine zk_gv (by omega) (by decide) (fun v2_3 h_v2_3 => ?_)
            refine zk_n ?_
            refine zk_sv (by omega) (by decide) (fun a4_3 h_a4_3 => ?_)
            refine zk_rI3 ?_
            refine zk_rI5 ?_
            refine zk_dI5 ?_
            unfold f_HM_terms
            refine zk_d1 (s_HM_isTerm _ _ (by omega) (by omega)) (fun v1_4 hp_4 => ?_)
            try dsimp only at hp_4
            have hp_4p0 := hp_4
            refine zk_ifc (zci_eqr (by omega)) (fun hc_4 => ?_) (fun hc_4 => ?_)
            · first
              | (exfalso; omega)
              | (skip
                 refine zk_d3 (s_HM_tell _ _ _ (by omega)) (fun v2_4 v3_4 a4_4 hp_5 => ?_)
                 try dsimp only at hp_5
                 obtain ⟨hp_5p0, hp_5p1⟩ := hp_5
                 refine zk_rI5 ?_
                 refine zk_ret ?_
                 try dsimp only
                 exact ⟨by omega, by omega, by omega, h_t38, h_t4, by first | omega | (simp only [h_a4_3, zu, ↓reduceIte]; (repeat' split) <;> omega), by first | omega | (simp only [h_a4_3, zu, ↓reduceIte]; (repeat' split) <;> omega), by first | omega | (simp only [h_a4_3, zu, ↓reduceIte]; (repeat' split) <;> omega), by (intro c hc; first | (have q := fun h => R_st c h; simp only [h_a4_3, zu, ↓reduceIte]; (repeat' split) <;> first | omega | (exact q (by omega))) | exact R_st c hc), by (intro c hc; first | (have q := fun h => R_ex c h; simp only [h_a4_3, zu, ↓reduceIte]; (repeat' split) <;> first | omega | (exact q (by omega))) | exact R_ex c hc), by (intro c hc; first | (have q := fun h => R_tr c h; simp only [h_a4_3, zu, ↓reduceIte]; (repeat' split) <;> first | omega | (exact q (by omega))) | exact R_tr c hc), by (intro c hc; first | (have q := fun h => R_pl c h; simp only [h_a4_3, zu, ↓reduceIte]; (repeat' split) <;> first | omega | (exact q (by omega))) | exact R_pl c hc), by (intro c hc; first | (have q := fun h => R_te c h; simp only [h_a4_3, zu, ↓reduceIte]; (repeat' split) <;> first | omega | (exact q (by omega))) | exact R_te c hc), by (intro c hc; first | (have q := fun h => R_go c h; simp only [h_a4_3, zu, ↓reduceIte]; (repeat' split) <;> first | omega | (exact q (by omega))) | exact R_go c hc)⟩)
            · first
              | (exfalso; omega)
              | (skip
                 refine zk_n ?_
                 refine zk_d3 (s_HM_change _ _ _ _ (by omega)) (fun v6_2 v7_2 a8_2 hp_6 => ?_)
                 try dsimp only at hp_6
                 obtain ⟨hp_6p0, hp_6p1, hp_6p2⟩ := hp_6
                 have i_a8_2 : RI a8_2 := by rw [hp_6p2]; exact RIz_t h_t4 (by omega) (by omega)
                 refine zk_rI5 ?_
                 refine zk_ret ?_
                 try dsimp only
                 exact ⟨by omega, by omega, by omega, h_t38, i_a8_2, by first | omega | (simp only [hp_6p2, h_a4_3, zu, ↓reduceIte]; (repeat' split) <;> omega), by first | omega | (simp only [hp_6p2, h_a4_3, zu, ↓reduceIte]; (repeat' split) <;> omega), by first | omega | (simp only [hp_6p2, h_a4_3, zu, ↓reduceIte]; (repeat' split) <;> omega), by (intro c hc; first | (have q := fun h => R_st c h; simp only [hp_6p2, h_a4_3, zu, ↓reduceIte]; (repeat' split) <;> first | omega | (exact q (by omega))) | exact R_st c hc), by (intro c hc; first | (have q := fun h => R_ex c h; simp only [hp_6p2, h_a4_3, zu, ↓reduceIte]; (repeat' split) <;> first | omega | (exact q (by omega))) | exact R_ex c hc), by (intro c hc; first | (have q := fun h => R_tr c h; simp only [hp_6p2, h_a4_3, zu, ↓reduceIte]; (repeat' split) <;> first | omega | (exact q (by omega))) | exact R_tr c hc), by (intro c hc; first | (have q := fun h => R_pl c h; simp only [hp_6p2, h_a4_3, zu, ↓reduceIte]; (repeat' split) <;> first | omega | (exact q (by omega))) | exact R_pl c hc), by (intro c hc; first | (have q := fun h => R_te c h; simp only [hp_6p2, h_a4_3, zu, ↓reduceIte]; (repeat' split) <;> first | omega | (exact q (by omega))) | exact R_te c hc), by (intro c hc; first | (have q := fun h => R_go c h; simp only [hp_6p2, h_a4_3, zu, ↓reduceIte]; (repeat' split) <;> first | omega | (exact q (by omega))) | exact R_go c hc)⟩))
       · first
         | (exfalso; omega)
         | (skip
            refine zk_gv (by omega) (by decide) (fun v1_5 h_v1_5 => ?_)
            have r_v1_5 := zk_r 0 (a1.toNat)
            refine zk_ifc (zci_lt (by omega) (by omega)) (fun hc_5 => ?_) (fun hc_5 => ?_)
            · first
              | (exfalso; omega)
              | (skip
                 unfold f_HS_terms_30
                 refine zk_dI3 ?_
                 unfold f_HS_refuse
                 refine zk_nE (fun v1_6 h_v1_6 => ?_)
                 refine zk_gv (by omega) (by decide) (fun v2_5 h_v2_5 => ?_)
                 refine zk_n ?_
                 refine zk_sv (by omega) (by decide) (fun a4_5 h_a4_5 => ?_)
                 refine zk_rI3 ?_
                 refine zk_rI5 ?_
                 refine zk_dI5 ?_
                 unfold f_HM_terms
                 refine zk_d1 (s_HM_isTerm _ _ (by omega) (by omega)) (fun v1_7 hp_7 => ?_)
                 try dsimp only at hp_7
                 have hp_7p0 := hp_7
                 refine zk_ifc (zci_eqr (by omega)) (fun hc_6 => ?_) (fun hc_6 => ?_)
                 · first
                   | (exfalso; omega)
                   | (skip
                      refine zk_d3 (s_HM_tell _ _ _ (by omega)) (fun v2_6 v3_6 a4_6 hp_8 => ?_)
                      try dsimp only at hp_8
                      obtain ⟨hp_8p0, hp_8p1⟩ := hp_8
                      refine zk_rI5 ?_
                      refine zk_ret ?_
                      try dsimp only
                      exact ⟨by omega, by omega, by omega, h_t38, h_t4, by first | omega | (simp only [h_a4_5, zu, ↓reduceIte]; (repeat' split) <;> omega), by first | omega | (simp only [h_a4_5, zu, ↓reduceIte]; (repeat' split) <;> omega), by first | omega | (simp only [h_a4_5, zu, ↓reduceIte]; (repeat' split) <;> omega), by (intro c hc; first | (have q := fun h => R_st c h; simp only [h_a4_5, zu, ↓reduceIte]; (repeat' split) <;> first | omega | (exact q (by omega))) | exact R_st c hc), by (intro c hc; first | (have q := fun h => R_ex c h; simp only [h_a4_5, zu, ↓reduceIte]; (repeat' split) <;> first | omega | (exact q (by omega))) | exact R_ex c hc), by (intro c hc; first | (have q := fun h => R_tr c h; simp only [h_a4_5, zu, ↓reduceIte]; (repeat' split) <;> first | omega | (exact q (by omega))) | exact R_tr c hc), by (intro c hc; first | (have q := fun h => R_pl c h; simp only [h_a4_5, zu, ↓reduceIte]; (repeat' split) <;> first | omega | (exact q (by omega))) | exact R_pl c hc), by (intro c hc; first | (have q := fun h => R_te c h; simp only [h_a4_5, zu, ↓reduceIte]; (repeat' split) <;> first | omega | (exact q (by omega))) | exact R_te c hc), by (intro c hc; first | (have q := fun h => R_go c h; simp only [h_a4_5, zu, ↓reduceIte]; (repeat' split) <;> first | omega | (exact q (by omega))) | exact R_go c hc)⟩)
                 · first
                   | (exfalso; omega)
                   | (skip
                      refine zk_n ?_
                      refine zk_d3 (s_HM_change _ _ _ _ (by omega)) (fun v6_3 v7_3 a8_3 hp_9 => ?_)
                      try dsimp only at hp_9
                      obtain ⟨hp_9p0, hp_9p1, hp_9p2⟩ := hp_9
                      have i_a8_3 : RI a8_3 := by rw [hp_9p2]; exact RIz_t h_t4 (by omega) (by omega)
                      refine zk_rI5 ?_
                      refine zk_ret ?_
                      try dsimp only
                      exact ⟨by omega, by omega, by omega, h_t38, i_a8_3, by first | omega | (simp only [hp_9p2, h_a4_5, zu, ↓reduceIte]; (repeat' split) <;> omega), by first | omega | (simp only [hp_9p2, h_a4_5, zu, ↓reduceIte]; (repeat' split) <;> omega), by first | omega | (simp only [hp_9p2, h_a4_5, zu, ↓reduceIte]; (repeat' split) <;> omega), by (intro c hc; first | (have q := fun h => R_st c h; simp only [hp_9p2, h_a4_5, zu, ↓reduceIte]; (repeat' split) <;> first | omega | (exact q (by omega))) | exact R_st c hc), by (intro c hc; first | (have q := fun h => R_ex c h; simp only [hp_9p2, h_a4_5, zu, ↓reduceIte]; (repeat' split) <;> first | omega | (exact q (by omega))) | exact R_ex c hc), by (intro c hc; first | (have q := fun h => R_tr c h; simp only [hp_9p2, h_a4_5, zu, ↓reduceIte]; (repeat' split) <;> first | omega | (exact q (by omega))) | exact R_tr c hc), by (intro c hc; first | (have q := fun h => R_pl c h; simp only [hp_9p2, h_a4_5, zu, ↓reduceIte]; (repeat' split) <;> first | omega | (exact q (by omega))) | exact R_pl c hc), by (intro c hc; first | (have q := fun h => R_te c h; simp only [hp_9p2, h_a4_5, zu, ↓reduceIte]; (repeat' split) <;> first | omega | (exact q (by omega))) | exact R_te c hc), by (intro c hc; first | (have q := fun h => R_go c h; simp only [hp_9p2, h_a4_5, zu, ↓reduceIte]; (repeat' split) <;> first | omega | (exact q (by omega))) | exact R_go c hc)⟩))
            · first
              | (exfalso; omega)
              | (skip
                 refine zk_gv (by omega) (by decide) (fun v2_7 h_v2_7 => ?_)
                 have r_v2_7 := zk_r 1 (a1.toNat)
                 refine zk_ifc (zci_le (by omega) (by omega)) (fun hc_7 => ?_) (fun hc_7 => ?_)
                 · first
                   | (exfalso; omega)
                   | (skip
                      refine zk_gv (by omega) (by decide) (fun v3_7 h_v3_7 => ?_)
                      have r_v3_7 := h_t38 (a1.toNat)
                      refine zk_sv (by omega) (by decide) (fun a4_7 h_a4_7 => ?_)
                      have i_a4_7 : zR a4_7 0 99 := by rw [h_a4_7]; exact zR_zu h_t38 (by decide) (by decide) (by omega)
                      refine zk_dI3 ?_
                      unfold f_HS_accept
                      refine zk_n ?_
                      refine zk_rI3 ?_
                      refine zk_rI5 ?_
                      refine zk_dI5 ?_
                      unfold f_HM_terms
                      refine zk_d1 (s_HM_isTerm _ _ (by omega) (by omega)) (fun v1_9 hp_10 => ?_)
                      try dsimp only at hp_10
                      have hp_10p0 := hp_10
                      refine zk_ifc (zci_eqr (by omega)) (fun hc_8 => ?_) (fun hc_8 => ?_)
                      · first
                        | (exfalso; omega)
                        | (skip
                           refine zk_d3 (s_HM_tell _ _ _ (by omega)) (fun v2_8 v3_8 a4_8 hp_11 => ?_)
                           try dsimp only at hp_11
                           obtain ⟨hp_11p0, hp_11p1⟩ := hp_11
                           refine zk_rI5 ?_
                           refine zk_ret ?_
                           try dsimp only
                           exact ⟨by omega, by omega, by omega, i_a4_7, h_t4, by first | omega | (simp only [h_a4_7, zu, ↓reduceIte]; (repeat' split) <;> omega), by first | omega | (simp only [h_a4_7, zu, ↓reduceIte]; (repeat' split) <;> omega), by first | omega | (simp only [h_a4_7, zu, ↓reduceIte]; (repeat' split) <;> omega), by (intro c hc; first | (have q := fun h => R_st c h; simp only [h_a4_7, zu, ↓reduceIte]; (repeat' split) <;> first | omega | (exact q (by omega))) | exact R_st c hc), by (intro c hc; first | (have q := fun h => R_ex c h; simp only [h_a4_7, zu, ↓reduceIte]; (repeat' split) <;> first | omega | (exact q (by omega))) | exact R_ex c hc), by (intro c hc; first | (have q := fun h => R_tr c h; simp only [h_a4_7, zu, ↓reduceIte]; (repeat' split) <;> first | omega | (exact q (by omega))) | exact R_tr c hc), by (intro c hc; first | (have q := fun h => R_pl c h; simp only [h_a4_7, zu, ↓reduceIte]; (repeat' split) <;> first | omega | (exact q (by omega))) | exact R_pl c hc), by (intro c hc; first | (have q := fun h => R_te c h; simp only [h_a4_7, zu, ↓reduceIte]; (repeat' split) <;> first | omega | (exact q (by omega))) | exact R_te c hc), by (intro c hc; first | (have q := fun h => R_go c h; simp only [h_a4_7, zu, ↓reduceIte]; (repeat' split) <;> first | omega | (exact q (by omega))) | exact R_go c hc)⟩)
                      · first
                        | (exfalso; omega)
                        | (skip
                           refine zk_n ?_
                           refine zk_d3 (s_HM_change _ _ _ _ (by omega)) (fun v6_4 v7_4 a8_4 hp_12 => ?_)
                           try dsimp only at hp_12
                           obtain ⟨hp_12p0, hp_12p1, hp_12p2⟩ := hp_12
                           have i_a8_4 : RI a8_4 := by rw [hp_12p2]; exact RIz_t h_t4 (by omega) (by omega)
                           refine zk_rI5 ?_
                           refine zk_ret ?_
                           try dsimp only
                           exact ⟨by omega, by omega, by omega, i_a4_7, i_a8_4, by first | omega | (simp only [hp_12p2, h_a4_7, zu, ↓reduceIte]; (repeat' split) <;> omega), by first | omega | (simp only [hp_12p2, h_a4_7, zu, ↓reduceIte]; (repeat' split) <;> omega), by first | omega | (simp only [hp_12p2, h_a4_7, zu, ↓reduceIte]; (repeat' split) <;> omega), by (intro c hc; first | (have q := fun h => R_st c h; simp only [hp_12p2, h_a4_7, zu, ↓reduceIte]; (repeat' split) <;> first | omega | (exact q (by omega))) | exact R_st c hc), by (intro c hc; first | (have q := fun h => R_ex c h; simp only [hp_12p2, h_a4_7, zu, ↓reduceIte]; (repeat' split) <;> first | omega | (exact q (by omega))) | exact R_ex c hc), by (intro c hc; first | (have q := fun h => R_tr c h; simp only [hp_12p2, h_a4_7, zu, ↓reduceIte]; (repeat' split) <;> first | omega | (exact q (by omega))) | exact R_tr c hc), by (intro c hc; first | (have q := fun h => R_pl c h; simp only [hp_12p2, h_a4_7, zu, ↓reduceIte]; (repeat' split) <;> first | omega | (exact q (by omega))) | exact R_pl c hc), by (intro c hc; first | (have q := fun h => R_te c h; simp only [hp_12p2, h_a4_7, zu, ↓reduceIte]; (repeat' split) <;> first | omega | (exact q (by omega))) | exact R_te c hc), by (intro c hc; first | (have q := fun h => R_go c h; simp only [hp_12p2, h_a4_7, zu, ↓reduceIte]; (repeat' split) <;> first | omega | (exact q (by omega))) | exact R_go c hc)⟩))
                 · first
                   | (exfalso; omega)
                   | (skip
                      unfold f_HS_terms_30
                      refine zk_dI3 ?_
                      unfold f_HS_refuse
                      refine zk_nE (fun v1_10 h_v1_10 => ?_)
                      refine zk_gv (by omega) (by decide) (fun v2_9 h_v2_9 => ?_)
                      refine zk_n ?_
                      refine zk_sv (by omega) (by decide) (fun a4_9 h_a4_9 => ?_)
                      refine zk_rI3 ?_
                      refine zk_rI5 ?_
                      refine zk_dI5 ?_
                      unfold f_HM_terms
                      refine zk_d1 (s_HM_isTerm _ _ (by omega) (by omega)) (fun v1_11 hp_13 => ?_)
                      try dsimp only at hp_13
                      have hp_13p0 := hp_13
                      refine zk_ifc (zci_eqr (by omega)) (fun hc_9 => ?_) (fun hc_9 => ?_)
                      · first
                        | (exfalso; omega)
                        | (skip
                           refine zk_d3 (s_HM_tell _ _ _ (by omega)) (fun v2_10 v3_10 a4_10 hp_14 => ?_)
                           try dsimp only at hp_14
                           obtain ⟨hp_14p0, hp_14p1⟩ := hp_14
                           refine zk_rI5 ?_
                           refine zk_ret ?_
                           try dsimp only
                           exact ⟨by omega, by omega, by omega, h_t38, h_t4, by first | omega | (simp only [h_a4_9, zu, ↓reduceIte]; (repeat' split) <;> omega), by first | omega | (simp only [h_a4_9, zu, ↓reduceIte]; (repeat' split) <;> omega), by first | omega | (simp only [h_a4_9, zu, ↓reduceIte]; (repeat' split) <;> omega), by (intro c hc; first | (have q := fun h => R_st c h; simp only [h_a4_9, zu, ↓reduceIte]; (repeat' split) <;> first | omega | (exact q (by omega))) | exact R_st c hc), by (intro c hc; first | (have q := fun h => R_ex c h; simp only [h_a4_9, zu, ↓reduceIte]; (repeat' split) <;> first | omega | (exact q (by omega))) | exact R_ex c hc), by (intro c hc; first | (have q := fun h => R_tr c h; simp only [h_a4_9, zu, ↓reduceIte]; (repeat' split) <;> first | omega | (exact q (by omega))) | exact R_tr c hc), by (intro c hc; first | (have q := fun h => R_pl c h; simp only [h_a4_9, zu, ↓reduceIte]; (repeat' split) <;> first | omega | (exact q (by omega))) | exact R_pl c hc), by (intro c hc; first | (have q := fun h => R_te c h; simp only [h_a4_9, zu, ↓reduceIte]; (repeat' split) <;> first | omega | (exact q (by omega))) | exact R_te c hc), by (intro c hc; first | (have q := fun h => R_go c h; simp only [h_a4_9, zu, ↓reduceIte]; (repeat' split) <;> first | omega | (exact q (by omega))) | exact R_go c hc)⟩)
                      · first
                        | (exfalso; omega)
                        | (skip
                           refine zk_n ?_
                           refine zk_d3 (s_HM_change _ _ _ _ (by omega)) (fun v6_5 v7_5 a8_5 hp_15 => ?_)
                           try dsimp only at hp_15
                           obtain ⟨hp_15p0, hp_15p1, hp_15p2⟩ := hp_15
                           have i_a8_5 : RI a8_5 := by rw [hp_15p2]; exact RIz_t h_t4 (by omega) (by omega)
                           refine zk_rI5 ?_
                           refine zk_ret ?_
                           try dsimp only
                           exact ⟨by omega, by omega, by omega, h_t38, i_a8_5, by first | omega | (simp only [hp_15p2, h_a4_9, zu, ↓reduceIte]; (repeat' split) <;> omega), by first | omega | (simp only [hp_15p2, h_a4_9, zu, ↓reduceIte]; (repeat' split) <;> omega), by first | omega | (simp only [hp_15p2, h_a4_9, zu, ↓reduceIte]; (repeat' split) <;> omega), by (intro c hc; first | (have q := fun h => R_st c h; simp only [hp_15p2, h_a4_9, zu, ↓reduceIte]; (repeat' split) <;> first | omega | (exact q (by omega))) | exact R_st c hc), by (intro c hc; first | (have q := fun h => R_ex c h; simp only [hp_15p2, h_a4_9, zu, ↓reduceIte]; (repeat' split) <;> first | omega | (exact q (by omega))) | exact R_ex c hc), by (intro c hc; first | (have q := fun h => R_tr c h; simp only [hp_15p2, h_a4_9, zu, ↓reduceIte]; (repeat' split) <;> first | omega | (exact q (by omega))) | exact R_tr c hc), by (intro c hc; first | (have q := fun h => R_pl c h; simp only [hp_15p2, h_a4_9, zu, ↓reduceIte]; (repeat' split) <;> first | omega | (exact q (by omega))) | exact R_pl c hc), by (intro c hc; first | (have q := fun h => R_te c h; simp only [hp_15p2, h_a4_9, zu, ↓reduceIte]; (repeat' split) <;> first | omega | (exact q (by omega))) | exact R_te c hc), by (intro c hc; first | (have q := fun h => R_go c h; simp only [hp_15p2, h_a4_9, zu, ↓reduceIte]; (repeat' split) <;> first | omega | (exact q (by omega))) | exact R_go c hc)⟩)))))
set_option maxHeartbeats 4000000 in
set_option maxRecDepth 10000 in
theorem st_9 (N : Int) (σ : Nat → Int) (τ : Nat → Nat → Int) (hI : INV N σ τ) (a1 : Int) (a2 : Int) (b_a1 : (-2147483648) ≤ a1 ∧ a1 ≤ 2147483647) (b_a2 : (-2147483648) ≤ a2 ∧ a2 ≤ 2147483647) : zok (f_OP_9 N a1 a2 (σ 3) (σ 4) (σ 5) (σ 26) (σ 27) (σ 30) (σ 49) (τ 2) (τ 3) (τ 4) (τ 34) (τ 35) (τ 36) (τ 37) (τ 38) (τ 39)) (fun o => (o.1 = o.2.1) ∧ INV (N + 6) (zst σ [(3, o.2.2.1), (4, o.2.2.2.1), (5, o.2.2.2.2.1), (30, o.2.2.2.2.2.1)]) (zta τ [(2, o.2.2.2.2.2.2.1), (3, o.2.2.2.2.2.2.2.1), (4, o.2.2.2.2.2.2.2.2.1), (38, o.2.2.2.2.2.2.2.2.2)])) := by
  have zg1 := hI.2
  have zg2 := zg1.2
  have zg3 := zg2.2
  have zg4 := zg3.2
  have zg5 := zg4.2
  have zg6 := zg5.2
  have zg7 := zg6.2
  have zg8 := zg7.2
  have zg9 := zg8.2
  have zg10 := zg9.2
  have zg11 := zg10.2
  have zg12 := zg11.2
  have zg13 := zg12.2
  have zg14 := zg13.2
  have zg15 := zg14.2
  have zg16 := zg15.2
  have zg17 := zg16.2
  have zg18 := zg17.2
  have zg19 := zg18.2
  have zg20 := zg19.2
  have zg21 := zg20.2
  have zg22 := zg21.2
  have zg23 := zg22.2
  have zg24 := zg23.2
  have zg25 := zg24.2
  have zg26 := zg25.2
  have zg27 := zg26.2
  have zg28 := zg27.2
  have zg29 := zg28.2
  have zg30 := zg29.2
  have zg31 := zg30.2
  have zg32 := zg31.2
  have zg33 := zg32.2
  have zg34 := zg33.2
  have zg35 := zg34.2
  have zg36 := zg35.2
  have zg37 := zg36.2
  have zg38 := zg37.2
  have zg39 := zg38.2
  have zg40 := zg39.2
  have zg41 := zg40.2
  have zg42 := zg41.2
  have zg43 := zg42.2
  have zg44 := zg43.2
  have zg45 := zg44.2
  have zg46 := zg45.2
  have zg47 := zg46.2
  have zg48 := zg47.2
  have zg49 := zg48.2
  have zg50 := zg49.2
  have zg51 := zg50.2
  have zg52 := zg51.2
  have zg53 := zg52.2
  have zg54 := zg53.2
  have zg55 := zg54.2
  have zg56 := zg55.2
  have zg57 := zg56.2
  have zg58 := zg57.2
  have zg59 := zg58.2
  have zg60 := zg59.2
  have zg61 := zg60.2
  have zg62 := zg61.2
  have zg63 := zg62.2
  have zg64 := zg63.2
  have zg65 := zg64.2
  have zg66 := zg65.2
  have zg67 := zg66.2
  have zg68 := zg67.2
  have zg69 := zg68.2
  have zg70 := zg69.2
  have zg71 := zg70.2
  have zg72 := zg71.2
  have zg73 := zg72.2
  have zg74 := zg73.2
  have zg75 := zg74.2
  have zg76 := zg75.2
  have zg77 := zg76.2
  have zg78 := zg77.2
  have zg79 := zg78.2
  have zg80 := zg79.2
  have zg81 := zg80.2
  have zg82 := zg81.2
  have zg83 := zg82.2
  have zg84 := zg83.2
  have zg85 := zg84.2
  have zg86 := zg85.2
  have zg87 := zg86.2
  have zg88 := zg87.2
  have zg89 := zg88.2
  have zg90 := zg89.2
  have zg91 := zg90.2
  have zg92 := zg91.2
  have zg93 := zg92.2
  have zg94 := zg93.2
  have zg95 := zg94.2
  have zg96 := zg95.2
  have zg97 := zg96.2
  have zg98 := zg97.2
  have zg99 := zg98.2
  have zg100 := zg99.2
  have zg101 := zg100.2
  have zg102 := zg101.2
  have zg103 := zg102.2
  have zg104 := zg103.2
  have zg105 := zg104.2
  have zg106 := zg105.2
  have zg107 := zg106.2
  have zg108 := zg107.2
  have zg109 := zg108.2
  have zg110 := zg109.2
  have zg111 := zg110.2
  have zg112 := zg111.2
  have zg113 := zg112.2
  have zg114 := zg113.2
  have zg115 := zg114.2
  have zg116 := zg115.2
  have zg117 := zg116.2
  have zg118 := zg117.2
  have zg119 := zg118.2
  have zg120 := zg119.2
  have zg121 := zg120.2
  have zg122 := zg121.2
  have zg123 := zg122.2
  have zg124 := zg123.2
  have zg125 := zg124.2
  have I_s3 := zg2.1
  have I_s26 := zg3.1
  have I_s27 := zg4.1
  have I_s49 := zg21.1
  have I_t4 := zg99.1
  have I_t34 := zg45.1
  have I_t35 := zg46.1
  have I_t36 := zg47.1
  have I_t37 := zg48.1
  have I_t38 := zg49.1
  have I_t39 := zg50.1
  have I_s30 := zg42.1
  have R_many := zg113.1
  have R_ch := zg114.1
  have R_pa := zg115.1
  have R_st := zg116.1
  have R_ex := zg117.1
  have R_tr := zg118.1
  have R_pl := zg119.1
  have R_te := zg120.1
  have R_go := zg121.1
  refine zok_mono (s_OP_9 N a1 a2 (σ 3) (σ 4) (σ 5) (σ 26) (σ 27) (σ 30) (σ 49) (τ 2) (τ 3) (τ 4) (τ 34) (τ 35) (τ 36) (τ 37) (τ 38) (τ 39) b_a1 b_a2 I_s3 I_s26 I_s27 I_s49 I_t4 I_t34 I_t35 I_t36 I_t37 I_t38 I_t39 I_s30 R_many R_ch R_pa R_st R_ex R_tr R_pl R_te R_go) (fun o ho => ?_)
  obtain ⟨p0, p1, p2, p3, p4, p5, p6, p7, p8, p9, p10, p11, p12, p13⟩ := ho
  exact ⟨p0, ⟨hI.1, zg1.1, p1, zg3.1, zg4.1, zg5.1, zg6.1, zg7.1, zg8.1, zg9.1, zg10.1, zg11.1, zg12.1, zg13.1, zg14.1, zg15.1, zg16.1, zg17.1, zg18.1, zg19.1, zg20.1, zg21.1, zg22.1, zg23.1, zg24.1, zg25.1, zg26.1, zg27.1, zg28.1, zg29.1, zg30.1, zg31.1, zg32.1, zg33.1, zg34.1, zg35.1, zg36.1, zg37.1, zg38.1, zg39.1, zg40.1, zg41.1, p2, zg43.1, zg44.1, zg45.1, zg46.1, zg47.1, zg48.1, p3, zg50.1, zg51.1, zg52.1, zg53.1, zg54.1, zg55.1, zg56.1, zg57.1, zg58.1, zg59.1, zg60.1, zg61.1, zg62.1, zg63.1, zg64.1, zg65.1, zg66.1, zg67.1, zg68.1, zg69.1, zg70.1, zg71.1, zg72.1, zg73.1, zg74.1, zg75.1, zg76.1, zg77.1, zg78.1, zg79.1, zg80.1, zg81.1, zg82.1, zg83.1, zg84.1, zg85.1, zg86.1, zg87.1, zg88.1, zg89.1, zg90.1, zg91.1, zg92.1, zg93.1, zg94.1, zg95.1, zg96.1, zg97.1, zg98.1, p4, zg100.1, zg101.1, zg102.1, zg103.1, zg104.1, zg105.1, zg106.1, zg107.1, zg108.1, zg109.1, zg110.1, zg111.1, zg112.1, p5, p6, p7, p8, p9, p10, p11, p12, p13, zg122.1, zg123.1, zg124.1, zg125⟩⟩
noncomputable def f_OP_10 (N : Int) (a1 : Int) (a2 : Int) (a3 : Int) (a4 : Int) (a5 : Int) (s0 : Int) (s4 : Int) (s7 : Int) (t1 : Nat → Int) (t7 : Nat → Int) : Option (Int × Int × Int × Int × Int × (Nat → Int) × (Nat → Int)) :=
  zd3 (f_HS_feed a1 a2 a3 a4 a5 s0 t1) fun v158 v159 a160 =>
  zd4 (f_HM_feed a1 a2 a3 a4 a5 s4 s7 t7) fun v171 v172 v173 a174 =>
  some (v158, v171, v159, v172, v173, a160, a174)
set_option maxHeartbeats 4000000 in
theorem s_OP_10 (N : Int) (a1 : Int) (a2 : Int) (a3 : Int) (a4 : Int) (a5 : Int) (s0 : Int) (s4 : Int) (s7 : Int) (t1 : Nat → Int) (t7 : Nat → Int) (b_a1 : (-2147483648) ≤ a1 ∧ a1 ≤ 2147483647) (b_a2 : (-2147483648) ≤ a2 ∧ a2 ≤ 2147483647) (b_a3 : (-2147483648) ≤ a3 ∧ a3 ≤ 2147483647) (b_a4 : (-2147483648) ≤ a4 ∧ a4 ≤ 2147483647) (b_a5 : (-2147483648) ≤ a5 ∧ a5 ≤ 2147483647) (b_s0 : 0 ≤ s0 ∧ s0 ≤ 400) (b_s7 : 0 ≤ s7 ∧ s7 ≤ 400) (h_t1 : zR t1 0 255) (h_t7 : zR t7 0 255) (R_tp : s0 = s7) : zok (f_OP_10 N a1 a2 a3 a4 a5 s0 s4 s7 t1 t7) (fun o => (o.1 = o.2.1) ∧ (0 ≤ o.2.2.1 ∧ o.2.2.1 ≤ 400) ∧ zR o.2.2.2.2.2.1 0 255 ∧ (0 ≤ o.2.2.2.2.1 ∧ o.2.2.2.2.1 ≤ 400) ∧ zR o.2.2.2.2.2.2 0 255 ∧ (o.2.2.1 = o.2.2.2.2.1)) := by
  unfold f_OP_10
  refine zk_dI3 ?_
  unfold f_HS_feed
  refine zk_n ?_
  refine zk_ifc (zci_le (by omega) (by omega)) (fun hc => ?_) (fun hc => ?_)
  · first
    | (exfalso; omega)
    | (skip
       refine zk_d2 (s_HS_feedFour _ _ _ (by omega) (by omega) h_t1 (by omega)) (fun v2 a3_2 hp => ?_)
       try dsimp only at hp
       obtain ⟨hpp0, hpp1, hpp2⟩ := hp
       refine zk_d2 (s_HS_feedFour _ _ _ (by omega) (by omega) hpp1 (by omega)) (fun v4 a5_2 hp_2 => ?_)
       try dsimp only at hp_2
       obtain ⟨hp_2p0, hp_2p1, hp_2p2⟩ := hp_2
       refine zk_d2 (s_HS_feedFour _ _ _ (by omega) (by omega) hp_2p1 (by omega)) (fun v6 a7 hp_3 => ?_)
       try dsimp only at hp_3
       obtain ⟨hp_3p0, hp_3p1, hp_3p2⟩ := hp_3
       refine zk_d2 (s_HS_feedFour _ _ _ (by omega) (by omega) hp_3p1 (by omega)) (fun v8 a9 hp_4 => ?_)
       try dsimp only at hp_4
       obtain ⟨hp_4p0, hp_4p1, hp_4p2⟩ := hp_4
       refine zk_d2 (s_HS_feedFour _ _ _ (by omega) (by omega) hp_4p1 (by omega)) (fun v10 a11 hp_5 => ?_)
       try dsimp only at hp_5
       obtain ⟨hp_5p0, hp_5p1, hp_5p2⟩ := hp_5
       refine zk_rI3 ?_
       refine zk_d4 (s_HM_feed _ _ _ _ _ _ _ _ (by omega) (by omega) (by omega) (by omega) (by omega) (by omega) h_t7) (fun v171 v172 v173 a174 hp_6 => ?_)
       try dsimp only at hp_6
       obtain ⟨hp_6p0, hp_6p1, hp_6p2⟩ := hp_6
       refine zk_ret ?_
       try dsimp only
       exact ⟨by omega, by omega, hp_5p1, by omega, hp_6p1, by first | omega | (simp only [zu_eq, zu, ↓reduceIte]; (repeat' split) <;> omega)⟩)
  · first
    | (exfalso; omega)
    | (skip
       refine zk_rI3 ?_
       refine zk_d4 (s_HM_feed _ _ _ _ _ _ _ _ (by omega) (by omega) (by omega) (by omega) (by omega) (by omega) h_t7) (fun v171_2 v172_2 v173_2 a174_2 hp_7 => ?_)
       try dsimp only at hp_7
       obtain ⟨hp_7p0, hp_7p1, hp_7p2⟩ := hp_7
       refine zk_ret ?_
       try dsimp only
       exact ⟨by omega, by omega, h_t1, by omega, hp_7p1, by first | omega | (simp only [zu_eq, zu, ↓reduceIte]; (repeat' split) <;> omega)⟩)
set_option maxHeartbeats 4000000 in
set_option maxRecDepth 10000 in
theorem st_10 (N : Int) (σ : Nat → Int) (τ : Nat → Nat → Int) (hI : INV N σ τ) (a1 : Int) (a2 : Int) (a3 : Int) (a4 : Int) (a5 : Int) (b_a1 : (-2147483648) ≤ a1 ∧ a1 ≤ 2147483647) (b_a2 : (-2147483648) ≤ a2 ∧ a2 ≤ 2147483647) (b_a3 : (-2147483648) ≤ a3 ∧ a3 ≤ 2147483647) (b_a4 : (-2147483648) ≤ a4 ∧ a4 ≤ 2147483647) (b_a5 : (-2147483648) ≤ a5 ∧ a5 ≤ 2147483647) : zok (f_OP_10 N a1 a2 a3 a4 a5 (σ 0) (σ 4) (σ 7) (τ 1) (τ 7)) (fun o => (o.1 = o.2.1) ∧ INV (N + 6) (zst σ [(0, o.2.2.1), (4, o.2.2.2.1), (7, o.2.2.2.2.1)]) (zta τ [(1, o.2.2.2.2.2.1), (7, o.2.2.2.2.2.2)])) := by
  have zg1 := hI.2
  have zg2 := zg1.2
  have zg3 := zg2.2
  have zg4 := zg3.2
  have zg5 := zg4.2
  have zg6 := zg5.2
  have zg7 := zg6.2
  have zg8 := zg7.2
  have zg9 := zg8.2
  have zg10 := zg9.2
  have zg11 := zg10.2
  have zg12 := zg11.2
  have zg13 := zg12.2
  have zg14 := zg13.2
  have zg15 := zg14.2
  have zg16 := zg15.2
  have zg17 := zg16.2
  have zg18 := zg17.2
  have zg19 := zg18.2
  have zg20 := zg19.2
  have zg21 := zg20.2
  have zg22 := zg21.2
  have zg23 := zg22.2
  have zg24 := zg23.2
  have zg25 := zg24.2
  have zg26 := zg25.2
  have zg27 := zg26.2
  have zg28 := zg27.2
  have zg29 := zg28.2
  have zg30 := zg29.2
  have zg31 := zg30.2
  have zg32 := zg31.2
  have zg33 := zg32.2
  have zg34 := zg33.2
  have zg35 := zg34.2
  have zg36 := zg35.2
  have zg37 := zg36.2
  have zg38 := zg37.2
  have zg39 := zg38.2
  have zg40 := zg39.2
  have zg41 := zg40.2
  have zg42 := zg41.2
  have zg43 := zg42.2
  have zg44 := zg43.2
  have zg45 := zg44.2
  have zg46 := zg45.2
  have zg47 := zg46.2
  have zg48 := zg47.2
  have zg49 := zg48.2
  have zg50 := zg49.2
  have zg51 := zg50.2
  have zg52 := zg51.2
  have zg53 := zg52.2
  have zg54 := zg53.2
  have zg55 := zg54.2
  have zg56 := zg55.2
  have zg57 := zg56.2
  have zg58 := zg57.2
  have zg59 := zg58.2
  have zg60 := zg59.2
  have zg61 := zg60.2
  have zg62 := zg61.2
  have zg63 := zg62.2
  have zg64 := zg63.2
  have zg65 := zg64.2
  have zg66 := zg65.2
  have zg67 := zg66.2
  have zg68 := zg67.2
  have zg69 := zg68.2
  have zg70 := zg69.2
  have zg71 := zg70.2
  have zg72 := zg71.2
  have zg73 := zg72.2
  have zg74 := zg73.2
  have zg75 := zg74.2
  have zg76 := zg75.2
  have zg77 := zg76.2
  have zg78 := zg77.2
  have zg79 := zg78.2
  have zg80 := zg79.2
  have zg81 := zg80.2
  have zg82 := zg81.2
  have zg83 := zg82.2
  have zg84 := zg83.2
  have zg85 := zg84.2
  have zg86 := zg85.2
  have zg87 := zg86.2
  have zg88 := zg87.2
  have zg89 := zg88.2
  have zg90 := zg89.2
  have zg91 := zg90.2
  have zg92 := zg91.2
  have zg93 := zg92.2
  have zg94 := zg93.2
  have zg95 := zg94.2
  have zg96 := zg95.2
  have zg97 := zg96.2
  have zg98 := zg97.2
  have zg99 := zg98.2
  have zg100 := zg99.2
  have zg101 := zg100.2
  have zg102 := zg101.2
  have zg103 := zg102.2
  have zg104 := zg103.2
  have zg105 := zg104.2
  have zg106 := zg105.2
  have zg107 := zg106.2
  have zg108 := zg107.2
  have zg109 := zg108.2
  have zg110 := zg109.2
  have zg111 := zg110.2
  have zg112 := zg111.2
  have zg113 := zg112.2
  have zg114 := zg113.2
  have zg115 := zg114.2
  have zg116 := zg115.2
  have zg117 := zg116.2
  have zg118 := zg117.2
  have zg119 := zg118.2
  have zg120 := zg119.2
  have zg121 := zg120.2
  have zg122 := zg121.2
  have zg123 := zg122.2
  have zg124 := zg123.2
  have zg125 := zg124.2
  have I_s0 := hI.1
  have I_s7 := zg100.1
  have I_t1 := zg44.1
  have I_t7 := zg102.1
  have R_tp := zg122.1
  refine zok_mono (s_OP_10 N a1 a2 a3 a4 a5 (σ 0) (σ 4) (σ 7) (τ 1) (τ 7) b_a1 b_a2 b_a3 b_a4 b_a5 I_s0 I_s7 I_t1 I_t7 R_tp) (fun o ho => ?_)
  obtain ⟨p0, p1, p2, p3, p4, p5⟩ := ho
  exact ⟨p0, ⟨p1, zg1.1, zg2.1, zg3.1, zg4.1, zg5.1, zg6.1, zg7.1, zg8.1, zg9.1, zg10.1, zg11.1, zg12.1, zg13.1, zg14.1, zg15.1, zg16.1, zg17.1, zg18.1, zg19.1, zg20.1, zg21.1, zg22.1, zg23.1, zg24.1, zg25.1, zg26.1, zg27.1, zg28.1, zg29.1, zg30.1, zg31.1, zg32.1, zg33.1, zg34.1, zg35.1, zg36.1, zg37.1, zg38.1, zg39.1, zg40.1, zg41.1, ⟨zg42.1.1, Int.le_trans zg42.1.2 (Int.le_add_of_nonneg_right (by decide))⟩, zg43.1, p2, zg45.1, zg46.1, zg47.1, zg48.1, zg49.1, zg50.1, zg51.1, zg52.1, zg53.1, zg54.1, zg55.1, zg56.1, zg57.1, zg58.1, zg59.1, zg60.1, zg61.1, zg62.1, zg63.1, zg64.1, zg65.1, zg66.1, zg67.1, zg68.1, zg69.1, zg70.1, zg71.1, zg72.1, zg73.1, zg74.1, zg75.1, zg76.1, zg77.1, zg78.1, zg79.1, zg80.1, zg81.1, zg82.1, zg83.1, zg84.1, zg85.1, zg86.1, zg87.1, zg88.1, zg89.1, zg90.1, zg91.1, zg92.1, zg93.1, zg94.1, zg95.1, zg96.1, zg97.1, zg98.1, zg99.1, p3, zg101.1, p4, zg103.1, zg104.1, zg105.1, zg106.1, zg107.1, zg108.1, zg109.1, zg110.1, zg111.1, zg112.1, zg113.1, zg114.1, zg115.1, zg116.1, zg117.1, zg118.1, zg119.1, zg120.1, zg121.1, p5, zg123.1, zg124.1, zg125⟩⟩
noncomputable def f_OP_11 (N : Int) (a1 : Int) (s0 : Int) (s4 : Int) (s7 : Int) : Option (Int × Int × Int × Int × Int) :=
  zd2 (f_HS_end a1 s0) fun v177 v178 =>
  zd3 (f_HM_end a1 s4 s7) fun v181 v182 v183 =>
  some (v177, v181, v178, v182, v183)
set_option maxHeartbeats 4000000 in
theorem s_OP_11 (N : Int) (a1 : Int) (s0 : Int) (s4 : Int) (s7 : Int) (b_a1 : (-2147483648) ≤ a1 ∧ a1 ≤ 2147483647) (b_s0 : 0 ≤ s0 ∧ s0 ≤ 400) (b_s7 : 0 ≤ s7 ∧ s7 ≤ 400) (R_tp : s0 = s7) : zok (f_OP_11 N a1 s0 s4 s7) (fun o => (o.1 = o.2.1) ∧ (0 ≤ o.2.2.1 ∧ o.2.2.1 ≤ 400) ∧ (0 ≤ o.2.2.2.2 ∧ o.2.2.2.2 ≤ 400) ∧ (o.2.2.1 = o.2.2.2.2)) := by
  unfold f_OP_11
  refine zk_dI2 ?_
  unfold f_HS_end
  refine zk_ifc (zci_ltr (by omega)) (fun hc => ?_) (fun hc => ?_)
  · first
    | (exfalso; omega)
    | (skip
       refine zk_rI2 ?_
       refine zk_dI3 ?_
       unfold f_HM_end
       refine zk_ifc (zci_ltr (by omega)) (fun hc_2 => ?_) (fun hc_2 => ?_)
       · first
         | (exfalso; omega)
         | (skip
            refine zk_rI3 ?_
            refine zk_ret ?_
            try dsimp only
            exact ⟨by omega, by omega, by omega, by first | omega | (simp only [zu_eq, zu, ↓reduceIte]; (repeat' split) <;> omega)⟩)
       · first
         | (exfalso; omega)
         | (skip
            refine zk_ifc (zci_le (by omega) (by omega)) (fun hc_3 => ?_) (fun hc_3 => ?_)
            · first
              | (exfalso; omega)
              | (skip
                 refine zk_rI3 ?_
                 refine zk_ret ?_
                 try dsimp only
                 exact ⟨by omega, by omega, by omega, by first | omega | (simp only [zu_eq, zu, ↓reduceIte]; (repeat' split) <;> omega)⟩)
            · first
              | (exfalso; omega)
              | (skip
                 refine zk_rI3 ?_
                 refine zk_ret ?_
                 try dsimp only
                 exact ⟨by omega, by omega, by omega, by first | omega | (simp only [zu_eq, zu, ↓reduceIte]; (repeat' split) <;> omega)⟩)))
  · first
    | (exfalso; omega)
    | (skip
       refine zk_ifc (zci_le (by omega) (by omega)) (fun hc_4 => ?_) (fun hc_4 => ?_)
       · first
         | (exfalso; omega)
         | (skip
            refine zk_rI2 ?_
            refine zk_dI3 ?_
            unfold f_HM_end
            refine zk_ifc (zci_ltr (by omega)) (fun hc_5 => ?_) (fun hc_5 => ?_)
            · first
              | (exfalso; omega)
              | (skip
                 refine zk_rI3 ?_
                 refine zk_ret ?_
                 try dsimp only
                 exact ⟨by omega, by omega, by omega, by first | omega | (simp only [zu_eq, zu, ↓reduceIte]; (repeat' split) <;> omega)⟩)
            · first
              | (exfalso; omega)
              | (skip
                 refine zk_ifc (zci_le (by omega) (by omega)) (fun hc_6 => ?_) (fun hc_6 => ?_)
                 · first
                   | (exfalso; omega)
                   | (skip
                      refine zk_rI3 ?_
                      refine zk_ret ?_
                      try dsimp only
                      exact ⟨by omega, by omega, by omega, by first | omega | (simp only [zu_eq, zu, ↓reduceIte]; (repeat' split) <;> omega)⟩)
                 · first
                   | (exfalso; omega)
                   | (skip
                      refine zk_rI3 ?_
                      refine zk_ret ?_
                      try dsimp only
                      exact ⟨by omega, by omega, by omega, by first | omega | (simp only [zu_eq, zu, ↓reduceIte]; (repeat' split) <;> omega)⟩)))
       · first
         | (exfalso; omega)
         | (skip
            refine zk_rI2 ?_
            refine zk_dI3 ?_
            unfold f_HM_end
            refine zk_ifc (zci_ltr (by omega)) (fun hc_7 => ?_) (fun hc_7 => ?_)
            · first
              | (exfalso; omega)
              | (skip
                 refine zk_rI3 ?_
                 refine zk_ret ?_
                 try dsimp only
                 exact ⟨by omega, by omega, by omega, by first | omega | (simp only [zu_eq, zu, ↓reduceIte]; (repeat' split) <;> omega)⟩)
            · first
              | (exfalso; omega)
              | (skip
                 refine zk_ifc (zci_le (by omega) (by omega)) (fun hc_8 => ?_) (fun hc_8 => ?_)
                 · first
                   | (exfalso; omega)
                   | (skip
                      refine zk_rI3 ?_
                      refine zk_ret ?_
                      try dsimp only
                      exact ⟨by omega, by omega, by omega, by first | omega | (simp only [zu_eq, zu, ↓reduceIte]; (repeat' split) <;> omega)⟩)
                 · first
                   | (exfalso; omega)
                   | (skip
                      refine zk_rI3 ?_
                      refine zk_ret ?_
                      try dsimp only
                      exact ⟨by omega, by omega, by omega, by first | omega | (simp only [zu_eq, zu, ↓reduceIte]; (repeat' split) <;> omega)⟩))))
set_option maxHeartbeats 4000000 in
set_option maxRecDepth 10000 in
theorem st_11 (N : Int) (σ : Nat → Int) (τ : Nat → Nat → Int) (hI : INV N σ τ) (a1 : Int) (b_a1 : (-2147483648) ≤ a1 ∧ a1 ≤ 2147483647) : zok (f_OP_11 N a1 (σ 0) (σ 4) (σ 7)) (fun o => (o.1 = o.2.1) ∧ INV (N + 6) (zst σ [(0, o.2.2.1), (4, o.2.2.2.1), (7, o.2.2.2.2)]) τ) := by
  have zg1 := hI.2
  have zg2 := zg1.2
  have zg3 := zg2.2
  have zg4 := zg3.2
  have zg5 := zg4.2
  have zg6 := zg5.2
  have zg7 := zg6.2
  have zg8 := zg7.2
  have zg9 := zg8.2
  have zg10 := zg9.2
  have zg11 := zg10.2
  have zg12 := zg11.2
  have zg13 := zg12.2
  have zg14 := zg13.2
  have zg15 := zg14.2
  have zg16 := zg15.2
  have zg17 := zg16.2
  have zg18 := zg17.2
  have zg19 := zg18.2
  have zg20 := zg19.2
  have zg21 := zg20.2
  have zg22 := zg21.2
  have zg23 := zg22.2
  have zg24 := zg23.2
  have zg25 := zg24.2
  have zg26 := zg25.2
  have zg27 := zg26.2
  have zg28 := zg27.2
  have zg29 := zg28.2
  have zg30 := zg29.2
  have zg31 := zg30.2
  have zg32 := zg31.2
  have zg33 := zg32.2
  have zg34 := zg33.2
  have zg35 := zg34.2
  have zg36 := zg35.2
  have zg37 := zg36.2
  have zg38 := zg37.2
  have zg39 := zg38.2
  have zg40 := zg39.2
  have zg41 := zg40.2
  have zg42 := zg41.2
  have zg43 := zg42.2
  have zg44 := zg43.2
  have zg45 := zg44.2
  have zg46 := zg45.2
  have zg47 := zg46.2
  have zg48 := zg47.2
  have zg49 := zg48.2
  have zg50 := zg49.2
  have zg51 := zg50.2
  have zg52 := zg51.2
  have zg53 := zg52.2
  have zg54 := zg53.2
  have zg55 := zg54.2
  have zg56 := zg55.2
  have zg57 := zg56.2
  have zg58 := zg57.2
  have zg59 := zg58.2
  have zg60 := zg59.2
  have zg61 := zg60.2
  have zg62 := zg61.2
  have zg63 := zg62.2
  have zg64 := zg63.2
  have zg65 := zg64.2
  have zg66 := zg65.2
  have zg67 := zg66.2
  have zg68 := zg67.2
  have zg69 := zg68.2
  have zg70 := zg69.2
  have zg71 := zg70.2
  have zg72 := zg71.2
  have zg73 := zg72.2
  have zg74 := zg73.2
  have zg75 := zg74.2
  have zg76 := zg75.2
  have zg77 := zg76.2
  have zg78 := zg77.2
  have zg79 := zg78.2
  have zg80 := zg79.2
  have zg81 := zg80.2
  have zg82 := zg81.2
  have zg83 := zg82.2
  have zg84 := zg83.2
  have zg85 := zg84.2
  have zg86 := zg85.2
  have zg87 := zg86.2
  have zg88 := zg87.2
  have zg89 := zg88.2
  have zg90 := zg89.2
  have zg91 := zg90.2
  have zg92 := zg91.2
  have zg93 := zg92.2
  have zg94 := zg93.2
  have zg95 := zg94.2
  have zg96 := zg95.2
  have zg97 := zg96.2
  have zg98 := zg97.2
  have zg99 := zg98.2
  have zg100 := zg99.2
  have zg101 := zg100.2
  have zg102 := zg101.2
  have zg103 := zg102.2
  have zg104 := zg103.2
  have zg105 := zg104.2
  have zg106 := zg105.2
  have zg107 := zg106.2
  have zg108 := zg107.2
  have zg109 := zg108.2
  have zg110 := zg109.2
  have zg111 := zg110.2
  have zg112 := zg111.2
  have zg113 := zg112.2
  have zg114 := zg113.2
  have zg115 := zg114.2
  have zg116 := zg115.2
  have zg117 := zg116.2
  have zg118 := zg117.2
  have zg119 := zg118.2
  have zg120 := zg119.2
  have zg121 := zg120.2
  have zg122 := zg121.2
  have zg123 := zg122.2
  have zg124 := zg123.2
  have zg125 := zg124.2
  have I_s0 := hI.1
  have I_s7 := zg100.1
  have R_tp := zg122.1
  refine zok_mono (s_OP_11 N a1 (σ 0) (σ 4) (σ 7) b_a1 I_s0 I_s7 R_tp) (fun o ho => ?_)
  obtain ⟨p0, p1, p2, p3⟩ := ho
  exact ⟨p0, ⟨p1, zg1.1, zg2.1, zg3.1, zg4.1, zg5.1, zg6.1, zg7.1, zg8.1, zg9.1, zg10.1, zg11.1, zg12.1, zg13.1, zg14.1, zg15.1, zg16.1, zg17.1, zg18.1, zg19.1, zg20.1, zg21.1, zg22.1, zg23.1, zg24.1, zg25.1, zg26.1, zg27.1, zg28.1, zg29.1, zg30.1, zg31.1, zg32.1, zg33.1, zg34.1, zg35.1, zg36.1, zg37.1, zg38.1, zg39.1, zg40.1, zg41.1, ⟨zg42.1.1, Int.le_trans zg42.1.2 (Int.le_add_of_nonneg_right (by decide))⟩, zg43.1, zg44.1, zg45.1, zg46.1, zg47.1, zg48.1, zg49.1, zg50.1, zg51.1, zg52.1, zg53.1, zg54.1, zg55.1, zg56.1, zg57.1, zg58.1, zg59.1, zg60.1, zg61.1, zg62.1, zg63.1, zg64.1, zg65.1, zg66.1, zg67.1, zg68.1, zg69.1, zg70.1, zg71.1, zg72.1, zg73.1, zg74.1, zg75.1, zg76.1, zg77.1, zg78.1, zg79.1, zg80.1, zg81.1, zg82.1, zg83.1, zg84.1, zg85.1, zg86.1, zg87.1, zg88.1, zg89.1, zg90.1, zg91.1, zg92.1, zg93.1, zg94.1, zg95.1, zg96.1, zg97.1, zg98.1, zg99.1, p2, zg101.1, zg102.1, zg103.1, zg104.1, zg105.1, zg106.1, zg107.1, zg108.1, zg109.1, zg110.1, zg111.1, zg112.1, zg113.1, zg114.1, zg115.1, zg116.1, zg117.1, zg118.1, zg119.1, zg120.1, zg121.1, p3, zg123.1, zg124.1, zg125⟩⟩
end
section
noncomputable def f_OP_12 (N : Int) (s0 : Int) (s2 : Int) (s3 : Int) (s4 : Int) (s5 : Int) (s6 : Int) (s7 : Int) (s26 : Int) (s27 : Int) (s30 : Int) (s49 : Int) (t1 : Nat → Int) (t2 : Nat → Int) (t3 : Nat → Int) (t4 : Nat → Int) (t7 : Nat → Int) (t34 : Nat → Int) (t35 : Nat → Int) (t36 : Nat → Int) (t37 : Nat → Int) (t38 : Nat → Int) (t39 : Nat → Int) (t63 : Nat → Int) (t64 : Nat → Int) : Option (Int × Int × Int × Int × Int × Int × Int × Int × Int × Int × (Nat → Int) × (Nat → Int) × (Nat → Int) × (Nat → Int) × (Nat → Int)) :=
  zd8 (f_HS_row t1 s49 s0 s2 s3 s30 t2 t63 t64) fun v184 v185 v186 v187 v188 a189 a190 a191 =>
  zd7 (f_HM_row t7 s4 s5 s6 s7 t3 t4) fun v192 v193 v194 v195 v196 a197 a198 =>
  some (v184, v192, v185, v186, v187, v193, v194, v195, v196, v188, a189, a197, a198, a190, a191)
set_option maxHeartbeats 4000000 in
theorem s_OP_12 (N : Int) (s0 : Int) (s2 : Int) (s3 : Int) (s4 : Int) (s5 : Int) (s6 : Int) (s7 : Int) (s26 : Int) (s27 : Int) (s30 : Int) (s49 : Int) (t1 : Nat → Int) (t2 : Nat → Int) (t3 : Nat → Int) (t4 : Nat → Int) (t7 : Nat → Int) (t34 : Nat → Int) (t35 : Nat → Int) (t36 : Nat → Int) (t37 : Nat → Int) (t38 : Nat → Int) (t39 : Nat → Int) (t63 : Nat → Int) (t64 : Nat → Int) (b_s0 : 0 ≤ s0 ∧ s0 ≤ 400) (b_s3 : (-6) ≤ s3 ∧ s3 ≤ 0) (b_s7 : 0 ≤ s7 ∧ s7 ≤ 400) (b_s26 : 0 ≤ s26 ∧ s26 ≤ 6) (b_s27 : 0 ≤ s27 ∧ s27 ≤ 6) (b_s49 : 0 ≤ s49 ∧ s49 ≤ 12) (h_t1 : zR t1 0 255) (h_t4 : RI t4) (h_t7 : zR t7 0 255) (h_t34 : zR t34 0 60) (h_t35 : zR t35 0 1) (h_t36 : zR t36 0 20) (h_t37 : zR t37 0 11) (h_t38 : zR t38 0 99) (h_t39 : zR t39 (-1) 10) (h_t63 : zR t63 0 10) (h_t64 : zR t64 0 30) (I_s30 : 0 ≤ s30 ∧ s30 ≤ N) (R_many : s49 = t4 0) (R_ch : s26 = t4 1) (R_pa : s27 = t4 2) (R_st : RV 3 153 s26 t34 t4) (R_ex : RV 3 154 s26 t35 t4) (R_tr : RV 3 155 s26 t36 t4) (R_pl : RV 1 171 s27 t37 t4) (R_te : RV 1 5 4 t38 t4) (R_go : RV 1 141 s49 t39 t4) (R_tp : s0 = s7) : zok (f_OP_12 N s0 s2 s3 s4 s5 s6 s7 s26 s27 s30 s49 t1 t2 t3 t4 t7 t34 t35 t36 t37 t38 t39 t63 t64) (fun o => (0 ≤ o.2.2.1 ∧ o.2.2.1 ≤ 400) ∧ ((-6) ≤ o.2.2.2.2.1 ∧ o.2.2.2.2.1 ≤ 0) ∧ (0 ≤ o.2.2.2.2.2.2.2.2.2.1 ∧ o.2.2.2.2.2.2.2.2.2.1 ≤ N + 6) ∧ zR o.2.2.2.2.2.2.2.2.2.2.2.2.2.1 0 10 ∧ zR o.2.2.2.2.2.2.2.2.2.2.2.2.2.2 0 30 ∧ RI o.2.2.2.2.2.2.2.2.2.2.2.2.1 ∧ (0 ≤ o.2.2.2.2.2.2.2.2.1 ∧ o.2.2.2.2.2.2.2.2.1 ≤ 400) ∧ (s49 = o.2.2.2.2.2.2.2.2.2.2.2.2.1 0) ∧ (s26 = o.2.2.2.2.2.2.2.2.2.2.2.2.1 1) ∧ (s27 = o.2.2.2.2.2.2.2.2.2.2.2.2.1 2) ∧ (RV 3 153 s26 t34 o.2.2.2.2.2.2.2.2.2.2.2.2.1) ∧ (RV 3 154 s26 t35 o.2.2.2.2.2.2.2.2.2.2.2.2.1) ∧ (RV 3 155 s26 t36 o.2.2.2.2.2.2.2.2.2.2.2.2.1) ∧ (RV 1 171 s27 t37 o.2.2.2.2.2.2.2.2.2.2.2.2.1) ∧ (RV 1 5 4 t38 o.2.2.2.2.2.2.2.2.2.2.2.2.1) ∧ (RV 1 141 s49 t39 o.2.2.2.2.2.2.2.2.2.2.2.2.1) ∧ (o.2.2.1 = o.2.2.2.2.2.2.2.2.1)) := by
  unfold f_OP_12
  refine zk_d8 (s_HS_row _ _ _ _ _ _ _ _ _ h_t1 (by omega) (by omega) (by omega) h_t63 h_t64) (fun v184 v185 v186 v187 v188 a189 a190 a191 hp => ?_)
  try dsimp only at hp
  obtain ⟨hpp0, hpp1, hpp2, hpp3, hpp4, hpp5⟩ := hp
  refine zk_d7 (s_HM_row _ _ _ _ _ _ _ h_t7 (by omega) h_t4) (fun v192 v193 v194 v195 v196 a197 a198 hp_2 => ?_)
  try dsimp only at hp_2
  obtain ⟨hp_2p0, hp_2p1, hp_2p2, hp_2p3⟩ := hp_2
  refine zk_ret ?_
  try dsimp only
  exact ⟨by omega, by omega, by omega, hpp2, hpp3, hp_2p1, by omega, by rw [hp_2p3 _ (by omega)]; exact R_many, by rw [hp_2p3 _ (by omega)]; exact R_ch, by rw [hp_2p3 _ (by omega)]; exact R_pa, by intro c hc; rw [hp_2p3 _ (by omega)]; exact R_st c hc, by intro c hc; rw [hp_2p3 _ (by omega)]; exact R_ex c hc, by intro c hc; rw [hp_2p3 _ (by omega)]; exact R_tr c hc, by intro c hc; rw [hp_2p3 _ (by omega)]; exact R_pl c hc, by intro c hc; rw [hp_2p3 _ (by omega)]; exact R_te c hc, by intro c hc; rw [hp_2p3 _ (by omega)]; exact R_go c hc, by first | omega | (simp only [zu_eq, zu, ↓reduceIte]; (repeat' split) <;> omega)⟩
set_option maxHeartbeats 4000000 in
set_option maxRecDepth 10000 in
theorem st_12 (N : Int) (σ : Nat → Int) (τ : Nat → Nat → Int) (hI : INV N σ τ)   : zok (f_OP_12 N (σ 0) (σ 2) (σ 3) (σ 4) (σ 5) (σ 6) (σ 7) (σ 26) (σ 27) (σ 30) (σ 49) (τ 1) (τ 2) (τ 3) (τ 4) (τ 7) (τ 34) (τ 35) (τ 36) (τ 37) (τ 38) (τ 39) (τ 63) (τ 64)) (fun o => (True) ∧ INV (N + 6) (zst σ [(0, o.2.2.1), (2, o.2.2.2.1), (3, o.2.2.2.2.1), (4, o.2.2.2.2.2.1), (5, o.2.2.2.2.2.2.1), (6, o.2.2.2.2.2.2.2.1), (7, o.2.2.2.2.2.2.2.2.1), (30, o.2.2.2.2.2.2.2.2.2.1)]) (zta τ [(2, o.2.2.2.2.2.2.2.2.2.2.1), (3, o.2.2.2.2.2.2.2.2.2.2.2.1), (4, o.2.2.2.2.2.2.2.2.2.2.2.2.1), (63, o.2.2.2.2.2.2.2.2.2.2.2.2.2.1), (64, o.2.2.2.2.2.2.2.2.2.2.2.2.2.2)])) := by
  have zg1 := hI.2
  have zg2 := zg1.2
  have zg3 := zg2.2
  have zg4 := zg3.2
  have zg5 := zg4.2
  have zg6 := zg5.2
  have zg7 := zg6.2
  have zg8 := zg7.2
  have zg9 := zg8.2
  have zg10 := zg9.2
  have zg11 := zg10.2
  have zg12 := zg11.2
  have zg13 := zg12.2
  have zg14 := zg13.2
  have zg15 := zg14.2
  have zg16 := zg15.2
  have zg17 := zg16.2
  have zg18 := zg17.2
  have zg19 := zg18.2
  have zg20 := zg19.2
  have zg21 := zg20.2
  have zg22 := zg21.2
  have zg23 := zg22.2
  have zg24 := zg23.2
  have zg25 := zg24.2
  have zg26 := zg25.2
  have zg27 := zg26.2
  have zg28 := zg27.2
  have zg29 := zg28.2
  have zg30 := zg29.2
  have zg31 := zg30.2
  have zg32 := zg31.2
  have zg33 := zg32.2
  have zg34 := zg33.2
  have zg35 := zg34.2
  have zg36 := zg35.2
  have zg37 := zg36.2
  have zg38 := zg37.2
  have zg39 := zg38.2
  have zg40 := zg39.2
  have zg41 := zg40.2
  have zg42 := zg41.2
  have zg43 := zg42.2
  have zg44 := zg43.2
  have zg45 := zg44.2
  have zg46 := zg45.2
  have zg47 := zg46.2
  have zg48 := zg47.2
  have zg49 := zg48.2
  have zg50 := zg49.2
  have zg51 := zg50.2
  have zg52 := zg51.2
  have zg53 := zg52.2
  have zg54 := zg53.2
  have zg55 := zg54.2
  have zg56 := zg55.2
  have zg57 := zg56.2
  have zg58 := zg57.2
  have zg59 := zg58.2
  have zg60 := zg59.2
  have zg61 := zg60.2
  have zg62 := zg61.2
  have zg63 := zg62.2
  have zg64 := zg63.2
  have zg65 := zg64.2
  have zg66 := zg65.2
  have zg67 := zg66.2
  have zg68 := zg67.2
  have zg69 := zg68.2
  have zg70 := zg69.2
  have zg71 := zg70.2
  have zg72 := zg71.2
  have zg73 := zg72.2
  have zg74 := zg73.2
  have zg75 := zg74.2
  have zg76 := zg75.2
  have zg77 := zg76.2
  have zg78 := zg77.2
  have zg79 := zg78.2
  have zg80 := zg79.2
  have zg81 := zg80.2
  have zg82 := zg81.2
  have zg83 := zg82.2
  have zg84 := zg83.2
  have zg85 := zg84.2
  have zg86 := zg85.2
  have zg87 := zg86.2
  have zg88 := zg87.2
  have zg89 := zg88.2
  have zg90 := zg89.2
  have zg91 := zg90.2
  have zg92 := zg91.2
  have zg93 := zg92.2
  have zg94 := zg93.2
  have zg95 := zg94.2
  have zg96 := zg95.2
  have zg97 := zg96.2
  have zg98 := zg97.2
  have zg99 := zg98.2
  have zg100 := zg99.2
  have zg101 := zg100.2
  have zg102 := zg101.2
  have zg103 := zg102.2
  have zg104 := zg103.2
  have zg105 := zg104.2
  have zg106 := zg105.2
  have zg107 := zg106.2
  have zg108 := zg107.2
  have zg109 := zg108.2
  have zg110 := zg109.2
  have zg111 := zg110.2
  have zg112 := zg111.2
  have zg113 := zg112.2
  have zg114 := zg113.2
  have zg115 := zg114.2
  have zg116 := zg115.2
  have zg117 := zg116.2
  have zg118 := zg117.2
  have zg119 := zg118.2
  have zg120 := zg119.2
  have zg121 := zg120.2
  have zg122 := zg121.2
  have zg123 := zg122.2
  have zg124 := zg123.2
  have zg125 := zg124.2
  have I_s0 := hI.1
  have I_s3 := zg2.1
  have I_s7 := zg100.1
  have I_s26 := zg3.1
  have I_s27 := zg4.1
  have I_s49 := zg21.1
  have I_t1 := zg44.1
  have I_t4 := zg99.1
  have I_t7 := zg102.1
  have I_t34 := zg45.1
  have I_t35 := zg46.1
  have I_t36 := zg47.1
  have I_t37 := zg48.1
  have I_t38 := zg49.1
  have I_t39 := zg50.1
  have I_t63 := zg70.1
  have I_t64 := zg71.1
  have I_s30 := zg42.1
  have R_many := zg113.1
  have R_ch := zg114.1
  have R_pa := zg115.1
  have R_st := zg116.1
  have R_ex := zg117.1
  have R_tr := zg118.1
  have R_pl := zg119.1
  have R_te := zg120.1
  have R_go := zg121.1
  have R_tp := zg122.1
  refine zok_mono (s_OP_12 N (σ 0) (σ 2) (σ 3) (σ 4) (σ 5) (σ 6) (σ 7) (σ 26) (σ 27) (σ 30) (σ 49) (τ 1) (τ 2) (τ 3) (τ 4) (τ 7) (τ 34) (τ 35) (τ 36) (τ 37) (τ 38) (τ 39) (τ 63) (τ 64) I_s0 I_s3 I_s7 I_s26 I_s27 I_s49 I_t1 I_t4 I_t7 I_t34 I_t35 I_t36 I_t37 I_t38 I_t39 I_t63 I_t64 I_s30 R_many R_ch R_pa R_st R_ex R_tr R_pl R_te R_go R_tp) (fun o ho => ?_)
  obtain ⟨p0, p1, p2, p3, p4, p5, p6, p7, p8, p9, p10, p11, p12, p13, p14, p15, p16⟩ := ho
  exact ⟨trivial, ⟨p0, zg1.1, p1, zg3.1, zg4.1, zg5.1, zg6.1, zg7.1, zg8.1, zg9.1, zg10.1, zg11.1, zg12.1, zg13.1, zg14.1, zg15.1, zg16.1, zg17.1, zg18.1, zg19.1, zg20.1, zg21.1, zg22.1, zg23.1, zg24.1, zg25.1, zg26.1, zg27.1, zg28.1, zg29.1, zg30.1, zg31.1, zg32.1, zg33.1, zg34.1, zg35.1, zg36.1, zg37.1, zg38.1, zg39.1, zg40.1, zg41.1, p2, zg43.1, zg44.1, zg45.1, zg46.1, zg47.1, zg48.1, zg49.1, zg50.1, zg51.1, zg52.1, zg53.1, zg54.1, zg55.1, zg56.1, zg57.1, zg58.1, zg59.1, zg60.1, zg61.1, zg62.1, zg63.1, zg64.1, zg65.1, zg66.1, zg67.1, zg68.1, zg69.1, p3, p4, zg72.1, zg73.1, zg74.1, zg75.1, zg76.1, zg77.1, zg78.1, zg79.1, zg80.1, zg81.1, zg82.1, zg83.1, zg84.1, zg85.1, zg86.1, zg87.1, zg88.1, zg89.1, zg90.1, zg91.1, zg92.1, zg93.1, zg94.1, zg95.1, zg96.1, zg97.1, zg98.1, p5, p6, zg101.1, zg102.1, zg103.1, zg104.1, zg105.1, zg106.1, zg107.1, zg108.1, zg109.1, zg110.1, zg111.1, zg112.1, p7, p8, p9, p10, p11, p12, p13, p14, p15, p16, zg123.1, zg124.1, zg125⟩⟩
noncomputable def f_OP_13 (N : Int) (s2 : Int) (s4 : Int) (s6 : Int) : Option (Int × Int × Int) :=
  zd1 (f_HS_gravel s2) fun v199 =>
  zd2 (f_HM_gravel s6 s4) fun v200 v201 =>
  some (v199, v200, v201)
set_option maxHeartbeats 4000000 in
theorem s_OP_13 (N : Int) (s2 : Int) (s4 : Int) (s6 : Int)  : zok (f_OP_13 N s2 s4 s6) (fun o => True) := by
  unfold f_OP_13
  refine zk_dI1 ?_
  unfold f_HS_gravel
  refine zk_rI1 ?_
  refine zk_d2 (s_HM_gravel _ _) (fun v200 v201 hp => ?_)
  exact zk_ret trivial
set_option maxHeartbeats 4000000 in
set_option maxRecDepth 10000 in
theorem st_13 (N : Int) (σ : Nat → Int) (τ : Nat → Nat → Int) (hI : INV N σ τ)   : zok (f_OP_13 N (σ 2) (σ 4) (σ 6)) (fun o => (True) ∧ INV (N + 6) (zst σ [(4, o.2.2)]) τ) := by
  have zg1 := hI.2
  have zg2 := zg1.2
  have zg3 := zg2.2
  have zg4 := zg3.2
  have zg5 := zg4.2
  have zg6 := zg5.2
  have zg7 := zg6.2
  have zg8 := zg7.2
  have zg9 := zg8.2
  have zg10 := zg9.2
  have zg11 := zg10.2
  have zg12 := zg11.2
  have zg13 := zg12.2
  have zg14 := zg13.2
  have zg15 := zg14.2
  have zg16 := zg15.2
  have zg17 := zg16.2
  have zg18 := zg17.2
  have zg19 := zg18.2
  have zg20 := zg19.2
  have zg21 := zg20.2
  have zg22 := zg21.2
  have zg23 := zg22.2
  have zg24 := zg23.2
  have zg25 := zg24.2
  have zg26 := zg25.2
  have zg27 := zg26.2
  have zg28 := zg27.2
  have zg29 := zg28.2
  have zg30 := zg29.2
  have zg31 := zg30.2
  have zg32 := zg31.2
  have zg33 := zg32.2
  have zg34 := zg33.2
  have zg35 := zg34.2
  have zg36 := zg35.2
  have zg37 := zg36.2
  have zg38 := zg37.2
  have zg39 := zg38.2
  have zg40 := zg39.2
  have zg41 := zg40.2
  have zg42 := zg41.2
  have zg43 := zg42.2
  have zg44 := zg43.2
  have zg45 := zg44.2
  have zg46 := zg45.2
  have zg47 := zg46.2
  have zg48 := zg47.2
  have zg49 := zg48.2
  have zg50 := zg49.2
  have zg51 := zg50.2
  have zg52 := zg51.2
  have zg53 := zg52.2
  have zg54 := zg53.2
  have zg55 := zg54.2
  have zg56 := zg55.2
  have zg57 := zg56.2
  have zg58 := zg57.2
  have zg59 := zg58.2
  have zg60 := zg59.2
  have zg61 := zg60.2
  have zg62 := zg61.2
  have zg63 := zg62.2
  have zg64 := zg63.2
  have zg65 := zg64.2
  have zg66 := zg65.2
  have zg67 := zg66.2
  have zg68 := zg67.2
  have zg69 := zg68.2
  have zg70 := zg69.2
  have zg71 := zg70.2
  have zg72 := zg71.2
  have zg73 := zg72.2
  have zg74 := zg73.2
  have zg75 := zg74.2
  have zg76 := zg75.2
  have zg77 := zg76.2
  have zg78 := zg77.2
  have zg79 := zg78.2
  have zg80 := zg79.2
  have zg81 := zg80.2
  have zg82 := zg81.2
  have zg83 := zg82.2
  have zg84 := zg83.2
  have zg85 := zg84.2
  have zg86 := zg85.2
  have zg87 := zg86.2
  have zg88 := zg87.2
  have zg89 := zg88.2
  have zg90 := zg89.2
  have zg91 := zg90.2
  have zg92 := zg91.2
  have zg93 := zg92.2
  have zg94 := zg93.2
  have zg95 := zg94.2
  have zg96 := zg95.2
  have zg97 := zg96.2
  have zg98 := zg97.2
  have zg99 := zg98.2
  have zg100 := zg99.2
  have zg101 := zg100.2
  have zg102 := zg101.2
  have zg103 := zg102.2
  have zg104 := zg103.2
  have zg105 := zg104.2
  have zg106 := zg105.2
  have zg107 := zg106.2
  have zg108 := zg107.2
  have zg109 := zg108.2
  have zg110 := zg109.2
  have zg111 := zg110.2
  have zg112 := zg111.2
  have zg113 := zg112.2
  have zg114 := zg113.2
  have zg115 := zg114.2
  have zg116 := zg115.2
  have zg117 := zg116.2
  have zg118 := zg117.2
  have zg119 := zg118.2
  have zg120 := zg119.2
  have zg121 := zg120.2
  have zg122 := zg121.2
  have zg123 := zg122.2
  have zg124 := zg123.2
  have zg125 := zg124.2
  refine zok_mono (s_OP_13 N (σ 2) (σ 4) (σ 6) ) (fun o ho => ?_)
  skip
  exact ⟨trivial, ⟨hI.1, zg1.1, zg2.1, zg3.1, zg4.1, zg5.1, zg6.1, zg7.1, zg8.1, zg9.1, zg10.1, zg11.1, zg12.1, zg13.1, zg14.1, zg15.1, zg16.1, zg17.1, zg18.1, zg19.1, zg20.1, zg21.1, zg22.1, zg23.1, zg24.1, zg25.1, zg26.1, zg27.1, zg28.1, zg29.1, zg30.1, zg31.1, zg32.1, zg33.1, zg34.1, zg35.1, zg36.1, zg37.1, zg38.1, zg39.1, zg40.1, zg41.1, ⟨zg42.1.1, Int.le_trans zg42.1.2 (Int.le_add_of_nonneg_right (by decide))⟩, zg43.1, zg44.1, zg45.1, zg46.1, zg47.1, zg48.1, zg49.1, zg50.1, zg51.1, zg52.1, zg53.1, zg54.1, zg55.1, zg56.1, zg57.1, zg58.1, zg59.1, zg60.1, zg61.1, zg62.1, zg63.1, zg64.1, zg65.1, zg66.1, zg67.1, zg68.1, zg69.1, zg70.1, zg71.1, zg72.1, zg73.1, zg74.1, zg75.1, zg76.1, zg77.1, zg78.1, zg79.1, zg80.1, zg81.1, zg82.1, zg83.1, zg84.1, zg85.1, zg86.1, zg87.1, zg88.1, zg89.1, zg90.1, zg91.1, zg92.1, zg93.1, zg94.1, zg95.1, zg96.1, zg97.1, zg98.1, zg99.1, zg100.1, zg101.1, zg102.1, zg103.1, zg104.1, zg105.1, zg106.1, zg107.1, zg108.1, zg109.1, zg110.1, zg111.1, zg112.1, zg113.1, zg114.1, zg115.1, zg116.1, zg117.1, zg118.1, zg119.1, zg120.1, zg121.1, zg122.1, zg123.1, zg124.1, zg125⟩⟩
noncomputable def f_OP_14 (N : Int) (s0 : Int) (s1 : Int) (s3 : Int) (s4 : Int) (s5 : Int) (s7 : Int) (s8 : Int) (s9 : Int) (s10 : Int) (s11 : Int) (s12 : Int) (s13 : Int) (s14 : Int) (s15 : Int) (s16 : Int) (s17 : Int) (s18 : Int) (s26 : Int) (s27 : Int) (s28 : Int) (s30 : Int) (s31 : Int) (s32 : Int) (s33 : Int) (s49 : Int) (t1 : Nat → Int) (t2 : Nat → Int) (t3 : Nat → Int) (t4 : Nat → Int) (t7 : Nat → Int) (t8 : Nat → Int) (t9 : Nat → Int) (t10 : Nat → Int) (t11 : Nat → Int) (t12 : Nat → Int) (t13 : Nat → Int) (t34 : Nat → Int) (t35 : Nat → Int) (t36 : Nat → Int) (t37 : Nat → Int) (t38 : Nat → Int) (t39 : Nat → Int) (t40 : Nat → Int) (t41 : Nat → Int) (t42 : Nat → Int) (t43 : Nat → Int) (t44 : Nat → Int) (t45 : Nat → Int) : Option (Int × Int × Int × Int × Int × Int × Int × Int × Int × Int × Int × Int × Int × Int × Int × Int × Int × Int × Int × Int × Int × Int × Int × Int × (Nat → Int) × (Nat → Int) × (Nat → Int) × (Nat → Int) × (Nat → Int) × (Nat → Int) × (Nat → Int) × (Nat → Int) × (Nat → Int) × (Nat → Int) × (Nat → Int) × (Nat → Int) × (Nat → Int) × (Nat → Int)) :=
  zd16 (f_HS_law t1 s0 s1 s3 s28 s30 t2 s31 s32 s33 t40 t41 t42 t43 t44 t45) fun v202 v203 v204 v205 v206 v207 a208 v209 v210 v211 a212 a213 a214 a215 a216 a217 =>
  zd22 (f_HM_law t7 t13 s4 s5 s7 s8 s9 s10 s11 s12 s13 s14 s15 s16 s17 s18 t3 t4 t8 t9 t10 t11 t12) fun v218 v219 v220 v221 v222 v223 v224 v225 v226 v227 v228 v229 v230 v231 v232 a233 a234 a235 a236 a237 a238 a239 =>
  some (v202, v218, v203, v204, v205, v219, v220, v221, v222, v223, v224, v225, v226, v227, v228, v229, v230, v231, v232, v206, v207, v209, v210, v211, a208, a233, a234, a235, a236, a237, a238, a239, a212, a213, a214, a215, a216, a217)
set_option maxHeartbeats 4000000 in
theorem s_OP_14 (N : Int) (s0 : Int) (s1 : Int) (s3 : Int) (s4 : Int) (s5 : Int) (s7 : Int) (s8 : Int) (s9 : Int) (s10 : Int) (s11 : Int) (s12 : Int) (s13 : Int) (s14 : Int) (s15 : Int) (s16 : Int) (s17 : Int) (s18 : Int) (s26 : Int) (s27 : Int) (s28 : Int) (s30 : Int) (s31 : Int) (s32 : Int) (s33 : Int) (s49 : Int) (t1 : Nat → Int) (t2 : Nat → Int) (t3 : Nat → Int) (t4 : Nat → Int) (t7 : Nat → Int) (t8 : Nat → Int) (t9 : Nat → Int) (t10 : Nat → Int) (t11 : Nat → Int) (t12 : Nat → Int) (t13 : Nat → Int) (t34 : Nat → Int) (t35 : Nat → Int) (t36 : Nat → Int) (t37 : Nat → Int) (t38 : Nat → Int) (t39 : Nat → Int) (t40 : Nat → Int) (t41 : Nat → Int) (t42 : Nat → Int) (t43 : Nat → Int) (t44 : Nat → Int) (t45 : Nat → Int) (b_s0 : 0 ≤ s0 ∧ s0 ≤ 400) (b_s1 : (-1) ≤ s1 ∧ s1 ≤ 400) (b_s3 : (-6) ≤ s3 ∧ s3 ≤ 0) (b_s7 : 0 ≤ s7 ∧ s7 ≤ 400) (b_s26 : 0 ≤ s26 ∧ s26 ≤ 6) (b_s27 : 0 ≤ s27 ∧ s27 ≤ 6) (b_s28 : 0 ≤ s28 ∧ s28 ≤ 6) (b_s31 : 0 ≤ s31 ∧ s31 ≤ 424) (b_s32 : 0 ≤ s32 ∧ s32 ≤ 400) (b_s33 : 0 ≤ s33 ∧ s33 ≤ 50) (b_s49 : 0 ≤ s49 ∧ s49 ≤ 12) (h_t1 : zR t1 0 255) (h_t4 : RI t4) (h_t7 : zR t7 0 255) (h_t34 : zR t34 0 60) (h_t35 : zR t35 0 1) (h_t36 : zR t36 0 20) (h_t37 : zR t37 0 11) (h_t38 : zR t38 0 99) (h_t39 : zR t39 (-1) 10) (h_t40 : zR t40 (-2147483648) 2147483647) (h_t41 : zR t41 0 424) (h_t42 : zR t42 (-2147483648) 2147483647) (h_t43 : zR t43 0 265) (h_t44 : zR t44 0 400) (I_s30 : 0 ≤ s30 ∧ s30 ≤ N) (R_many : s49 = t4 0) (R_ch : s26 = t4 1) (R_pa : s27 = t4 2) (R_st : RV 3 153 s26 t34 t4) (R_ex : RV 3 154 s26 t35 t4) (R_tr : RV 3 155 s26 t36 t4) (R_pl : RV 1 171 s27 t37 t4) (R_te : RV 1 5 4 t38 t4) (R_go : RV 1 141 s49 t39 t4) (R_tp : s0 = s7) : zok (f_OP_14 N s0 s1 s3 s4 s5 s7 s8 s9 s10 s11 s12 s13 s14 s15 s16 s17 s18 s26 s27 s28 s30 s31 s32 s33 s49 t1 t2 t3 t4 t7 t8 t9 t10 t11 t12 t13 t34 t35 t36 t37 t38 t39 t40 t41 t42 t43 t44 t45) (fun o => (0 ≤ o.2.2.1 ∧ o.2.2.1 ≤ 400) ∧ ((-1) ≤ o.2.2.2.1 ∧ o.2.2.2.1 ≤ 400) ∧ ((-6) ≤ o.2.2.2.2.1 ∧ o.2.2.2.2.1 ≤ 0) ∧ (0 ≤ o.2.2.2.2.2.2.2.2.2.2.2.2.2.2.2.2.2.2.2.1 ∧ o.2.2.2.2.2.2.2.2.2.2.2.2.2.2.2.2.2.2.2.1 ≤ 6) ∧ (0 ≤ o.2.2.2.2.2.2.2.2.2.2.2.2.2.2.2.2.2.2.2.2.2.1 ∧ o.2.2.2.2.2.2.2.2.2.2.2.2.2.2.2.2.2.2.2.2.2.1 ≤ 424) ∧ (0 ≤ o.2.2.2.2.2.2.2.2.2.2.2.2.2.2.2.2.2.2.2.2.2.2.1 ∧ o.2.2.2.2.2.2.2.2.2.2.2.2.2.2.2.2.2.2.2.2.2.2.1 ≤ 400) ∧ (0 ≤ o.2.2.2.2.2.2.2.2.2.2.2.2.2.2.2.2.2.2.2.2.2.2.2.1 ∧ o.2.2.2.2.2.2.2.2.2.2.2.2.2.2.2.2.2.2.2.2.2.2.2.1 ≤ 50) ∧ (0 ≤ o.2.2.2.2.2.2.2.2.2.2.2.2.2.2.2.2.2.2.2.2.1 ∧ o.2.2.2.2.2.2.2.2.2.2.2.2.2.2.2.2.2.2.2.2.1 ≤ N + 6) ∧ zR o.2.2.2.2.2.2.2.2.2.2.2.2.2.2.2.2.2.2.2.2.2.2.2.2.2.2.2.2.2.2.2.2.1 (-2147483648) 2147483647 ∧ zR o.2.2.2.2.2.2.2.2.2.2.2.2.2.2.2.2.2.2.2.2.2.2.2.2.2.2.2.2.2.2.2.2.2.1 0 424 ∧ zR o.2.2.2.2.2.2.2.2.2.2.2.2.2.2.2.2.2.2.2.2.2.2.2.2.2.2.2.2.2.2.2.2.2.2.1 (-2147483648) 2147483647 ∧ zR o.2.2.2.2.2.2.2.2.2.2.2.2.2.2.2.2.2.2.2.2.2.2.2.2.2.2.2.2.2.2.2.2.2.2.2.1 0 265 ∧ zR o.2.2.2.2.2.2.2.2.2.2.2.2.2.2.2.2.2.2.2.2.2.2.2.2.2.2.2.2.2.2.2.2.2.2.2.2.1 0 400 ∧ RI o.2.2.2.2.2.2.2.2.2.2.2.2.2.2.2.2.2.2.2.2.2.2.2.2.2.2.1 ∧ (0 ≤ o.2.2.2.2.2.2.2.1 ∧ o.2.2.2.2.2.2.2.1 ≤ 400) ∧ (s49 = o.2.2.2.2.2.2.2.2.2.2.2.2.2.2.2.2.2.2.2.2.2.2.2.2.2.2.1 0) ∧ (s26 = o.2.2.2.2.2.2.2.2.2.2.2.2.2.2.2.2.2.2.2.2.2.2.2.2.2.2.1 1) ∧ (s27 = o.2.2.2.2.2.2.2.2.2.2.2.2.2.2.2.2.2.2.2.2.2.2.2.2.2.2.1 2) ∧ (RV 3 153 s26 t34 o.2.2.2.2.2.2.2.2.2.2.2.2.2.2.2.2.2.2.2.2.2.2.2.2.2.2.1) ∧ (RV 3 154 s26 t35 o.2.2.2.2.2.2.2.2.2.2.2.2.2.2.2.2.2.2.2.2.2.2.2.2.2.2.1) ∧ (RV 3 155 s26 t36 o.2.2.2.2.2.2.2.2.2.2.2.2.2.2.2.2.2.2.2.2.2.2.2.2.2.2.1) ∧ (RV 1 171 s27 t37 o.2.2.2.2.2.2.2.2.2.2.2.2.2.2.2.2.2.2.2.2.2.2.2.2.2.2.1) ∧ (RV 1 5 4 t38 o.2.2.2.2.2.2.2.2.2.2.2.2.2.2.2.2.2.2.2.2.2.2.2.2.2.2.1) ∧ (RV 1 141 s49 t39 o.2.2.2.2.2.2.2.2.2.2.2.2.2.2.2.2.2.2.2.2.2.2.2.2.2.2.1) ∧ (o.2.2.1 = o.2.2.2.2.2.2.2.1)) := by
  unfold f_OP_14
  refine zk_dI16 ?_
  unfold f_HS_law
  refine zk_ifc (zci_lt (by omega) (by omega)) (fun hc => ?_) (fun hc => ?_)
  · first
    | (exfalso; omega)
    | (skip
       refine zk_d8 (s_LawReader_read _ _ _ _ _ _ _ _ _ (by omega) h_t1 (by omega) (by omega) (by omega) h_t42 h_t43 h_t44) (fun v1 v2 v3 v4 a5 a6 a7 a8 hp => ?_)
       try dsimp only at hp
       obtain ⟨hpp0, hpp1, hpp2, hpp3, hpp4, hpp5, hpp6⟩ := hp
       refine zk_ifc (zci_eq (by omega) (by omega)) (fun hc_2 => ?_) (fun hc_2 => ?_)
       · first
         | (exfalso; omega)
         | (skip
            refine zk_d4 (s_Hill_enact _ _ _ _ _ (by omega) hpp4 (by omega) h_t40 h_t41) (fun v9 v10 a11 a12 hp_2 => ?_)
            try dsimp only at hp_2
            obtain ⟨hp_2p0, hp_2p1, hp_2p2, hp_2p3⟩ := hp_2
            refine zk_dI3 ?_
            unfold f_HS_accept
            refine zk_n ?_
            refine zk_rI3 ?_
            refine zk_rI16 ?_
            refine zk_d22 (ww_HM_law _ _ _ _ _ _ _ _ _ _ _ _ _ _ _ _ _ _ _ _ _ _ _ h_t7 (by omega) h_t4) (fun v218 v219 v220 v221 v222 v223 v224 v225 v226 v227 v228 v229 v230 v231 v232 a233 a234 a235 a236 a237 a238 a239 hp_3 => ?_)
            try dsimp only at hp_3
            obtain ⟨hp_3p0, hp_3p1, hp_3p2⟩ := hp_3
            refine zk_ret ?_
            try dsimp only
            exact ⟨by omega, by omega, by omega, by omega, by omega, by omega, by omega, by omega, hp_2p2, hp_2p3, hpp4, hpp5, hpp6, hp_3p0, by omega, by rw [LPP_fr hp_3p2 _ (by omega) (by omega)]; exact R_many, by rw [LPP_fr hp_3p2 _ (by omega) (by omega)]; exact R_ch, by rw [LPP_fr hp_3p2 _ (by omega) (by omega)]; exact R_pa, by intro c hc; rw [LPP_fr hp_3p2 _ (by omega) (by omega)]; exact R_st c hc, by intro c hc; rw [LPP_fr hp_3p2 _ (by omega) (by omega)]; exact R_ex c hc, by intro c hc; rw [LPP_fr hp_3p2 _ (by omega) (by omega)]; exact R_tr c hc, by intro c hc; rw [LPP_fr hp_3p2 _ (by omega) (by omega)]; exact R_pl c hc, by intro c hc; rw [LPP_fr hp_3p2 _ (by omega) (by omega)]; exact R_te c hc, by intro c hc; rw [LPP_fr hp_3p2 _ (by omega) (by omega)]; exact R_go c hc, by first | omega | (simp only [zu_eq, zu, ↓reduceIte]; (repeat' split) <;> omega)⟩)
       · first
         | (exfalso; omega)
         | (skip
            refine zk_dI3 ?_
            unfold f_HS_refuse
            refine zk_nE (fun v1_3 h_v1_3 => ?_)
            refine zk_gv (by omega) (by decide) (fun v2_2 h_v2_2 => ?_)
            refine zk_n ?_
            refine zk_sv (by omega) (by decide) (fun a4 h_a4 => ?_)
            refine zk_rI3 ?_
            refine zk_rI16 ?_
            refine zk_d22 (ww_HM_law _ _ _ _ _ _ _ _ _ _ _ _ _ _ _ _ _ _ _ _ _ _ _ h_t7 (by omega) h_t4) (fun v218_2 v219_2 v220_2 v221_2 v222_2 v223_2 v224_2 v225_2 v226_2 v227_2 v228_2 v229_2 v230_2 v231_2 v232_2 a233_2 a234_2 a235_2 a236_2 a237_2 a238_2 a239_2 hp_4 => ?_)
            try dsimp only at hp_4
            obtain ⟨hp_4p0, hp_4p1, hp_4p2⟩ := hp_4
            refine zk_ret ?_
            try dsimp only
            exact ⟨by omega, by omega, by omega, by omega, by omega, by omega, by omega, by omega, h_t40, h_t41, hpp4, hpp5, hpp6, hp_4p0, by omega, by rw [LPP_fr hp_4p2 _ (by omega) (by omega)]; exact R_many, by rw [LPP_fr hp_4p2 _ (by omega) (by omega)]; exact R_ch, by rw [LPP_fr hp_4p2 _ (by omega) (by omega)]; exact R_pa, by intro c hc; rw [LPP_fr hp_4p2 _ (by omega) (by omega)]; exact R_st c hc, by intro c hc; rw [LPP_fr hp_4p2 _ (by omega) (by omega)]; exact R_ex c hc, by intro c hc; rw [LPP_fr hp_4p2 _ (by omega) (by omega)]; exact R_tr c hc, by intro c hc; rw [LPP_fr hp_4p2 _ (by omega) (by omega)]; exact R_pl c hc, by intro c hc; rw [LPP_fr hp_4p2 _ (by omega) (by omega)]; exact R_te c hc, by intro c hc; rw [LPP_fr hp_4p2 _ (by omega) (by omega)]; exact R_go c hc, by first | omega | (simp only [h_a4, zu, ↓reduceIte]; (repeat' split) <;> omega)⟩))
  · first
    | (exfalso; omega)
    | (skip
       refine zk_dI3 ?_
       unfold f_HS_refuse
       refine zk_nE (fun v1_4 h_v1_4 => ?_)
       refine zk_gv (by omega) (by decide) (fun v2_3 h_v2_3 => ?_)
       refine zk_n ?_
       refine zk_sv (by omega) (by decide) (fun a4_2 h_a4_2 => ?_)
       refine zk_rI3 ?_
       refine zk_rI16 ?_
       refine zk_d22 (ww_HM_law _ _ _ _ _ _ _ _ _ _ _ _ _ _ _ _ _ _ _ _ _ _ _ h_t7 (by omega) h_t4) (fun v218_3 v219_3 v220_3 v221_3 v222_3 v223_3 v224_3 v225_3 v226_3 v227_3 v228_3 v229_3 v230_3 v231_3 v232_3 a233_3 a234_3 a235_3 a236_3 a237_3 a238_3 a239_3 hp_5 => ?_)
       try dsimp only at hp_5
       obtain ⟨hp_5p0, hp_5p1, hp_5p2⟩ := hp_5
       refine zk_ret ?_
       try dsimp only
       exact ⟨by omega, by omega, by omega, by omega, by omega, by omega, by omega, by omega, h_t40, h_t41, h_t42, h_t43, h_t44, hp_5p0, by omega, by rw [LPP_fr hp_5p2 _ (by omega) (by omega)]; exact R_many, by rw [LPP_fr hp_5p2 _ (by omega) (by omega)]; exact R_ch, by rw [LPP_fr hp_5p2 _ (by omega) (by omega)]; exact R_pa, by intro c hc; rw [LPP_fr hp_5p2 _ (by omega) (by omega)]; exact R_st c hc, by intro c hc; rw [LPP_fr hp_5p2 _ (by omega) (by omega)]; exact R_ex c hc, by intro c hc; rw [LPP_fr hp_5p2 _ (by omega) (by omega)]; exact R_tr c hc, by intro c hc; rw [LPP_fr hp_5p2 _ (by omega) (by omega)]; exact R_pl c hc, by intro c hc; rw [LPP_fr hp_5p2 _ (by omega) (by omega)]; exact R_te c hc, by intro c hc; rw [LPP_fr hp_5p2 _ (by omega) (by omega)]; exact R_go c hc, by first | omega | (simp only [h_a4_2, zu, ↓reduceIte]; (repeat' split) <;> omega)⟩)
set_option maxHeartbeats 4000000 in
set_option maxRecDepth 10000 in
theorem st_14 (N : Int) (σ : Nat → Int) (τ : Nat → Nat → Int) (hI : INV N σ τ)   : zok (f_OP_14 N (σ 0) (σ 1) (σ 3) (σ 4) (σ 5) (σ 7) (σ 8) (σ 9) (σ 10) (σ 11) (σ 12) (σ 13) (σ 14) (σ 15) (σ 16) (σ 17) (σ 18) (σ 26) (σ 27) (σ 28) (σ 30) (σ 31) (σ 32) (σ 33) (σ 49) (τ 1) (τ 2) (τ 3) (τ 4) (τ 7) (τ 8) (τ 9) (τ 10) (τ 11) (τ 12) (τ 13) (τ 34) (τ 35) (τ 36) (τ 37) (τ 38) (τ 39) (τ 40) (τ 41) (τ 42) (τ 43) (τ 44) (τ 45)) (fun o => (True) ∧ INV (N + 6) (zst σ [(0, o.2.2.1), (1, o.2.2.2.1), (3, o.2.2.2.2.1), (4, o.2.2.2.2.2.1), (5, o.2.2.2.2.2.2.1), (7, o.2.2.2.2.2.2.2.1), (8, o.2.2.2.2.2.2.2.2.1), (9, o.2.2.2.2.2.2.2.2.2.1), (10, o.2.2.2.2.2.2.2.2.2.2.1), (11, o.2.2.2.2.2.2.2.2.2.2.2.1), (12, o.2.2.2.2.2.2.2.2.2.2.2.2.1), (13, o.2.2.2.2.2.2.2.2.2.2.2.2.2.1), (14, o.2.2.2.2.2.2.2.2.2.2.2.2.2.2.1), (15, o.2.2.2.2.2.2.2.2.2.2.2.2.2.2.2.1), (16, o.2.2.2.2.2.2.2.2.2.2.2.2.2.2.2.2.1), (17, o.2.2.2.2.2.2.2.2.2.2.2.2.2.2.2.2.2.1), (18, o.2.2.2.2.2.2.2.2.2.2.2.2.2.2.2.2.2.2.1), (28, o.2.2.2.2.2.2.2.2.2.2.2.2.2.2.2.2.2.2.2.1), (30, o.2.2.2.2.2.2.2.2.2.2.2.2.2.2.2.2.2.2.2.2.1), (31, o.2.2.2.2.2.2.2.2.2.2.2.2.2.2.2.2.2.2.2.2.2.1), (32, o.2.2.2.2.2.2.2.2.2.2.2.2.2.2.2.2.2.2.2.2.2.2.1), (33, o.2.2.2.2.2.2.2.2.2.2.2.2.2.2.2.2.2.2.2.2.2.2.2.1)]) (zta τ [(2, o.2.2.2.2.2.2.2.2.2.2.2.2.2.2.2.2.2.2.2.2.2.2.2.2.1), (3, o.2.2.2.2.2.2.2.2.2.2.2.2.2.2.2.2.2.2.2.2.2.2.2.2.2.1), (4, o.2.2.2.2.2.2.2.2.2.2.2.2.2.2.2.2.2.2.2.2.2.2.2.2.2.2.1), (8, o.2.2.2.2.2.2.2.2.2.2.2.2.2.2.2.2.2.2.2.2.2.2.2.2.2.2.2.1), (9, o.2.2.2.2.2.2.2.2.2.2.2.2.2.2.2.2.2.2.2.2.2.2.2.2.2.2.2.2.1), (10, o.2.2.2.2.2.2.2.2.2.2.2.2.2.2.2.2.2.2.2.2.2.2.2.2.2.2.2.2.2.1), (11, o.2.2.2.2.2.2.2.2.2.2.2.2.2.2.2.2.2.2.2.2.2.2.2.2.2.2.2.2.2.2.1), (12, o.2.2.2.2.2.2.2.2.2.2.2.2.2.2.2.2.2.2.2.2.2.2.2.2.2.2.2.2.2.2.2.1), (40, o.2.2.2.2.2.2.2.2.2.2.2.2.2.2.2.2.2.2.2.2.2.2.2.2.2.2.2.2.2.2.2.2.1), (41, o.2.2.2.2.2.2.2.2.2.2.2.2.2.2.2.2.2.2.2.2.2.2.2.2.2.2.2.2.2.2.2.2.2.1), (42, o.2.2.2.2.2.2.2.2.2.2.2.2.2.2.2.2.2.2.2.2.2.2.2.2.2.2.2.2.2.2.2.2.2.2.1), (43, o.2.2.2.2.2.2.2.2.2.2.2.2.2.2.2.2.2.2.2.2.2.2.2.2.2.2.2.2.2.2.2.2.2.2.2.1), (44, o.2.2.2.2.2.2.2.2.2.2.2.2.2.2.2.2.2.2.2.2.2.2.2.2.2.2.2.2.2.2.2.2.2.2.2.2.1), (45, o.2.2.2.2.2.2.2.2.2.2.2.2.2.2.2.2.2.2.2.2.2.2.2.2.2.2.2.2.2.2.2.2.2.2.2.2.2)])) := by
  have zg1 := hI.2
  have zg2 := zg1.2
  have zg3 := zg2.2
  have zg4 := zg3.2
  have zg5 := zg4.2
  have zg6 := zg5.2
  have zg7 := zg6.2
  have zg8 := zg7.2
  have zg9 := zg8.2
  have zg10 := zg9.2
  have zg11 := zg10.2
  have zg12 := zg11.2
  have zg13 := zg12.2
  have zg14 := zg13.2
  have zg15 := zg14.2
  have zg16 := zg15.2
  have zg17 := zg16.2
  have zg18 := zg17.2
  have zg19 := zg18.2
  have zg20 := zg19.2
  have zg21 := zg20.2
  have zg22 := zg21.2
  have zg23 := zg22.2
  have zg24 := zg23.2
  have zg25 := zg24.2
  have zg26 := zg25.2
  have zg27 := zg26.2
  have zg28 := zg27.2
  have zg29 := zg28.2
  have zg30 := zg29.2
  have zg31 := zg30.2
  have zg32 := zg31.2
  have zg33 := zg32.2
  have zg34 := zg33.2
  have zg35 := zg34.2
  have zg36 := zg35.2
  have zg37 := zg36.2
  have zg38 := zg37.2
  have zg39 := zg38.2
  have zg40 := zg39.2
  have zg41 := zg40.2
  have zg42 := zg41.2
  have zg43 := zg42.2
  have zg44 := zg43.2
  have zg45 := zg44.2
  have zg46 := zg45.2
  have zg47 := zg46.2
  have zg48 := zg47.2
  have zg49 := zg48.2
  have zg50 := zg49.2
  have zg51 := zg50.2
  have zg52 := zg51.2
  have zg53 := zg52.2
  have zg54 := zg53.2
  have zg55 := zg54.2
  have zg56 := zg55.2
  have zg57 := zg56.2
  have zg58 := zg57.2
  have zg59 := zg58.2
  have zg60 := zg59.2
  have zg61 := zg60.2
  have zg62 := zg61.2
  have zg63 := zg62.2
  have zg64 := zg63.2
  have zg65 := zg64.2
  have zg66 := zg65.2
  have zg67 := zg66.2
  have zg68 := zg67.2
  have zg69 := zg68.2
  have zg70 := zg69.2
  have zg71 := zg70.2
  have zg72 := zg71.2
  have zg73 := zg72.2
  have zg74 := zg73.2
  have zg75 := zg74.2
  have zg76 := zg75.2
  have zg77 := zg76.2
  have zg78 := zg77.2
  have zg79 := zg78.2
  have zg80 := zg79.2
  have zg81 := zg80.2
  have zg82 := zg81.2
  have zg83 := zg82.2
  have zg84 := zg83.2
  have zg85 := zg84.2
  have zg86 := zg85.2
  have zg87 := zg86.2
  have zg88 := zg87.2
  have zg89 := zg88.2
  have zg90 := zg89.2
  have zg91 := zg90.2
  have zg92 := zg91.2
  have zg93 := zg92.2
  have zg94 := zg93.2
  have zg95 := zg94.2
  have zg96 := zg95.2
  have zg97 := zg96.2
  have zg98 := zg97.2
  have zg99 := zg98.2
  have zg100 := zg99.2
  have zg101 := zg100.2
  have zg102 := zg101.2
  have zg103 := zg102.2
  have zg104 := zg103.2
  have zg105 := zg104.2
  have zg106 := zg105.2
  have zg107 := zg106.2
  have zg108 := zg107.2
  have zg109 := zg108.2
  have zg110 := zg109.2
  have zg111 := zg110.2
  have zg112 := zg111.2
  have zg113 := zg112.2
  have zg114 := zg113.2
  have zg115 := zg114.2
  have zg116 := zg115.2
  have zg117 := zg116.2
  have zg118 := zg117.2
  have zg119 := zg118.2
  have zg120 := zg119.2
  have zg121 := zg120.2
  have zg122 := zg121.2
  have zg123 := zg122.2
  have zg124 := zg123.2
  have zg125 := zg124.2
  have I_s0 := hI.1
  have I_s1 := zg1.1
  have I_s3 := zg2.1
  have I_s7 := zg100.1
  have I_s26 := zg3.1
  have I_s27 := zg4.1
  have I_s28 := zg5.1
  have I_s31 := zg7.1
  have I_s32 := zg8.1
  have I_s33 := zg9.1
  have I_s49 := zg21.1
  have I_t1 := zg44.1
  have I_t4 := zg99.1
  have I_t7 := zg102.1
  have I_t34 := zg45.1
  have I_t35 := zg46.1
  have I_t36 := zg47.1
  have I_t37 := zg48.1
  have I_t38 := zg49.1
  have I_t39 := zg50.1
  have I_t40 := zg51.1
  have I_t41 := zg52.1
  have I_t42 := zg53.1
  have I_t43 := zg54.1
  have I_t44 := zg55.1
  have I_s30 := zg42.1
  have R_many := zg113.1
  have R_ch := zg114.1
  have R_pa := zg115.1
  have R_st := zg116.1
  have R_ex := zg117.1
  have R_tr := zg118.1
  have R_pl := zg119.1
  have R_te := zg120.1
  have R_go := zg121.1
  have R_tp := zg122.1
  refine zok_mono (s_OP_14 N (σ 0) (σ 1) (σ 3) (σ 4) (σ 5) (σ 7) (σ 8) (σ 9) (σ 10) (σ 11) (σ 12) (σ 13) (σ 14) (σ 15) (σ 16) (σ 17) (σ 18) (σ 26) (σ 27) (σ 28) (σ 30) (σ 31) (σ 32) (σ 33) (σ 49) (τ 1) (τ 2) (τ 3) (τ 4) (τ 7) (τ 8) (τ 9) (τ 10) (τ 11) (τ 12) (τ 13) (τ 34) (τ 35) (τ 36) (τ 37) (τ 38) (τ 39) (τ 40) (τ 41) (τ 42) (τ 43) (τ 44) (τ 45) I_s0 I_s1 I_s3 I_s7 I_s26 I_s27 I_s28 I_s31 I_s32 I_s33 I_s49 I_t1 I_t4 I_t7 I_t34 I_t35 I_t36 I_t37 I_t38 I_t39 I_t40 I_t41 I_t42 I_t43 I_t44 I_s30 R_many R_ch R_pa R_st R_ex R_tr R_pl R_te R_go R_tp) (fun o ho => ?_)
  obtain ⟨p0, p1, p2, p3, p4, p5, p6, p7, p8, p9, p10, p11, p12, p13, p14, p15, p16, p17, p18, p19, p20, p21, p22, p23, p24⟩ := ho
  exact ⟨trivial, ⟨p0, p1, p2, zg3.1, zg4.1, p3, zg6.1, p4, p5, p6, zg10.1, zg11.1, zg12.1, zg13.1, zg14.1, zg15.1, zg16.1, zg17.1, zg18.1, zg19.1, zg20.1, zg21.1, zg22.1, zg23.1, zg24.1, zg25.1, zg26.1, zg27.1, zg28.1, zg29.1, zg30.1, zg31.1, zg32.1, zg33.1, zg34.1, zg35.1, zg36.1, zg37.1, zg38.1, zg39.1, zg40.1, zg41.1, p7, zg43.1, zg44.1, zg45.1, zg46.1, zg47.1, zg48.1, zg49.1, zg50.1, p8, p9, p10, p11, p12, zg56.1, zg57.1, zg58.1, zg59.1, zg60.1, zg61.1, zg62.1, zg63.1, zg64.1, zg65.1, zg66.1, zg67.1, zg68.1, zg69.1, zg70.1, zg71.1, zg72.1, zg73.1, zg74.1, zg75.1, zg76.1, zg77.1, zg78.1, zg79.1, zg80.1, zg81.1, zg82.1, zg83.1, zg84.1, zg85.1, zg86.1, zg87.1, zg88.1, zg89.1, zg90.1, zg91.1, zg92.1, zg93.1, zg94.1, zg95.1, zg96.1, zg97.1, zg98.1, p13, p14, zg101.1, zg102.1, zg103.1, zg104.1, zg105.1, zg106.1, zg107.1, zg108.1, zg109.1, zg110.1, zg111.1, zg112.1, p15, p16, p17, p18, p19, p20, p21, p22, p23, p24, zg123.1, zg124.1, zg125⟩⟩
noncomputable def f_OP_15 (N : Int) (s1 : Int) (s4 : Int) (s12 : Int) : Option (Int × Int × Int) :=
  zd1 (f_HS_fault s1) fun v240 =>
  zd2 (f_HM_fault s12 s4) fun v241 v242 =>
  some (v240, v241, v242)
set_option maxHeartbeats 4000000 in
theorem s_OP_15 (N : Int) (s1 : Int) (s4 : Int) (s12 : Int) (b_s1 : (-1) ≤ s1 ∧ s1 ≤ 400) : zok (f_OP_15 N s1 s4 s12) (fun o => True) := by
  unfold f_OP_15
  refine zk_dI1 ?_
  unfold f_HS_fault
  refine zk_rI1 ?_
  refine zk_d2 (s_HM_fault _ _) (fun v241 v242 hp => ?_)
  exact zk_ret trivial
set_option maxHeartbeats 4000000 in
set_option maxRecDepth 10000 in
theorem st_15 (N : Int) (σ : Nat → Int) (τ : Nat → Nat → Int) (hI : INV N σ τ)   : zok (f_OP_15 N (σ 1) (σ 4) (σ 12)) (fun o => (True) ∧ INV (N + 6) (zst σ [(4, o.2.2)]) τ) := by
  have zg1 := hI.2
  have zg2 := zg1.2
  have zg3 := zg2.2
  have zg4 := zg3.2
  have zg5 := zg4.2
  have zg6 := zg5.2
  have zg7 := zg6.2
  have zg8 := zg7.2
  have zg9 := zg8.2
  have zg10 := zg9.2
  have zg11 := zg10.2
  have zg12 := zg11.2
  have zg13 := zg12.2
  have zg14 := zg13.2
  have zg15 := zg14.2
  have zg16 := zg15.2
  have zg17 := zg16.2
  have zg18 := zg17.2
  have zg19 := zg18.2
  have zg20 := zg19.2
  have zg21 := zg20.2
  have zg22 := zg21.2
  have zg23 := zg22.2
  have zg24 := zg23.2
  have zg25 := zg24.2
  have zg26 := zg25.2
  have zg27 := zg26.2
  have zg28 := zg27.2
  have zg29 := zg28.2
  have zg30 := zg29.2
  have zg31 := zg30.2
  have zg32 := zg31.2
  have zg33 := zg32.2
  have zg34 := zg33.2
  have zg35 := zg34.2
  have zg36 := zg35.2
  have zg37 := zg36.2
  have zg38 := zg37.2
  have zg39 := zg38.2
  have zg40 := zg39.2
  have zg41 := zg40.2
  have zg42 := zg41.2
  have zg43 := zg42.2
  have zg44 := zg43.2
  have zg45 := zg44.2
  have zg46 := zg45.2
  have zg47 := zg46.2
  have zg48 := zg47.2
  have zg49 := zg48.2
  have zg50 := zg49.2
  have zg51 := zg50.2
  have zg52 := zg51.2
  have zg53 := zg52.2
  have zg54 := zg53.2
  have zg55 := zg54.2
  have zg56 := zg55.2
  have zg57 := zg56.2
  have zg58 := zg57.2
  have zg59 := zg58.2
  have zg60 := zg59.2
  have zg61 := zg60.2
  have zg62 := zg61.2
  have zg63 := zg62.2
  have zg64 := zg63.2
  have zg65 := zg64.2
  have zg66 := zg65.2
  have zg67 := zg66.2
  have zg68 := zg67.2
  have zg69 := zg68.2
  have zg70 := zg69.2
  have zg71 := zg70.2
  have zg72 := zg71.2
  have zg73 := zg72.2
  have zg74 := zg73.2
  have zg75 := zg74.2
  have zg76 := zg75.2
  have zg77 := zg76.2
  have zg78 := zg77.2
  have zg79 := zg78.2
  have zg80 := zg79.2
  have zg81 := zg80.2
  have zg82 := zg81.2
  have zg83 := zg82.2
  have zg84 := zg83.2
  have zg85 := zg84.2
  have zg86 := zg85.2
  have zg87 := zg86.2
  have zg88 := zg87.2
  have zg89 := zg88.2
  have zg90 := zg89.2
  have zg91 := zg90.2
  have zg92 := zg91.2
  have zg93 := zg92.2
  have zg94 := zg93.2
  have zg95 := zg94.2
  have zg96 := zg95.2
  have zg97 := zg96.2
  have zg98 := zg97.2
  have zg99 := zg98.2
  have zg100 := zg99.2
  have zg101 := zg100.2
  have zg102 := zg101.2
  have zg103 := zg102.2
  have zg104 := zg103.2
  have zg105 := zg104.2
  have zg106 := zg105.2
  have zg107 := zg106.2
  have zg108 := zg107.2
  have zg109 := zg108.2
  have zg110 := zg109.2
  have zg111 := zg110.2
  have zg112 := zg111.2
  have zg113 := zg112.2
  have zg114 := zg113.2
  have zg115 := zg114.2
  have zg116 := zg115.2
  have zg117 := zg116.2
  have zg118 := zg117.2
  have zg119 := zg118.2
  have zg120 := zg119.2
  have zg121 := zg120.2
  have zg122 := zg121.2
  have zg123 := zg122.2
  have zg124 := zg123.2
  have zg125 := zg124.2
  have I_s1 := zg1.1
  refine zok_mono (s_OP_15 N (σ 1) (σ 4) (σ 12) I_s1) (fun o ho => ?_)
  skip
  exact ⟨trivial, ⟨hI.1, zg1.1, zg2.1, zg3.1, zg4.1, zg5.1, zg6.1, zg7.1, zg8.1, zg9.1, zg10.1, zg11.1, zg12.1, zg13.1, zg14.1, zg15.1, zg16.1, zg17.1, zg18.1, zg19.1, zg20.1, zg21.1, zg22.1, zg23.1, zg24.1, zg25.1, zg26.1, zg27.1, zg28.1, zg29.1, zg30.1, zg31.1, zg32.1, zg33.1, zg34.1, zg35.1, zg36.1, zg37.1, zg38.1, zg39.1, zg40.1, zg41.1, ⟨zg42.1.1, Int.le_trans zg42.1.2 (Int.le_add_of_nonneg_right (by decide))⟩, zg43.1, zg44.1, zg45.1, zg46.1, zg47.1, zg48.1, zg49.1, zg50.1, zg51.1, zg52.1, zg53.1, zg54.1, zg55.1, zg56.1, zg57.1, zg58.1, zg59.1, zg60.1, zg61.1, zg62.1, zg63.1, zg64.1, zg65.1, zg66.1, zg67.1, zg68.1, zg69.1, zg70.1, zg71.1, zg72.1, zg73.1, zg74.1, zg75.1, zg76.1, zg77.1, zg78.1, zg79.1, zg80.1, zg81.1, zg82.1, zg83.1, zg84.1, zg85.1, zg86.1, zg87.1, zg88.1, zg89.1, zg90.1, zg91.1, zg92.1, zg93.1, zg94.1, zg95.1, zg96.1, zg97.1, zg98.1, zg99.1, zg100.1, zg101.1, zg102.1, zg103.1, zg104.1, zg105.1, zg106.1, zg107.1, zg108.1, zg109.1, zg110.1, zg111.1, zg112.1, zg113.1, zg114.1, zg115.1, zg116.1, zg117.1, zg118.1, zg119.1, zg120.1, zg121.1, zg122.1, zg123.1, zg124.1, zg125⟩⟩
end
