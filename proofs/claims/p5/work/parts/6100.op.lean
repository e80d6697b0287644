def f_OP_0 (N : Int) (s3 : Int) (s4 : Int) (s5 : Int) (s26 : Int) (s27 : Int) (s30 : Int) (s49 : Int) (t2 : Nat → Int) (t3 : Nat → Int) (t4 : Nat → Int) (t34 : Nat → Int) (t35 : Nat → Int) (t36 : Nat → Int) (t37 : Nat → Int) (t38 : Nat → Int) (t39 : Nat → Int) (t63 : Nat → Int) : Option (Int × Int × Int × Int × Int × Int × Int × (Nat → Int) × (Nat → Int) × (Nat → Int) × (Nat → Int) × (Nat → Int)) :=
  zd7 (f_HS_column s3 s30 t2 s49 t39 t63) fun v6 v7 v8 a9 v10 a11 a12 =>
  zd5 (f_HM_column s4 s5 t3 t4) fun v13 v14 v15 a16 a17 =>
  some (v6, v13, v7, v14, v15, v8, v10, a9, a16, a17, a11, a12)
set_option maxHeartbeats 4000000 in
theorem s_OP_0 (N : Int) (s3 : Int) (s4 : Int) (s5 : Int) (s26 : Int) (s27 : Int) (s30 : Int) (s49 : Int) (t2 : Nat → Int) (t3 : Nat → Int) (t4 : Nat → Int) (t34 : Nat → Int) (t35 : Nat → Int) (t36 : Nat → Int) (t37 : Nat → Int) (t38 : Nat → Int) (t39 : Nat → Int) (t63 : Nat → Int) (b_s3 : (-6) ≤ s3 ∧ s3 ≤ 0) (b_s26 : 0 ≤ s26 ∧ s26 ≤ 6) (b_s27 : 0 ≤ s27 ∧ s27 ≤ 6) (b_s49 : 0 ≤ s49 ∧ s49 ≤ 12) (h_t4 : RI t4) (h_t34 : zR t34 0 60) (h_t35 : zR t35 0 1) (h_t36 : zR t36 0 20) (h_t37 : zR t37 0 11) (h_t38 : zR t38 0 99) (h_t39 : zR t39 (-1) 10) (h_t63 : zR t63 0 10) (I_s30 : 0 ≤ s30 ∧ s30 ≤ N) (R_many : s49 = t4 0) (R_ch : s26 = t4 1) (R_pa : s27 = t4 2) (R_st : RV 3 153 s26 t34 t4) (R_ex : RV 3 154 s26 t35 t4) (R_tr : RV 3 155 s26 t36 t4) (R_pl : RV 1 171 s27 t37 t4) (R_te : RV 1 5 4 t38 t4) (R_go : RV 1 141 s49 t39 t4) : zok (f_OP_0 N s3 s4 s5 s26 s27 s30 s49 t2 t3 t4 t34 t35 t36 t37 t38 t39 t63) (fun o => (o.1 = o.2.1) ∧ ((-6) ≤ o.2.2.1 ∧ o.2.2.1 ≤ 0) ∧ (0 ≤ o.2.2.2.2.2.2.1 ∧ o.2.2.2.2.2.2.1 ≤ 12) ∧ (0 ≤ o.2.2.2.2.2.1 ∧ o.2.2.2.2.2.1 ≤ N + 6) ∧ zR o.2.2.2.2.2.2.2.2.2.2.1 (-1) 10 ∧ zR o.2.2.2.2.2.2.2.2.2.2.2 0 10 ∧ RI o.2.2.2.2.2.2.2.2.2.1 ∧ (o.2.2.2.2.2.2.1 = o.2.2.2.2.2.2.2.2.2.1 0) ∧ (s26 = o.2.2.2.2.2.2.2.2.2.1 1) ∧ (s27 = o.2.2.2.2.2.2.2.2.2.1 2) ∧ (RV 3 153 s26 t34 o.2.2.2.2.2.2.2.2.2.1) ∧ (RV 3 154 s26 t35 o.2.2.2.2.2.2.2.2.2.1) ∧ (RV 3 155 s26 t36 o.2.2.2.2.2.2.2.2.2.1) ∧ (RV 1 171 s27 t37 o.2.2.2.2.2.2.2.2.2.1) ∧ (RV 1 5 4 t38 o.2.2.2.2.2.2.2.2.2.1) ∧ (RV 1 141 o.2.2.2.2.2.2.1 o.2.2.2.2.2.2.2.2.2.2.1 o.2.2.2.2.2.2.2.2.2.1)) := by
  unfold f_OP_0
  refine zk_dI7 ?_
  unfold f_HS_column
  refine zk_dI3 ?_
  unfold f_Columns_grow
  refine zk_ifc (zci_lt (by omega) (by omega)) (fun hc => ?_) (fun hc => ?_)
  · first
    | (exfalso; omega)
    | (skip
       refine zk_sv (by omega) (by decide) (fun a1 h_a1 => ?_)
       have i_a1 : zR a1 0 10 := by rw [h_a1]; exact zR_zu h_t63 (by decide) (by decide) (by omega)
       refine zk_n ?_
       refine zk_rI3 ?_
       refine zk_ifc (zci_ner (by omega)) (fun hc_2 => ?_) (fun hc_2 => ?_)
       · refine zk_n ?_
         refine zk_sv (by omega) (by decide) (fun a5 h_a5 => ?_)
         have i_a5 : zR a5 (-1) 10 := by rw [h_a5]; exact zR_zu h_t39 (by decide) (by decide) (by omega)
         refine zk_dI3 ?_
         unfold f_HS_accept
         refine zk_n ?_
         refine zk_rI3 ?_
         refine zk_rI7 ?_
         refine zk_dI5 ?_
         unfold f_HM_column
         refine zk_d1 (s_HM_columns _ h_t4) (fun v1_2 hp => ?_)
         try dsimp only at hp
         obtain ⟨hpp0, hpp1⟩ := hp
         refine zk_ifc (zci_ne (by omega) (by omega)) (fun hc_3 => ?_) (fun hc_3 => ?_)
         · first
           | (exfalso; omega)
           | (skip
              refine zk_n ?_
              refine zk_sv (by omega) (by decide) (fun a3 h_a3 => ?_)
              have i_a3 : RI a3 := by rw [h_a3]; exact RIz_h h_t4 (by omega) (by omega)
              refine zk_n ?_
              refine zk_sv (by omega) (by decide) (fun a5_2 h_a5_2 => ?_)
              have i_a5_2 : RI a5_2 := by rw [h_a5_2]; exact RIz_g i_a3 (by omega) (by omega)
              refine zk_gl 0 rfl (by decide) (by decide) (fun v6 h_v6 => ?_)
              have z_v6_a5_2 := zu_rd h_a5_2 (0)
              have z_v6_a3 := zu_rd h_a3 (0)
              have r_v6 := RI_0 i_a5_2
              refine zk_n ?_
              refine zk_sl 0 rfl (by decide) (by decide) (fun a8 h_a8 => ?_)
              have i_a8 : RI a8 := by rw [h_a8]; exact RIz_0 i_a5_2 (by omega)
              refine zk_d3 (s_HM_tell _ _ _ (by omega)) (fun v9 v10 a11 hp_2 => ?_)
              try dsimp only at hp_2
              obtain ⟨hp_2p0, hp_2p1⟩ := hp_2
              refine zk_rI5 ?_
              refine zk_ret ?_
              try dsimp only
              exact ⟨by omega, by omega, by omega, by omega, i_a5, i_a1, i_a8, by first | omega | (simp only [h_a8, h_a5_2, h_a3, h_a5, h_a1, zu, ↓reduceIte]; (repeat' split) <;> omega), by first | omega | (simp only [h_a8, h_a5_2, h_a3, h_a5, h_a1, zu, ↓reduceIte]; (repeat' split) <;> omega), by first | omega | (simp only [h_a8, h_a5_2, h_a3, h_a5, h_a1, zu, ↓reduceIte]; (repeat' split) <;> omega), by (intro c hc; first | (have q := fun h => R_st c h; simp only [h_a8, h_a5_2, h_a3, h_a5, h_a1, zu, ↓reduceIte]; (repeat' split) <;> first | omega | (exact q (by omega))) | exact R_st c hc), by (intro c hc; first | (have q := fun h => R_ex c h; simp only [h_a8, h_a5_2, h_a3, h_a5, h_a1, zu, ↓reduceIte]; (repeat' split) <;> first | omega | (exact q (by omega))) | exact R_ex c hc), by (intro c hc; first | (have q := fun h => R_tr c h; simp only [h_a8, h_a5_2, h_a3, h_a5, h_a1, zu, ↓reduceIte]; (repeat' split) <;> first | omega | (exact q (by omega))) | exact R_tr c hc), by (intro c hc; first | (have q := fun h => R_pl c h; simp only [h_a8, h_a5_2, h_a3, h_a5, h_a1, zu, ↓reduceIte]; (repeat' split) <;> first | omega | (exact q (by omega))) | exact R_pl c hc), by (intro c hc; first | (have q := fun h => R_te c h; simp only [h_a8, h_a5_2, h_a3, h_a5, h_a1, zu, ↓reduceIte]; (repeat' split) <;> first | omega | (exact q (by omega))) | exact R_te c hc), by (intro c hc; first | (have q := fun h => R_go c h; simp only [h_a8, h_a5_2, h_a3, h_a5, h_a1, zu, ↓reduceIte]; (repeat' split) <;> first | omega | (exact q (by omega))) | exact R_go c hc)⟩)
         · first
           | (exfalso; omega)
           | (skip
              refine zk_d3 (s_HM_tell _ _ _ (by omega)) (fun v12 v13 a14 hp_3 => ?_)
              try dsimp only at hp_3
              obtain ⟨hp_3p0, hp_3p1⟩ := hp_3
              refine zk_rI5 ?_
              refine zk_ret ?_
              try dsimp only
              exact ⟨by omega, by omega, by omega, by omega, i_a5, i_a1, h_t4, by first | omega | (simp only [h_a5, h_a1, zu, ↓reduceIte]; (repeat' split) <;> omega), by first | omega | (simp only [h_a5, h_a1, zu, ↓reduceIte]; (repeat' split) <;> omega), by first | omega | (simp only [h_a5, h_a1, zu, ↓reduceIte]; (repeat' split) <;> omega), by (intro c hc; first | (have q := fun h => R_st c h; simp only [h_a5, h_a1, zu, ↓reduceIte]; (repeat' split) <;> first | omega | (exact q (by omega))) | exact R_st c hc), by (intro c hc; first | (have q := fun h => R_ex c h; simp only [h_a5, h_a1, zu, ↓reduceIte]; (repeat' split) <;> first | omega | (exact q (by omega))) | exact R_ex c hc), by (intro c hc; first | (have q := fun h => R_tr c h; simp only [h_a5, h_a1, zu, ↓reduceIte]; (repeat' split) <;> first | omega | (exact q (by omega))) | exact R_tr c hc), by (intro c hc; first | (have q := fun h => R_pl c h; simp only [h_a5, h_a1, zu, ↓reduceIte]; (repeat' split) <;> first | omega | (exact q (by omega))) | exact R_pl c hc), by (intro c hc; first | (have q := fun h => R_te c h; simp only [h_a5, h_a1, zu, ↓reduceIte]; (repeat' split) <;> first | omega | (exact q (by omega))) | exact R_te c hc), by (intro c hc; first | (have q := fun h => R_go c h; simp only [h_a5, h_a1, zu, ↓reduceIte]; (repeat' split) <;> first | omega | (exact q (by omega))) | exact R_go c hc)⟩)
       · exfalso; omega)
  · first
    | (exfalso; omega)
    | (skip
       refine zk_rI3 ?_
       refine zk_ifc (zci_ner (by omega)) (fun hc_4 => ?_) (fun hc_4 => ?_)
       · exfalso; omega
       · refine zk_dI3 ?_
         unfold f_HS_refuse
         refine zk_nE (fun v1_3 h_v1_3 => ?_)
         refine zk_gv (by omega) (by decide) (fun v2_3 h_v2_3 => ?_)
         refine zk_n ?_
         refine zk_sv (by omega) (by decide) (fun a4 h_a4 => ?_)
         refine zk_rI3 ?_
         refine zk_rI7 ?_
         refine zk_dI5 ?_
         unfold f_HM_column
         refine zk_d1 (s_HM_columns _ h_t4) (fun v1_4 hp_4 => ?_)
         try dsimp only at hp_4
         obtain ⟨hp_4p0, hp_4p1⟩ := hp_4
         refine zk_ifc (zci_ne (by omega) (by omega)) (fun hc_5 => ?_) (fun hc_5 => ?_)
         · first
           | (exfalso; omega)
           | (skip
              refine zk_n ?_
              refine zk_sv (by omega) (by decide) (fun a3_2 h_a3_2 => ?_)
              have i_a3_2 : RI a3_2 := by rw [h_a3_2]; exact RIz_h h_t4 (by omega) (by omega)
              refine zk_n ?_
              refine zk_sv (by omega) (by decide) (fun a5_3 h_a5_3 => ?_)
              have i_a5_3 : RI a5_3 := by rw [h_a5_3]; exact RIz_g i_a3_2 (by omega) (by omega)
              refine zk_gl 0 rfl (by decide) (by decide) (fun v6_2 h_v6_2 => ?_)
              have z_v6_2_a5_3 := zu_rd h_a5_3 (0)
              have z_v6_2_a3_2 := zu_rd h_a3_2 (0)
              have r_v6_2 := RI_0 i_a5_3
              refine zk_n ?_
              refine zk_sl 0 rfl (by decide) (by decide) (fun a8_2 h_a8_2 => ?_)
              have i_a8_2 : RI a8_2 := by rw [h_a8_2]; exact RIz_0 i_a5_3 (by omega)
              refine zk_d3 (s_HM_tell _ _ _ (by omega)) (fun v9_2 v10_2 a11_2 hp_5 => ?_)
              try dsimp only at hp_5
              obtain ⟨hp_5p0, hp_5p1⟩ := hp_5
              refine zk_rI5 ?_
              refine zk_ret ?_
              try dsimp only
              exact ⟨by omega, by omega, by omega, by omega, h_t39, h_t63, i_a8_2, by first | omega | (simp only [h_a8_2, h_a5_3, h_a3_2, h_a4, zu, ↓reduceIte]; (repeat' split) <;> omega), by first | omega | (simp only [h_a8_2, h_a5_3, h_a3_2, h_a4, zu, ↓reduceIte]; (repeat' split) <;> omega), by first | omega | (simp only [h_a8_2, h_a5_3, h_a3_2, h_a4, zu, ↓reduceIte]; (repeat' split) <;> omega), by (intro c hc; first | (have q := fun h => R_st c h; simp only [h_a8_2, h_a5_3, h_a3_2, h_a4, zu, ↓reduceIte]; (repeat' split) <;> first | omega | (exact q (by omega))) | exact R_st c hc), by (intro c hc; first | (have q := fun h => R_ex c h; simp only [h_a8_2, h_a5_3, h_a3_2, h_a4, zu, ↓reduceIte]; (repeat' split) <;> first | omega | (exact q (by omega))) | exact R_ex c hc), by (intro c hc; first | (have q := fun h => R_tr c h; simp only [h_a8_2, h_a5_3, h_a3_2, h_a4, zu, ↓reduceIte]; (repeat' split) <;> first | omega | (exact q (by omega))) | exact R_tr c hc), by (intro c hc; first | (have q := fun h => R_pl c h; simp only [h_a8_2, h_a5_3, h_a3_2, h_a4, zu, ↓reduceIte]; (repeat' split) <;> first | omega | (exact q (by omega))) | exact R_pl c hc), by (intro c hc; first | (have q := fun h => R_te c h; simp only [h_a8_2, h_a5_3, h_a3_2, h_a4, zu, ↓reduceIte]; (repeat' split) <;> first | omega | (exact q (by omega))) | exact R_te c hc), by (intro c hc; first | (have q := fun h => R_go c h; simp only [h_a8_2, h_a5_3, h_a3_2, h_a4, zu, ↓reduceIte]; (repeat' split) <;> first | omega | (exact q (by omega))) | exact R_go c hc)⟩)
         · first
           | (exfalso; omega)
           | (skip
              refine zk_d3 (s_HM_tell _ _ _ (by omega)) (fun v12_2 v13_2 a14_2 hp_6 => ?_)
              try dsimp only at hp_6
              obtain ⟨hp_6p0, hp_6p1⟩ := hp_6
              refine zk_rI5 ?_
              refine zk_ret ?_
              try dsimp only
              exact ⟨by omega, by omega, by omega, by omega, h_t39, h_t63, h_t4, by first | omega | (simp only [h_a4, zu, ↓reduceIte]; (repeat' split) <;> omega), by first | omega | (simp only [h_a4, zu, ↓reduceIte]; (repeat' split) <;> omega), by first | omega | (simp only [h_a4, zu, ↓reduceIte]; (repeat' split) <;> omega), by (intro c hc; first | (have q := fun h => R_st c h; simp only [h_a4, zu, ↓reduceIte]; (repeat' split) <;> first | omega | (exact q (by omega))) | exact R_st c hc), by (intro c hc; first | (have q := fun h => R_ex c h; simp only [h_a4, zu, ↓reduceIte]; (repeat' split) <;> first | omega | (exact q (by omega))) | exact R_ex c hc), by (intro c hc; first | (have q := fun h => R_tr c h; simp only [h_a4, zu, ↓reduceIte]; (repeat' split) <;> first | omega | (exact q (by omega))) | exact R_tr c hc), by (intro c hc; first | (have q := fun h => R_pl c h; simp only [h_a4, zu, ↓reduceIte]; (repeat' split) <;> first | omega | (exact q (by omega))) | exact R_pl c hc), by (intro c hc; first | (have q := fun h => R_te c h; simp only [h_a4, zu, ↓reduceIte]; (repeat' split) <;> first | omega | (exact q (by omega))) | exact R_te c hc), by (intro c hc; first | (have q := fun h => R_go c h; simp only [h_a4, zu, ↓reduceIte]; (repeat' split) <;> first | omega | (exact q (by omega))) | exact R_go c hc)⟩))
set_option maxHeartbeats 4000000 in
set_option maxRecDepth 10000 in
theorem st_0 (N : Int) (σ : Nat → Int) (τ : Nat → Nat → Int) (hI : INV N σ τ)   : zok (f_OP_0 N (σ 3) (σ 4) (σ 5) (σ 26) (σ 27) (σ 30) (σ 49) (τ 2) (τ 3) (τ 4) (τ 34) (τ 35) (τ 36) (τ 37) (τ 38) (τ 39) (τ 63)) (fun o => (o.1 = o.2.1) ∧ INV (N + 6) (zst σ [(3, o.2.2.1), (4, o.2.2.2.1), (5, o.2.2.2.2.1), (30, o.2.2.2.2.2.1), (49, o.2.2.2.2.2.2.1)]) (zta τ [(2, o.2.2.2.2.2.2.2.1), (3, o.2.2.2.2.2.2.2.2.1), (4, o.2.2.2.2.2.2.2.2.2.1), (39, o.2.2.2.2.2.2.2.2.2.2.1), (63, o.2.2.2.2.2.2.2.2.2.2.2)])) := by
  have zg1 := hI.2
  have zg2 := zg1.2
  have zg3 := zg2.2
  have zg4 := zg3.2
  have zg5 := zg4.2
  have zg6 := zg5.2
  have zg7 := zg6.2
  have zg8 := zg7.2
  have zg9 := zg8.2
  have zg10 := zg9.2
  have zg11 := zg10.2
  have zg12 := zg11.2
  have zg13 := zg12.2
  have zg14 := zg13.2
  have zg15 := zg14.2
  have zg16 := zg15.2
  have zg17 := zg16.2
  have zg18 := zg17.2
  have zg19 := zg18.2
  have zg20 := zg19.2
  have zg21 := zg20.2
  have zg22 := zg21.2
  have zg23 := zg22.2
  have zg24 := zg23.2
  have zg25 := zg24.2
  have zg26 := zg25.2
  have zg27 := zg26.2
  have zg28 := zg27.2
  have zg29 := zg28.2
  have zg30 := zg29.2
  have zg31 := zg30.2
  have zg32 := zg31.2
  have zg33 := zg32.2
  have zg34 := zg33.2
  have zg35 := zg34.2
  have zg36 := zg35.2
  have zg37 := zg36.2
  have zg38 := zg37.2
  have zg39 := zg38.2
  have zg40 := zg39.2
  have zg41 := zg40.2
  have zg42 := zg41.2
  have zg43 := zg42.2
  have zg44 := zg43.2
  have zg45 := zg44.2
  have zg46 := zg45.2
  have zg47 := zg46.2
  have zg48 := zg47.2
  have zg49 := zg48.2
  have zg50 := zg49.2
  have zg51 := zg50.2
  have zg52 := zg51.2
  have zg53 := zg52.2
  have zg54 := zg53.2
  have zg55 := zg54.2
  have zg56 := zg55.2
  have zg57 := zg56.2
  have zg58 := zg57.2
  have zg59 := zg58.2
  have zg60 := zg59.2
  have zg61 := zg60.2
  have zg62 := zg61.2
  have zg63 := zg62.2
  have zg64 := zg63.2
  have zg65 := zg64.2
  have zg66 := zg65.2
  have zg67 := zg66.2
  have zg68 := zg67.2
  have zg69 := zg68.2
  have zg70 := zg69.2
  have zg71 := zg70.2
  have zg72 := zg71.2
  have zg73 := zg72.2
  have zg74 := zg73.2
  have zg75 := zg74.2
  have zg76 := zg75.2
  have zg77 := zg76.2
  have zg78 := zg77.2
  have zg79 := zg78.2
  have zg80 := zg79.2
  have zg81 := zg80.2
  have zg82 := zg81.2
  have zg83 := zg82.2
  have zg84 := zg83.2
  have zg85 := zg84.2
  have zg86 := zg85.2
  have zg87 := zg86.2
  have zg88 := zg87.2
  have zg89 := zg88.2
  have zg90 := zg89.2
  have zg91 := zg90.2
  have zg92 := zg91.2
  have zg93 := zg92.2
  have zg94 := zg93.2
  have zg95 := zg94.2
  have zg96 := zg95.2
  have zg97 := zg96.2
  have zg98 := zg97.2
  have zg99 := zg98.2
  have zg100 := zg99.2
  have zg101 := zg100.2
  have zg102 := zg101.2
  have zg103 := zg102.2
  have zg104 := zg103.2
  have zg105 := zg104.2
  have zg106 := zg105.2
  have zg107 := zg106.2
  have zg108 := zg107.2
  have zg109 := zg108.2
  have zg110 := zg109.2
  have zg111 := zg110.2
  have zg112 := zg111.2
  have zg113 := zg112.2
  have zg114 := zg113.2
  have zg115 := zg114.2
  have zg116 := zg115.2
  have zg117 := zg116.2
  have zg118 := zg117.2
  have zg119 := zg118.2
  have zg120 := zg119.2
  have zg121 := zg120.2
  have zg122 := zg121.2
  have zg123 := zg122.2
  have zg124 := zg123.2
  have zg125 := zg124.2
  have I_s3 := zg2.1
  have I_s26 := zg3.1
  have I_s27 := zg4.1
  have I_s49 := zg21.1
  have I_t4 := zg99.1
  have I_t34 := zg45.1
  have I_t35 := zg46.1
  have I_t36 := zg47.1
  have I_t37 := zg48.1
  have I_t38 := zg49.1
  have I_t39 := zg50.1
  have I_t63 := zg70.1
  have I_s30 := zg42.1
  have R_many := zg113.1
  have R_ch := zg114.1
  have R_pa := zg115.1
  have R_st := zg116.1
  have R_ex := zg117.1
  have R_tr := zg118.1
  have R_pl := zg119.1
  have R_te := zg120.1
  have R_go := zg121.1
  refine zok_mono (s_OP_0 N (σ 3) (σ 4) (σ 5) (σ 26) (σ 27) (σ 30) (σ 49) (τ 2) (τ 3) (τ 4) (τ 34) (τ 35) (τ 36) (τ 37) (τ 38) (τ 39) (τ 63) I_s3 I_s26 I_s27 I_s49 I_t4 I_t34 I_t35 I_t36 I_t37 I_t38 I_t39 I_t63 I_s30 R_many R_ch R_pa R_st R_ex R_tr R_pl R_te R_go) (fun o ho => ?_)
  obtain ⟨p0, p1, p2, p3, p4, p5, p6, p7, p8, p9, p10, p11, p12, p13, p14, p15⟩ := ho
  exact ⟨p0, ⟨hI.1, zg1.1, p1, zg3.1, zg4.1, zg5.1, zg6.1, zg7.1, zg8.1, zg9.1, zg10.1, zg11.1, zg12.1, zg13.1, zg14.1, zg15.1, zg16.1, zg17.1, zg18.1, zg19.1, zg20.1, p2, zg22.1, zg23.1, zg24.1, zg25.1, zg26.1, zg27.1, zg28.1, zg29.1, zg30.1, zg31.1, zg32.1, zg33.1, zg34.1, zg35.1, zg36.1, zg37.1, zg38.1, zg39.1, zg40.1, zg41.1, p3, zg43.1, zg44.1, zg45.1, zg46.1, zg47.1, zg48.1, zg49.1, p4, zg51.1, zg52.1, zg53.1, zg54.1, zg55.1, zg56.1, zg57.1, zg58.1, zg59.1, zg60.1, zg61.1, zg62.1, zg63.1, zg64.1, zg65.1, zg66.1, zg67.1, zg68.1, zg69.1, p5, zg71.1, zg72.1, zg73.1, zg74.1, zg75.1, zg76.1, zg77.1, zg78.1, zg79.1, zg80.1, zg81.1, zg82.1, zg83.1, zg84.1, zg85.1, zg86.1, zg87.1, zg88.1, zg89.1, zg90.1, zg91.1, zg92.1, zg93.1, zg94.1, zg95.1, zg96.1, zg97.1, zg98.1, p6, zg100.1, zg101.1, zg102.1, zg103.1, zg104.1, zg105.1, zg106.1, zg107.1, zg108.1, zg109.1, zg110.1, zg111.1, zg112.1, p7, p8, p9, p10, p11, p12, p13, p14, p15, zg122.1, zg123.1, zg124.1, zg125⟩⟩
def f_OP_1 (N : Int) (a1 : Int) (a2 : Int) (s3 : Int) (s4 : Int) (s5 : Int) (s26 : Int) (s27 : Int) (s30 : Int) (s49 : Int) (t2 : Nat → Int) (t3 : Nat → Int) (t4 : Nat → Int) (t34 : Nat → Int) (t35 : Nat → Int) (t36 : Nat → Int) (t37 : Nat → Int) (t38 : Nat → Int) (t39 : Nat → Int) (t63 : Nat → Int) (t64 : Nat → Int) : Option (Int × Int × Int × Int × Int × Int × (Nat → Int) × (Nat → Int) × (Nat → Int) × (Nat → Int) × (Nat → Int)) :=
  zd6 (f_HS_stone a1 a2 s49 s3 s30 t2 t63 t64) fun v22 v23 v24 a25 a26 a27 =>
  zd5 (f_HM_stone a1 a2 s4 s5 t3 t4) fun v32 v33 v34 a35 a36 =>
  some (v22, v32, v23, v33, v34, v24, a25, a35, a36, a26, a27)
set_option maxHeartbeats 4000000 in
theorem s_OP_1 (N : Int) (a1 : Int) (a2 : Int) (s3 : Int) (s4 : Int) (s5 : Int) (s26 : Int) (s27 : Int) (s30 : Int) (s49 : Int) (t2 : Nat → Int) (t3 : Nat → Int) (t4 : Nat → Int) (t34 : Nat → Int) (t35 : Nat → Int) (t36 : Nat → Int) (t37 : Nat → Int) (t38 : Nat → Int) (t39 : Nat → Int) (t63 : Nat → Int) (t64 : Nat → Int) (b_a1 : (-2147483648) ≤ a1 ∧ a1 ≤ 2147483647) (b_a2 : (-2147483648) ≤ a2 ∧ a2 ≤ 2147483647) (b_s3 : (-6) ≤ s3 ∧ s3 ≤ 0) (b_s26 : 0 ≤ s26 ∧ s26 ≤ 6) (b_s27 : 0 ≤ s27 ∧ s27 ≤ 6) (b_s49 : 0 ≤ s49 ∧ s49 ≤ 12) (h_t4 : RI t4) (h_t34 : zR t34 0 60) (h_t35 : zR t35 0 1) (h_t36 : zR t36 0 20) (h_t37 : zR t37 0 11) (h_t38 : zR t38 0 99) (h_t39 : zR t39 (-1) 10) (h_t63 : zR t63 0 10) (h_t64 : zR t64 0 30) (I_s30 : 0 ≤ s30 ∧ s30 ≤ N) (R_many : s49 = t4 0) (R_ch : s26 = t4 1) (R_pa : s27 = t4 2) (R_st : RV 3 153 s26 t34 t4) (R_ex : RV 3 154 s26 t35 t4) (R_tr : RV 3 155 s26 t36 t4) (R_pl : RV 1 171 s27 t37 t4) (R_te : RV 1 5 4 t38 t4) (R_go : RV 1 141 s49 t39 t4) : zok (f_OP_1 N a1 a2 s3 s4 s5 s26 s27 s30 s49 t2 t3 t4 t34 t35 t36 t37 t38 t39 t63 t64) (fun o => ((-6) ≤ o.2.2.1 ∧ o.2.2.1 ≤ 0) ∧ (0 ≤ o.2.2.2.2.2.1 ∧ o.2.2.2.2.2.1 ≤ N + 6) ∧ zR o.2.2.2.2.2.2.2.2.2.1 0 10 ∧ zR o.2.2.2.2.2.2.2.2.2.2 0 30 ∧ RI o.2.2.2.2.2.2.2.2.1 ∧ (s49 = o.2.2.2.2.2.2.2.2.1 0) ∧ (s26 = o.2.2.2.2.2.2.2.2.1 1) ∧ (s27 = o.2.2.2.2.2.2.2.2.1 2) ∧ (RV 3 153 s26 t34 o.2.2.2.2.2.2.2.2.1) ∧ (RV 3 154 s26 t35 o.2.2.2.2.2.2.2.2.1) ∧ (RV 3 155 s26 t36 o.2.2.2.2.2.2.2.2.1) ∧ (RV 1 171 s27 t37 o.2.2.2.2.2.2.2.2.1) ∧ (RV 1 5 4 t38 o.2.2.2.2.2.2.2.2.1) ∧ (RV 1 141 s49 t39 o.2.2.2.2.2.2.2.2.1)) := by
  unfold f_OP_1
  refine zk_dI6 ?_
  unfold f_HS_stone
  refine zk_ifc (zci_lt (by omega) (by omega)) (fun hc => ?_) (fun hc => ?_)
  · first
    | (exfalso; omega)
    | (skip
       unfold f_HS_stone_11
       refine zk_dI3 ?_
       unfold f_HS_refuse
       refine zk_nE (fun v1 h_v1 => ?_)
       refine zk_gv (by omega) (by decide) (fun v2 h_v2 => ?_)
       refine zk_n ?_
       refine zk_sv (by omega) (by decide) (fun a4 h_a4 => ?_)
       refine zk_rI3 ?_
       refine zk_rI6 ?_
       refine zk_d5 (s_HM_stone _ _ _ _ _ _ (by omega) (by omega) h_t4) (fun v32 v33 v34 a35 a36 hp => ?_)
       try dsimp only at hp
       obtain ⟨hpp0, hpp1⟩ := hp
       refine zk_ret ?_
       try dsimp only
       exact ⟨by omega, by omega, h_t63, h_t64, hpp0, by rw [hpp1 _ (by omega)]; exact R_many, by rw [hpp1 _ (by omega)]; exact R_ch, by rw [hpp1 _ (by omega)]; exact R_pa, by intro c hc; rw [hpp1 _ (by omega)]; exact R_st c hc, by intro c hc; rw [hpp1 _ (by omega)]; exact R_ex c hc, by intro c hc; rw [hpp1 _ (by omega)]; exact R_tr c hc, by intro c hc; rw [hpp1 _ (by omega)]; exact R_pl c hc, by intro c hc; rw [hpp1 _ (by omega)]; exact R_te c hc, by intro c hc; rw [hpp1 _ (by omega)]; exact R_go c hc⟩)
  · first
    | (exfalso; omega)
    | (skip
       refine zk_ifc (zci_le (by omega) (by omega)) (fun hc_2 => ?_) (fun hc_2 => ?_)
       · first
         | (exfalso; omega)
         | (skip
            refine zk_d1 (s_Columns_has _ _ (by omega) (by omega)) (fun v1_2 hp_2 => ?_)
            try dsimp only at hp_2
            obtain ⟨hp_2p0, hp_2p1⟩ := hp_2
            refine zk_ifc (zci_ner (by omega)) (fun hc_3 => ?_) (fun hc_3 => ?_)
            · first
              | (exfalso; omega)
              | (skip
                 refine zk_d3 (s_Columns_put _ _ _ _ _ (by omega) (by omega) (by omega) h_t63 h_t64) (fun v2_2 a3 a4_2 hp_3 => ?_)
                 try dsimp only at hp_3
                 obtain ⟨hp_3p0, hp_3p1, hp_3p2, hp_3p3⟩ := hp_3
                 refine zk_ifc (zci_ner (by omega)) (fun hc_4 => ?_) (fun hc_4 => ?_)
                 · first
                   | (exfalso; omega)
                   | (skip
                      refine zk_d1 (s_Columns_high _ _ _ (by omega) (by omega) hp_3p1) (fun v5 hp_4 => ?_)
                      try dsimp only at hp_4
                      obtain ⟨hp_4p0, hp_4p1⟩ := hp_4
                      refine zk_dI3 ?_
                      unfold f_HS_accept
                      refine zk_n ?_
                      refine zk_rI3 ?_
                      refine zk_rI6 ?_
                      refine zk_d5 (s_HM_stone _ _ _ _ _ _ (by omega) (by omega) h_t4) (fun v32_2 v33_2 v34_2 a35_2 a36_2 hp_5 => ?_)
                      try dsimp only at hp_5
                      obtain ⟨hp_5p0, hp_5p1⟩ := hp_5
                      refine zk_ret ?_
                      try dsimp only
                      exact ⟨by omega, by omega, hp_3p1, hp_3p2, hp_5p0, by rw [hp_5p1 _ (by omega)]; exact R_many, by rw [hp_5p1 _ (by omega)]; exact R_ch, by rw [hp_5p1 _ (by omega)]; exact R_pa, by intro c hc; rw [hp_5p1 _ (by omega)]; exact R_st c hc, by intro c hc; rw [hp_5p1 _ (by omega)]; exact R_ex c hc, by intro c hc; rw [hp_5p1 _ (by omega)]; exact R_tr c hc, by intro c hc; rw [hp_5p1 _ (by omega)]; exact R_pl c hc, by intro c hc; rw [hp_5p1 _ (by omega)]; exact R_te c hc, by intro c hc; rw [hp_5p1 _ (by omega)]; exact R_go c hc⟩)
                 · first
                   | (exfalso; omega)
                   | (skip
                      refine zk_dI3 ?_
                      unfold f_HS_refuse
                      refine zk_nE (fun v1_4 h_v1_4 => ?_)
                      refine zk_gv (by omega) (by decide) (fun v2_3 h_v2_3 => ?_)
                      refine zk_n ?_
                      refine zk_sv (by omega) (by decide) (fun a4_3 h_a4_3 => ?_)
                      refine zk_rI3 ?_
                      refine zk_rI6 ?_
                      refine zk_d5 (s_HM_stone _ _ _ _ _ _ (by omega) (by omega) h_t4) (fun v32_3 v33_3 v34_3 a35_3 a36_3 hp_6 => ?_)
                      try dsimp only at hp_6
                      obtain ⟨hp_6p0, hp_6p1⟩ := hp_6
                      refine zk_ret ?_
                      try dsimp only
                      exact ⟨by omega, by omega, hp_3p1, hp_3p2, hp_6p0, by rw [hp_6p1 _ (by omega)]; exact R_many, by rw [hp_6p1 _ (by omega)]; exact R_ch, by rw [hp_6p1 _ (by omega)]; exact R_pa, by intro c hc; rw [hp_6p1 _ (by omega)]; exact R_st c hc, by intro c hc; rw [hp_6p1 _ (by omega)]; exact R_ex c hc, by intro c hc; rw [hp_6p1 _ (by omega)]; exact R_tr c hc, by intro c hc; rw [hp_6p1 _ (by omega)]; exact R_pl c hc, by intro c hc; rw [hp_6p1 _ (by omega)]; exact R_te c hc, by intro c hc; rw [hp_6p1 _ (by omega)]; exact R_go c hc⟩))
            · first
              | (exfalso; omega)
              | (skip
                 refine zk_dI3 ?_
                 unfold f_HS_refuse
                 refine zk_nE (fun v1_5 h_v1_5 => ?_)
                 refine zk_gv (by omega) (by decide) (fun v2_4 h_v2_4 => ?_)
                 refine zk_n ?_
                 refine zk_sv (by omega) (by decide) (fun a4_4 h_a4_4 => ?_)
                 refine zk_rI3 ?_
                 refine zk_rI6 ?_
                 refine zk_d5 (s_HM_stone _ _ _ _ _ _ (by omega) (by omega) h_t4) (fun v32_4 v33_4 v34_4 a35_4 a36_4 hp_7 => ?_)
                 try dsimp only at hp_7
                 obtain ⟨hp_7p0, hp_7p1⟩ := hp_7
                 refine zk_ret ?_
                 try dsimp only
                 exact ⟨by omega, by omega, h_t63, h_t64, hp_7p0, by rw [hp_7p1 _ (by omega)]; exact R_many, by rw [hp_7p1 _ (by omega)]; exact R_ch, by rw [hp_7p1 _ (by omega)]; exact R_pa, by intro c hc; rw [hp_7p1 _ (by omega)]; exact R_st c hc, by intro c hc; rw [hp_7p1 _ (by omega)]; exact R_ex c hc, by intro c hc; rw [hp_7p1 _ (by omega)]; exact R_tr c hc, by intro c hc; rw [hp_7p1 _ (by omega)]; exact R_pl c hc, by intro c hc; rw [hp_7p1 _ (by omega)]; exact R_te c hc, by intro c hc; rw [hp_7p1 _ (by omega)]; exact R_go c hc⟩))
       · first
         | (exfalso; omega)
         | (skip
            unfold f_HS_stone_11
            refine zk_dI3 ?_
            unfold f_HS_refuse
            refine zk_nE (fun v1_6 h_v1_6 => ?_)
            refine zk_gv (by omega) (by decide) (fun v2_5 h_v2_5 => ?_)
            refine zk_n ?_
            refine zk_sv (by omega) (by decide) (fun a4_5 h_a4_5 => ?_)
            refine zk_rI3 ?_
            refine zk_rI6 ?_
            refine zk_d5 (s_HM_stone _ _ _ _ _ _ (by omega) (by omega) h_t4) (fun v32_5 v33_5 v34_5 a35_5 a36_5 hp_8 => ?_)
            try dsimp only at hp_8
            obtain ⟨hp_8p0, hp_8p1⟩ := hp_8
            refine zk_ret ?_
            try dsimp only
            exact ⟨by omega, by omega, h_t63, h_t64, hp_8p0, by rw [hp_8p1 _ (by omega)]; exact R_many, by rw [hp_8p1 _ (by omega)]; exact R_ch, by rw [hp_8p1 _ (by omega)]; exact R_pa, by intro c hc; rw [hp_8p1 _ (by omega)]; exact R_st c hc, by intro c hc; rw [hp_8p1 _ (by omega)]; exact R_ex c hc, by intro c hc; rw [hp_8p1 _ (by omega)]; exact R_tr c hc, by intro c hc; rw [hp_8p1 _ (by omega)]; exact R_pl c hc, by intro c hc; rw [hp_8p1 _ (by omega)]; exact R_te c hc, by intro c hc; rw [hp_8p1 _ (by omega)]; exact R_go c hc⟩))
set_option maxHeartbeats 4000000 in
set_option maxRecDepth 10000 in
theorem st_1 (N : Int) (σ : Nat → Int) (τ : Nat → Nat → Int) (hI : INV N σ τ) (a1 : Int) (a2 : Int) (b_a1 : (-2147483648) ≤ a1 ∧ a1 ≤ 2147483647) (b_a2 : (-2147483648) ≤ a2 ∧ a2 ≤ 2147483647) : zok (f_OP_1 N a1 a2 (σ 3) (σ 4) (σ 5) (σ 26) (σ 27) (σ 30) (σ 49) (τ 2) (τ 3) (τ 4) (τ 34) (τ 35) (τ 36) (τ 37) (τ 38) (τ 39) (τ 63) (τ 64)) (fun o => (True) ∧ INV (N + 6) (zst σ [(3, o.2.2.1), (4, o.2.2.2.1), (5, o.2.2.2.2.1), (30, o.2.2.2.2.2.1)]) (zta τ [(2, o.2.2.2.2.2.2.1), (3, o.2.2.2.2.2.2.2.1), (4, o.2.2.2.2.2.2.2.2.1), (63, o.2.2.2.2.2.2.2.2.2.1), (64, o.2.2.2.2.2.2.2.2.2.2)])) := by
  have zg1 := hI.2
  have zg2 := zg1.2
  have zg3 := zg2.2
  have zg4 := zg3.2
  have zg5 := zg4.2
  have zg6 := zg5.2
  have zg7 := zg6.2
  have zg8 := zg7.2
  have zg9 := zg8.2
  have zg10 := zg9.2
  have zg11 := zg10.2
  have zg12 := zg11.2
  have zg13 := zg12.2
  have zg14 := zg13.2
  have zg15 := zg14.2
  have zg16 := zg15.2
  have zg17 := zg16.2
  have zg18 := zg17.2
  have zg19 := zg18.2
  have zg20 := zg19.2
  have zg21 := zg20.2
  have zg22 := zg21.2
  have zg23 := zg22.2
  have zg24 := zg23.2
  have zg25 := zg24.2
  have zg26 := zg25.2
  have zg27 := zg26.2
  have zg28 := zg27.2
  have zg29 := zg28.2
  have zg30 := zg29.2
  have zg31 := zg30.2
  have zg32 := zg31.2
  have zg33 := zg32.2
  have zg34 := zg33.2
  have zg35 := zg34.2
  have zg36 := zg35.2
  have zg37 := zg36.2
  have zg38 := zg37.2
  have zg39 := zg38.2
  have zg40 := zg39.2
  have zg41 := zg40.2
  have zg42 := zg41.2
  have zg43 := zg42.2
  have zg44 := zg43.2
  have zg45 := zg44.2
  have zg46 := zg45.2
  have zg47 := zg46.2
  have zg48 := zg47.2
  have zg49 := zg48.2
  have zg50 := zg49.2
  have zg51 := zg50.2
  have zg52 := zg51.2
  have zg53 := zg52.2
  have zg54 := zg53.2
  have zg55 := zg54.2
  have zg56 := zg55.2
  have zg57 := zg56.2
  have zg58 := zg57.2
  have zg59 := zg58.2
  have zg60 := zg59.2
  have zg61 := zg60.2
  have zg62 := zg61.2
  have zg63 := zg62.2
  have zg64 := zg63.2
  have zg65 := zg64.2
  have zg66 := zg65.2
  have zg67 := zg66.2
  have zg68 := zg67.2
  have zg69 := zg68.2
  have zg70 := zg69.2
  have zg71 := zg70.2
  have zg72 := zg71.2
  have zg73 := zg72.2
  have zg74 := zg73.2
  have zg75 := zg74.2
  have zg76 := zg75.2
  have zg77 := zg76.2
  have zg78 := zg77.2
  have zg79 := zg78.2
  have zg80 := zg79.2
  have zg81 := zg80.2
  have zg82 := zg81.2
  have zg83 := zg82.2
  have zg84 := zg83.2
  have zg85 := zg84.2
  have zg86 := zg85.2
  have zg87 := zg86.2
  have zg88 := zg87.2
  have zg89 := zg88.2
  have zg90 := zg89.2
  have zg91 := zg90.2
  have zg92 := zg91.2
  have zg93 := zg92.2
  have zg94 := zg93.2
  have zg95 := zg94.2
  have zg96 := zg95.2
  have zg97 := zg96.2
  have zg98 := zg97.2
  have zg99 := zg98.2
  have zg100 := zg99.2
  have zg101 := zg100.2
  have zg102 := zg101.2
  have zg103 := zg102.2
  have zg104 := zg103.2
  have zg105 := zg104.2
  have zg106 := zg105.2
  have zg107 := zg106.2
  have zg108 := zg107.2
  have zg109 := zg108.2
  have zg110 := zg109.2
  have zg111 := zg110.2
  have zg112 := zg111.2
  have zg113 := zg112.2
  have zg114 := zg113.2
  have zg115 := zg114.2
  have zg116 := zg115.2
  have zg117 := zg116.2
  have zg118 := zg117.2
  have zg119 := zg118.2
  have zg120 := zg119.2
  have zg121 := zg120.2
  have zg122 := zg121.2
  have zg123 := zg122.2
  have zg124 := zg123.2
  have zg125 := zg124.2
  have I_s3 := zg2.1
  have I_s26 := zg3.1
  have I_s27 := zg4.1
  have I_s49 := zg21.1
  have I_t4 := zg99.1
  have I_t34 := zg45.1
  have I_t35 := zg46.1
  have I_t36 := zg47.1
  have I_t37 := zg48.1
  have I_t38 := zg49.1
  have I_t39 := zg50.1
  have I_t63 := zg70.1
  have I_t64 := zg71.1
  have I_s30 := zg42.1
  have R_many := zg113.1
  have R_ch := zg114.1
  have R_pa := zg115.1
  have R_st := zg116.1
  have R_ex := zg117.1
  have R_tr := zg118.1
  have R_pl := zg119.1
  have R_te := zg120.1
  have R_go := zg121.1
  refine zok_mono (s_OP_1 N a1 a2 (σ 3) (σ 4) (σ 5) (σ 26) (σ 27) (σ 30) (σ 49) (τ 2) (τ 3) (τ 4) (τ 34) (τ 35) (τ 36) (τ 37) (τ 38) (τ 39) (τ 63) (τ 64) b_a1 b_a2 I_s3 I_s26 I_s27 I_s49 I_t4 I_t34 I_t35 I_t36 I_t37 I_t38 I_t39 I_t63 I_t64 I_s30 R_many R_ch R_pa R_st R_ex R_tr R_pl R_te R_go) (fun o ho => ?_)
  obtain ⟨p0, p1, p2, p3, p4, p5, p6, p7, p8, p9, p10, p11, p12, p13⟩ := ho
  exact ⟨trivial, ⟨hI.1, zg1.1, p0, zg3.1, zg4.1, zg5.1, zg6.1, zg7.1, zg8.1, zg9.1, zg10.1, zg11.1, zg12.1, zg13.1, zg14.1, zg15.1, zg16.1, zg17.1, zg18.1, zg19.1, zg20.1, zg21.1, zg22.1, zg23.1, zg24.1, zg25.1, zg26.1, zg27.1, zg28.1, zg29.1, zg30.1, zg31.1, zg32.1, zg33.1, zg34.1, zg35.1, zg36.1, zg37.1, zg38.1, zg39.1, zg40.1, zg41.1, p1, zg43.1, zg44.1, zg45.1, zg46.1, zg47.1, zg48.1, zg49.1, zg50.1, zg51.1, zg52.1, zg53.1, zg54.1, zg55.1, zg56.1, zg57.1, zg58.1, zg59.1, zg60.1, zg61.1, zg62.1, zg63.1, zg64.1, zg65.1, zg66.1, zg67.1, zg68.1, zg69.1, p2, p3, zg72.1, zg73.1, zg74.1, zg75.1, zg76.1, zg77.1, zg78.1, zg79.1, zg80.1, zg81.1, zg82.1, zg83.1, zg84.1, zg85.1, zg86.1, zg87.1, zg88.1, zg89.1, zg90.1, zg91.1, zg92.1, zg93.1, zg94.1, zg95.1, zg96.1, zg97.1, zg98.1, p4, zg100.1, zg101.1, zg102.1, zg103.1, zg104.1, zg105.1, zg106.1, zg107.1, zg108.1, zg109.1, zg110.1, zg111.1, zg112.1, p5, p6, p7, p8, p9, p10, p11, p12, p13, zg122.1, zg123.1, zg124.1, zg125⟩⟩
def f_OP_2 (N : Int) (a1 : Int) (s3 : Int) (s4 : Int) (s5 : Int) (s26 : Int) (s27 : Int) (s30 : Int) (s49 : Int) (t2 : Nat → Int) (t3 : Nat → Int) (t4 : Nat → Int) (t34 : Nat → Int) (t35 : Nat → Int) (t36 : Nat → Int) (t37 : Nat → Int) (t38 : Nat → Int) (t39 : Nat → Int) (t63 : Nat → Int) (t64 : Nat → Int) : Option (Int × Int × Int × Int × Int × Int × (Nat → Int) × (Nat → Int) × (Nat → Int) × (Nat → Int)) :=
  zd5 (f_HS_lift a1 s49 t64 s3 s30 t2 t63) fun v39 v40 v41 a42 a43 =>
  zd5 (f_HM_lift a1 s4 s5 t3 t4) fun v46 v47 v48 a49 a50 =>
  some (v39, v46, v40, v47, v48, v41, a42, a49, a50, a43)
set_option maxHeartbeats 4000000 in
theorem s_OP_2 (N : Int) (a1 : Int) (s3 : Int) (s4 : Int) (s5 : Int) (s26 : Int) (s27 : Int) (s30 : Int) (s49 : Int) (t2 : Nat → Int) (t3 : Nat → Int) (t4 : Nat → Int) (t34 : Nat → Int) (t35 : Nat → Int) (t36 : Nat → Int) (t37 : Nat → Int) (t38 : Nat → Int) (t39 : Nat → Int) (t63 : Nat → Int) (t64 : Nat → Int) (b_a1 : (-2147483648) ≤ a1 ∧ a1 ≤ 2147483647) (b_s3 : (-6) ≤ s3 ∧ s3 ≤ 0) (b_s26 : 0 ≤ s26 ∧ s26 ≤ 6) (b_s27 : 0 ≤ s27 ∧ s27 ≤ 6) (b_s49 : 0 ≤ s49 ∧ s49 ≤ 12) (h_t4 : RI t4) (h_t34 : zR t34 0 60) (h_t35 : zR t35 0 1) (h_t36 : zR t36 0 20) (h_t37 : zR t37 0 11) (h_t38 : zR t38 0 99) (h_t39 : zR t39 (-1) 10) (h_t63 : zR t63 0 10) (h_t64 : zR t64 0 30) (I_s30 : 0 ≤ s30 ∧ s30 ≤ N) (R_many : s49 = t4 0) (R_ch : s26 = t4 1) (R_pa : s27 = t4 2) (R_st : RV 3 153 s26 t34 t4) (R_ex : RV 3 154 s26 t35 t4) (R_tr : RV 3 155 s26 t36 t4) (R_pl : RV 1 171 s27 t37 t4) (R_te : RV 1 5 4 t38 t4) (R_go : RV 1 141 s49 t39 t4) : zok (f_OP_2 N a1 s3 s4 s5 s26 s27 s30 s49 t2 t3 t4 t34 t35 t36 t37 t38 t39 t63 t64) (fun o => ((-6) ≤ o.2.2.1 ∧ o.2.2.1 ≤ 0) ∧ (0 ≤ o.2.2.2.2.2.1 ∧ o.2.2.2.2.2.1 ≤ N + 6) ∧ zR o.2.2.2.2.2.2.2.2.2 0 10 ∧ RI o.2.2.2.2.2.2.2.2.1 ∧ (s49 = o.2.2.2.2.2.2.2.2.1 0) ∧ (s26 = o.2.2.2.2.2.2.2.2.1 1) ∧ (s27 = o.2.2.2.2.2.2.2.2.1 2) ∧ (RV 3 153 s26 t34 o.2.2.2.2.2.2.2.2.1) ∧ (RV 3 154 s26 t35 o.2.2.2.2.2.2.2.2.1) ∧ (RV 3 155 s26 t36 o.2.2.2.2.2.2.2.2.1) ∧ (RV 1 171 s27 t37 o.2.2.2.2.2.2.2.2.1) ∧ (RV 1 5 4 t38 o.2.2.2.2.2.2.2.2.1) ∧ (RV 1 141 s49 t39 o.2.2.2.2.2.2.2.2.1)) := by
  unfold f_OP_2
  refine zk_dI5 ?_
  unfold f_HS_lift
  refine zk_d1 (s_Columns_has _ _ (by omega) (by omega)) (fun v1 hp => ?_)
  try dsimp only at hp
  obtain ⟨hpp0, hpp1⟩ := hp
  refine zk_ifc (zci_ner (by omega)) (fun hc => ?_) (fun hc => ?_)
  · first
    | (exfalso; omega)
    | (skip
       refine zk_d1 (s_Columns_high _ _ _ (by omega) (by omega) h_t63) (fun v2 hp_2 => ?_)
       try dsimp only at hp_2
       obtain ⟨hp_2p0, hp_2p1⟩ := hp_2
       refine zk_ifc (zci_ner (by omega)) (fun hc_2 => ?_) (fun hc_2 => ?_)
       · first
         | (exfalso; omega)
         | (skip
            refine zk_d2 (s_Columns_take _ _ _ _ (by omega) (by omega) h_t64 h_t63) (fun v3 a4 hp_3 => ?_)
            try dsimp only at hp_3
            obtain ⟨hp_3p0, hp_3p1⟩ := hp_3
            refine zk_dI3 ?_
            unfold f_HS_accept
            refine zk_n ?_
            refine zk_rI3 ?_
            refine zk_rI5 ?_
            refine zk_d5 (s_HM_lift _ _ _ _ _ (by omega) h_t4) (fun v46 v47 v48 a49 a50 hp_4 => ?_)
            try dsimp only at hp_4
            obtain ⟨hp_4p0, hp_4p1⟩ := hp_4
            refine zk_ret ?_
            try dsimp only
            exact ⟨by omega, by omega, hp_3p1, hp_4p0, by rw [hp_4p1 _ (by omega)]; exact R_many, by rw [hp_4p1 _ (by omega)]; exact R_ch, by rw [hp_4p1 _ (by omega)]; exact R_pa, by intro c hc; rw [hp_4p1 _ (by omega)]; exact R_st c hc, by intro c hc; rw [hp_4p1 _ (by omega)]; exact R_ex c hc, by intro c hc; rw [hp_4p1 _ (by omega)]; exact R_tr c hc, by intro c hc; rw [hp_4p1 _ (by omega)]; exact R_pl c hc, by intro c hc; rw [hp_4p1 _ (by omega)]; exact R_te c hc, by intro c hc; rw [hp_4p1 _ (by omega)]; exact R_go c hc⟩)
       · first
         | (exfalso; omega)
         | (skip
            refine zk_dI3 ?_
            unfold f_HS_refuse
            refine zk_nE (fun v1_3 h_v1_3 => ?_)
            refine zk_gv (by omega) (by decide) (fun v2_2 h_v2_2 => ?_)
            refine zk_n ?_
            refine zk_sv (by omega) (by decide) (fun a4_2 h_a4_2 => ?_)
            refine zk_rI3 ?_
            refine zk_rI5 ?_
            refine zk_d5 (s_HM_lift _ _ _ _ _ (by omega) h_t4) (fun v46_2 v47_2 v48_2 a49_2 a50_2 hp_5 => ?_)
            try dsimp only at hp_5
            obtain ⟨hp_5p0, hp_5p1⟩ := hp_5
            refine zk_ret ?_
            try dsimp only
            exact ⟨by omega, by omega, h_t63, hp_5p0, by rw [hp_5p1 _ (by omega)]; exact R_many, by rw [hp_5p1 _ (by omega)]; exact R_ch, by rw [hp_5p1 _ (by omega)]; exact R_pa, by intro c hc; rw [hp_5p1 _ (by omega)]; exact R_st c hc, by intro c hc; rw [hp_5p1 _ (by omega)]; exact R_ex c hc, by intro c hc; rw [hp_5p1 _ (by omega)]; exact R_tr c hc, by intro c hc; rw [hp_5p1 _ (by omega)]; exact R_pl c hc, by intro c hc; rw [hp_5p1 _ (by omega)]; exact R_te c hc, by intro c hc; rw [hp_5p1 _ (by omega)]; exact R_go c hc⟩))
  · first
    | (exfalso; omega)
    | (skip
       refine zk_dI3 ?_
       unfold f_HS_refuse
       refine zk_nE (fun v1_4 h_v1_4 => ?_)
       refine zk_gv (by omega) (by decide) (fun v2_3 h_v2_3 => ?_)
       refine zk_n ?_
       refine zk_sv (by omega) (by decide) (fun a4_3 h_a4_3 => ?_)
       refine zk_rI3 ?_
       refine zk_rI5 ?_
       refine zk_d5 (s_HM_lift _ _ _ _ _ (by omega) h_t4) (fun v46_3 v47_3 v48_3 a49_3 a50_3 hp_6 => ?_)
       try dsimp only at hp_6
       obtain ⟨hp_6p0, hp_6p1⟩ := hp_6
       refine zk_ret ?_
       try dsimp only
       exact ⟨by omega, by omega, h_t63, hp_6p0, by rw [hp_6p1 _ (by omega)]; exact R_many, by rw [hp_6p1 _ (by omega)]; exact R_ch, by rw [hp_6p1 _ (by omega)]; exact R_pa, by intro c hc; rw [hp_6p1 _ (by omega)]; exact R_st c hc, by intro c hc; rw [hp_6p1 _ (by omega)]; exact R_ex c hc, by intro c hc; rw [hp_6p1 _ (by omega)]; exact R_tr c hc, by intro c hc; rw [hp_6p1 _ (by omega)]; exact R_pl c hc, by intro c hc; rw [hp_6p1 _ (by omega)]; exact R_te c hc, by intro c hc; rw [hp_6p1 _ (by omega)]; exact R_go c hc⟩)
set_option maxHeartbeats 4000000 in
set_option maxRecDepth 10000 in
theorem st_2 (N : Int) (σ : Nat → Int) (τ : Nat → Nat → Int) (hI : INV N σ τ) (a1 : Int) (b_a1 : (-2147483648) ≤ a1 ∧ a1 ≤ 2147483647) : zok (f_OP_2 N a1 (σ 3) (σ 4) (σ 5) (σ 26) (σ 27) (σ 30) (σ 49) (τ 2) (τ 3) (τ 4) (τ 34) (τ 35) (τ 36) (τ 37) (τ 38) (τ 39) (τ 63) (τ 64)) (fun o => (True) ∧ INV (N + 6) (zst σ [(3, o.2.2.1), (4, o.2.2.2.1), (5, o.2.2.2.2.1), (30, o.2.2.2.2.2.1)]) (zta τ [(2, o.2.2.2.2.2.2.1), (3, o.2.2.2.2.2.2.2.1), (4, o.2.2.2.2.2.2.2.2.1), (63, o.2.2.2.2.2.2.2.2.2)])) := by
  have zg1 := hI.2
  have zg2 := zg1.2
  have zg3 := zg2.2
  have zg4 := zg3.2
  have zg5 := zg4.2
  have zg6 := zg5.2
  have zg7 := zg6.2
  have zg8 := zg7.2
  have zg9 := zg8.2
  have zg10 := zg9.2
  have zg11 := zg10.2
  have zg12 := zg11.2
  have zg13 := zg12.2
  have zg14 := zg13.2
  have zg15 := zg14.2
  have zg16 := zg15.2
  have zg17 := zg16.2
  have zg18 := zg17.2
  have zg19 := zg18.2
  have zg20 := zg19.2
  have zg21 := zg20.2
  have zg22 := zg21.2
  have zg23 := zg22.2
  have zg24 := zg23.2
  have zg25 := zg24.2
  have zg26 := zg25.2
  have zg27 := zg26.2
  have zg28 := zg27.2
  have zg29 := zg28.2
  have zg30 := zg29.2
  have zg31 := zg30.2
  have zg32 := zg31.2
  have zg33 := zg32.2
  have zg34 := zg33.2
  have zg35 := zg34.2
  have zg36 := zg35.2
  have zg37 := zg36.2
  have zg38 := zg37.2
  have zg39 := zg38.2
  have zg40 := zg39.2
  have zg41 := zg40.2
  have zg42 := zg41.2
  have zg43 := zg42.2
  have zg44 := zg43.2
  have zg45 := zg44.2
  have zg46 := zg45.2
  have zg47 := zg46.2
  have zg48 := zg47.2
  have zg49 := zg48.2
  have zg50 := zg49.2
  have zg51 := zg50.2
  have zg52 := zg51.2
  have zg53 := zg52.2
  have zg54 := zg53.2
  have zg55 := zg54.2
  have zg56 := zg55.2
  have zg57 := zg56.2
  have zg58 := zg57.2
  have zg59 := zg58.2
  have zg60 := zg59.2
  have zg61 := zg60.2
  have zg62 := zg61.2
  have zg63 := zg62.2
  have zg64 := zg63.2
  have zg65 := zg64.2
  have zg66 := zg65.2
  have zg67 := zg66.2
  have zg68 := zg67.2
  have zg69 := zg68.2
  have zg70 := zg69.2
  have zg71 := zg70.2
  have zg72 := zg71.2
  have zg73 := zg72.2
  have zg74 := zg73.2
  have zg75 := zg74.2
  have zg76 := zg75.2
  have zg77 := zg76.2
  have zg78 := zg77.2
  have zg79 := zg78.2
  have zg80 := zg79.2
  have zg81 := zg80.2
  have zg82 := zg81.2
  have zg83 := zg82.2
  have zg84 := zg83.2
  have zg85 := zg84.2
  have zg86 := zg85.2
  have zg87 := zg86.2
  have zg88 := zg87.2
  have zg89 := zg88.2
  have zg90 := zg89.2
  have zg91 := zg90.2
  have zg92 := zg91.2
  have zg93 := zg92.2
  have zg94 := zg93.2
  have zg95 := zg94.2
  have zg96 := zg95.2
  have zg97 := zg96.2
  have zg98 := zg97.2
  have zg99 := zg98.2
  have zg100 := zg99.2
  have zg101 := zg100.2
  have zg102 := zg101.2
  have zg103 := zg102.2
  have zg104 := zg103.2
  have zg105 := zg104.2
  have zg106 := zg105.2
  have zg107 := zg106.2
  have zg108 := zg107.2
  have zg109 := zg108.2
  have zg110 := zg109.2
  have zg111 := zg110.2
  have zg112 := zg111.2
  have zg113 := zg112.2
  have zg114 := zg113.2
  have zg115 := zg114.2
  have zg116 := zg115.2
  have zg117 := zg116.2
  have zg118 := zg117.2
  have zg119 := zg118.2
  have zg120 := zg119.2
  have zg121 := zg120.2
  have zg122 := zg121.2
  have zg123 := zg122.2
  have zg124 := zg123.2
  have zg125 := zg124.2
  have I_s3 := zg2.1
  have I_s26 := zg3.1
  have I_s27 := zg4.1
  have I_s49 := zg21.1
  have I_t4 := zg99.1
  have I_t34 := zg45.1
  have I_t35 := zg46.1
  have I_t36 := zg47.1
  have I_t37 := zg48.1
  have I_t38 := zg49.1
  have I_t39 := zg50.1
  have I_t63 := zg70.1
  have I_t64 := zg71.1
  have I_s30 := zg42.1
  have R_many := zg113.1
  have R_ch := zg114.1
  have R_pa := zg115.1
  have R_st := zg116.1
  have R_ex := zg117.1
  have R_tr := zg118.1
  have R_pl := zg119.1
  have R_te := zg120.1
  have R_go := zg121.1
  refine zok_mono (s_OP_2 N a1 (σ 3) (σ 4) (σ 5) (σ 26) (σ 27) (σ 30) (σ 49) (τ 2) (τ 3) (τ 4) (τ 34) (τ 35) (τ 36) (τ 37) (τ 38) (τ 39) (τ 63) (τ 64) b_a1 I_s3 I_s26 I_s27 I_s49 I_t4 I_t34 I_t35 I_t36 I_t37 I_t38 I_t39 I_t63 I_t64 I_s30 R_many R_ch R_pa R_st R_ex R_tr R_pl R_te R_go) (fun o ho => ?_)
  obtain ⟨p0, p1, p2, p3, p4, p5, p6, p7, p8, p9, p10, p11, p12⟩ := ho
  exact ⟨trivial, ⟨hI.1, zg1.1, p0, zg3.1, zg4.1, zg5.1, zg6.1, zg7.1, zg8.1, zg9.1, zg10.1, zg11.1, zg12.1, zg13.1, zg14.1, zg15.1, zg16.1, zg17.1, zg18.1, zg19.1, zg20.1, zg21.1, zg22.1, zg23.1, zg24.1, zg25.1, zg26.1, zg27.1, zg28.1, zg29.1, zg30.1, zg31.1, zg32.1, zg33.1, zg34.1, zg35.1, zg36.1, zg37.1, zg38.1, zg39.1, zg40.1, zg41.1, p1, zg43.1, zg44.1, zg45.1, zg46.1, zg47.1, zg48.1, zg49.1, zg50.1, zg51.1, zg52.1, zg53.1, zg54.1, zg55.1, zg56.1, zg57.1, zg58.1, zg59.1, zg60.1, zg61.1, zg62.1, zg63.1, zg64.1, zg65.1, zg66.1, zg67.1, zg68.1, zg69.1, p2, zg71.1, zg72.1, zg73.1, zg74.1, zg75.1, zg76.1, zg77.1, zg78.1, zg79.1, zg80.1, zg81.1, zg82.1, zg83.1, zg84.1, zg85.1, zg86.1, zg87.1, zg88.1, zg89.1, zg90.1, zg91.1, zg92.1, zg93.1, zg94.1, zg95.1, zg96.1, zg97.1, zg98.1, p3, zg100.1, zg101.1, zg102.1, zg103.1, zg104.1, zg105.1, zg106.1, zg107.1, zg108.1, zg109.1, zg110.1, zg111.1, zg112.1, p4, p5, p6, p7, p8, p9, p10, p11, p12, zg122.1, zg123.1, zg124.1, zg125⟩⟩
def f_OP_3 (N : Int) (a1 : Int) (a2 : Int) (s4 : Int) (s49 : Int) (t4 : Nat → Int) (t63 : Nat → Int) (t64 : Nat → Int) : Option (Int × Int × Int) :=
  zd1 (f_HS_of a1 a2 s49 t63 t64) fun v55 =>
  zd2 (f_HM_of a1 a2 t4 s4) fun v60 v61 =>
  some (v55, v60, v61)
set_option maxHeartbeats 4000000 in
theorem s_OP_3 (N : Int) (a1 : Int) (a2 : Int) (s4 : Int) (s49 : Int) (t4 : Nat → Int) (t63 : Nat → Int) (t64 : Nat → Int) (b_a1 : (-2147483648) ≤ a1 ∧ a1 ≤ 2147483647) (b_a2 : (-2147483648) ≤ a2 ∧ a2 ≤ 2147483647) (b_s49 : 0 ≤ s49 ∧ s49 ≤ 12) (h_t4 : RI t4) (h_t63 : zR t63 0 10) (h_t64 : zR t64 0 30) (R_many : s49 = t4 0) : zok (f_OP_3 N a1 a2 s4 s49 t4 t63 t64) (fun o => True) := by
  unfold f_OP_3
  refine zk_dI1 ?_
  unfold f_HS_of
  refine zk_d1 (s_Columns_has _ _ (by omega) (by omega)) (fun v1 hp => ?_)
  try dsimp only at hp
  obtain ⟨hpp0, hpp1⟩ := hp
  refine zk_ifc (zci_ner (by omega)) (fun hc => ?_) (fun hc => ?_)
  · first
    | (exfalso; omega)
    | (skip
       refine zk_ifc (zci_ne (by omega) (by omega)) (fun hc_2 => ?_) (fun hc_2 => ?_)
       · first
         | (exfalso; omega)
         | (skip
            refine zk_ifc (zci_ltr (by omega)) (fun hc_3 => ?_) (fun hc_3 => ?_)
            · first
              | (exfalso; omega)
              | (skip
                 refine zk_rI1 ?_
                 refine zk_d2 (s_HM_of _ _ _ _ (by omega) (by omega) h_t4) (fun v60 v61 hp_2 => ?_)
                 exact zk_ret trivial)
            · first
              | (exfalso; omega)
              | (skip
                 refine zk_d1 (s_Columns_high _ _ _ (by omega) (by omega) h_t63) (fun v2 hp_3 => ?_)
                 try dsimp only at hp_3
                 obtain ⟨hp_3p0, hp_3p1⟩ := hp_3
                 refine zk_ifc (zci_lt (by omega) (by omega)) (fun hc_4 => ?_) (fun hc_4 => ?_)
                 · first
                   | (exfalso; omega)
                   | (skip
                      refine zk_d1 (s_Columns_heft _ _ _ _ _ (by omega) (by omega) (by omega) h_t63 h_t64) (fun v3 hp_4 => ?_)
                      try dsimp only at hp_4
                      have hp_4p0 := hp_4
                      refine zk_rI1 ?_
                      refine zk_d2 (s_HM_of _ _ _ _ (by omega) (by omega) h_t4) (fun v60_2 v61_2 hp_5 => ?_)
                      exact zk_ret trivial)
                 · first
                   | (exfalso; omega)
                   | (skip
                      refine zk_rI1 ?_
                      refine zk_d2 (s_HM_of _ _ _ _ (by omega) (by omega) h_t4) (fun v60_3 v61_3 hp_6 => ?_)
                      exact zk_ret trivial)))
       · first
         | (exfalso; omega)
         | (skip
            refine zk_d1 (s_Columns_high _ _ _ (by omega) (by omega) h_t63) (fun v4 hp_7 => ?_)
            try dsimp only at hp_7
            obtain ⟨hp_7p0, hp_7p1⟩ := hp_7
            refine zk_rI1 ?_
            refine zk_d2 (s_HM_of _ _ _ _ (by omega) (by omega) h_t4) (fun v60_4 v61_4 hp_8 => ?_)
            exact zk_ret trivial))
  · first
    | (exfalso; omega)
    | (skip
       refine zk_rI1 ?_
       refine zk_d2 (s_HM_of _ _ _ _ (by omega) (by omega) h_t4) (fun v60_5 v61_5 hp_9 => ?_)
       exact zk_ret trivial)
set_option maxHeartbeats 4000000 in
set_option maxRecDepth 10000 in
theorem st_3 (N : Int) (σ : Nat → Int) (τ : Nat → Nat → Int) (hI : INV N σ τ) (a1 : Int) (a2 : Int) (b_a1 : (-2147483648) ≤ a1 ∧ a1 ≤ 2147483647) (b_a2 : (-2147483648) ≤ a2 ∧ a2 ≤ 2147483647) : zok (f_OP_3 N a1 a2 (σ 4) (σ 49) (τ 4) (τ 63) (τ 64)) (fun o => (True) ∧ INV (N + 6) (zst σ [(4, o.2.2)]) τ) := by
  have zg1 := hI.2
  have zg2 := zg1.2
  have zg3 := zg2.2
  have zg4 := zg3.2
  have zg5 := zg4.2
  have zg6 := zg5.2
  have zg7 := zg6.2
  have zg8 := zg7.2
  have zg9 := zg8.2
  have zg10 := zg9.2
  have zg11 := zg10.2
  have zg12 := zg11.2
  have zg13 := zg12.2
  have zg14 := zg13.2
  have zg15 := zg14.2
  have zg16 := zg15.2
  have zg17 := zg16.2
  have zg18 := zg17.2
  have zg19 := zg18.2
  have zg20 := zg19.2
  have zg21 := zg20.2
  have zg22 := zg21.2
  have zg23 := zg22.2
  have zg24 := zg23.2
  have zg25 := zg24.2
  have zg26 := zg25.2
  have zg27 := zg26.2
  have zg28 := zg27.2
  have zg29 := zg28.2
  have zg30 := zg29.2
  have zg31 := zg30.2
  have zg32 := zg31.2
  have zg33 := zg32.2
  have zg34 := zg33.2
  have zg35 := zg34.2
  have zg36 := zg35.2
  have zg37 := zg36.2
  have zg38 := zg37.2
  have zg39 := zg38.2
  have zg40 := zg39.2
  have zg41 := zg40.2
  have zg42 := zg41.2
  have zg43 := zg42.2
  have zg44 := zg43.2
  have zg45 := zg44.2
  have zg46 := zg45.2
  have zg47 := zg46.2
  have zg48 := zg47.2
  have zg49 := zg48.2
  have zg50 := zg49.2
  have zg51 := zg50.2
  have zg52 := zg51.2
  have zg53 := zg52.2
  have zg54 := zg53.2
  have zg55 := zg54.2
  have zg56 := zg55.2
  have zg57 := zg56.2
  have zg58 := zg57.2
  have zg59 := zg58.2
  have zg60 := zg59.2
  have zg61 := zg60.2
  have zg62 := zg61.2
  have zg63 := zg62.2
  have zg64 := zg63.2
  have zg65 := zg64.2
  have zg66 := zg65.2
  have zg67 := zg66.2
  have zg68 := zg67.2
  have zg69 := zg68.2
  have zg70 := zg69.2
  have zg71 := zg70.2
  have zg72 := zg71.2
  have zg73 := zg72.2
  have zg74 := zg73.2
  have zg75 := zg74.2
  have zg76 := zg75.2
  have zg77 := zg76.2
  have zg78 := zg77.2
  have zg79 := zg78.2
  have zg80 := zg79.2
  have zg81 := zg80.2
  have zg82 := zg81.2
  have zg83 := zg82.2
  have zg84 := zg83.2
  have zg85 := zg84.2
  have zg86 := zg85.2
  have zg87 := zg86.2
  have zg88 := zg87.2
  have zg89 := zg88.2
  have zg90 := zg89.2
  have zg91 := zg90.2
  have zg92 := zg91.2
  have zg93 := zg92.2
  have zg94 := zg93.2
  have zg95 := zg94.2
  have zg96 := zg95.2
  have zg97 := zg96.2
  have zg98 := zg97.2
  have zg99 := zg98.2
  have zg100 := zg99.2
  have zg101 := zg100.2
  have zg102 := zg101.2
  have zg103 := zg102.2
  have zg104 := zg103.2
  have zg105 := zg104.2
  have zg106 := zg105.2
  have zg107 := zg106.2
  have zg108 := zg107.2
  have zg109 := zg108.2
  have zg110 := zg109.2
  have zg111 := zg110.2
  have zg112 := zg111.2
  have zg113 := zg112.2
  have zg114 := zg113.2
  have zg115 := zg114.2
  have zg116 := zg115.2
  have zg117 := zg116.2
  have zg118 := zg117.2
  have zg119 := zg118.2
  have zg120 := zg119.2
  have zg121 := zg120.2
  have zg122 := zg121.2
  have zg123 := zg122.2
  have zg124 := zg123.2
  have zg125 := zg124.2
  have I_s49 := zg21.1
  have I_t4 := zg99.1
  have I_t63 := zg70.1
  have I_t64 := zg71.1
  have R_many := zg113.1
  refine zok_mono (s_OP_3 N a1 a2 (σ 4) (σ 49) (τ 4) (τ 63) (τ 64) b_a1 b_a2 I_s49 I_t4 I_t63 I_t64 R_many) (fun o ho => ?_)
  skip
  exact ⟨trivial, ⟨hI.1, zg1.1, zg2.1, zg3.1, zg4.1, zg5.1, zg6.1, zg7.1, zg8.1, zg9.1, zg10.1, zg11.1, zg12.1, zg13.1, zg14.1, zg15.1, zg16.1, zg17.1, zg18.1, zg19.1, zg20.1, zg21.1, zg22.1, zg23.1, zg24.1, zg25.1, zg26.1, zg27.1, zg28.1, zg29.1, zg30.1, zg31.1, zg32.1, zg33.1, zg34.1, zg35.1, zg36.1, zg37.1, zg38.1, zg39.1, zg40.1, zg41.1, ⟨zg42.1.1, Int.le_trans zg42.1.2 (Int.le_add_of_nonneg_right (by decide))⟩, zg43.1, zg44.1, zg45.1, zg46.1, zg47.1, zg48.1, zg49.1, zg50.1, zg51.1, zg52.1, zg53.1, zg54.1, zg55.1, zg56.1, zg57.1, zg58.1, zg59.1, zg60.1, zg61.1, zg62.1, zg63.1, zg64.1, zg65.1, zg66.1, zg67.1, zg68.1, zg69.1, zg70.1, zg71.1, zg72.1, zg73.1, zg74.1, zg75.1, zg76.1, zg77.1, zg78.1, zg79.1, zg80.1, zg81.1, zg82.1, zg83.1, zg84.1, zg85.1, zg86.1, zg87.1, zg88.1, zg89.1, zg90.1, zg91.1, zg92.1, zg93.1, zg94.1, zg95.1, zg96.1, zg97.1, zg98.1, zg99.1, zg100.1, zg101.1, zg102.1, zg103.1, zg104.1, zg105.1, zg106.1, zg107.1, zg108.1, zg109.1, zg110.1, zg111.1, zg112.1, zg113.1, zg114.1, zg115.1, zg116.1, zg117.1, zg118.1, zg119.1, zg120.1, zg121.1, zg122.1, zg123.1, zg124.1, zg125⟩⟩
