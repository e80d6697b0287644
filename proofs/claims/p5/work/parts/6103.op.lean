def f_OP_12 (N : Int) (s0 : Int) (s2 : Int) (s3 : Int) (s4 : Int) (s5 : Int) (s6 : Int) (s7 : Int) (s26 : Int) (s27 : Int) (s30 : Int) (s49 : Int) (t1 : Nat → Int) (t2 : Nat → Int) (t3 : Nat → Int) (t4 : Nat → Int) (t7 : Nat → Int) (t34 : Nat → Int) (t35 : Nat → Int) (t36 : Nat → Int) (t37 : Nat → Int) (t38 : Nat → Int) (t39 : Nat → Int) (t63 : Nat → Int) (t64 : Nat → Int) : Option (Int × Int × Int × Int × Int × Int × Int × Int × Int × Int × (Nat → Int) × (Nat → Int) × (Nat → Int) × (Nat → Int) × (Nat → Int)) :=
  zd8 (f_HS_row t1 s49 s0 s2 s3 s30 t2 t63 t64) fun v184 v185 v186 v187 v188 a189 a190 a191 =>
  zd7 (f_HM_row t7 s4 s5 s6 s7 t3 t4) fun v192 v193 v194 v195 v196 a197 a198 =>
  some (v184, v192, v185, v186, v187, v193, v194, v195, v196, v188, a189, a197, a198, a190, a191)
set_option maxHeartbeats 4000000 in
theorem s_OP_12 (N : Int) (s0 : Int) (s2 : Int) (s3 : Int) (s4 : Int) (s5 : Int) (s6 : Int) (s7 : Int) (s26 : Int) (s27 : Int) (s30 : Int) (s49 : Int) (t1 : Nat → Int) (t2 : Nat → Int) (t3 : Nat → Int) (t4 : Nat → Int) (t7 : Nat → Int) (t34 : Nat → Int) (t35 : Nat → Int) (t36 : Nat → Int) (t37 : Nat → Int) (t38 : Nat → Int) (t39 : Nat → Int) (t63 : Nat → Int) (t64 : Nat → Int) (b_s0 : 0 ≤ s0 ∧ s0 ≤ 400) (b_s3 : (-6) ≤ s3 ∧ s3 ≤ 0) (b_s7 : 0 ≤ s7 ∧ s7 ≤ 400) (b_s26 : 0 ≤ s26 ∧ s26 ≤ 6) (b_s27 : 0 ≤ s27 ∧ s27 ≤ 6) (b_s49 : 0 ≤ s49 ∧ s49 ≤ 12) (h_t1 : zR t1 0 255) (h_t4 : RI t4) (h_t7 : zR t7 0 255) (h_t34 : zR t34 0 60) (h_t35 : zR t35 0 1) (h_t36 : zR t36 0 20) (h_t37 : zR t37 0 11) (h_t38 : zR t38 0 99) (h_t39 : zR t39 (-1) 10) (h_t63 : zR t63 0 10) (h_t64 : zR t64 0 30) (I_s30 : 0 ≤ s30 ∧ s30 ≤ N) (R_many : s49 = t4 0) (R_ch : s26 = t4 1) (R_pa : s27 = t4 2) (R_st : RV 3 153 s26 t34 t4) (R_ex : RV 3 154 s26 t35 t4) (R_tr : RV 3 155 s26 t36 t4) (R_pl : RV 1 171 s27 t37 t4) (R_te : RV 1 5 4 t38 t4) (R_go : RV 1 141 s49 t39 t4) (R_tp : s0 = s7) : zok (f_OP_12 N s0 s2 s3 s4 s5 s6 s7 s26 s27 s30 s49 t1 t2 t3 t4 t7 t34 t35 t36 t37 t38 t39 t63 t64) (fun o => (0 ≤ o.2.2.1 ∧ o.2.2.1 ≤ 400) ∧ ((-6) ≤ o.2.2.2.2.1 ∧ o.2.2.2.2.1 ≤ 0) ∧ (0 ≤ o.2.2.2.2.2.2.2.2.2.1 ∧ o.2.2.2.2.2.2.2.2.2.1 ≤ N + 6) ∧ zR o.2.2.2.2.2.2.2.2.2.2.2.2.2.1 0 10 ∧ zR o.2.2.2.2.2.2.2.2.2.2.2.2.2.2 0 30 ∧ RI o.2.2.2.2.2.2.2.2.2.2.2.2.1 ∧ (0 ≤ o.2.2.2.2.2.2.2.2.1 ∧ o.2.2.2.2.2.2.2.2.1 ≤ 400) ∧ (s49 = o.2.2.2.2.2.2.2.2.2.2.2.2.1 0) ∧ (s26 = o.2.2.2.2.2.2.2.2.2.2.2.2.1 1) ∧ (s27 = o.2.2.2.2.2.2.2.2.2.2.2.2.1 2) ∧ (RV 3 153 s26 t34 o.2.2.2.2.2.2.2.2.2.2.2.2.1) ∧ (RV 3 154 s26 t35 o.2.2.2.2.2.2.2.2.2.2.2.2.1) ∧ (RV 3 155 s26 t36 o.2.2.2.2.2.2.2.2.2.2.2.2.1) ∧ (RV 1 171 s27 t37 o.2.2.2.2.2.2.2.2.2.2.2.2.1) ∧ (RV 1 5 4 t38 o.2.2.2.2.2.2.2.2.2.2.2.2.1) ∧ (RV 1 141 s49 t39 o.2.2.2.2.2.2.2.2.2.2.2.2.1) ∧ (o.2.2.1 = o.2.2.2.2.2.2.2.2.1)) := by
  unfold f_OP_12
  refine zk_d8 (s_HS_row _ _ _ _ _ _ _ _ _ h_t1 (by omega) (by omega) (by omega) h_t63 h_t64) (fun v184 v185 v186 v187 v188 a189 a190 a191 hp => ?_)
  try dsimp only at hp
  obtain ⟨hpp0, hpp1, hpp2, hpp3, hpp4, hpp5⟩ := hp
  refine zk_d7 (s_HM_row _ _ _ _ _ _ _ h_t7 (by omega) h_t4) (fun v192 v193 v194 v195 v196 a197 a198 hp_2 => ?_)
  try dsimp only at hp_2
  obtain ⟨hp_2p0, hp_2p1, hp_2p2, hp_2p3⟩ := hp_2
  refine zk_ret ?_
  try dsimp only
  exact ⟨by omega, by omega, by omega, hpp2, hpp3, hp_2p1, by omega, by rw [hp_2p3 _ (by omega)]; exact R_many, by rw [hp_2p3 _ (by omega)]; exact R_ch, by rw [hp_2p3 _ (by omega)]; exact R_pa, by intro c hc; rw [hp_2p3 _ (by omega)]; exact R_st c hc, by intro c hc; rw [hp_2p3 _ (by omega)]; exact R_ex c hc, by intro c hc; rw [hp_2p3 _ (by omega)]; exact R_tr c hc, by intro c hc; rw [hp_2p3 _ (by omega)]; exact R_pl c hc, by intro c hc; rw [hp_2p3 _ (by omega)]; exact R_te c hc, by intro c hc; rw [hp_2p3 _ (by omega)]; exact R_go c hc, by first | omega | (simp only [zu_eq, zu, ↓reduceIte]; (repeat' split) <;> omega)⟩
set_option maxHeartbeats 4000000 in
set_option maxRecDepth 10000 in
theorem st_12 (N : Int) (σ : Nat → Int) (τ : Nat → Nat → Int) (hI : INV N σ τ)   : zok (f_OP_12 N (σ 0) (σ 2) (σ 3) (σ 4) (σ 5) (σ 6) (σ 7) (σ 26) (σ 27) (σ 30) (σ 49) (τ 1) (τ 2) (τ 3) (τ 4) (τ 7) (τ 34) (τ 35) (τ 36) (τ 37) (τ 38) (τ 39) (τ 63) (τ 64)) (fun o => (True) ∧ INV (N + 6) (zst σ [(0, o.2.2.1), (2, o.2.2.2.1), (3, o.2.2.2.2.1), (4, o.2.2.2.2.2.1), (5, o.2.2.2.2.2.2.1), (6, o.2.2.2.2.2.2.2.1), (7, o.2.2.2.2.2.2.2.2.1), (30, o.2.2.2.2.2.2.2.2.2.1)]) (zta τ [(2, o.2.2.2.2.2.2.2.2.2.2.1), (3, o.2.2.2.2.2.2.2.2.2.2.2.1), (4, o.2.2.2.2.2.2.2.2.2.2.2.2.1), (63, o.2.2.2.2.2.2.2.2.2.2.2.2.2.1), (64, o.2.2.2.2.2.2.2.2.2.2.2.2.2.2)])) := by
  have zg1 := hI.2
  have zg2 := zg1.2
  have zg3 := zg2.2
  have zg4 := zg3.2
  have zg5 := zg4.2
  have zg6 := zg5.2
  have zg7 := zg6.2
  have zg8 := zg7.2
  have zg9 := zg8.2
  have zg10 := zg9.2
  have zg11 := zg10.2
  have zg12 := zg11.2
  have zg13 := zg12.2
  have zg14 := zg13.2
  have zg15 := zg14.2
  have zg16 := zg15.2
  have zg17 := zg16.2
  have zg18 := zg17.2
  have zg19 := zg18.2
  have zg20 := zg19.2
  have zg21 := zg20.2
  have zg22 := zg21.2
  have zg23 := zg22.2
  have zg24 := zg23.2
  have zg25 := zg24.2
  have zg26 := zg25.2
  have zg27 := zg26.2
  have zg28 := zg27.2
  have zg29 := zg28.2
  have zg30 := zg29.2
  have zg31 := zg30.2
  have zg32 := zg31.2
  have zg33 := zg32.2
  have zg34 := zg33.2
  have zg35 := zg34.2
  have zg36 := zg35.2
  have zg37 := zg36.2
  have zg38 := zg37.2
  have zg39 := zg38.2
  have zg40 := zg39.2
  have zg41 := zg40.2
  have zg42 := zg41.2
  have zg43 := zg42.2
  have zg44 := zg43.2
  have zg45 := zg44.2
  have zg46 := zg45.2
  have zg47 := zg46.2
  have zg48 := zg47.2
  have zg49 := zg48.2
  have zg50 := zg49.2
  have zg51 := zg50.2
  have zg52 := zg51.2
  have zg53 := zg52.2
  have zg54 := zg53.2
  have zg55 := zg54.2
  have zg56 := zg55.2
  have zg57 := zg56.2
  have zg58 := zg57.2
  have zg59 := zg58.2
  have zg60 := zg59.2
  have zg61 := zg60.2
  have zg62 := zg61.2
  have zg63 := zg62.2
  have zg64 := zg63.2
  have zg65 := zg64.2
  have zg66 := zg65.2
  have zg67 := zg66.2
  have zg68 := zg67.2
  have zg69 := zg68.2
  have zg70 := zg69.2
  have zg71 := zg70.2
  have zg72 := zg71.2
  have zg73 := zg72.2
  have zg74 := zg73.2
  have zg75 := zg74.2
  have zg76 := zg75.2
  have zg77 := zg76.2
  have zg78 := zg77.2
  have zg79 := zg78.2
  have zg80 := zg79.2
  have zg81 := zg80.2
  have zg82 := zg81.2
  have zg83 := zg82.2
  have zg84 := zg83.2
  have zg85 := zg84.2
  have zg86 := zg85.2
  have zg87 := zg86.2
  have zg88 := zg87.2
  have zg89 := zg88.2
  have zg90 := zg89.2
  have zg91 := zg90.2
  have zg92 := zg91.2
  have zg93 := zg92.2
  have zg94 := zg93.2
  have zg95 := zg94.2
  have zg96 := zg95.2
  have zg97 := zg96.2
  have zg98 := zg97.2
  have zg99 := zg98.2
  have zg100 := zg99.2
  have zg101 := zg100.2
  have zg102 := zg101.2
  have zg103 := zg102.2
  have zg104 := zg103.2
  have zg105 := zg104.2
  have zg106 := zg105.2
  have zg107 := zg106.2
  have zg108 := zg107.2
  have zg109 := zg108.2
  have zg110 := zg109.2
  have zg111 := zg110.2
  have zg112 := zg111.2
  have zg113 := zg112.2
  have zg114 := zg113.2
  have zg115 := zg114.2
  have zg116 := zg115.2
  have zg117 := zg116.2
  have zg118 := zg117.2
  have zg119 := zg118.2
  have zg120 := zg119.2
  have zg121 := zg120.2
  have zg122 := zg121.2
  have zg123 := zg122.2
  have zg124 := zg123.2
  have zg125 := zg124.2
  have I_s0 := hI.1
  have I_s3 := zg2.1
  have I_s7 := zg100.1
  have I_s26 := zg3.1
  have I_s27 := zg4.1
  have I_s49 := zg21.1
  have I_t1 := zg44.1
  have I_t4 := zg99.1
  have I_t7 := zg102.1
  have I_t34 := zg45.1
  have I_t35 := zg46.1
  have I_t36 := zg47.1
  have I_t37 := zg48.1
  have I_t38 := zg49.1
  have I_t39 := zg50.1
  have I_t63 := zg70.1
  have I_t64 := zg71.1
  have I_s30 := zg42.1
  have R_many := zg113.1
  have R_ch := zg114.1
  have R_pa := zg115.1
  have R_st := zg116.1
  have R_ex := zg117.1
  have R_tr := zg118.1
  have R_pl := zg119.1
  have R_te := zg120.1
  have R_go := zg121.1
  have R_tp := zg122.1
  refine zok_mono (s_OP_12 N (σ 0) (σ 2) (σ 3) (σ 4) (σ 5) (σ 6) (σ 7) (σ 26) (σ 27) (σ 30) (σ 49) (τ 1) (τ 2) (τ 3) (τ 4) (τ 7) (τ 34) (τ 35) (τ 36) (τ 37) (τ 38) (τ 39) (τ 63) (τ 64) I_s0 I_s3 I_s7 I_s26 I_s27 I_s49 I_t1 I_t4 I_t7 I_t34 I_t35 I_t36 I_t37 I_t38 I_t39 I_t63 I_t64 I_s30 R_many R_ch R_pa R_st R_ex R_tr R_pl R_te R_go R_tp) (fun o ho => ?_)
  obtain ⟨p0, p1, p2, p3, p4, p5, p6, p7, p8, p9, p10, p11, p12, p13, p14, p15, p16⟩ := ho
  exact ⟨trivial, ⟨p0, zg1.1, p1, zg3.1, zg4.1, zg5.1, zg6.1, zg7.1, zg8.1, zg9.1, zg10.1, zg11.1, zg12.1, zg13.1, zg14.1, zg15.1, zg16.1, zg17.1, zg18.1, zg19.1, zg20.1, zg21.1, zg22.1, zg23.1, zg24.1, zg25.1, zg26.1, zg27.1, zg28.1, zg29.1, zg30.1, zg31.1, zg32.1, zg33.1, zg34.1, zg35.1, zg36.1, zg37.1, zg38.1, zg39.1, zg40.1, zg41.1, p2, zg43.1, zg44.1, zg45.1, zg46.1, zg47.1, zg48.1, zg49.1, zg50.1, zg51.1, zg52.1, zg53.1, zg54.1, zg55.1, zg56.1, zg57.1, zg58.1, zg59.1, zg60.1, zg61.1, zg62.1, zg63.1, zg64.1, zg65.1, zg66.1, zg67.1, zg68.1, zg69.1, p3, p4, zg72.1, zg73.1, zg74.1, zg75.1, zg76.1, zg77.1, zg78.1, zg79.1, zg80.1, zg81.1, zg82.1, zg83.1, zg84.1, zg85.1, zg86.1, zg87.1, zg88.1, zg89.1, zg90.1, zg91.1, zg92.1, zg93.1, zg94.1, zg95.1, zg96.1, zg97.1, zg98.1, p5, p6, zg101.1, zg102.1, zg103.1, zg104.1, zg105.1, zg106.1, zg107.1, zg108.1, zg109.1, zg110.1, zg111.1, zg112.1, p7, p8, p9, p10, p11, p12, p13, p14, p15, p16, zg123.1, zg124.1, zg125⟩⟩
def f_OP_13 (N : Int) (s2 : Int) (s4 : Int) (s6 : Int) : Option (Int × Int × Int) :=
  zd1 (f_HS_gravel s2) fun v199 =>
  zd2 (f_HM_gravel s6 s4) fun v200 v201 =>
  some (v199, v200, v201)
set_option maxHeartbeats 4000000 in
theorem s_OP_13 (N : Int) (s2 : Int) (s4 : Int) (s6 : Int)  : zok (f_OP_13 N s2 s4 s6) (fun o => True) := by
  unfold f_OP_13
  refine zk_dI1 ?_
  unfold f_HS_gravel
  refine zk_rI1 ?_
  refine zk_d2 (s_HM_gravel _ _) (fun v200 v201 hp => ?_)
  exact zk_ret trivial
set_option maxHeartbeats 4000000 in
set_option maxRecDepth 10000 in
theorem st_13 (N : Int) (σ : Nat → Int) (τ : Nat → Nat → Int) (hI : INV N σ τ)   : zok (f_OP_13 N (σ 2) (σ 4) (σ 6)) (fun o => (True) ∧ INV (N + 6) (zst σ [(4, o.2.2)]) τ) := by
  have zg1 := hI.2
  have zg2 := zg1.2
  have zg3 := zg2.2
  have zg4 := zg3.2
  have zg5 := zg4.2
  have zg6 := zg5.2
  have zg7 := zg6.2
  have zg8 := zg7.2
  have zg9 := zg8.2
  have zg10 := zg9.2
  have zg11 := zg10.2
  have zg12 := zg11.2
  have zg13 := zg12.2
  have zg14 := zg13.2
  have zg15 := zg14.2
  have zg16 := zg15.2
  have zg17 := zg16.2
  have zg18 := zg17.2
  have zg19 := zg18.2
  have zg20 := zg19.2
  have zg21 := zg20.2
  have zg22 := zg21.2
  have zg23 := zg22.2
  have zg24 := zg23.2
  have zg25 := zg24.2
  have zg26 := zg25.2
  have zg27 := zg26.2
  have zg28 := zg27.2
  have zg29 := zg28.2
  have zg30 := zg29.2
  have zg31 := zg30.2
  have zg32 := zg31.2
  have zg33 := zg32.2
  have zg34 := zg33.2
  have zg35 := zg34.2
  have zg36 := zg35.2
  have zg37 := zg36.2
  have zg38 := zg37.2
  have zg39 := zg38.2
  have zg40 := zg39.2
  have zg41 := zg40.2
  have zg42 := zg41.2
  have zg43 := zg42.2
  have zg44 := zg43.2
  have zg45 := zg44.2
  have zg46 := zg45.2
  have zg47 := zg46.2
  have zg48 := zg47.2
  have zg49 := zg48.2
  have zg50 := zg49.2
  have zg51 := zg50.2
  have zg52 := zg51.2
  have zg53 := zg52.2
  have zg54 := zg53.2
  have zg55 := zg54.2
  have zg56 := zg55.2
  have zg57 := zg56.2
  have zg58 := zg57.2
  have zg59 := zg58.2
  have zg60 := zg59.2
  have zg61 := zg60.2
  have zg62 := zg61.2
  have zg63 := zg62.2
  have zg64 := zg63.2
  have zg65 := zg64.2
  have zg66 := zg65.2
  have zg67 := zg66.2
  have zg68 := zg67.2
  have zg69 := zg68.2
  have zg70 := zg69.2
  have zg71 := zg70.2
  have zg72 := zg71.2
  have zg73 := zg72.2
  have zg74 := zg73.2
  have zg75 := zg74.2
  have zg76 := zg75.2
  have zg77 := zg76.2
  have zg78 := zg77.2
  have zg79 := zg78.2
  have zg80 := zg79.2
  have zg81 := zg80.2
  have zg82 := zg81.2
  have zg83 := zg82.2
  have zg84 := zg83.2
  have zg85 := zg84.2
  have zg86 := zg85.2
  have zg87 := zg86.2
  have zg88 := zg87.2
  have zg89 := zg88.2
  have zg90 := zg89.2
  have zg91 := zg90.2
  have zg92 := zg91.2
  have zg93 := zg92.2
  have zg94 := zg93.2
  have zg95 := zg94.2
  have zg96 := zg95.2
  have zg97 := zg96.2
  have zg98 := zg97.2
  have zg99 := zg98.2
  have zg100 := zg99.2
  have zg101 := zg100.2
  have zg102 := zg101.2
  have zg103 := zg102.2
  have zg104 := zg103.2
  have zg105 := zg104.2
  have zg106 := zg105.2
  have zg107 := zg106.2
  have zg108 := zg107.2
  have zg109 := zg108.2
  have zg110 := zg109.2
  have zg111 := zg110.2
  have zg112 := zg111.2
  have zg113 := zg112.2
  have zg114 := zg113.2
  have zg115 := zg114.2
  have zg116 := zg115.2
  have zg117 := zg116.2
  have zg118 := zg117.2
  have zg119 := zg118.2
  have zg120 := zg119.2
  have zg121 := zg120.2
  have zg122 := zg121.2
  have zg123 := zg122.2
  have zg124 := zg123.2
  have zg125 := zg124.2
  refine zok_mono (s_OP_13 N (σ 2) (σ 4) (σ 6) ) (fun o ho => ?_)
  skip
  exact ⟨trivial, ⟨hI.1, zg1.1, zg2.1, zg3.1, zg4.1, zg5.1, zg6.1, zg7.1, zg8.1, zg9.1, zg10.1, zg11.1, zg12.1, zg13.1, zg14.1, zg15.1, zg16.1, zg17.1, zg18.1, zg19.1, zg20.1, zg21.1, zg22.1, zg23.1, zg24.1, zg25.1, zg26.1, zg27.1, zg28.1, zg29.1, zg30.1, zg31.1, zg32.1, zg33.1, zg34.1, zg35.1, zg36.1, zg37.1, zg38.1, zg39.1, zg40.1, zg41.1, ⟨zg42.1.1, Int.le_trans zg42.1.2 (Int.le_add_of_nonneg_right (by decide))⟩, zg43.1, zg44.1, zg45.1, zg46.1, zg47.1, zg48.1, zg49.1, zg50.1, zg51.1, zg52.1, zg53.1, zg54.1, zg55.1, zg56.1, zg57.1, zg58.1, zg59.1, zg60.1, zg61.1, zg62.1, zg63.1, zg64.1, zg65.1, zg66.1, zg67.1, zg68.1, zg69.1, zg70.1, zg71.1, zg72.1, zg73.1, zg74.1, zg75.1, zg76.1, zg77.1, zg78.1, zg79.1, zg80.1, zg81.1, zg82.1, zg83.1, zg84.1, zg85.1, zg86.1, zg87.1, zg88.1, zg89.1, zg90.1, zg91.1, zg92.1, zg93.1, zg94.1, zg95.1, zg96.1, zg97.1, zg98.1, zg99.1, zg100.1, zg101.1, zg102.1, zg103.1, zg104.1, zg105.1, zg106.1, zg107.1, zg108.1, zg109.1, zg110.1, zg111.1, zg112.1, zg113.1, zg114.1, zg115.1, zg116.1, zg117.1, zg118.1, zg119.1, zg120.1, zg121.1, zg122.1, zg123.1, zg124.1, zg125⟩⟩
def f_OP_14 (N : Int) (s0 : Int) (s1 : Int) (s3 : Int) (s4 : Int) (s5 : Int) (s7 : Int) (s8 : Int) (s9 : Int) (s10 : Int) (s11 : Int) (s12 : Int) (s13 : Int) (s14 : Int) (s15 : Int) (s16 : Int) (s17 : Int) (s18 : Int) (s26 : Int) (s27 : Int) (s28 : Int) (s30 : Int) (s31 : Int) (s32 : Int) (s33 : Int) (s49 : Int) (t1 : Nat → Int) (t2 : Nat → Int) (t3 : Nat → Int) (t4 : Nat → Int) (t7 : Nat → Int) (t8 : Nat → Int) (t9 : Nat → Int) (t10 : Nat → Int) (t11 : Nat → Int) (t12 : Nat → Int) (t13 : Nat → Int) (t34 : Nat → Int) (t35 : Nat → Int) (t36 : Nat → Int) (t37 : Nat → Int) (t38 : Nat → Int) (t39 : Nat → Int) (t40 : Nat → Int) (t41 : Nat → Int) (t42 : Nat → Int) (t43 : Nat → Int) (t44 : Nat → Int) (t45 : Nat → Int) : Option (Int × Int × Int × Int × Int × Int × Int × Int × Int × Int × Int × Int × Int × Int × Int × Int × Int × Int × Int × Int × Int × Int × Int × Int × (Nat → Int) × (Nat → Int) × (Nat → Int) × (Nat → Int) × (Nat → Int) × (Nat → Int) × (Nat → Int) × (Nat → Int) × (Nat → Int) × (Nat → Int) × (Nat → Int) × (Nat → Int) × (Nat → Int) × (Nat → Int)) :=
  zd16 (f_HS_law t1 s0 s1 s3 s28 s30 t2 s31 s32 s33 t40 t41 t42 t43 t44 t45) fun v202 v203 v204 v205 v206 v207 a208 v209 v210 v211 a212 a213 a214 a215 a216 a217 =>
  zd22 (f_HM_law t7 t13 s4 s5 s7 s8 s9 s10 s11 s12 s13 s14 s15 s16 s17 s18 t3 t4 t8 t9 t10 t11 t12) fun v218 v219 v220 v221 v222 v223 v224 v225 v226 v227 v228 v229 v230 v231 v232 a233 a234 a235 a236 a237 a238 a239 =>
  some (v202, v218, v203, v204, v205, v219, v220, v221, v222, v223, v224, v225, v226, v227, v228, v229, v230, v231, v232, v206, v207, v209, v210, v211, a208, a233, a234, a235, a236, a237, a238, a239, a212, a213, a214, a215, a216, a217)
set_option maxHeartbeats 4000000 in
theorem s_OP_14 (N : Int) (s0 : Int) (s1 : Int) (s3 : Int) (s4 : Int) (s5 : Int) (s7 : Int) (s8 : Int) (s9 : Int) (s10 : Int) (s11 : Int) (s12 : Int) (s13 : Int) (s14 : Int) (s15 : Int) (s16 : Int) (s17 : Int) (s18 : Int) (s26 : Int) (s27 : Int) (s28 : Int) (s30 : Int) (s31 : Int) (s32 : Int) (s33 : Int) (s49 : Int) (t1 : Nat → Int) (t2 : Nat → Int) (t3 : Nat → Int) (t4 : Nat → Int) (t7 : Nat → Int) (t8 : Nat → Int) (t9 : Nat → Int) (t10 : Nat → Int) (t11 : Nat → Int) (t12 : Nat → Int) (t13 : Nat → Int) (t34 : Nat → Int) (t35 : Nat → Int) (t36 : Nat → Int) (t37 : Nat → Int) (t38 : Nat → Int) (t39 : Nat → Int) (t40 : Nat → Int) (t41 : Nat → Int) (t42 : Nat → Int) (t43 : Nat → Int) (t44 : Nat → Int) (t45 : Nat → Int) (b_s0 : 0 ≤ s0 ∧ s0 ≤ 400) (b_s1 : (-1) ≤ s1 ∧ s1 ≤ 400) (b_s3 : (-6) ≤ s3 ∧ s3 ≤ 0) (b_s7 : 0 ≤ s7 ∧ s7 ≤ 400) (b_s26 : 0 ≤ s26 ∧ s26 ≤ 6) (b_s27 : 0 ≤ s27 ∧ s27 ≤ 6) (b_s28 : 0 ≤ s28 ∧ s28 ≤ 6) (b_s31 : 0 ≤ s31 ∧ s31 ≤ 424) (b_s32 : 0 ≤ s32 ∧ s32 ≤ 400) (b_s33 : 0 ≤ s33 ∧ s33 ≤ 50) (b_s49 : 0 ≤ s49 ∧ s49 ≤ 12) (h_t1 : zR t1 0 255) (h_t4 : RI t4) (h_t7 : zR t7 0 255) (h_t34 : zR t34 0 60) (h_t35 : zR t35 0 1) (h_t36 : zR t36 0 20) (h_t37 : zR t37 0 11) (h_t38 : zR t38 0 99) (h_t39 : zR t39 (-1) 10) (h_t40 : zR t40 (-2147483648) 2147483647) (h_t41 : zR t41 0 424) (h_t42 : zR t42 (-2147483648) 2147483647) (h_t43 : zR t43 0 265) (h_t44 : zR t44 0 400) (I_s30 : 0 ≤ s30 ∧ s30 ≤ N) (R_many : s49 = t4 0) (R_ch : s26 = t4 1) (R_pa : s27 = t4 2) (R_st : RV 3 153 s26 t34 t4) (R_ex : RV 3 154 s26 t35 t4) (R_tr : RV 3 155 s26 t36 t4) (R_pl : RV 1 171 s27 t37 t4) (R_te : RV 1 5 4 t38 t4) (R_go : RV 1 141 s49 t39 t4) (R_tp : s0 = s7) : zok (f_OP_14 N s0 s1 s3 s4 s5 s7 s8 s9 s10 s11 s12 s13 s14 s15 s16 s17 s18 s26 s27 s28 s30 s31 s32 s33 s49 t1 t2 t3 t4 t7 t8 t9 t10 t11 t12 t13 t34 t35 t36 t37 t38 t39 t40 t41 t42 t43 t44 t45) (fun o => (0 ≤ o.2.2.1 ∧ o.2.2.1 ≤ 400) ∧ ((-1) ≤ o.2.2.2.1 ∧ o.2.2.2.1 ≤ 400) ∧ ((-6) ≤ o.2.2.2.2.1 ∧ o.2.2.2.2.1 ≤ 0) ∧ (0 ≤ o.2.2.2.2.2.2.2.2.2.2.2.2.2.2.2.2.2.2.2.1 ∧ o.2.2.2.2.2.2.2.2.2.2.2.2.2.2.2.2.2.2.2.1 ≤ 6) ∧ (0 ≤ o.2.2.2.2.2.2.2.2.2.2.2.2.2.2.2.2.2.2.2.2.2.1 ∧ o.2.2.2.2.2.2.2.2.2.2.2.2.2.2.2.2.2.2.2.2.2.1 ≤ 424) ∧ (0 ≤ o.2.2.2.2.2.2.2.2.2.2.2.2.2.2.2.2.2.2.2.2.2.2.1 ∧ o.2.2.2.2.2.2.2.2.2.2.2.2.2.2.2.2.2.2.2.2.2.2.1 ≤ 400) ∧ (0 ≤ o.2.2.2.2.2.2.2.2.2.2.2.2.2.2.2.2.2.2.2.2.2.2.2.1 ∧ o.2.2.2.2.2.2.2.2.2.2.2.2.2.2.2.2.2.2.2.2.2.2.2.1 ≤ 50) ∧ (0 ≤ o.2.2.2.2.2.2.2.2.2.2.2.2.2.2.2.2.2.2.2.2.1 ∧ o.2.2.2.2.2.2.2.2.2.2.2.2.2.2.2.2.2.2.2.2.1 ≤ N + 6) ∧ zR o.2.2.2.2.2.2.2.2.2.2.2.2.2.2.2.2.2.2.2.2.2.2.2.2.2.2.2.2.2.2.2.2.1 (-2147483648) 2147483647 ∧ zR o.2.2.2.2.2.2.2.2.2.2.2.2.2.2.2.2.2.2.2.2.2.2.2.2.2.2.2.2.2.2.2.2.2.1 0 424 ∧ zR o.2.2.2.2.2.2.2.2.2.2.2.2.2.2.2.2.2.2.2.2.2.2.2.2.2.2.2.2.2.2.2.2.2.2.1 (-2147483648) 2147483647 ∧ zR o.2.2.2.2.2.2.2.2.2.2.2.2.2.2.2.2.2.2.2.2.2.2.2.2.2.2.2.2.2.2.2.2.2.2.2.1 0 265 ∧ zR o.2.2.2.2.2.2.2.2.2.2.2.2.2.2.2.2.2.2.2.2.2.2.2.2.2.2.2.2.2.2.2.2.2.2.2.2.1 0 400 ∧ RI o.2.2.2.2.2.2.2.2.2.2.2.2.2.2.2.2.2.2.2.2.2.2.2.2.2.2.1 ∧ (0 ≤ o.2.2.2.2.2.2.2.1 ∧ o.2.2.2.2.2.2.2.1 ≤ 400) ∧ (s49 = o.2.2.2.2.2.2.2.2.2.2.2.2.2.2.2.2.2.2.2.2.2.2.2.2.2.2.1 0) ∧ (s26 = o.2.2.2.2.2.2.2.2.2.2.2.2.2.2.2.2.2.2.2.2.2.2.2.2.2.2.1 1) ∧ (s27 = o.2.2.2.2.2.2.2.2.2.2.2.2.2.2.2.2.2.2.2.2.2.2.2.2.2.2.1 2) ∧ (RV 3 153 s26 t34 o.2.2.2.2.2.2.2.2.2.2.2.2.2.2.2.2.2.2.2.2.2.2.2.2.2.2.1) ∧ (RV 3 154 s26 t35 o.2.2.2.2.2.2.2.2.2.2.2.2.2.2.2.2.2.2.2.2.2.2.2.2.2.2.1) ∧ (RV 3 155 s26 t36 o.2.2.2.2.2.2.2.2.2.2.2.2.2.2.2.2.2.2.2.2.2.2.2.2.2.2.1) ∧ (RV 1 171 s27 t37 o.2.2.2.2.2.2.2.2.2.2.2.2.2.2.2.2.2.2.2.2.2.2.2.2.2.2.1) ∧ (RV 1 5 4 t38 o.2.2.2.2.2.2.2.2.2.2.2.2.2.2.2.2.2.2.2.2.2.2.2.2.2.2.1) ∧ (RV 1 141 s49 t39 o.2.2.2.2.2.2.2.2.2.2.2.2.2.2.2.2.2.2.2.2.2.2.2.2.2.2.1) ∧ (o.2.2.1 = o.2.2.2.2.2.2.2.1)) := by
  unfold f_OP_14
  refine zk_dI16 ?_
  unfold f_HS_law
  refine zk_ifc (zci_lt (by omega) (by omega)) (fun hc => ?_) (fun hc => ?_)
  · first
    | (exfalso; omega)
    | (skip
       refine zk_d8 (s_LawReader_read _ _ _ _ _ _ _ _ _ (by omega) h_t1 (by omega) (by omega) (by omega) h_t42 h_t43 h_t44) (fun v1 v2 v3 v4 a5 a6 a7 a8 hp => ?_)
       try dsimp only at hp
       obtain ⟨hpp0, hpp1, hpp2, hpp3, hpp4, hpp5, hpp6⟩ := hp
       refine zk_ifc (zci_eq (by omega) (by omega)) (fun hc_2 => ?_) (fun hc_2 => ?_)
       · first
         | (exfalso; omega)
         | (skip
            refine zk_d4 (s_Hill_enact _ _ _ _ _ (by omega) hpp4 (by omega) h_t40 h_t41) (fun v9 v10 a11 a12 hp_2 => ?_)
            try dsimp only at hp_2
            obtain ⟨hp_2p0, hp_2p1, hp_2p2, hp_2p3⟩ := hp_2
            refine zk_dI3 ?_
            unfold f_HS_accept
            refine zk_n ?_
            refine zk_rI3 ?_
            refine zk_rI16 ?_
            refine zk_d22 (ww_HM_law _ _ _ _ _ _ _ _ _ _ _ _ _ _ _ _ _ _ _ _ _ _ _ h_t7 (by omega) h_t4) (fun v218 v219 v220 v221 v222 v223 v224 v225 v226 v227 v228 v229 v230 v231 v232 a233 a234 a235 a236 a237 a238 a239 hp_3 => ?_)
            try dsimp only at hp_3
            obtain ⟨hp_3p0, hp_3p1, hp_3p2⟩ := hp_3
            refine zk_ret ?_
            try dsimp only
            exact ⟨by omega, by omega, by omega, by omega, by omega, by omega, by omega, by omega, hp_2p2, hp_2p3, hpp4, hpp5, hpp6, hp_3p0, by omega, by rw [LPP_fr hp_3p2 _ (by omega) (by omega)]; exact R_many, by rw [LPP_fr hp_3p2 _ (by omega) (by omega)]; exact R_ch, by rw [LPP_fr hp_3p2 _ (by omega) (by omega)]; exact R_pa, by intro c hc; rw [LPP_fr hp_3p2 _ (by omega) (by omega)]; exact R_st c hc, by intro c hc; rw [LPP_fr hp_3p2 _ (by omega) (by omega)]; exact R_ex c hc, by intro c hc; rw [LPP_fr hp_3p2 _ (by omega) (by omega)]; exact R_tr c hc, by intro c hc; rw [LPP_fr hp_3p2 _ (by omega) (by omega)]; exact R_pl c hc, by intro c hc; rw [LPP_fr hp_3p2 _ (by omega) (by omega)]; exact R_te c hc, by intro c hc; rw [LPP_fr hp_3p2 _ (by omega) (by omega)]; exact R_go c hc, by first | omega | (simp only [zu_eq, zu, ↓reduceIte]; (repeat' split) <;> omega)⟩)
       · first
         | (exfalso; omega)
         | (skip
            refine zk_dI3 ?_
            unfold f_HS_refuse
            refine zk_nE (fun v1_3 h_v1_3 => ?_)
            refine zk_gv (by omega) (by decide) (fun v2_2 h_v2_2 => ?_)
            refine zk_n ?_
            refine zk_sv (by omega) (by decide) (fun a4 h_a4 => ?_)
            refine zk_rI3 ?_
            refine zk_rI16 ?_
            refine zk_d22 (ww_HM_law _ _ _ _ _ _ _ _ _ _ _ _ _ _ _ _ _ _ _ _ _ _ _ h_t7 (by omega) h_t4) (fun v218_2 v219_2 v220_2 v221_2 v222_2 v223_2 v224_2 v225_2 v226_2 v227_2 v228_2 v229_2 v230_2 v231_2 v232_2 a233_2 a234_2 a235_2 a236_2 a237_2 a238_2 a239_2 hp_4 => ?_)
            try dsimp only at hp_4
            obtain ⟨hp_4p0, hp_4p1, hp_4p2⟩ := hp_4
            refine zk_ret ?_
            try dsimp only
            exact ⟨by omega, by omega, by omega, by omega, by omega, by omega, by omega, by omega, h_t40, h_t41, hpp4, hpp5, hpp6, hp_4p0, by omega, by rw [LPP_fr hp_4p2 _ (by omega) (by omega)]; exact R_many, by rw [LPP_fr hp_4p2 _ (by omega) (by omega)]; exact R_ch, by rw [LPP_fr hp_4p2 _ (by omega) (by omega)]; exact R_pa, by intro c hc; rw [LPP_fr hp_4p2 _ (by omega) (by omega)]; exact R_st c hc, by intro c hc; rw [LPP_fr hp_4p2 _ (by omega) (by omega)]; exact R_ex c hc, by intro c hc; rw [LPP_fr hp_4p2 _ (by omega) (by omega)]; exact R_tr c hc, by intro c hc; rw [LPP_fr hp_4p2 _ (by omega) (by omega)]; exact R_pl c hc, by intro c hc; rw [LPP_fr hp_4p2 _ (by omega) (by omega)]; exact R_te c hc, by intro c hc; rw [LPP_fr hp_4p2 _ (by omega) (by omega)]; exact R_go c hc, by first | omega | (simp only [h_a4, zu, ↓reduceIte]; (repeat' split) <;> omega)⟩))
  · first
    | (exfalso; omega)
    | (skip
       refine zk_dI3 ?_
       unfold f_HS_refuse
       refine zk_nE (fun v1_4 h_v1_4 => ?_)
       refine zk_gv (by omega) (by decide) (fun v2_3 h_v2_3 => ?_)
       refine zk_n ?_
       refine zk_sv (by omega) (by decide) (fun a4_2 h_a4_2 => ?_)
       refine zk_rI3 ?_
       refine zk_rI16 ?_
       refine zk_d22 (ww_HM_law _ _ _ _ _ _ _ _ _ _ _ _ _ _ _ _ _ _ _ _ _ _ _ h_t7 (by omega) h_t4) (fun v218_3 v219_3 v220_3 v221_3 v222_3 v223_3 v224_3 v225_3 v226_3 v227_3 v228_3 v229_3 v230_3 v231_3 v232_3 a233_3 a234_3 a235_3 a236_3 a237_3 a238_3 a239_3 hp_5 => ?_)
       try dsimp only at hp_5
       obtain ⟨hp_5p0, hp_5p1, hp_5p2⟩ := hp_5
       refine zk_ret ?_
       try dsimp only
       exact ⟨by omega, by omega, by omega, by omega, by omega, by omega, by omega, by omega, h_t40, h_t41, h_t42, h_t43, h_t44, hp_5p0, by omega, by rw [LPP_fr hp_5p2 _ (by omega) (by omega)]; exact R_many, by rw [LPP_fr hp_5p2 _ (by omega) (by omega)]; exact R_ch, by rw [LPP_fr hp_5p2 _ (by omega) (by omega)]; exact R_pa, by intro c hc; rw [LPP_fr hp_5p2 _ (by omega) (by omega)]; exact R_st c hc, by intro c hc; rw [LPP_fr hp_5p2 _ (by omega) (by omega)]; exact R_ex c hc, by intro c hc; rw [LPP_fr hp_5p2 _ (by omega) (by omega)]; exact R_tr c hc, by intro c hc; rw [LPP_fr hp_5p2 _ (by omega) (by omega)]; exact R_pl c hc, by intro c hc; rw [LPP_fr hp_5p2 _ (by omega) (by omega)]; exact R_te c hc, by intro c hc; rw [LPP_fr hp_5p2 _ (by omega) (by omega)]; exact R_go c hc, by first | omega | (simp only [h_a4_2, zu, ↓reduceIte]; (repeat' split) <;> omega)⟩)
set_option maxHeartbeats 4000000 in
set_option maxRecDepth 10000 in
theorem st_14 (N : Int) (σ : Nat → Int) (τ : Nat → Nat → Int) (hI : INV N σ τ)   : zok (f_OP_14 N (σ 0) (σ 1) (σ 3) (σ 4) (σ 5) (σ 7) (σ 8) (σ 9) (σ 10) (σ 11) (σ 12) (σ 13) (σ 14) (σ 15) (σ 16) (σ 17) (σ 18) (σ 26) (σ 27) (σ 28) (σ 30) (σ 31) (σ 32) (σ 33) (σ 49) (τ 1) (τ 2) (τ 3) (τ 4) (τ 7) (τ 8) (τ 9) (τ 10) (τ 11) (τ 12) (τ 13) (τ 34) (τ 35) (τ 36) (τ 37) (τ 38) (τ 39) (τ 40) (τ 41) (τ 42) (τ 43) (τ 44) (τ 45)) (fun o => (True) ∧ INV (N + 6) (zst σ [(0, o.2.2.1), (1, o.2.2.2.1), (3, o.2.2.2.2.1), (4, o.2.2.2.2.2.1), (5, o.2.2.2.2.2.2.1), (7, o.2.2.2.2.2.2.2.1), (8, o.2.2.2.2.2.2.2.2.1), (9, o.2.2.2.2.2.2.2.2.2.1), (10, o.2.2.2.2.2.2.2.2.2.2.1), (11, o.2.2.2.2.2.2.2.2.2.2.2.1), (12, o.2.2.2.2.2.2.2.2.2.2.2.2.1), (13, o.2.2.2.2.2.2.2.2.2.2.2.2.2.1), (14, o.2.2.2.2.2.2.2.2.2.2.2.2.2.2.1), (15, o.2.2.2.2.2.2.2.2.2.2.2.2.2.2.2.1), (16, o.2.2.2.2.2.2.2.2.2.2.2.2.2.2.2.2.1), (17, o.2.2.2.2.2.2.2.2.2.2.2.2.2.2.2.2.2.1), (18, o.2.2.2.2.2.2.2.2.2.2.2.2.2.2.2.2.2.2.1), (28, o.2.2.2.2.2.2.2.2.2.2.2.2.2.2.2.2.2.2.2.1), (30, o.2.2.2.2.2.2.2.2.2.2.2.2.2.2.2.2.2.2.2.2.1), (31, o.2.2.2.2.2.2.2.2.2.2.2.2.2.2.2.2.2.2.2.2.2.1), (32, o.2.2.2.2.2.2.2.2.2.2.2.2.2.2.2.2.2.2.2.2.2.2.1), (33, o.2.2.2.2.2.2.2.2.2.2.2.2.2.2.2.2.2.2.2.2.2.2.2.1)]) (zta τ [(2, o.2.2.2.2.2.2.2.2.2.2.2.2.2.2.2.2.2.2.2.2.2.2.2.2.1), (3, o.2.2.2.2.2.2.2.2.2.2.2.2.2.2.2.2.2.2.2.2.2.2.2.2.2.1), (4, o.2.2.2.2.2.2.2.2.2.2.2.2.2.2.2.2.2.2.2.2.2.2.2.2.2.2.1), (8, o.2.2.2.2.2.2.2.2.2.2.2.2.2.2.2.2.2.2.2.2.2.2.2.2.2.2.2.1), (9, o.2.2.2.2.2.2.2.2.2.2.2.2.2.2.2.2.2.2.2.2.2.2.2.2.2.2.2.2.1), (10, o.2.2.2.2.2.2.2.2.2.2.2.2.2.2.2.2.2.2.2.2.2.2.2.2.2.2.2.2.2.1), (11, o.2.2.2.2.2.2.2.2.2.2.2.2.2.2.2.2.2.2.2.2.2.2.2.2.2.2.2.2.2.2.1), (12, o.2.2.2.2.2.2.2.2.2.2.2.2.2.2.2.2.2.2.2.2.2.2.2.2.2.2.2.2.2.2.2.1), (40, o.2.2.2.2.2.2.2.2.2.2.2.2.2.2.2.2.2.2.2.2.2.2.2.2.2.2.2.2.2.2.2.2.1), (41, o.2.2.2.2.2.2.2.2.2.2.2.2.2.2.2.2.2.2.2.2.2.2.2.2.2.2.2.2.2.2.2.2.2.1), (42, o.2.2.2.2.2.2.2.2.2.2.2.2.2.2.2.2.2.2.2.2.2.2.2.2.2.2.2.2.2.2.2.2.2.2.1), (43, o.2.2.2.2.2.2.2.2.2.2.2.2.2.2.2.2.2.2.2.2.2.2.2.2.2.2.2.2.2.2.2.2.2.2.2.1), (44, o.2.2.2.2.2.2.2.2.2.2.2.2.2.2.2.2.2.2.2.2.2.2.2.2.2.2.2.2.2.2.2.2.2.2.2.2.1), (45, o.2.2.2.2.2.2.2.2.2.2.2.2.2.2.2.2.2.2.2.2.2.2.2.2.2.2.2.2.2.2.2.2.2.2.2.2.2)])) := by
  have zg1 := hI.2
  have zg2 := zg1.2
  have zg3 := zg2.2
  have zg4 := zg3.2
  have zg5 := zg4.2
  have zg6 := zg5.2
  have zg7 := zg6.2
  have zg8 := zg7.2
  have zg9 := zg8.2
  have zg10 := zg9.2
  have zg11 := zg10.2
  have zg12 := zg11.2
  have zg13 := zg12.2
  have zg14 := zg13.2
  have zg15 := zg14.2
  have zg16 := zg15.2
  have zg17 := zg16.2
  have zg18 := zg17.2
  have zg19 := zg18.2
  have zg20 := zg19.2
  have zg21 := zg20.2
  have zg22 := zg21.2
  have zg23 := zg22.2
  have zg24 := zg23.2
  have zg25 := zg24.2
  have zg26 := zg25.2
  have zg27 := zg26.2
  have zg28 := zg27.2
  have zg29 := zg28.2
  have zg30 := zg29.2
  have zg31 := zg30.2
  have zg32 := zg31.2
  have zg33 := zg32.2
  have zg34 := zg33.2
  have zg35 := zg34.2
  have zg36 := zg35.2
  have zg37 := zg36.2
  have zg38 := zg37.2
  have zg39 := zg38.2
  have zg40 := zg39.2
  have zg41 := zg40.2
  have zg42 := zg41.2
  have zg43 := zg42.2
  have zg44 := zg43.2
  have zg45 := zg44.2
  have zg46 := zg45.2
  have zg47 := zg46.2
  have zg48 := zg47.2
  have zg49 := zg48.2
  have zg50 := zg49.2
  have zg51 := zg50.2
  have zg52 := zg51.2
  have zg53 := zg52.2
  have zg54 := zg53.2
  have zg55 := zg54.2
  have zg56 := zg55.2
  have zg57 := zg56.2
  have zg58 := zg57.2
  have zg59 := zg58.2
  have zg60 := zg59.2
  have zg61 := zg60.2
  have zg62 := zg61.2
  have zg63 := zg62.2
  have zg64 := zg63.2
  have zg65 := zg64.2
  have zg66 := zg65.2
  have zg67 := zg66.2
  have zg68 := zg67.2
  have zg69 := zg68.2
  have zg70 := zg69.2
  have zg71 := zg70.2
  have zg72 := zg71.2
  have zg73 := zg72.2
  have zg74 := zg73.2
  have zg75 := zg74.2
  have zg76 := zg75.2
  have zg77 := zg76.2
  have zg78 := zg77.2
  have zg79 := zg78.2
  have zg80 := zg79.2
  have zg81 := zg80.2
  have zg82 := zg81.2
  have zg83 := zg82.2
  have zg84 := zg83.2
  have zg85 := zg84.2
  have zg86 := zg85.2
  have zg87 := zg86.2
  have zg88 := zg87.2
  have zg89 := zg88.2
  have zg90 := zg89.2
  have zg91 := zg90.2
  have zg92 := zg91.2
  have zg93 := zg92.2
  have zg94 := zg93.2
  have zg95 := zg94.2
  have zg96 := zg95.2
  have zg97 := zg96.2
  have zg98 := zg97.2
  have zg99 := zg98.2
  have zg100 := zg99.2
  have zg101 := zg100.2
  have zg102 := zg101.2
  have zg103 := zg102.2
  have zg104 := zg103.2
  have zg105 := zg104.2
  have zg106 := zg105.2
  have zg107 := zg106.2
  have zg108 := zg107.2
  have zg109 := zg108.2
  have zg110 := zg109.2
  have zg111 := zg110.2
  have zg112 := zg111.2
  have zg113 := zg112.2
  have zg114 := zg113.2
  have zg115 := zg114.2
  have zg116 := zg115.2
  have zg117 := zg116.2
  have zg118 := zg117.2
  have zg119 := zg118.2
  have zg120 := zg119.2
  have zg121 := zg120.2
  have zg122 := zg121.2
  have zg123 := zg122.2
  have zg124 := zg123.2
  have zg125 := zg124.2
  have I_s0 := hI.1
  have I_s1 := zg1.1
  have I_s3 := zg2.1
  have I_s7 := zg100.1
  have I_s26 := zg3.1
  have I_s27 := zg4.1
  have I_s28 := zg5.1
  have I_s31 := zg7.1
  have I_s32 := zg8.1
  have I_s33 := zg9.1
  have I_s49 := zg21.1
  have I_t1 := zg44.1
  have I_t4 := zg99.1
  have I_t7 := zg102.1
  have I_t34 := zg45.1
  have I_t35 := zg46.1
  have I_t36 := zg47.1
  have I_t37 := zg48.1
  have I_t38 := zg49.1
  have I_t39 := zg50.1
  have I_t40 := zg51.1
  have I_t41 := zg52.1
  have I_t42 := zg53.1
  have I_t43 := zg54.1
  have I_t44 := zg55.1
  have I_s30 := zg42.1
  have R_many := zg113.1
  have R_ch := zg114.1
  have R_pa := zg115.1
  have R_st := zg116.1
  have R_ex := zg117.1
  have R_tr := zg118.1
  have R_pl := zg119.1
  have R_te := zg120.1
  have R_go := zg121.1
  have R_tp := zg122.1
  refine zok_mono (s_OP_14 N (σ 0) (σ 1) (σ 3) (σ 4) (σ 5) (σ 7) (σ 8) (σ 9) (σ 10) (σ 11) (σ 12) (σ 13) (σ 14) (σ 15) (σ 16) (σ 17) (σ 18) (σ 26) (σ 27) (σ 28) (σ 30) (σ 31) (σ 32) (σ 33) (σ 49) (τ 1) (τ 2) (τ 3) (τ 4) (τ 7) (τ 8) (τ 9) (τ 10) (τ 11) (τ 12) (τ 13) (τ 34) (τ 35) (τ 36) (τ 37) (τ 38) (τ 39) (τ 40) (τ 41) (τ 42) (τ 43) (τ 44) (τ 45) I_s0 I_s1 I_s3 I_s7 I_s26 I_s27 I_s28 I_s31 I_s32 I_s33 I_s49 I_t1 I_t4 I_t7 I_t34 I_t35 I_t36 I_t37 I_t38 I_t39 I_t40 I_t41 I_t42 I_t43 I_t44 I_s30 R_many R_ch R_pa R_st R_ex R_tr R_pl R_te R_go R_tp) (fun o ho => ?_)
  obtain ⟨p0, p1, p2, p3, p4, p5, p6, p7, p8, p9, p10, p11, p12, p13, p14, p15, p16, p17, p18, p19, p20, p21, p22, p23, p24⟩ := ho
  exact ⟨trivial, ⟨p0, p1, p2, zg3.1, zg4.1, p3, zg6.1, p4, p5, p6, zg10.1, zg11.1, zg12.1, zg13.1, zg14.1, zg15.1, zg16.1, zg17.1, zg18.1, zg19.1, zg20.1, zg21.1, zg22.1, zg23.1, zg24.1, zg25.1, zg26.1, zg27.1, zg28.1, zg29.1, zg30.1, zg31.1, zg32.1, zg33.1, zg34.1, zg35.1, zg36.1, zg37.1, zg38.1, zg39.1, zg40.1, zg41.1, p7, zg43.1, zg44.1, zg45.1, zg46.1, zg47.1, zg48.1, zg49.1, zg50.1, p8, p9, p10, p11, p12, zg56.1, zg57.1, zg58.1, zg59.1, zg60.1, zg61.1, zg62.1, zg63.1, zg64.1, zg65.1, zg66.1, zg67.1, zg68.1, zg69.1, zg70.1, zg71.1, zg72.1, zg73.1, zg74.1, zg75.1, zg76.1, zg77.1, zg78.1, zg79.1, zg80.1, zg81.1, zg82.1, zg83.1, zg84.1, zg85.1, zg86.1, zg87.1, zg88.1, zg89.1, zg90.1, zg91.1, zg92.1, zg93.1, zg94.1, zg95.1, zg96.1, zg97.1, zg98.1, p13, p14, zg101.1, zg102.1, zg103.1, zg104.1, zg105.1, zg106.1, zg107.1, zg108.1, zg109.1, zg110.1, zg111.1, zg112.1, p15, p16, p17, p18, p19, p20, p21, p22, p23, p24, zg123.1, zg124.1, zg125⟩⟩
def f_OP_15 (N : Int) (s1 : Int) (s4 : Int) (s12 : Int) : Option (Int × Int × Int) :=
  zd1 (f_HS_fault s1) fun v240 =>
  zd2 (f_HM_fault s12 s4) fun v241 v242 =>
  some (v240, v241, v242)
set_option maxHeartbeats 4000000 in
theorem s_OP_15 (N : Int) (s1 : Int) (s4 : Int) (s12 : Int) (b_s1 : (-1) ≤ s1 ∧ s1 ≤ 400) : zok (f_OP_15 N s1 s4 s12) (fun o => True) := by
  unfold f_OP_15
  refine zk_dI1 ?_
  unfold f_HS_fault
  refine zk_rI1 ?_
  refine zk_d2 (s_HM_fault _ _) (fun v241 v242 hp => ?_)
  exact zk_ret trivial
set_option maxHeartbeats 4000000 in
set_option maxRecDepth 10000 in
theorem st_15 (N : Int) (σ : Nat → Int) (τ : Nat → Nat → Int) (hI : INV N σ τ)   : zok (f_OP_15 N (σ 1) (σ 4) (σ 12)) (fun o => (True) ∧ INV (N + 6) (zst σ [(4, o.2.2)]) τ) := by
  have zg1 := hI.2
  have zg2 := zg1.2
  have zg3 := zg2.2
  have zg4 := zg3.2
  have zg5 := zg4.2
  have zg6 := zg5.2
  have zg7 := zg6.2
  have zg8 := zg7.2
  have zg9 := zg8.2
  have zg10 := zg9.2
  have zg11 := zg10.2
  have zg12 := zg11.2
  have zg13 := zg12.2
  have zg14 := zg13.2
  have zg15 := zg14.2
  have zg16 := zg15.2
  have zg17 := zg16.2
  have zg18 := zg17.2
  have zg19 := zg18.2
  have zg20 := zg19.2
  have zg21 := zg20.2
  have zg22 := zg21.2
  have zg23 := zg22.2
  have zg24 := zg23.2
  have zg25 := zg24.2
  have zg26 := zg25.2
  have zg27 := zg26.2
  have zg28 := zg27.2
  have zg29 := zg28.2
  have zg30 := zg29.2
  have zg31 := zg30.2
  have zg32 := zg31.2
  have zg33 := zg32.2
  have zg34 := zg33.2
  have zg35 := zg34.2
  have zg36 := zg35.2
  have zg37 := zg36.2
  have zg38 := zg37.2
  have zg39 := zg38.2
  have zg40 := zg39.2
  have zg41 := zg40.2
  have zg42 := zg41.2
  have zg43 := zg42.2
  have zg44 := zg43.2
  have zg45 := zg44.2
  have zg46 := zg45.2
  have zg47 := zg46.2
  have zg48 := zg47.2
  have zg49 := zg48.2
  have zg50 := zg49.2
  have zg51 := zg50.2
  have zg52 := zg51.2
  have zg53 := zg52.2
  have zg54 := zg53.2
  have zg55 := zg54.2
  have zg56 := zg55.2
  have zg57 := zg56.2
  have zg58 := zg57.2
  have zg59 := zg58.2
  have zg60 := zg59.2
  have zg61 := zg60.2
  have zg62 := zg61.2
  have zg63 := zg62.2
  have zg64 := zg63.2
  have zg65 := zg64.2
  have zg66 := zg65.2
  have zg67 := zg66.2
  have zg68 := zg67.2
  have zg69 := zg68.2
  have zg70 := zg69.2
  have zg71 := zg70.2
  have zg72 := zg71.2
  have zg73 := zg72.2
  have zg74 := zg73.2
  have zg75 := zg74.2
  have zg76 := zg75.2
  have zg77 := zg76.2
  have zg78 := zg77.2
  have zg79 := zg78.2
  have zg80 := zg79.2
  have zg81 := zg80.2
  have zg82 := zg81.2
  have zg83 := zg82.2
  have zg84 := zg83.2
  have zg85 := zg84.2
  have zg86 := zg85.2
  have zg87 := zg86.2
  have zg88 := zg87.2
  have zg89 := zg88.2
  have zg90 := zg89.2
  have zg91 := zg90.2
  have zg92 := zg91.2
  have zg93 := zg92.2
  have zg94 := zg93.2
  have zg95 := zg94.2
  have zg96 := zg95.2
  have zg97 := zg96.2
  have zg98 := zg97.2
  have zg99 := zg98.2
  have zg100 := zg99.2
  have zg101 := zg100.2
  have zg102 := zg101.2
  have zg103 := zg102.2
  have zg104 := zg103.2
  have zg105 := zg104.2
  have zg106 := zg105.2
  have zg107 := zg106.2
  have zg108 := zg107.2
  have zg109 := zg108.2
  have zg110 := zg109.2
  have zg111 := zg110.2
  have zg112 := zg111.2
  have zg113 := zg112.2
  have zg114 := zg113.2
  have zg115 := zg114.2
  have zg116 := zg115.2
  have zg117 := zg116.2
  have zg118 := zg117.2
  have zg119 := zg118.2
  have zg120 := zg119.2
  have zg121 := zg120.2
  have zg122 := zg121.2
  have zg123 := zg122.2
  have zg124 := zg123.2
  have zg125 := zg124.2
  have I_s1 := zg1.1
  refine zok_mono (s_OP_15 N (σ 1) (σ 4) (σ 12) I_s1) (fun o ho => ?_)
  skip
  exact ⟨trivial, ⟨hI.1, zg1.1, zg2.1, zg3.1, zg4.1, zg5.1, zg6.1, zg7.1, zg8.1, zg9.1, zg10.1, zg11.1, zg12.1, zg13.1, zg14.1, zg15.1, zg16.1, zg17.1, zg18.1, zg19.1, zg20.1, zg21.1, zg22.1, zg23.1, zg24.1, zg25.1, zg26.1, zg27.1, zg28.1, zg29.1, zg30.1, zg31.1, zg32.1, zg33.1, zg34.1, zg35.1, zg36.1, zg37.1, zg38.1, zg39.1, zg40.1, zg41.1, ⟨zg42.1.1, Int.le_trans zg42.1.2 (Int.le_add_of_nonneg_right (by decide))⟩, zg43.1, zg44.1, zg45.1, zg46.1, zg47.1, zg48.1, zg49.1, zg50.1, zg51.1, zg52.1, zg53.1, zg54.1, zg55.1, zg56.1, zg57.1, zg58.1, zg59.1, zg60.1, zg61.1, zg62.1, zg63.1, zg64.1, zg65.1, zg66.1, zg67.1, zg68.1, zg69.1, zg70.1, zg71.1, zg72.1, zg73.1, zg74.1, zg75.1, zg76.1, zg77.1, zg78.1, zg79.1, zg80.1, zg81.1, zg82.1, zg83.1, zg84.1, zg85.1, zg86.1, zg87.1, zg88.1, zg89.1, zg90.1, zg91.1, zg92.1, zg93.1, zg94.1, zg95.1, zg96.1, zg97.1, zg98.1, zg99.1, zg100.1, zg101.1, zg102.1, zg103.1, zg104.1, zg105.1, zg106.1, zg107.1, zg108.1, zg109.1, zg110.1, zg111.1, zg112.1, zg113.1, zg114.1, zg115.1, zg116.1, zg117.1, zg118.1, zg119.1, zg120.1, zg121.1, zg122.1, zg123.1, zg124.1, zg125⟩⟩
