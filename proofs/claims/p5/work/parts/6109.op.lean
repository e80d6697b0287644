def f_OP_36 (N : Int) (a1 : Int) (s0 : Int) (s4 : Int) (s7 : Int) (s26 : Int) (s27 : Int) (s28 : Int) (s29 : Int) (s49 : Int) (t2 : Nat → Int) (t3 : Nat → Int) (t4 : Nat → Int) (t38 : Nat → Int) (t63 : Nat → Int) : Option (Int × Int × Int) :=
  zd1 (f_HS_count a1 s0 s26 s27 s28 s29 t2 s49 t38 t63) fun v734 =>
  zd2 (f_HM_count a1 s7 t3 t4 s4) fun v737 v738 =>
  some (v734, v737, v738)
set_option maxHeartbeats 4000000 in
theorem s_OP_36 (N : Int) (a1 : Int) (s0 : Int) (s4 : Int) (s7 : Int) (s26 : Int) (s27 : Int) (s28 : Int) (s29 : Int) (s49 : Int) (t2 : Nat → Int) (t3 : Nat → Int) (t4 : Nat → Int) (t38 : Nat → Int) (t63 : Nat → Int) (b_a1 : (-2147483648) ≤ a1 ∧ a1 ≤ 2147483647) (b_s0 : 0 ≤ s0 ∧ s0 ≤ 400) (b_s7 : 0 ≤ s7 ∧ s7 ≤ 400) (b_s26 : 0 ≤ s26 ∧ s26 ≤ 6) (b_s27 : 0 ≤ s27 ∧ s27 ≤ 6) (b_s28 : 0 ≤ s28 ∧ s28 ≤ 6) (b_s29 : (-1) ≤ s29 ∧ s29 ≤ 5) (b_s49 : 0 ≤ s49 ∧ s49 ≤ 12) (h_t4 : RI t4) (h_t38 : zR t38 0 99) (h_t63 : zR t63 0 10) (R_many : s49 = t4 0) (R_ch : s26 = t4 1) (R_pa : s27 = t4 2) (R_te : RV 1 5 4 t38 t4) (R_tp : s0 = s7) : zok (f_OP_36 N a1 s0 s4 s7 s26 s27 s28 s29 s49 t2 t3 t4 t38 t63) (fun o => True) := by
  unfold f_OP_36
  refine zk_dI1 ?_
  unfold f_HS_count
  refine zk_ifc (zci_eqr (by omega)) (fun hc => ?_) (fun hc => ?_)
  · first
    | (exfalso; omega)
    | (skip
       refine zk_rI1 ?_
       refine zk_d2 (s_HM_count _ _ _ _ _ (by omega) h_t4) (fun v737 v738 hp => ?_)
       exact zk_ret trivial)
  · first
    | (exfalso; omega)
    | (skip
       refine zk_ifc (zci_eqr (by omega)) (fun hc_2 => ?_) (fun hc_2 => ?_)
       · first
         | (exfalso; omega)
         | (skip
            refine zk_d1 (s_Columns_stones _ _ (by omega) h_t63) (fun v1 hp_2 => ?_)
            refine zk_rI1 ?_
            refine zk_d2 (s_HM_count _ _ _ _ _ (by omega) h_t4) (fun v737_2 v738_2 hp_3 => ?_)
            exact zk_ret trivial)
       · first
         | (exfalso; omega)
         | (skip
            refine zk_ifc (zci_eqr (by omega)) (fun hc_3 => ?_) (fun hc_3 => ?_)
            · first
              | (exfalso; omega)
              | (skip
                 refine zk_rI1 ?_
                 refine zk_d2 (s_HM_count _ _ _ _ _ (by omega) h_t4) (fun v737_3 v738_3 hp_4 => ?_)
                 exact zk_ret trivial)
            · first
              | (exfalso; omega)
              | (skip
                 refine zk_ifc (zci_eqr (by omega)) (fun hc_4 => ?_) (fun hc_4 => ?_)
                 · first
                   | (exfalso; omega)
                   | (skip
                      refine zk_rI1 ?_
                      refine zk_d2 (s_HM_count _ _ _ _ _ (by omega) h_t4) (fun v737_4 v738_4 hp_5 => ?_)
                      exact zk_ret trivial)
                 · first
                   | (exfalso; omega)
                   | (skip
                      refine zk_ifc (zci_eqr (by omega)) (fun hc_5 => ?_) (fun hc_5 => ?_)
                      · first
                        | (exfalso; omega)
                        | (skip
                           refine zk_rI1 ?_
                           refine zk_d2 (s_HM_count _ _ _ _ _ (by omega) h_t4) (fun v737_5 v738_5 hp_6 => ?_)
                           exact zk_ret trivial)
                      · first
                        | (exfalso; omega)
                        | (skip
                           refine zk_ifc (zci_eqr (by omega)) (fun hc_6 => ?_) (fun hc_6 => ?_)
                           · first
                             | (exfalso; omega)
                             | (skip
                                refine zk_rI1 ?_
                                refine zk_d2 (s_HM_count _ _ _ _ _ (by omega) h_t4) (fun v737_6 v738_6 hp_7 => ?_)
                                exact zk_ret trivial)
                           · first
                             | (exfalso; omega)
                             | (skip
                                refine zk_ifc (zci_eqr (by omega)) (fun hc_7 => ?_) (fun hc_7 => ?_)
                                · first
                                  | (exfalso; omega)
                                  | (skip
                                     refine zk_gl 1 rfl (by decide) (by decide) (fun v2 h_v2 => ?_)
                                     refine zk_rI1 ?_
                                     refine zk_d2 (s_HM_count _ _ _ _ _ (by omega) h_t4) (fun v737_7 v738_7 hp_8 => ?_)
                                     exact zk_ret trivial)
                                · first
                                  | (exfalso; omega)
                                  | (skip
                                     refine zk_ifc (zci_eqr (by omega)) (fun hc_8 => ?_) (fun hc_8 => ?_)
                                     · first
                                       | (exfalso; omega)
                                       | (skip
                                          refine zk_gl 2 rfl (by decide) (by decide) (fun v3 h_v3 => ?_)
                                          refine zk_rI1 ?_
                                          refine zk_d2 (s_HM_count _ _ _ _ _ (by omega) h_t4) (fun v737_8 v738_8 hp_9 => ?_)
                                          exact zk_ret trivial)
                                     · first
                                       | (exfalso; omega)
                                       | (skip
                                          refine zk_ifc (zci_eqr (by omega)) (fun hc_9 => ?_) (fun hc_9 => ?_)
                                          · first
                                            | (exfalso; omega)
                                            | (skip
                                               refine zk_gl 3 rfl (by decide) (by decide) (fun v4 h_v4 => ?_)
                                               refine zk_rI1 ?_
                                               refine zk_d2 (s_HM_count _ _ _ _ _ (by omega) h_t4) (fun v737_9 v738_9 hp_10 => ?_)
                                               exact zk_ret trivial)
                                          · first
                                            | (exfalso; omega)
                                            | (skip
                                               refine zk_ifc (zci_eqr (by omega)) (fun hc_10 => ?_) (fun hc_10 => ?_)
                                               · first
                                                 | (exfalso; omega)
                                                 | (skip
                                                    refine zk_gl 5 rfl (by decide) (by decide) (fun v5 h_v5 => ?_)
                                                    refine zk_rI1 ?_
                                                    refine zk_d2 (s_HM_count _ _ _ _ _ (by omega) h_t4) (fun v737_10 v738_10 hp_11 => ?_)
                                                    exact zk_ret trivial)
                                               · first
                                                 | (exfalso; omega)
                                                 | (skip
                                                    refine zk_ifc (zci_eqr (by omega)) (fun hc_11 => ?_) (fun hc_11 => ?_)
                                                    · first
                                                      | (exfalso; omega)
                                                      | (skip
                                                         refine zk_gl 6 rfl (by decide) (by decide) (fun v6 h_v6 => ?_)
                                                         refine zk_rI1 ?_
                                                         refine zk_d2 (s_HM_count _ _ _ _ _ (by omega) h_t4) (fun v737_11 v738_11 hp_12 => ?_)
                                                         exact zk_ret trivial)
                                                    · first
                                                      | (exfalso; omega)
                                                      | (skip
                                                         refine zk_ifc (zci_eqr (by omega)) (fun hc_12 => ?_) (fun hc_12 => ?_)
                                                         · first
                                                           | (exfalso; omega)
                                                           | (skip
                                                              refine zk_rI1 ?_
                                                              refine zk_d2 (s_HM_count _ _ _ _ _ (by omega) h_t4) (fun v737_12 v738_12 hp_13 => ?_)
                                                              exact zk_ret trivial)
                                                         · first
                                                           | (exfalso; omega)
                                                           | (skip
                                                              refine zk_ifc (zci_eqr (by omega)) (fun hc_13 => ?_) (fun hc_13 => ?_)
                                                              · first
                                                                | (exfalso; omega)
                                                                | (skip
                                                                   refine zk_gl 0 rfl (by decide) (by decide) (fun v7 h_v7 => ?_)
                                                                   have r_v7 := h_t38 (0)
                                                                   refine zk_rI1 ?_
                                                                   refine zk_d2 (s_HM_count _ _ _ _ _ (by omega) h_t4) (fun v737_13 v738_13 hp_14 => ?_)
                                                                   exact zk_ret trivial)
                                                              · first
                                                                | (exfalso; omega)
                                                                | (skip
                                                                   refine zk_ifc (zci_eqr (by omega)) (fun hc_14 => ?_) (fun hc_14 => ?_)
                                                                   · first
                                                                     | (exfalso; omega)
                                                                     | (skip
                                                                        refine zk_gl 1 rfl (by decide) (by decide) (fun v8 h_v8 => ?_)
                                                                        have r_v8 := h_t38 (1)
                                                                        refine zk_rI1 ?_
                                                                        refine zk_d2 (s_HM_count _ _ _ _ _ (by omega) h_t4) (fun v737_14 v738_14 hp_15 => ?_)
                                                                        exact zk_ret trivial)
                                                                   · first
                                                                     | (exfalso; omega)
                                                                     | (skip
                                                                        refine zk_ifc (zci_eqr (by omega)) (fun hc_15 => ?_) (fun hc_15 => ?_)
                                                                        · first
                                                                          | (exfalso; omega)
                                                                          | (skip
                                                                             refine zk_gl 2 rfl (by decide) (by decide) (fun v9 h_v9 => ?_)
                                                                             have r_v9 := h_t38 (2)
                                                                             refine zk_rI1 ?_
                                                                             refine zk_d2 (s_HM_count _ _ _ _ _ (by omega) h_t4) (fun v737_15 v738_15 hp_16 => ?_)
                                                                             exact zk_ret trivial)
                                                                        · first
                                                                          | (exfalso; omega)
                                                                          | (skip
                                                                             refine zk_ifc (zci_eqr (by omega)) (fun hc_16 => ?_) (fun hc_16 => ?_)
                                                                             · first
                                                                               | (exfalso; omega)
                                                                               | (skip
                                                                                  refine zk_gl 3 rfl (by decide) (by decide) (fun v10 h_v10 => ?_)
                                                                                  have r_v10 := h_t38 (3)
                                                                                  refine zk_rI1 ?_
                                                                                  refine zk_d2 (s_HM_count _ _ _ _ _ (by omega) h_t4) (fun v737_16 v738_16 hp_17 => ?_)
                                                                                  exact zk_ret trivial)
                                                                             · first
                                                                               | (exfalso; omega)
                                                                               | (skip
                                                                                  refine zk_rI1 ?_
                                                                                  refine zk_d2 (s_HM_count _ _ _ _ _ (by omega) h_t4) (fun v737_17 v738_17 hp_18 => ?_)
                                                                                  exact zk_ret trivial))))))))))))))))
set_option maxHeartbeats 4000000 in
set_option maxRecDepth 10000 in
theorem st_36 (N : Int) (σ : Nat → Int) (τ : Nat → Nat → Int) (hI : INV N σ τ) (a1 : Int) (b_a1 : (-2147483648) ≤ a1 ∧ a1 ≤ 2147483647) : zok (f_OP_36 N a1 (σ 0) (σ 4) (σ 7) (σ 26) (σ 27) (σ 28) (σ 29) (σ 49) (τ 2) (τ 3) (τ 4) (τ 38) (τ 63)) (fun o => (True) ∧ INV (N + 6) (zst σ [(4, o.2.2)]) τ) := by
  have zg1 := hI.2
  have zg2 := zg1.2
  have zg3 := zg2.2
  have zg4 := zg3.2
  have zg5 := zg4.2
  have zg6 := zg5.2
  have zg7 := zg6.2
  have zg8 := zg7.2
  have zg9 := zg8.2
  have zg10 := zg9.2
  have zg11 := zg10.2
  have zg12 := zg11.2
  have zg13 := zg12.2
  have zg14 := zg13.2
  have zg15 := zg14.2
  have zg16 := zg15.2
  have zg17 := zg16.2
  have zg18 := zg17.2
  have zg19 := zg18.2
  have zg20 := zg19.2
  have zg21 := zg20.2
  have zg22 := zg21.2
  have zg23 := zg22.2
  have zg24 := zg23.2
  have zg25 := zg24.2
  have zg26 := zg25.2
  have zg27 := zg26.2
  have zg28 := zg27.2
  have zg29 := zg28.2
  have zg30 := zg29.2
  have zg31 := zg30.2
  have zg32 := zg31.2
  have zg33 := zg32.2
  have zg34 := zg33.2
  have zg35 := zg34.2
  have zg36 := zg35.2
  have zg37 := zg36.2
  have zg38 := zg37.2
  have zg39 := zg38.2
  have zg40 := zg39.2
  have zg41 := zg40.2
  have zg42 := zg41.2
  have zg43 := zg42.2
  have zg44 := zg43.2
  have zg45 := zg44.2
  have zg46 := zg45.2
  have zg47 := zg46.2
  have zg48 := zg47.2
  have zg49 := zg48.2
  have zg50 := zg49.2
  have zg51 := zg50.2
  have zg52 := zg51.2
  have zg53 := zg52.2
  have zg54 := zg53.2
  have zg55 := zg54.2
  have zg56 := zg55.2
  have zg57 := zg56.2
  have zg58 := zg57.2
  have zg59 := zg58.2
  have zg60 := zg59.2
  have zg61 := zg60.2
  have zg62 := zg61.2
  have zg63 := zg62.2
  have zg64 := zg63.2
  have zg65 := zg64.2
  have zg66 := zg65.2
  have zg67 := zg66.2
  have zg68 := zg67.2
  have zg69 := zg68.2
  have zg70 := zg69.2
  have zg71 := zg70.2
  have zg72 := zg71.2
  have zg73 := zg72.2
  have zg74 := zg73.2
  have zg75 := zg74.2
  have zg76 := zg75.2
  have zg77 := zg76.2
  have zg78 := zg77.2
  have zg79 := zg78.2
  have zg80 := zg79.2
  have zg81 := zg80.2
  have zg82 := zg81.2
  have zg83 := zg82.2
  have zg84 := zg83.2
  have zg85 := zg84.2
  have zg86 := zg85.2
  have zg87 := zg86.2
  have zg88 := zg87.2
  have zg89 := zg88.2
  have zg90 := zg89.2
  have zg91 := zg90.2
  have zg92 := zg91.2
  have zg93 := zg92.2
  have zg94 := zg93.2
  have zg95 := zg94.2
  have zg96 := zg95.2
  have zg97 := zg96.2
  have zg98 := zg97.2
  have zg99 := zg98.2
  have zg100 := zg99.2
  have zg101 := zg100.2
  have zg102 := zg101.2
  have zg103 := zg102.2
  have zg104 := zg103.2
  have zg105 := zg104.2
  have zg106 := zg105.2
  have zg107 := zg106.2
  have zg108 := zg107.2
  have zg109 := zg108.2
  have zg110 := zg109.2
  have zg111 := zg110.2
  have zg112 := zg111.2
  have zg113 := zg112.2
  have zg114 := zg113.2
  have zg115 := zg114.2
  have zg116 := zg115.2
  have zg117 := zg116.2
  have zg118 := zg117.2
  have zg119 := zg118.2
  have zg120 := zg119.2
  have zg121 := zg120.2
  have zg122 := zg121.2
  have zg123 := zg122.2
  have zg124 := zg123.2
  have zg125 := zg124.2
  have I_s0 := hI.1
  have I_s7 := zg100.1
  have I_s26 := zg3.1
  have I_s27 := zg4.1
  have I_s28 := zg5.1
  have I_s29 := zg6.1
  have I_s49 := zg21.1
  have I_t4 := zg99.1
  have I_t38 := zg49.1
  have I_t63 := zg70.1
  have R_many := zg113.1
  have R_ch := zg114.1
  have R_pa := zg115.1
  have R_te := zg120.1
  have R_tp := zg122.1
  refine zok_mono (s_OP_36 N a1 (σ 0) (σ 4) (σ 7) (σ 26) (σ 27) (σ 28) (σ 29) (σ 49) (τ 2) (τ 3) (τ 4) (τ 38) (τ 63) b_a1 I_s0 I_s7 I_s26 I_s27 I_s28 I_s29 I_s49 I_t4 I_t38 I_t63 R_many R_ch R_pa R_te R_tp) (fun o ho => ?_)
  skip
  exact ⟨trivial, ⟨hI.1, zg1.1, zg2.1, zg3.1, zg4.1, zg5.1, zg6.1, zg7.1, zg8.1, zg9.1, zg10.1, zg11.1, zg12.1, zg13.1, zg14.1, zg15.1, zg16.1, zg17.1, zg18.1, zg19.1, zg20.1, zg21.1, zg22.1, zg23.1, zg24.1, zg25.1, zg26.1, zg27.1, zg28.1, zg29.1, zg30.1, zg31.1, zg32.1, zg33.1, zg34.1, zg35.1, zg36.1, zg37.1, zg38.1, zg39.1, zg40.1, zg41.1, ⟨zg42.1.1, Int.le_trans zg42.1.2 (Int.le_add_of_nonneg_right (by decide))⟩, zg43.1, zg44.1, zg45.1, zg46.1, zg47.1, zg48.1, zg49.1, zg50.1, zg51.1, zg52.1, zg53.1, zg54.1, zg55.1, zg56.1, zg57.1, zg58.1, zg59.1, zg60.1, zg61.1, zg62.1, zg63.1, zg64.1, zg65.1, zg66.1, zg67.1, zg68.1, zg69.1, zg70.1, zg71.1, zg72.1, zg73.1, zg74.1, zg75.1, zg76.1, zg77.1, zg78.1, zg79.1, zg80.1, zg81.1, zg82.1, zg83.1, zg84.1, zg85.1, zg86.1, zg87.1, zg88.1, zg89.1, zg90.1, zg91.1, zg92.1, zg93.1, zg94.1, zg95.1, zg96.1, zg97.1, zg98.1, zg99.1, zg100.1, zg101.1, zg102.1, zg103.1, zg104.1, zg105.1, zg106.1, zg107.1, zg108.1, zg109.1, zg110.1, zg111.1, zg112.1, zg113.1, zg114.1, zg115.1, zg116.1, zg117.1, zg118.1, zg119.1, zg120.1, zg121.1, zg122.1, zg123.1, zg124.1, zg125⟩⟩
def f_OP_37 (N : Int) (s3 : Int) (s4 : Int) (s5 : Int) : Option (Int × Int × Int) :=
  zd1 (f_HS_status s3) fun v739 =>
  zd2 (f_HM_status s5 s4) fun v740 v741 =>
  some (v739, v740, v741)
set_option maxHeartbeats 4000000 in
theorem s_OP_37 (N : Int) (s3 : Int) (s4 : Int) (s5 : Int) (b_s3 : (-6) ≤ s3 ∧ s3 ≤ 0) : zok (f_OP_37 N s3 s4 s5) (fun o => True) := by
  unfold f_OP_37
  refine zk_dI1 ?_
  unfold f_HS_status
  refine zk_rI1 ?_
  refine zk_d2 (s_HM_status _ _) (fun v740 v741 hp => ?_)
  exact zk_ret trivial
set_option maxHeartbeats 4000000 in
set_option maxRecDepth 10000 in
theorem st_37 (N : Int) (σ : Nat → Int) (τ : Nat → Nat → Int) (hI : INV N σ τ)   : zok (f_OP_37 N (σ 3) (σ 4) (σ 5)) (fun o => (True) ∧ INV (N + 6) (zst σ [(4, o.2.2)]) τ) := by
  have zg1 := hI.2
  have zg2 := zg1.2
  have zg3 := zg2.2
  have zg4 := zg3.2
  have zg5 := zg4.2
  have zg6 := zg5.2
  have zg7 := zg6.2
  have zg8 := zg7.2
  have zg9 := zg8.2
  have zg10 := zg9.2
  have zg11 := zg10.2
  have zg12 := zg11.2
  have zg13 := zg12.2
  have zg14 := zg13.2
  have zg15 := zg14.2
  have zg16 := zg15.2
  have zg17 := zg16.2
  have zg18 := zg17.2
  have zg19 := zg18.2
  have zg20 := zg19.2
  have zg21 := zg20.2
  have zg22 := zg21.2
  have zg23 := zg22.2
  have zg24 := zg23.2
  have zg25 := zg24.2
  have zg26 := zg25.2
  have zg27 := zg26.2
  have zg28 := zg27.2
  have zg29 := zg28.2
  have zg30 := zg29.2
  have zg31 := zg30.2
  have zg32 := zg31.2
  have zg33 := zg32.2
  have zg34 := zg33.2
  have zg35 := zg34.2
  have zg36 := zg35.2
  have zg37 := zg36.2
  have zg38 := zg37.2
  have zg39 := zg38.2
  have zg40 := zg39.2
  have zg41 := zg40.2
  have zg42 := zg41.2
  have zg43 := zg42.2
  have zg44 := zg43.2
  have zg45 := zg44.2
  have zg46 := zg45.2
  have zg47 := zg46.2
  have zg48 := zg47.2
  have zg49 := zg48.2
  have zg50 := zg49.2
  have zg51 := zg50.2
  have zg52 := zg51.2
  have zg53 := zg52.2
  have zg54 := zg53.2
  have zg55 := zg54.2
  have zg56 := zg55.2
  have zg57 := zg56.2
  have zg58 := zg57.2
  have zg59 := zg58.2
  have zg60 := zg59.2
  have zg61 := zg60.2
  have zg62 := zg61.2
  have zg63 := zg62.2
  have zg64 := zg63.2
  have zg65 := zg64.2
  have zg66 := zg65.2
  have zg67 := zg66.2
  have zg68 := zg67.2
  have zg69 := zg68.2
  have zg70 := zg69.2
  have zg71 := zg70.2
  have zg72 := zg71.2
  have zg73 := zg72.2
  have zg74 := zg73.2
  have zg75 := zg74.2
  have zg76 := zg75.2
  have zg77 := zg76.2
  have zg78 := zg77.2
  have zg79 := zg78.2
  have zg80 := zg79.2
  have zg81 := zg80.2
  have zg82 := zg81.2
  have zg83 := zg82.2
  have zg84 := zg83.2
  have zg85 := zg84.2
  have zg86 := zg85.2
  have zg87 := zg86.2
  have zg88 := zg87.2
  have zg89 := zg88.2
  have zg90 := zg89.2
  have zg91 := zg90.2
  have zg92 := zg91.2
  have zg93 := zg92.2
  have zg94 := zg93.2
  have zg95 := zg94.2
  have zg96 := zg95.2
  have zg97 := zg96.2
  have zg98 := zg97.2
  have zg99 := zg98.2
  have zg100 := zg99.2
  have zg101 := zg100.2
  have zg102 := zg101.2
  have zg103 := zg102.2
  have zg104 := zg103.2
  have zg105 := zg104.2
  have zg106 := zg105.2
  have zg107 := zg106.2
  have zg108 := zg107.2
  have zg109 := zg108.2
  have zg110 := zg109.2
  have zg111 := zg110.2
  have zg112 := zg111.2
  have zg113 := zg112.2
  have zg114 := zg113.2
  have zg115 := zg114.2
  have zg116 := zg115.2
  have zg117 := zg116.2
  have zg118 := zg117.2
  have zg119 := zg118.2
  have zg120 := zg119.2
  have zg121 := zg120.2
  have zg122 := zg121.2
  have zg123 := zg122.2
  have zg124 := zg123.2
  have zg125 := zg124.2
  have I_s3 := zg2.1
  refine zok_mono (s_OP_37 N (σ 3) (σ 4) (σ 5) I_s3) (fun o ho => ?_)
  skip
  exact ⟨trivial, ⟨hI.1, zg1.1, zg2.1, zg3.1, zg4.1, zg5.1, zg6.1, zg7.1, zg8.1, zg9.1, zg10.1, zg11.1, zg12.1, zg13.1, zg14.1, zg15.1, zg16.1, zg17.1, zg18.1, zg19.1, zg20.1, zg21.1, zg22.1, zg23.1, zg24.1, zg25.1, zg26.1, zg27.1, zg28.1, zg29.1, zg30.1, zg31.1, zg32.1, zg33.1, zg34.1, zg35.1, zg36.1, zg37.1, zg38.1, zg39.1, zg40.1, zg41.1, ⟨zg42.1.1, Int.le_trans zg42.1.2 (Int.le_add_of_nonneg_right (by decide))⟩, zg43.1, zg44.1, zg45.1, zg46.1, zg47.1, zg48.1, zg49.1, zg50.1, zg51.1, zg52.1, zg53.1, zg54.1, zg55.1, zg56.1, zg57.1, zg58.1, zg59.1, zg60.1, zg61.1, zg62.1, zg63.1, zg64.1, zg65.1, zg66.1, zg67.1, zg68.1, zg69.1, zg70.1, zg71.1, zg72.1, zg73.1, zg74.1, zg75.1, zg76.1, zg77.1, zg78.1, zg79.1, zg80.1, zg81.1, zg82.1, zg83.1, zg84.1, zg85.1, zg86.1, zg87.1, zg88.1, zg89.1, zg90.1, zg91.1, zg92.1, zg93.1, zg94.1, zg95.1, zg96.1, zg97.1, zg98.1, zg99.1, zg100.1, zg101.1, zg102.1, zg103.1, zg104.1, zg105.1, zg106.1, zg107.1, zg108.1, zg109.1, zg110.1, zg111.1, zg112.1, zg113.1, zg114.1, zg115.1, zg116.1, zg117.1, zg118.1, zg119.1, zg120.1, zg121.1, zg122.1, zg123.1, zg124.1, zg125⟩⟩
