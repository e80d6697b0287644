def f_OP_20 (N : Int) (a1 : Int) (a2 : Int) (a3 : Int) (a4 : Int) (s3 : Int) (s4 : Int) (s5 : Int) (s19 : Int) (s20 : Int) (s21 : Int) (s22 : Int) (s26 : Int) (s27 : Int) (s28 : Int) (s29 : Int) (s30 : Int) (s34 : Int) (s35 : Int) (s36 : Int) (s49 : Int) (t2 : Nat → Int) (t3 : Nat → Int) (t4 : Nat → Int) (t14 : Nat → Int) (t15 : Nat → Int) (t16 : Nat → Int) (t17 : Nat → Int) (t34 : Nat → Int) (t35 : Nat → Int) (t36 : Nat → Int) (t37 : Nat → Int) (t38 : Nat → Int) (t39 : Nat → Int) (t40 : Nat → Int) (t41 : Nat → Int) (t46 : Nat → Int) (t47 : Nat → Int) (t63 : Nat → Int) (t64 : Nat → Int) : Option (Int × Int × Int × Int × Int × Int × Int × Int × Int × Int × Int × Int × Int × (Nat → Int) × (Nat → Int) × (Nat → Int) × (Nat → Int) × (Nat → Int) × (Nat → Int) × (Nat → Int) × (Nat → Int) × (Nat → Int) × (Nat → Int) × (Nat → Int)) :=
  zd11 (f_HS_exchange a1 a2 a3 a4 s26 s28 s29 s49 t34 t35 t38 t40 t41 s3 s30 t2 s34 s35 s36 t46 t47 t63 t64) fun v357 v358 v359 a360 v361 v362 v363 a364 a365 a366 a367 =>
  zd13 (f_HM_exchange a1 a2 a3 a4 s4 s5 s19 s20 s21 s22 t3 t4 t14 t15 t16 t17) fun v376 v377 v378 v379 v380 v381 v382 a383 a384 a385 a386 a387 a388 =>
  some (v357, v376, v358, v377, v378, v379, v380, v381, v382, v359, v361, v362, v363, a360, a383, a384, a385, a386, a387, a388, a364, a365, a366, a367)
set_option maxHeartbeats 4000000 in
theorem s_OP_20 (N : Int) (a1 : Int) (a2 : Int) (a3 : Int) (a4 : Int) (s3 : Int) (s4 : Int) (s5 : Int) (s19 : Int) (s20 : Int) (s21 : Int) (s22 : Int) (s26 : Int) (s27 : Int) (s28 : Int) (s29 : Int) (s30 : Int) (s34 : Int) (s35 : Int) (s36 : Int) (s49 : Int) (t2 : Nat → Int) (t3 : Nat → Int) (t4 : Nat → Int) (t14 : Nat → Int) (t15 : Nat → Int) (t16 : Nat → Int) (t17 : Nat → Int) (t34 : Nat → Int) (t35 : Nat → Int) (t36 : Nat → Int) (t37 : Nat → Int) (t38 : Nat → Int) (t39 : Nat → Int) (t40 : Nat → Int) (t41 : Nat → Int) (t46 : Nat → Int) (t47 : Nat → Int) (t63 : Nat → Int) (t64 : Nat → Int) (b_a1 : (-2147483648) ≤ a1 ∧ a1 ≤ 2147483647) (b_a2 : (-2147483648) ≤ a2 ∧ a2 ≤ 2147483647) (b_a3 : (-2147483648) ≤ a3 ∧ a3 ≤ 2147483647) (b_a4 : (-2147483648) ≤ a4 ∧ a4 ≤ 2147483647) (b_s3 : (-6) ≤ s3 ∧ s3 ≤ 0) (b_s26 : 0 ≤ s26 ∧ s26 ≤ 6) (b_s27 : 0 ≤ s27 ∧ s27 ≤ 6) (b_s28 : 0 ≤ s28 ∧ s28 ≤ 6) (b_s29 : (-1) ≤ s29 ∧ s29 ≤ 5) (b_s34 : 0 ≤ s34 ∧ s34 ≤ 32) (b_s35 : 0 ≤ s35 ∧ s35 ≤ 2147483647) (b_s36 : 0 ≤ s36 ∧ s36 ≤ 1) (b_s49 : 0 ≤ s49 ∧ s49 ≤ 12) (h_t4 : RI t4) (h_t16 : zR t16 0 10) (h_t17 : zR t17 0 30) (h_t34 : zR t34 0 60) (h_t35 : zR t35 0 1) (h_t36 : zR t36 0 20) (h_t37 : zR t37 0 11) (h_t38 : zR t38 0 99) (h_t39 : zR t39 (-1) 10) (h_t40 : zR t40 (-2147483648) 2147483647) (h_t41 : zR t41 0 424) (h_t46 : zR t46 0 99) (h_t63 : zR t63 0 10) (h_t64 : zR t64 0 30) (I_s30 : 0 ≤ s30 ∧ s30 ≤ N) (R_many : s49 = t4 0) (R_ch : s26 = t4 1) (R_pa : s27 = t4 2) (R_st : RV 3 153 s26 t34 t4) (R_ex : RV 3 154 s26 t35 t4) (R_tr : RV 3 155 s26 t36 t4) (R_pl : RV 1 171 s27 t37 t4) (R_te : RV 1 5 4 t38 t4) (R_go : RV 1 141 s49 t39 t4) : zok (f_OP_20 N a1 a2 a3 a4 s3 s4 s5 s19 s20 s21 s22 s26 s27 s28 s29 s30 s34 s35 s36 s49 t2 t3 t4 t14 t15 t16 t17 t34 t35 t36 t37 t38 t39 t40 t41 t46 t47 t63 t64) (fun o => ((-6) ≤ o.2.2.1 ∧ o.2.2.1 ≤ 0) ∧ (0 ≤ o.2.2.2.2.2.2.2.2.2.2.1 ∧ o.2.2.2.2.2.2.2.2.2.2.1 ≤ 32) ∧ (0 ≤ o.2.2.2.2.2.2.2.2.2.2.2.1 ∧ o.2.2.2.2.2.2.2.2.2.2.2.1 ≤ 2147483647) ∧ (0 ≤ o.2.2.2.2.2.2.2.2.2.2.2.2.1 ∧ o.2.2.2.2.2.2.2.2.2.2.2.2.1 ≤ 1) ∧ (0 ≤ o.2.2.2.2.2.2.2.2.2.1 ∧ o.2.2.2.2.2.2.2.2.2.1 ≤ N + 6) ∧ zR o.2.2.2.2.2.2.2.2.2.2.2.2.2.2.2.2.2.2.2.2.1 0 99 ∧ zR o.2.2.2.2.2.2.2.2.2.2.2.2.2.2.2.2.2.2.2.2.2.2.1 0 10 ∧ zR o.2.2.2.2.2.2.2.2.2.2.2.2.2.2.2.2.2.2.2.2.2.2.2 0 30 ∧ RI o.2.2.2.2.2.2.2.2.2.2.2.2.2.2.2.1 ∧ zR o.2.2.2.2.2.2.2.2.2.2.2.2.2.2.2.2.2.2.1 0 10 ∧ zR o.2.2.2.2.2.2.2.2.2.2.2.2.2.2.2.2.2.2.2.1 0 30 ∧ (s49 = o.2.2.2.2.2.2.2.2.2.2.2.2.2.2.2.1 0) ∧ (s26 = o.2.2.2.2.2.2.2.2.2.2.2.2.2.2.2.1 1) ∧ (s27 = o.2.2.2.2.2.2.2.2.2.2.2.2.2.2.2.1 2) ∧ (RV 3 153 s26 t34 o.2.2.2.2.2.2.2.2.2.2.2.2.2.2.2.1) ∧ (RV 3 154 s26 t35 o.2.2.2.2.2.2.2.2.2.2.2.2.2.2.2.1) ∧ (RV 3 155 s26 t36 o.2.2.2.2.2.2.2.2.2.2.2.2.2.2.2.1) ∧ (RV 1 171 s27 t37 o.2.2.2.2.2.2.2.2.2.2.2.2.2.2.2.1) ∧ (RV 1 5 4 t38 o.2.2.2.2.2.2.2.2.2.2.2.2.2.2.2.1) ∧ (RV 1 141 s49 t39 o.2.2.2.2.2.2.2.2.2.2.2.2.2.2.2.1)) := by
  unfold f_OP_20
  refine zk_dI11 ?_
  unfold f_HS_exchange
  refine zk_d1 (s_HS_knows _ _ _ _ _ (by omega) (by omega) (by omega) (by omega) (by omega)) (fun v1 hp => ?_)
  try dsimp only at hp
  obtain ⟨hpp0, hpp1⟩ := hp
  refine zk_ifc (zci_eqr (by omega)) (fun hc => ?_) (fun hc => ?_)
  · first
    | (exfalso; omega)
    | (skip
       unfold f_HS_exchange_25
       refine zk_dI3 ?_
       unfold f_HS_refuse
       refine zk_nE (fun v1_2 h_v1_2 => ?_)
       refine zk_gv (by omega) (by decide) (fun v2 h_v2 => ?_)
       refine zk_n ?_
       refine zk_sv (by omega) (by decide) (fun a4_2 h_a4_2 => ?_)
       refine zk_rI3 ?_
       refine zk_rI11 ?_
       refine zk_d13 (s_HM_exchange _ _ _ _ _ _ _ _ _ _ _ _ _ _ _ _ (by omega) (by omega) (by omega) (by omega) h_t4 h_t16 h_t17) (fun v376 v377 v378 v379 v380 v381 v382 a383 a384 a385 a386 a387 a388 hp_2 => ?_)
       try dsimp only at hp_2
       obtain ⟨hp_2p0, hp_2p1, hp_2p2, hp_2p3⟩ := hp_2
       refine zk_ret ?_
       try dsimp only
       exact ⟨by omega, by omega, by omega, by omega, by omega, h_t46, h_t63, h_t64, hp_2p0, hp_2p1, hp_2p2, by rw [hp_2p3 _ (by omega)]; exact R_many, by rw [hp_2p3 _ (by omega)]; exact R_ch, by rw [hp_2p3 _ (by omega)]; exact R_pa, by intro c hc; rw [hp_2p3 _ (by omega)]; exact R_st c hc, by intro c hc; rw [hp_2p3 _ (by omega)]; exact R_ex c hc, by intro c hc; rw [hp_2p3 _ (by omega)]; exact R_tr c hc, by intro c hc; rw [hp_2p3 _ (by omega)]; exact R_pl c hc, by intro c hc; rw [hp_2p3 _ (by omega)]; exact R_te c hc, by intro c hc; rw [hp_2p3 _ (by omega)]; exact R_go c hc⟩)
  · first
    | (exfalso; omega)
    | (skip
       refine zk_d1 (s_Columns_has _ _ (by omega) (by omega)) (fun v2_2 hp_3 => ?_)
       try dsimp only at hp_3
       obtain ⟨hp_3p0, hp_3p1⟩ := hp_3
       refine zk_ifc (zci_ner (by omega)) (fun hc_2 => ?_) (fun hc_2 => ?_)
       · first
         | (exfalso; omega)
         | (skip
            refine zk_d6 (s_Judge_effortOn _ _ _ _ _ _ _ _ _ _ _ _ _ _ _ _ _ _ _ (by omega) (by omega) (by omega) (by omega) (by omega) (by omega) (by omega) h_t63 h_t64 h_t34 h_t35 h_t38 h_t40 h_t41 (by omega) (by omega) (by omega) h_t46) (fun v3_2 v4 v5 v6 a7 a8 hp_4 => ?_)
            try dsimp only at hp_4
            obtain ⟨hp_4p0, hp_4p1, hp_4p2, hp_4p3, hp_4p4⟩ := hp_4
            refine zk_ifc (zci_ne (by omega) (by omega)) (fun hc_3 => ?_) (fun hc_3 => ?_)
            · first
              | (exfalso; omega)
              | (skip
                 refine zk_d1 (s_Columns_top _ _ _ _ (by omega) (by omega) h_t63 h_t64) (fun v9 hp_5 => ?_)
                 try dsimp only at hp_5
                 have hp_5p0 := hp_5
                 refine zk_d2 (s_Columns_move _ _ _ _ _ (by omega) (by omega) (by omega) h_t63 h_t64) (fun a10 a11 hp_6 => ?_)
                 try dsimp only at hp_6
                 obtain ⟨hp_6p0, hp_6p1⟩ := hp_6
                 refine zk_d1 (s_Columns_top _ _ _ _ (by omega) (by omega) hp_6p0 hp_6p1) (fun v12 hp_7 => ?_)
                 try dsimp only at hp_7
                 have hp_7p0 := hp_7
                 refine zk_n ?_
                 refine zk_nE (fun v14 h_v14 => ?_)
                 have r_v14 := zi_abs_f ((v9 - v12)) (by omega); rw [← h_v14] at r_v14
                 refine zk_d6 (s_Judge_effortOn _ _ _ _ _ _ _ _ _ _ _ _ _ _ _ _ _ _ _ (by omega) (by omega) (by omega) (by omega) (by omega) (by omega) (by omega) hp_6p0 hp_6p1 h_t34 h_t35 h_t38 h_t40 h_t41 (by omega) (by omega) (by omega) hp_4p4) (fun v15 v16 v17 v18 a19 a20 hp_8 => ?_)
                 try dsimp only at hp_8
                 obtain ⟨hp_8p0, hp_8p1, hp_8p2, hp_8p3, hp_8p4⟩ := hp_8
                 refine zk_ifc (zci_eq (by omega) (by omega)) (fun hc_4 => ?_) (fun hc_4 => ?_)
                 · first
                   | (exfalso; omega)
                   | (skip
                      unfold f_HS_exchange_141
                      refine zk_d2 (s_Columns_move _ _ _ _ _ (by omega) (by omega) (by omega) hp_6p0 hp_6p1) (fun a1_2 a2_2 hp_9 => ?_)
                      try dsimp only at hp_9
                      obtain ⟨hp_9p0, hp_9p1⟩ := hp_9
                      refine zk_dI3 ?_
                      unfold f_HS_refuse
                      refine zk_nE (fun v1_3 h_v1_3 => ?_)
                      refine zk_gv (by omega) (by decide) (fun v2_3 h_v2_3 => ?_)
                      refine zk_n ?_
                      refine zk_sv (by omega) (by decide) (fun a4_3 h_a4_3 => ?_)
                      refine zk_rI3 ?_
                      refine zk_rI11 ?_
                      refine zk_d13 (s_HM_exchange _ _ _ _ _ _ _ _ _ _ _ _ _ _ _ _ (by omega) (by omega) (by omega) (by omega) h_t4 h_t16 h_t17) (fun v376_2 v377_2 v378_2 v379_2 v380_2 v381_2 v382_2 a383_2 a384_2 a385_2 a386_2 a387_2 a388_2 hp_10 => ?_)
                      try dsimp only at hp_10
                      obtain ⟨hp_10p0, hp_10p1, hp_10p2, hp_10p3⟩ := hp_10
                      refine zk_ret ?_
                      try dsimp only
                      exact ⟨by omega, by omega, by omega, by omega, by omega, hp_8p4, hp_9p0, hp_9p1, hp_10p0, hp_10p1, hp_10p2, by rw [hp_10p3 _ (by omega)]; exact R_many, by rw [hp_10p3 _ (by omega)]; exact R_ch, by rw [hp_10p3 _ (by omega)]; exact R_pa, by intro c hc; rw [hp_10p3 _ (by omega)]; exact R_st c hc, by intro c hc; rw [hp_10p3 _ (by omega)]; exact R_ex c hc, by intro c hc; rw [hp_10p3 _ (by omega)]; exact R_tr c hc, by intro c hc; rw [hp_10p3 _ (by omega)]; exact R_pl c hc, by intro c hc; rw [hp_10p3 _ (by omega)]; exact R_te c hc, by intro c hc; rw [hp_10p3 _ (by omega)]; exact R_go c hc⟩)
                 · first
                   | (exfalso; omega)
                   | (skip
                      refine zk_gl 3 rfl (by decide) (by decide) (fun v21 h_v21 => ?_)
                      have r_v21 := h_t38 (3)
                      refine zk_ifc (zci_le (by omega) (by omega)) (fun hc_5 => ?_) (fun hc_5 => ?_)
                      · first
                        | (exfalso; omega)
                        | (skip
                           refine zk_d2 (s_Columns_move _ _ _ _ _ (by omega) (by omega) (by omega) hp_6p0 hp_6p1) (fun a22 a23 hp_11 => ?_)
                           try dsimp only at hp_11
                           obtain ⟨hp_11p0, hp_11p1⟩ := hp_11
                           refine zk_dI3 ?_
                           unfold f_HS_accept
                           refine zk_n ?_
                           refine zk_rI3 ?_
                           refine zk_rI11 ?_
                           refine zk_d13 (s_HM_exchange _ _ _ _ _ _ _ _ _ _ _ _ _ _ _ _ (by omega) (by omega) (by omega) (by omega) h_t4 h_t16 h_t17) (fun v376_3 v377_3 v378_3 v379_3 v380_3 v381_3 v382_3 a383_3 a384_3 a385_3 a386_3 a387_3 a388_3 hp_12 => ?_)
                           try dsimp only at hp_12
                           obtain ⟨hp_12p0, hp_12p1, hp_12p2, hp_12p3⟩ := hp_12
                           refine zk_ret ?_
                           try dsimp only
                           exact ⟨by omega, by omega, by omega, by omega, by omega, hp_8p4, hp_11p0, hp_11p1, hp_12p0, hp_12p1, hp_12p2, by rw [hp_12p3 _ (by omega)]; exact R_many, by rw [hp_12p3 _ (by omega)]; exact R_ch, by rw [hp_12p3 _ (by omega)]; exact R_pa, by intro c hc; rw [hp_12p3 _ (by omega)]; exact R_st c hc, by intro c hc; rw [hp_12p3 _ (by omega)]; exact R_ex c hc, by intro c hc; rw [hp_12p3 _ (by omega)]; exact R_tr c hc, by intro c hc; rw [hp_12p3 _ (by omega)]; exact R_pl c hc, by intro c hc; rw [hp_12p3 _ (by omega)]; exact R_te c hc, by intro c hc; rw [hp_12p3 _ (by omega)]; exact R_go c hc⟩)
                      · first
                        | (exfalso; omega)
                        | (skip
                           unfold f_HS_exchange_141
                           refine zk_d2 (s_Columns_move _ _ _ _ _ (by omega) (by omega) (by omega) hp_6p0 hp_6p1) (fun a1_3 a2_3 hp_13 => ?_)
                           try dsimp only at hp_13
                           obtain ⟨hp_13p0, hp_13p1⟩ := hp_13
                           refine zk_dI3 ?_
                           unfold f_HS_refuse
                           refine zk_nE (fun v1_5 h_v1_5 => ?_)
                           refine zk_gv (by omega) (by decide) (fun v2_4 h_v2_4 => ?_)
                           refine zk_n ?_
                           refine zk_sv (by omega) (by decide) (fun a4_4 h_a4_4 => ?_)
                           refine zk_rI3 ?_
                           refine zk_rI11 ?_
                           refine zk_d13 (s_HM_exchange _ _ _ _ _ _ _ _ _ _ _ _ _ _ _ _ (by omega) (by omega) (by omega) (by omega) h_t4 h_t16 h_t17) (fun v376_4 v377_4 v378_4 v379_4 v380_4 v381_4 v382_4 a383_4 a384_4 a385_4 a386_4 a387_4 a388_4 hp_14 => ?_)
                           try dsimp only at hp_14
                           obtain ⟨hp_14p0, hp_14p1, hp_14p2, hp_14p3⟩ := hp_14
                           refine zk_ret ?_
                           try dsimp only
                           exact ⟨by omega, by omega, by omega, by omega, by omega, hp_8p4, hp_13p0, hp_13p1, hp_14p0, hp_14p1, hp_14p2, by rw [hp_14p3 _ (by omega)]; exact R_many, by rw [hp_14p3 _ (by omega)]; exact R_ch, by rw [hp_14p3 _ (by omega)]; exact R_pa, by intro c hc; rw [hp_14p3 _ (by omega)]; exact R_st c hc, by intro c hc; rw [hp_14p3 _ (by omega)]; exact R_ex c hc, by intro c hc; rw [hp_14p3 _ (by omega)]; exact R_tr c hc, by intro c hc; rw [hp_14p3 _ (by omega)]; exact R_pl c hc, by intro c hc; rw [hp_14p3 _ (by omega)]; exact R_te c hc, by intro c hc; rw [hp_14p3 _ (by omega)]; exact R_go c hc⟩)))
            · first
              | (exfalso; omega)
              | (skip
                 refine zk_dI3 ?_
                 unfold f_HS_refuse
                 refine zk_nE (fun v1_6 h_v1_6 => ?_)
                 refine zk_gv (by omega) (by decide) (fun v2_5 h_v2_5 => ?_)
                 refine zk_n ?_
                 refine zk_sv (by omega) (by decide) (fun a4_5 h_a4_5 => ?_)
                 refine zk_rI3 ?_
                 refine zk_rI11 ?_
                 refine zk_d13 (s_HM_exchange _ _ _ _ _ _ _ _ _ _ _ _ _ _ _ _ (by omega) (by omega) (by omega) (by omega) h_t4 h_t16 h_t17) (fun v376_5 v377_5 v378_5 v379_5 v380_5 v381_5 v382_5 a383_5 a384_5 a385_5 a386_5 a387_5 a388_5 hp_15 => ?_)
                 try dsimp only at hp_15
                 obtain ⟨hp_15p0, hp_15p1, hp_15p2, hp_15p3⟩ := hp_15
                 refine zk_ret ?_
                 try dsimp only
                 exact ⟨by omega, by omega, by omega, by omega, by omega, hp_4p4, h_t63, h_t64, hp_15p0, hp_15p1, hp_15p2, by rw [hp_15p3 _ (by omega)]; exact R_many, by rw [hp_15p3 _ (by omega)]; exact R_ch, by rw [hp_15p3 _ (by omega)]; exact R_pa, by intro c hc; rw [hp_15p3 _ (by omega)]; exact R_st c hc, by intro c hc; rw [hp_15p3 _ (by omega)]; exact R_ex c hc, by intro c hc; rw [hp_15p3 _ (by omega)]; exact R_tr c hc, by intro c hc; rw [hp_15p3 _ (by omega)]; exact R_pl c hc, by intro c hc; rw [hp_15p3 _ (by omega)]; exact R_te c hc, by intro c hc; rw [hp_15p3 _ (by omega)]; exact R_go c hc⟩))
       · first
         | (exfalso; omega)
         | (skip
            unfold f_HS_exchange_25
            refine zk_dI3 ?_
            unfold f_HS_refuse
            refine zk_nE (fun v1_7 h_v1_7 => ?_)
            refine zk_gv (by omega) (by decide) (fun v2_6 h_v2_6 => ?_)
            refine zk_n ?_
            refine zk_sv (by omega) (by decide) (fun a4_6 h_a4_6 => ?_)
            refine zk_rI3 ?_
            refine zk_rI11 ?_
            refine zk_d13 (s_HM_exchange _ _ _ _ _ _ _ _ _ _ _ _ _ _ _ _ (by omega) (by omega) (by omega) (by omega) h_t4 h_t16 h_t17) (fun v376_6 v377_6 v378_6 v379_6 v380_6 v381_6 v382_6 a383_6 a384_6 a385_6 a386_6 a387_6 a388_6 hp_16 => ?_)
            try dsimp only at hp_16
            obtain ⟨hp_16p0, hp_16p1, hp_16p2, hp_16p3⟩ := hp_16
            refine zk_ret ?_
            try dsimp only
            exact ⟨by omega, by omega, by omega, by omega, by omega, h_t46, h_t63, h_t64, hp_16p0, hp_16p1, hp_16p2, by rw [hp_16p3 _ (by omega)]; exact R_many, by rw [hp_16p3 _ (by omega)]; exact R_ch, by rw [hp_16p3 _ (by omega)]; exact R_pa, by intro c hc; rw [hp_16p3 _ (by omega)]; exact R_st c hc, by intro c hc; rw [hp_16p3 _ (by omega)]; exact R_ex c hc, by intro c hc; rw [hp_16p3 _ (by omega)]; exact R_tr c hc, by intro c hc; rw [hp_16p3 _ (by omega)]; exact R_pl c hc, by intro c hc; rw [hp_16p3 _ (by omega)]; exact R_te c hc, by intro c hc; rw [hp_16p3 _ (by omega)]; exact R_go c hc⟩))
set_option maxHeartbeats 4000000 in
set_option maxRecDepth 10000 in
theorem st_20 (N : Int) (σ : Nat → Int) (τ : Nat → Nat → Int) (hI : INV N σ τ) (a1 : Int) (a2 : Int) (a3 : Int) (a4 : Int) (b_a1 : (-2147483648) ≤ a1 ∧ a1 ≤ 2147483647) (b_a2 : (-2147483648) ≤ a2 ∧ a2 ≤ 2147483647) (b_a3 : (-2147483648) ≤ a3 ∧ a3 ≤ 2147483647) (b_a4 : (-2147483648) ≤ a4 ∧ a4 ≤ 2147483647) : zok (f_OP_20 N a1 a2 a3 a4 (σ 3) (σ 4) (σ 5) (σ 19) (σ 20) (σ 21) (σ 22) (σ 26) (σ 27) (σ 28) (σ 29) (σ 30) (σ 34) (σ 35) (σ 36) (σ 49) (τ 2) (τ 3) (τ 4) (τ 14) (τ 15) (τ 16) (τ 17) (τ 34) (τ 35) (τ 36) (τ 37) (τ 38) (τ 39) (τ 40) (τ 41) (τ 46) (τ 47) (τ 63) (τ 64)) (fun o => (True) ∧ INV (N + 6) (zst σ [(3, o.2.2.1), (4, o.2.2.2.1), (5, o.2.2.2.2.1), (19, o.2.2.2.2.2.1), (20, o.2.2.2.2.2.2.1), (21, o.2.2.2.2.2.2.2.1), (22, o.2.2.2.2.2.2.2.2.1), (30, o.2.2.2.2.2.2.2.2.2.1), (34, o.2.2.2.2.2.2.2.2.2.2.1), (35, o.2.2.2.2.2.2.2.2.2.2.2.1), (36, o.2.2.2.2.2.2.2.2.2.2.2.2.1)]) (zta τ [(2, o.2.2.2.2.2.2.2.2.2.2.2.2.2.1), (3, o.2.2.2.2.2.2.2.2.2.2.2.2.2.2.1), (4, o.2.2.2.2.2.2.2.2.2.2.2.2.2.2.2.1), (14, o.2.2.2.2.2.2.2.2.2.2.2.2.2.2.2.2.1), (15, o.2.2.2.2.2.2.2.2.2.2.2.2.2.2.2.2.2.1), (16, o.2.2.2.2.2.2.2.2.2.2.2.2.2.2.2.2.2.2.1), (17, o.2.2.2.2.2.2.2.2.2.2.2.2.2.2.2.2.2.2.2.1), (46, o.2.2.2.2.2.2.2.2.2.2.2.2.2.2.2.2.2.2.2.2.1), (47, o.2.2.2.2.2.2.2.2.2.2.2.2.2.2.2.2.2.2.2.2.2.1), (63, o.2.2.2.2.2.2.2.2.2.2.2.2.2.2.2.2.2.2.2.2.2.2.1), (64, o.2.2.2.2.2.2.2.2.2.2.2.2.2.2.2.2.2.2.2.2.2.2.2)])) := by
  obtain ⟨I_s0, I_s1, I_s3, I_s26, I_s27, I_s28, I_s29, I_s31, I_s32, I_s33, I_s34, I_s35, I_s36, I_s37, I_s38, I_s39, I_s41, I_s42, I_s46, I_s47, I_s48, I_s49, I_s50, I_s51, I_s52, I_s53, I_s54, I_s55, I_s56, I_s57, I_s58, I_s59, I_s60, I_s61, I_s62, I_s63, I_s65, I_s66, I_s68, I_s69, I_s71, I_s72, I_s30, I_t0, I_t1, I_t34, I_t35, I_t36, I_t37, I_t38, I_t39, I_t40, I_t41, I_t42, I_t43, I_t44, I_t46, I_t48, I_t49, I_t50, I_t52, I_t53, I_t54, I_t55, I_t56, I_t57, I_t58, I_t59, I_t60, I_t61, I_t63, I_t64, I_t65, I_t66, I_t67, I_t68, I_t69, I_t70, I_t71, I_t72, I_t73, I_t74, I_t75, I_t76, I_t77, I_t78, I_t79, I_t80, I_t81, I_t82, I_t83, I_t84, I_t85, I_t86, I_t87, I_t88, I_t89, I_t90, I_t91, I_t4, I_s7, I_s25, I_t7, I_t6, I_t16, I_t17, I_t28, I_t30, I_t31, I_t32, I_t18, I_t23, I_im, R_many, R_ch, R_pa, R_st, R_ex, R_tr, R_pl, R_te, R_go, R_tp, R_kp, R_i0, R_i1⟩ := hI
  refine zok_mono (s_OP_20 N a1 a2 a3 a4 (σ 3) (σ 4) (σ 5) (σ 19) (σ 20) (σ 21) (σ 22) (σ 26) (σ 27) (σ 28) (σ 29) (σ 30) (σ 34) (σ 35) (σ 36) (σ 49) (τ 2) (τ 3) (τ 4) (τ 14) (τ 15) (τ 16) (τ 17) (τ 34) (τ 35) (τ 36) (τ 37) (τ 38) (τ 39) (τ 40) (τ 41) (τ 46) (τ 47) (τ 63) (τ 64) b_a1 b_a2 b_a3 b_a4 I_s3 I_s26 I_s27 I_s28 I_s29 I_s34 I_s35 I_s36 I_s49 I_t4 I_t16 I_t17 I_t34 I_t35 I_t36 I_t37 I_t38 I_t39 I_t40 I_t41 I_t46 I_t63 I_t64 I_s30 R_many R_ch R_pa R_st R_ex R_tr R_pl R_te R_go) (fun o ho => ?_)
  obtain ⟨p0, p1, p2, p3, p4, p5, p6, p7, p8, p9, p10, p11, p12, p13, p14, p15, p16, p17, p18, p19⟩ := ho
  exact ⟨trivial, ⟨I_s0, I_s1, p0, I_s26, I_s27, I_s28, I_s29, I_s31, I_s32, I_s33, p1, p2, p3, I_s37, I_s38, I_s39, I_s41, I_s42, I_s46, I_s47, I_s48, I_s49, I_s50, I_s51, I_s52, I_s53, I_s54, I_s55, I_s56, I_s57, I_s58, I_s59, I_s60, I_s61, I_s62, I_s63, I_s65, I_s66, I_s68, I_s69, I_s71, I_s72, p4, I_t0, I_t1, I_t34, I_t35, I_t36, I_t37, I_t38, I_t39, I_t40, I_t41, I_t42, I_t43, I_t44, p5, I_t48, I_t49, I_t50, I_t52, I_t53, I_t54, I_t55, I_t56, I_t57, I_t58, I_t59, I_t60, I_t61, p6, p7, I_t65, I_t66, I_t67, I_t68, I_t69, I_t70, I_t71, I_t72, I_t73, I_t74, I_t75, I_t76, I_t77, I_t78, I_t79, I_t80, I_t81, I_t82, I_t83, I_t84, I_t85, I_t86, I_t87, I_t88, I_t89, I_t90, I_t91, p8, I_s7, I_s25, I_t7, I_t6, p9, p10, I_t28, I_t30, I_t31, I_t32, I_t18, I_t23, I_im, p11, p12, p13, p14, p15, p16, p17, p18, p19, R_tp, R_kp, R_i0, R_i1⟩⟩
def f_OP_21 (N : Int) (s4 : Int) (s49 : Int) (t4 : Nat → Int) (t16 : Nat → Int) (t17 : Nat → Int) (t38 : Nat → Int) (t63 : Nat → Int) : Option (Int × Int × Int × (Nat → Int) × (Nat → Int)) :=
  zd1 (f_HS_steep s49 t38 t63) fun v389 =>
  zd4 (f_HM_steep t4 s4 t16 t17) fun v390 v391 a392 a393 =>
  some (v389, v390, v391, a392, a393)
set_option maxHeartbeats 4000000 in
theorem s_OP_21 (N : Int) (s4 : Int) (s49 : Int) (t4 : Nat → Int) (t16 : Nat → Int) (t17 : Nat → Int) (t38 : Nat → Int) (t63 : Nat → Int) (b_s49 : 0 ≤ s49 ∧ s49 ≤ 12) (h_t4 : RI t4) (h_t16 : zR t16 0 10) (h_t17 : zR t17 0 30) (h_t38 : zR t38 0 99) (h_t63 : zR t63 0 10) (R_many : s49 = t4 0) (R_te : RV 1 5 4 t38 t4) : zok (f_OP_21 N s4 s49 t4 t16 t17 t38 t63) (fun o => zR o.2.2.2.1 0 10 ∧ zR o.2.2.2.2 0 30) := by
  unfold f_OP_21
  refine zk_dI1 ?_
  unfold f_HS_steep
  refine zk_gl 2 rfl (by decide) (by decide) (fun v1 h_v1 => ?_)
  have r_v1 := h_t38 (2)
  refine zk_d1 (s_Columns_lowestSteep _ _ _ (by omega) (by omega) h_t63) (fun v2 hp => ?_)
  try dsimp only at hp
  have hpp0 := hp
  refine zk_rI1 ?_
  refine zk_d4 (s_HM_steep _ _ _ _ h_t4 h_t16 h_t17) (fun v390 v391 a392 a393 hp_2 => ?_)
  try dsimp only at hp_2
  obtain ⟨hp_2p0, hp_2p1⟩ := hp_2
  refine zk_ret ?_
  try dsimp only
  exact ⟨hp_2p0, hp_2p1⟩
set_option maxHeartbeats 4000000 in
set_option maxRecDepth 10000 in
theorem st_21 (N : Int) (σ : Nat → Int) (τ : Nat → Nat → Int) (hI : INV N σ τ)   : zok (f_OP_21 N (σ 4) (σ 49) (τ 4) (τ 16) (τ 17) (τ 38) (τ 63)) (fun o => (True) ∧ INV (N + 6) (zst σ [(4, o.2.2.1)]) (zta τ [(16, o.2.2.2.1), (17, o.2.2.2.2)])) := by
  obtain ⟨I_s0, I_s1, I_s3, I_s26, I_s27, I_s28, I_s29, I_s31, I_s32, I_s33, I_s34, I_s35, I_s36, I_s37, I_s38, I_s39, I_s41, I_s42, I_s46, I_s47, I_s48, I_s49, I_s50, I_s51, I_s52, I_s53, I_s54, I_s55, I_s56, I_s57, I_s58, I_s59, I_s60, I_s61, I_s62, I_s63, I_s65, I_s66, I_s68, I_s69, I_s71, I_s72, I_s30, I_t0, I_t1, I_t34, I_t35, I_t36, I_t37, I_t38, I_t39, I_t40, I_t41, I_t42, I_t43, I_t44, I_t46, I_t48, I_t49, I_t50, I_t52, I_t53, I_t54, I_t55, I_t56, I_t57, I_t58, I_t59, I_t60, I_t61, I_t63, I_t64, I_t65, I_t66, I_t67, I_t68, I_t69, I_t70, I_t71, I_t72, I_t73, I_t74, I_t75, I_t76, I_t77, I_t78, I_t79, I_t80, I_t81, I_t82, I_t83, I_t84, I_t85, I_t86, I_t87, I_t88, I_t89, I_t90, I_t91, I_t4, I_s7, I_s25, I_t7, I_t6, I_t16, I_t17, I_t28, I_t30, I_t31, I_t32, I_t18, I_t23, I_im, R_many, R_ch, R_pa, R_st, R_ex, R_tr, R_pl, R_te, R_go, R_tp, R_kp, R_i0, R_i1⟩ := hI
  refine zok_mono (s_OP_21 N (σ 4) (σ 49) (τ 4) (τ 16) (τ 17) (τ 38) (τ 63) I_s49 I_t4 I_t16 I_t17 I_t38 I_t63 R_many R_te) (fun o ho => ?_)
  obtain ⟨p0, p1⟩ := ho
  exact ⟨trivial, ⟨I_s0, I_s1, I_s3, I_s26, I_s27, I_s28, I_s29, I_s31, I_s32, I_s33, I_s34, I_s35, I_s36, I_s37, I_s38, I_s39, I_s41, I_s42, I_s46, I_s47, I_s48, I_s49, I_s50, I_s51, I_s52, I_s53, I_s54, I_s55, I_s56, I_s57, I_s58, I_s59, I_s60, I_s61, I_s62, I_s63, I_s65, I_s66, I_s68, I_s69, I_s71, I_s72, ⟨I_s30.1, Int.le_trans I_s30.2 (Int.le_add_of_nonneg_right (by decide))⟩, I_t0, I_t1, I_t34, I_t35, I_t36, I_t37, I_t38, I_t39, I_t40, I_t41, I_t42, I_t43, I_t44, I_t46, I_t48, I_t49, I_t50, I_t52, I_t53, I_t54, I_t55, I_t56, I_t57, I_t58, I_t59, I_t60, I_t61, I_t63, I_t64, I_t65, I_t66, I_t67, I_t68, I_t69, I_t70, I_t71, I_t72, I_t73, I_t74, I_t75, I_t76, I_t77, I_t78, I_t79, I_t80, I_t81, I_t82, I_t83, I_t84, I_t85, I_t86, I_t87, I_t88, I_t89, I_t90, I_t91, I_t4, I_s7, I_s25, I_t7, I_t6, p0, p1, I_t28, I_t30, I_t31, I_t32, I_t18, I_t23, I_im, R_many, R_ch, R_pa, R_st, R_ex, R_tr, R_pl, R_te, R_go, R_tp, R_kp, R_i0, R_i1⟩⟩
def f_OP_22 (N : Int) (s4 : Int) (s26 : Int) (s27 : Int) (s30 : Int) (s49 : Int) (t4 : Nat → Int) (t16 : Nat → Int) (t17 : Nat → Int) (t34 : Nat → Int) (t35 : Nat → Int) (t36 : Nat → Int) (t37 : Nat → Int) (t38 : Nat → Int) (t39 : Nat → Int) (t63 : Nat → Int) (t64 : Nat → Int) : Option (Int × Int × Int × Int × (Nat → Int) × (Nat → Int) × (Nat → Int) × (Nat → Int) × (Nat → Int)) :=
  zd4 (f_HS_slide s49 t38 s30 t63 t64) fun v394 v395 a396 a397 =>
  zd5 (f_HM_slide s4 t4 t16 t17) fun v398 v399 a400 a401 a402 =>
  some (v394, v398, v399, v395, a400, a401, a402, a396, a397)
set_option maxHeartbeats 4000000 in
theorem s_OP_22 (N : Int) (s4 : Int) (s26 : Int) (s27 : Int) (s30 : Int) (s49 : Int) (t4 : Nat → Int) (t16 : Nat → Int) (t17 : Nat → Int) (t34 : Nat → Int) (t35 : Nat → Int) (t36 : Nat → Int) (t37 : Nat → Int) (t38 : Nat → Int) (t39 : Nat → Int) (t63 : Nat → Int) (t64 : Nat → Int) (b_s26 : 0 ≤ s26 ∧ s26 ≤ 6) (b_s27 : 0 ≤ s27 ∧ s27 ≤ 6) (b_s49 : 0 ≤ s49 ∧ s49 ≤ 12) (h_t4 : RI t4) (h_t16 : zR t16 0 10) (h_t17 : zR t17 0 30) (h_t34 : zR t34 0 60) (h_t35 : zR t35 0 1) (h_t36 : zR t36 0 20) (h_t37 : zR t37 0 11) (h_t38 : zR t38 0 99) (h_t39 : zR t39 (-1) 10) (h_t63 : zR t63 0 10) (h_t64 : zR t64 0 30) (I_s30 : 0 ≤ s30 ∧ s30 ≤ N) (R_many : s49 = t4 0) (R_ch : s26 = t4 1) (R_pa : s27 = t4 2) (R_st : RV 3 153 s26 t34 t4) (R_ex : RV 3 154 s26 t35 t4) (R_tr : RV 3 155 s26 t36 t4) (R_pl : RV 1 171 s27 t37 t4) (R_te : RV 1 5 4 t38 t4) (R_go : RV 1 141 s49 t39 t4) : zok (f_OP_22 N s4 s26 s27 s30 s49 t4 t16 t17 t34 t35 t36 t37 t38 t39 t63 t64) (fun o => (0 ≤ o.2.2.2.1 ∧ o.2.2.2.1 ≤ N + 6) ∧ zR o.2.2.2.2.2.2.2.1 0 10 ∧ zR o.2.2.2.2.2.2.2.2 0 30 ∧ RI o.2.2.2.2.1 ∧ zR o.2.2.2.2.2.1 0 10 ∧ zR o.2.2.2.2.2.2.1 0 30 ∧ (s49 = o.2.2.2.2.1 0) ∧ (s26 = o.2.2.2.2.1 1) ∧ (s27 = o.2.2.2.2.1 2) ∧ (RV 3 153 s26 t34 o.2.2.2.2.1) ∧ (RV 3 154 s26 t35 o.2.2.2.2.1) ∧ (RV 3 155 s26 t36 o.2.2.2.2.1) ∧ (RV 1 171 s27 t37 o.2.2.2.2.1) ∧ (RV 1 5 4 t38 o.2.2.2.2.1) ∧ (RV 1 141 s49 t39 o.2.2.2.2.1)) := by
  unfold f_OP_22
  refine zk_dI4 ?_
  unfold f_HS_slide
  refine zk_n ?_
  refine zk_gl 2 rfl (by decide) (by decide) (fun v2 h_v2 => ?_)
  have r_v2 := h_t38 (2)
  refine zk_d3 (s_Columns_settle _ _ _ _ (by omega) (by omega) h_t63 h_t64) (fun v3 a4 a5 hp => ?_)
  try dsimp only at hp
  obtain ⟨hpp0, hpp1, hpp2⟩ := hp
  refine zk_rI4 ?_
  refine zk_d5 (s_HM_slide _ _ _ _ h_t4 h_t16 h_t17) (fun v398 v399 a400 a401 a402 hp_2 => ?_)
  try dsimp only at hp_2
  obtain ⟨hp_2p0, hp_2p1, hp_2p2, hp_2p3⟩ := hp_2
  refine zk_ret ?_
  try dsimp only
  exact ⟨by omega, hpp1, hpp2, hp_2p0, hp_2p1, hp_2p2, by rw [hp_2p3 _ (by omega)]; exact R_many, by rw [hp_2p3 _ (by omega)]; exact R_ch, by rw [hp_2p3 _ (by omega)]; exact R_pa, by intro c hc; rw [hp_2p3 _ (by omega)]; exact R_st c hc, by intro c hc; rw [hp_2p3 _ (by omega)]; exact R_ex c hc, by intro c hc; rw [hp_2p3 _ (by omega)]; exact R_tr c hc, by intro c hc; rw [hp_2p3 _ (by omega)]; exact R_pl c hc, by intro c hc; rw [hp_2p3 _ (by omega)]; exact R_te c hc, by intro c hc; rw [hp_2p3 _ (by omega)]; exact R_go c hc⟩
set_option maxHeartbeats 4000000 in
set_option maxRecDepth 10000 in
theorem st_22 (N : Int) (σ : Nat → Int) (τ : Nat → Nat → Int) (hI : INV N σ τ)   : zok (f_OP_22 N (σ 4) (σ 26) (σ 27) (σ 30) (σ 49) (τ 4) (τ 16) (τ 17) (τ 34) (τ 35) (τ 36) (τ 37) (τ 38) (τ 39) (τ 63) (τ 64)) (fun o => (True) ∧ INV (N + 6) (zst σ [(4, o.2.2.1), (30, o.2.2.2.1)]) (zta τ [(4, o.2.2.2.2.1), (16, o.2.2.2.2.2.1), (17, o.2.2.2.2.2.2.1), (63, o.2.2.2.2.2.2.2.1), (64, o.2.2.2.2.2.2.2.2)])) := by
  obtain ⟨I_s0, I_s1, I_s3, I_s26, I_s27, I_s28, I_s29, I_s31, I_s32, I_s33, I_s34, I_s35, I_s36, I_s37, I_s38, I_s39, I_s41, I_s42, I_s46, I_s47, I_s48, I_s49, I_s50, I_s51, I_s52, I_s53, I_s54, I_s55, I_s56, I_s57, I_s58, I_s59, I_s60, I_s61, I_s62, I_s63, I_s65, I_s66, I_s68, I_s69, I_s71, I_s72, I_s30, I_t0, I_t1, I_t34, I_t35, I_t36, I_t37, I_t38, I_t39, I_t40, I_t41, I_t42, I_t43, I_t44, I_t46, I_t48, I_t49, I_t50, I_t52, I_t53, I_t54, I_t55, I_t56, I_t57, I_t58, I_t59, I_t60, I_t61, I_t63, I_t64, I_t65, I_t66, I_t67, I_t68, I_t69, I_t70, I_t71, I_t72, I_t73, I_t74, I_t75, I_t76, I_t77, I_t78, I_t79, I_t80, I_t81, I_t82, I_t83, I_t84, I_t85, I_t86, I_t87, I_t88, I_t89, I_t90, I_t91, I_t4, I_s7, I_s25, I_t7, I_t6, I_t16, I_t17, I_t28, I_t30, I_t31, I_t32, I_t18, I_t23, I_im, R_many, R_ch, R_pa, R_st, R_ex, R_tr, R_pl, R_te, R_go, R_tp, R_kp, R_i0, R_i1⟩ := hI
  refine zok_mono (s_OP_22 N (σ 4) (σ 26) (σ 27) (σ 30) (σ 49) (τ 4) (τ 16) (τ 17) (τ 34) (τ 35) (τ 36) (τ 37) (τ 38) (τ 39) (τ 63) (τ 64) I_s26 I_s27 I_s49 I_t4 I_t16 I_t17 I_t34 I_t35 I_t36 I_t37 I_t38 I_t39 I_t63 I_t64 I_s30 R_many R_ch R_pa R_st R_ex R_tr R_pl R_te R_go) (fun o ho => ?_)
  obtain ⟨p0, p1, p2, p3, p4, p5, p6, p7, p8, p9, p10, p11, p12, p13, p14⟩ := ho
  exact ⟨trivial, ⟨I_s0, I_s1, I_s3, I_s26, I_s27, I_s28, I_s29, I_s31, I_s32, I_s33, I_s34, I_s35, I_s36, I_s37, I_s38, I_s39, I_s41, I_s42, I_s46, I_s47, I_s48, I_s49, I_s50, I_s51, I_s52, I_s53, I_s54, I_s55, I_s56, I_s57, I_s58, I_s59, I_s60, I_s61, I_s62, I_s63, I_s65, I_s66, I_s68, I_s69, I_s71, I_s72, p0, I_t0, I_t1, I_t34, I_t35, I_t36, I_t37, I_t38, I_t39, I_t40, I_t41, I_t42, I_t43, I_t44, I_t46, I_t48, I_t49, I_t50, I_t52, I_t53, I_t54, I_t55, I_t56, I_t57, I_t58, I_t59, I_t60, I_t61, p1, p2, I_t65, I_t66, I_t67, I_t68, I_t69, I_t70, I_t71, I_t72, I_t73, I_t74, I_t75, I_t76, I_t77, I_t78, I_t79, I_t80, I_t81, I_t82, I_t83, I_t84, I_t85, I_t86, I_t87, I_t88, I_t89, I_t90, I_t91, p3, I_s7, I_s25, I_t7, I_t6, p4, p5, I_t28, I_t30, I_t31, I_t32, I_t18, I_t23, I_im, p6, p7, p8, p9, p10, p11, p12, p13, p14, R_tp, R_kp, R_i0, R_i1⟩⟩
def f_OP_23 (N : Int) (a1 : Int) (s4 : Int) (s27 : Int) (s49 : Int) (t4 : Nat → Int) (t16 : Nat → Int) (t17 : Nat → Int) (t37 : Nat → Int) (t38 : Nat → Int) (t63 : Nat → Int) : Option (Int × Int × Int × (Nat → Int) × (Nat → Int)) :=
  zd1 (f_HS_shade a1 s27 s49 t37 t38 t63) fun v405 =>
  zd4 (f_HM_shade a1 t4 s4 t16 t17) fun v408 v409 a410 a411 =>
  some (v405, v408, v409, a410, a411)
set_option maxHeartbeats 4000000 in
theorem s_OP_23 (N : Int) (a1 : Int) (s4 : Int) (s27 : Int) (s49 : Int) (t4 : Nat → Int) (t16 : Nat → Int) (t17 : Nat → Int) (t37 : Nat → Int) (t38 : Nat → Int) (t63 : Nat → Int) (b_a1 : (-2147483648) ≤ a1 ∧ a1 ≤ 2147483647) (b_s27 : 0 ≤ s27 ∧ s27 ≤ 6) (b_s49 : 0 ≤ s49 ∧ s49 ≤ 12) (h_t4 : RI t4) (h_t16 : zR t16 0 10) (h_t17 : zR t17 0 30) (h_t37 : zR t37 0 11) (h_t38 : zR t38 0 99) (h_t63 : zR t63 0 10) (R_many : s49 = t4 0) (R_pa : s27 = t4 2) (R_pl : RV 1 171 s27 t37 t4) (R_te : RV 1 5 4 t38 t4) : zok (f_OP_23 N a1 s4 s27 s49 t4 t16 t17 t37 t38 t63) (fun o => zR o.2.2.2.1 0 10 ∧ zR o.2.2.2.2 0 30) := by
  unfold f_OP_23
  refine zk_dI1 ?_
  unfold f_HS_shade
  refine zk_ifc (zci_ne (by omega) (by omega)) (fun hc => ?_) (fun hc => ?_)
  · first
    | (exfalso; omega)
    | (skip
       refine zk_d1 (s_Hill_hasParish _ _ (by omega) (by omega)) (fun v1 hp => ?_)
       try dsimp only at hp
       obtain ⟨hpp0, hpp1⟩ := hp
       refine zk_ifc (zci_eqr (by omega)) (fun hc_2 => ?_) (fun hc_2 => ?_)
       · first
         | (exfalso; omega)
         | (skip
            refine zk_rI1 ?_
            refine zk_d4 (s_HM_shade _ _ _ _ _ (by omega) h_t4 h_t16 h_t17) (fun v408 v409 a410 a411 hp_2 => ?_)
            try dsimp only at hp_2
            obtain ⟨hp_2p0, hp_2p1⟩ := hp_2
            refine zk_ret ?_
            try dsimp only
            exact ⟨hp_2p0, hp_2p1⟩)
       · first
         | (exfalso; omega)
         | (skip
            refine zk_d1 (s_Hill_shadeOf _ _ _ _ _ _ (by omega) (by omega) (by omega) h_t37 h_t38 h_t63) (fun v2 hp_3 => ?_)
            try dsimp only at hp_3
            have hp_3p0 := hp_3
            refine zk_rI1 ?_
            refine zk_d4 (s_HM_shade _ _ _ _ _ (by omega) h_t4 h_t16 h_t17) (fun v408_2 v409_2 a410_2 a411_2 hp_4 => ?_)
            try dsimp only at hp_4
            obtain ⟨hp_4p0, hp_4p1⟩ := hp_4
            refine zk_ret ?_
            try dsimp only
            exact ⟨hp_4p0, hp_4p1⟩))
  · first
    | (exfalso; omega)
    | (skip
       refine zk_d1 (s_Hill_shades _ _ _ _ _ (by omega) (by omega) h_t37 h_t38 h_t63) (fun v3 hp_5 => ?_)
       refine zk_rI1 ?_
       refine zk_d4 (s_HM_shade _ _ _ _ _ (by omega) h_t4 h_t16 h_t17) (fun v408_3 v409_3 a410_3 a411_3 hp_6 => ?_)
       try dsimp only at hp_6
       obtain ⟨hp_6p0, hp_6p1⟩ := hp_6
       refine zk_ret ?_
       try dsimp only
       exact ⟨hp_6p0, hp_6p1⟩)
set_option maxHeartbeats 4000000 in
set_option maxRecDepth 10000 in
theorem st_23 (N : Int) (σ : Nat → Int) (τ : Nat → Nat → Int) (hI : INV N σ τ) (a1 : Int) (b_a1 : (-2147483648) ≤ a1 ∧ a1 ≤ 2147483647) : zok (f_OP_23 N a1 (σ 4) (σ 27) (σ 49) (τ 4) (τ 16) (τ 17) (τ 37) (τ 38) (τ 63)) (fun o => (True) ∧ INV (N + 6) (zst σ [(4, o.2.2.1)]) (zta τ [(16, o.2.2.2.1), (17, o.2.2.2.2)])) := by
  obtain ⟨I_s0, I_s1, I_s3, I_s26, I_s27, I_s28, I_s29, I_s31, I_s32, I_s33, I_s34, I_s35, I_s36, I_s37, I_s38, I_s39, I_s41, I_s42, I_s46, I_s47, I_s48, I_s49, I_s50, I_s51, I_s52, I_s53, I_s54, I_s55, I_s56, I_s57, I_s58, I_s59, I_s60, I_s61, I_s62, I_s63, I_s65, I_s66, I_s68, I_s69, I_s71, I_s72, I_s30, I_t0, I_t1, I_t34, I_t35, I_t36, I_t37, I_t38, I_t39, I_t40, I_t41, I_t42, I_t43, I_t44, I_t46, I_t48, I_t49, I_t50, I_t52, I_t53, I_t54, I_t55, I_t56, I_t57, I_t58, I_t59, I_t60, I_t61, I_t63, I_t64, I_t65, I_t66, I_t67, I_t68, I_t69, I_t70, I_t71, I_t72, I_t73, I_t74, I_t75, I_t76, I_t77, I_t78, I_t79, I_t80, I_t81, I_t82, I_t83, I_t84, I_t85, I_t86, I_t87, I_t88, I_t89, I_t90, I_t91, I_t4, I_s7, I_s25, I_t7, I_t6, I_t16, I_t17, I_t28, I_t30, I_t31, I_t32, I_t18, I_t23, I_im, R_many, R_ch, R_pa, R_st, R_ex, R_tr, R_pl, R_te, R_go, R_tp, R_kp, R_i0, R_i1⟩ := hI
  refine zok_mono (s_OP_23 N a1 (σ 4) (σ 27) (σ 49) (τ 4) (τ 16) (τ 17) (τ 37) (τ 38) (τ 63) b_a1 I_s27 I_s49 I_t4 I_t16 I_t17 I_t37 I_t38 I_t63 R_many R_pa R_pl R_te) (fun o ho => ?_)
  obtain ⟨p0, p1⟩ := ho
  exact ⟨trivial, ⟨I_s0, I_s1, I_s3, I_s26, I_s27, I_s28, I_s29, I_s31, I_s32, I_s33, I_s34, I_s35, I_s36, I_s37, I_s38, I_s39, I_s41, I_s42, I_s46, I_s47, I_s48, I_s49, I_s50, I_s51, I_s52, I_s53, I_s54, I_s55, I_s56, I_s57, I_s58, I_s59, I_s60, I_s61, I_s62, I_s63, I_s65, I_s66, I_s68, I_s69, I_s71, I_s72, ⟨I_s30.1, Int.le_trans I_s30.2 (Int.le_add_of_nonneg_right (by decide))⟩, I_t0, I_t1, I_t34, I_t35, I_t36, I_t37, I_t38, I_t39, I_t40, I_t41, I_t42, I_t43, I_t44, I_t46, I_t48, I_t49, I_t50, I_t52, I_t53, I_t54, I_t55, I_t56, I_t57, I_t58, I_t59, I_t60, I_t61, I_t63, I_t64, I_t65, I_t66, I_t67, I_t68, I_t69, I_t70, I_t71, I_t72, I_t73, I_t74, I_t75, I_t76, I_t77, I_t78, I_t79, I_t80, I_t81, I_t82, I_t83, I_t84, I_t85, I_t86, I_t87, I_t88, I_t89, I_t90, I_t91, I_t4, I_s7, I_s25, I_t7, I_t6, p0, p1, I_t28, I_t30, I_t31, I_t32, I_t18, I_t23, I_im, R_many, R_ch, R_pa, R_st, R_ex, R_tr, R_pl, R_te, R_go, R_tp, R_kp, R_i0, R_i1⟩⟩
