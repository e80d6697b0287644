def f_OP_20 (N : Int) (a1 : Int) (a2 : Int) (a3 : Int) (a4 : Int) (s3 : Int) (s4 : Int) (s5 : Int) (s19 : Int) (s20 : Int) (s21 : Int) (s22 : Int) (s26 : Int) (s27 : Int) (s28 : Int) (s29 : Int) (s30 : Int) (s34 : Int) (s35 : Int) (s36 : Int) (s49 : Int) (t2 : Nat → Int) (t3 : Nat → Int) (t4 : Nat → Int) (t14 : Nat → Int) (t15 : Nat → Int) (t16 : Nat → Int) (t17 : Nat → Int) (t34 : Nat → Int) (t35 : Nat → Int) (t36 : Nat → Int) (t37 : Nat → Int) (t38 : Nat → Int) (t39 : Nat → Int) (t40 : Nat → Int) (t41 : Nat → Int) (t46 : Nat → Int) (t47 : Nat → Int) (t63 : Nat → Int) (t64 : Nat → Int) : Option (Int × Int × Int × Int × Int × Int × Int × Int × Int × Int × Int × Int × Int × (Nat → Int) × (Nat → Int) × (Nat → Int) × (Nat → Int) × (Nat → Int) × (Nat → Int) × (Nat → Int) × (Nat → Int) × (Nat → Int) × (Nat → Int) × (Nat → Int)) :=
  zd11 (f_HS_exchange a1 a2 a3 a4 s26 s28 s29 s49 t34 t35 t38 t40 t41 s3 s30 t2 s34 s35 s36 t46 t47 t63 t64) fun v357 v358 v359 a360 v361 v362 v363 a364 a365 a366 a367 =>
  zd13 (f_HM_exchange a1 a2 a3 a4 s4 s5 s19 s20 s21 s22 t3 t4 t14 t15 t16 t17) fun v376 v377 v378 v379 v380 v381 v382 a383 a384 a385 a386 a387 a388 =>
  some (v357, v376, v358, v377, v378, v379, v380, v381, v382, v359, v361, v362, v363, a360, a383, a384, a385, a386, a387, a388, a364, a365, a366, a367)
set_option maxHeartbeats 4000000 in
theorem s_OP_20 (N : Int) (a1 : Int) (a2 : Int) (a3 : Int) (a4 : Int) (s3 : Int) (s4 : Int) (s5 : Int) (s19 : Int) (s20 : Int) (s21 : Int) (s22 : Int) (s26 : Int) (s27 : Int) (s28 : Int) (s29 : Int) (s30 : Int) (s34 : Int) (s35 : Int) (s36 : Int) (s49 : Int) (t2 : Nat → Int) (t3 : Nat → Int) (t4 : Nat → Int) (t14 : Nat → Int) (t15 : Nat → Int) (t16 : Nat → Int) (t17 : Nat → Int) (t34 : Nat → Int) (t35 : Nat → Int) (t36 : Nat → Int) (t37 : Nat → Int) (t38 : Nat → Int) (t39 : Nat → Int) (t40 : Nat → Int) (t41 : Nat → Int) (t46 : Nat → Int) (t47 : Nat → Int) (t63 : Nat → Int) (t64 : Nat → Int) (b_a1 : (-2147483648) ≤ a1 ∧ a1 ≤ 2147483647) (b_a2 : (-2147483648) ≤ a2 ∧ a2 ≤ 2147483647) (b_a3 : (-2147483648) ≤ a3 ∧ a3 ≤ 2147483647) (b_a4 : (-2147483648) ≤ a4 ∧ a4 ≤ 2147483647) (b_s3 : (-6) ≤ s3 ∧ s3 ≤ 0) (b_s26 : 0 ≤ s26 ∧ s26 ≤ 6) (b_s27 : 0 ≤ s27 ∧ s27 ≤ 6) (b_s28 : 0 ≤ s28 ∧ s28 ≤ 6) (b_s29 : (-1) ≤ s29 ∧ s29 ≤ 5) (b_s34 : 0 ≤ s34 ∧ s34 ≤ 32) (b_s35 : 0 ≤ s35 ∧ s35 ≤ 2147483647) (b_s36 : 0 ≤ s36 ∧ s36 ≤ 1) (b_s49 : 0 ≤ s49 ∧ s49 ≤ 12) (h_t4 : RI t4) (h_t16 : zR t16 0 10) (h_t17 : zR t17 0 30) (h_t34 : zR t34 0 60) (h_t35 : zR t35 0 1) (h_t36 : zR t36 0 20) (h_t37 : zR t37 0 11) (h_t38 : zR t38 0 99) (h_t39 : zR t39 (-1) 10) (h_t40 : zR t40 (-2147483648) 2147483647) (h_t41 : zR t41 0 424) (h_t46 : zR t46 0 99) (h_t63 : zR t63 0 10) (h_t64 : zR t64 0 30) (I_s30 : 0 ≤ s30 ∧ s30 ≤ N) (R_many : s49 = t4 0) (R_ch : s26 = t4 1) (R_pa : s27 = t4 2) (R_st : RV 3 153 s26 t34 t4) (R_ex : RV 3 154 s26 t35 t4) (R_tr : RV 3 155 s26 t36 t4) (R_pl : RV 1 171 s27 t37 t4) (R_te : RV 1 5 4 t38 t4) (R_go : RV 1 141 s49 t39 t4) : zok (f_OP_20 N a1 a2 a3 a4 s3 s4 s5 s19 s20 s21 s22 s26 s27 s28 s29 s30 s34 s35 s36 s49 t2 t3 t4 t14 t15 t16 t17 t34 t35 t36 t37 t38 t39 t40 t41 t46 t47 t63 t64) (fun o => ((-6) ≤ o.2.2.1 ∧ o.2.2.1 ≤ 0) ∧ (0 ≤ o.2.2.2.2.2.2.2.2.2.2.1 ∧ o.2.2.2.2.2.2.2.2.2.2.1 ≤ 32) ∧ (0 ≤ o.2.2.2.2.2.2.2.2.2.2.2.1 ∧ o.2.2.2.2.2.2.2.2.2.2.2.1 ≤ 2147483647) ∧ (0 ≤ o.2.2.2.2.2.2.2.2.2.2.2.2.1 ∧ o.2.2.2.2.2.2.2.2.2.2.2.2.1 ≤ 1) ∧ (0 ≤ o.2.2.2.2.2.2.2.2.2.1 ∧ o.2.2.2.2.2.2.2.2.2.1 ≤ N + 6) ∧ zR o.2.2.2.2.2.2.2.2.2.2.2.2.2.2.2.2.2.2.2.2.1 0 99 ∧ zR o.2.2.2.2.2.2.2.2.2.2.2.2.2.2.2.2.2.2.2.2.2.2.1 0 10 ∧ zR o.2.2.2.2.2.2.2.2.2.2.2.2.2.2.2.2.2.2.2.2.2.2.2 0 30 ∧ RI o.2.2.2.2.2.2.2.2.2.2.2.2.2.2.2.1 ∧ zR o.2.2.2.2.2.2.2.2.2.2.2.2.2.2.2.2.2.2.1 0 10 ∧ zR o.2.2.2.2.2.2.2.2.2.2.2.2.2.2.2.2.2.2.2.1 0 30 ∧ (s49 = o.2.2.2.2.2.2.2.2.2.2.2.2.2.2.2.1 0) ∧ (s26 = o.2.2.2.2.2.2.2.2.2.2.2.2.2.2.2.1 1) ∧ (s27 = o.2.2.2.2.2.2.2.2.2.2.2.2.2.2.2.1 2) ∧ (RV 3 153 s26 t34 o.2.2.2.2.2.2.2.2.2.2.2.2.2.2.2.1) ∧ (RV 3 154 s26 t35 o.2.2.2.2.2.2.2.2.2.2.2.2.2.2.2.1) ∧ (RV 3 155 s26 t36 o.2.2.2.2.2.2.2.2.2.2.2.2.2.2.2.1) ∧ (RV 1 171 s27 t37 o.2.2.2.2.2.2.2.2.2.2.2.2.2.2.2.1) ∧ (RV 1 5 4 t38 o.2.2.2.2.2.2.2.2.2.2.2.2.2.2.2.1) ∧ (RV 1 141 s49 t39 o.2.2.2.2.2.2.2.2.2.2.2.2.2.2.2.1)) := by
  unfold f_OP_20
  refine zk_dI11 ?_
  unfold f_HS_exchange
  refine zk_d1 (s_HS_knows _ _ _ _ _ (by omega) (by omega) (by omega) (by omega) (by omega)) (fun v1 hp => ?_)
  try dsimp only at hp
  obtain ⟨hpp0, hpp1⟩ := hp
  refine zk_ifc (zci_eqr (by omega)) (fun hc => ?_) (fun hc => ?_)
  · first
    | (exfalso; omega)
    | (skip
       unfold f_HS_exchange_25
       refine zk_dI3 ?_
       unfold f_HS_refuse
       refine zk_nE (fun v1_2 h_v1_2 => ?_)
       refine zk_gv (by omega) (by decide) (fun v2 h_v2 => ?_)
       refine zk_n ?_
       refine zk_sv (by omega) (by decide) (fun a4_2 h_a4_2 => ?_)
       refine zk_rI3 ?_
       refine zk_rI11 ?_
       refine zk_d13 (s_HM_exchange _ _ _ _ _ _ _ _ _ _ _ _ _ _ _ _ (by omega) (by omega) (by omega) (by omega) h_t4 h_t16 h_t17) (fun v376 v377 v378 v379 v380 v381 v382 a383 a384 a385 a386 a387 a388 hp_2 => ?_)
       try dsimp only at hp_2
       obtain ⟨hp_2p0, hp_2p1, hp_2p2, hp_2p3⟩ := hp_2
       refine zk_ret ?_
       try dsimp only
       exact ⟨by omega, by omega, by omega, by omega, by omega, h_t46, h_t63, h_t64, hp_2p0, hp_2p1, hp_2p2, by rw [hp_2p3 _ (by omega)]; exact R_many, by rw [hp_2p3 _ (by omega)]; exact R_ch, by rw [hp_2p3 _ (by omega)]; exact R_pa, by intro c hc; rw [hp_2p3 _ (by omega)]; exact R_st c hc, by intro c hc; rw [hp_2p3 _ (by omega)]; exact R_ex c hc, by intro c hc; rw [hp_2p3 _ (by omega)]; exact R_tr c hc, by intro c hc; rw [hp_2p3 _ (by omega)]; exact R_pl c hc, by intro c hc; rw [hp_2p3 _ (by omega)]; exact R_te c hc, by intro c hc; rw [hp_2p3 _ (by omega)]; exact R_go c hc⟩)
  · first
    | (exfalso; omega)
    | (skip
       refine zk_d1 (s_Columns_has _ _ (by omega) (by omega)) (fun v2_2 hp_3 => ?_)
       try dsimp only at hp_3
       obtain ⟨hp_3p0, hp_3p1⟩ := hp_3
       refine zk_ifc (zci_ner (by omega)) (fun hc_2 => ?_) (fun hc_2 => ?_)
       · first
         | (exfalso; omega)
         | (skip
            refine zk_d6 (s_Judge_effortOn _ _ _ _ _ _ _ _ _ _ _ _ _ _ _ _ _ _ _ (by omega) (by omega) (by omega) (by omega) (by omega) (by omega) (by omega) h_t63 h_t64 h_t34 h_t35 h_t38 h_t40 h_t41 (by omega) (by omega) (by omega) h_t46) (fun v3_2 v4 v5 v6 a7 a8 hp_4 => ?_)
            try dsimp only at hp_4
            obtain ⟨hp_4p0, hp_4p1, hp_4p2, hp_4p3, hp_4p4⟩ := hp_4
            refine zk_ifc (zci_ne (by omega) (by omega)) (fun hc_3 => ?_) (fun hc_3 => ?_)
            · first
              | (exfalso; omega)
              | (skip
                 refine zk_d1 (s_Columns_top _ _ _ _ (by omega) (by omega) h_t63 h_t64) (fun v9 hp_5 => ?_)
                 try dsimp only at hp_5
                 have hp_5p0 := hp_5
                 refine zk_d2 (s_Columns_move _ _ _ _ _ (by omega) (by omega) (by omega) h_t63 h_t64) (fun a10 a11 hp_6 => ?_)
                 try dsimp only at hp_6
                 obtain ⟨hp_6p0, hp_6p1⟩ := hp_6
                 refine zk_d1 (s_Columns_top _ _ _ _ (by omega) (by omega) hp_6p0 hp_6p1) (fun v12 hp_7 => ?_)
                 try dsimp only at hp_7
                 have hp_7p0 := hp_7
                 refine zk_n ?_
                 refine zk_nE (fun v14 h_v14 => ?_)
                 have r_v14 := zi_abs_f ((v9 - v12)) (by omega); rw [← h_v14] at r_v14
                 refine zk_d6 (s_Judge_effortOn _ _ _ _ _ _ _ _ _ _ _ _ _ _ _ _ _ _ _ (by omega) (by omega) (by omega) (by omega) (by omega) (by omega) (by omega) hp_6p0 hp_6p1 h_t34 h_t35 h_t38 h_t40 h_t41 (by omega) (by omega) (by omega) hp_4p4) (fun v15 v16 v17 v18 a19 a20 hp_8 => ?_)
                 try dsimp only at hp_8
                 obtain ⟨hp_8p0, hp_8p1, hp_8p2, hp_8p3, hp_8p4⟩ := hp_8
                 refine zk_ifc (zci_eq (by omega) (by omega)) (fun hc_4 => ?_) (fun hc_4 => ?_)
                 · first
                   | (exfalso; omega)
                   | (skip
                      unfold f_HS_exchange_141
                      refine zk_d2 (s_Columns_move _ _ _ _ _ (by omega) (by omega) (by omega) hp_6p0 hp_6p1) (fun a1_2 a2_2 hp_9 => ?_)
                      try dsimp only at hp_9
                      obtain ⟨hp_9p0, hp_9p1⟩ := hp_9
                      refine zk_dI3 ?_
                      unfold f_HS_refuse
                      refine zk_nE (fun v1_3 h_v1_3 => ?_)
                      refine zk_gv (by omega) (by decide) (fun v2_3 h_v2_3 => ?_)
                      refine zk_n ?_
                      refine zk_sv (by omega) (by decide) (fun a4_3 h_a4_3 => ?_)
                      refine zk_rI3 ?_
                      refine zk_rI11 ?_
                      refine zk_d13 (s_HM_exchange _ _ _ _ _ _ _ _ _ _ _ _ _ _ _ _ (by omega) (by omega) (by omega) (by omega) h_t4 h_t16 h_t17) (fun v376_2 v377_2 v378_2 v379_2 v380_2 v381_2 v382_2 a383_2 a384_2 a385_2 a386_2 a387_2 a388_2 hp_10 => ?_)
                      try dsimp only at hp_10
                      obtain ⟨hp_10p0, hp_10p1, hp_10p2, hp_10p3⟩ := hp_10
                      refine zk_ret ?_
                      try dsimp only
                      exact ⟨by omega, by omega, by omega, by omega, by omega, hp_8p4, hp_9p0, hp_9p1, hp_10p0, hp_10p1, hp_10p2, by rw [hp_10p3 _ (by omega)]; exact R_many, by rw [hp_10p3 _ (by omega)]; exact R_ch, by rw [hp_10p3 _ (by omega)]; exact R_pa, by intro c hc; rw [hp_10p3 _ (by omega)]; exact R_st c hc, by intro c hc; rw [hp_10p3 _ (by omega)]; exact R_ex c hc, by intro c hc; rw [hp_10p3 _ (by omega)]; exact R_tr c hc, by intro c hc; rw [hp_10p3 _ (by omega)]; exact R_pl c hc, by intro c hc; rw [hp_10p3 _ (by omega)]; exact R_te c hc, by intro c hc; rw [hp_10p3 _ (by omega)]; exact R_go c hc⟩)
                 · first
                   | (exfalso; omega)
                   | (skip
                      refine zk_gl 3 rfl (by decide) (by decide) (fun v21 h_v21 => ?_)
                      have r_v21 := h_t38 (3)
                      refine zk_ifc (zci_le (by omega) (by omega)) (fun hc_5 => ?_) (fun hc_5 => ?_)
                      · first
                        | (exfalso; omega)
                        | (skip
                           refine zk_d2 (s_Columns_move _ _ _ _ _ (by omega) (by omega) (by omega) hp_6p0 hp_6p1) (fun a22 a23 hp_11 => ?_)
                           try dsimp only at hp_11
                           obtain ⟨hp_11p0, hp_11p1⟩ := hp_11
                           refine zk_dI3 ?_
                           unfold f_HS_accept
                           refine zk_n ?_
                           refine zk_rI3 ?_
                           refine zk_rI11 ?_
                           refine zk_d13 (s_HM_exchange _ _ _ _ _ _ _ _ _ _ _ _ _ _ _ _ (by omega) (by omega) (by omega) (by omega) h_t4 h_t16 h_t17) (fun v376_3 v377_3 v378_3 v379_3 v380_3 v381_3 v382_3 a383_3 a384_3 a385_3 a386_3 a387_3 a388_3 hp_12 => ?_)
                           try dsimp only at hp_12
                           obtain ⟨hp_12p0, hp_12p1, hp_12p2, hp_12p3⟩ := hp_12
                           refine zk_ret ?_
                           try dsimp only
                           exact ⟨by omega, by omega, by omega, by omega, by omega, hp_8p4, hp_11p0, hp_11p1, hp_12p0, hp_12p1, hp_12p2, by rw [hp_12p3 _ (by omega)]; exact R_many, by rw [hp_12p3 _ (by omega)]; exact R_ch, by rw [hp_12p3 _ (by omega)]; exact R_pa, by intro c hc; rw [hp_12p3 _ (by omega)]; exact R_st c hc, by intro c hc; rw [hp_12p3 _ (by omega)]; exact R_ex c hc, by intro c hc; rw [hp_12p3 _ (by omega)]; exact R_tr c hc, by intro c hc; rw [hp_12p3 _ (by omega)]; exact R_pl c hc, by intro c hc; rw [hp_12p3 _ (by omega)]; exact R_te c hc, by intro c hc; rw [hp_12p3 _ (by omega)]; exact R_go c hc⟩)
                      · first
                        | (exfalso; omega)
                        | (skip
                           unfold f_HS_exchange_141
                           refine zk_d2 (s_Columns_move _ _ _ _ _ (by omega) (by omega) (by omega) hp_6p0 hp_6p1) (fun a1_3 a2_3 hp_13 => ?_)
                           try dsimp only at hp_13
                           obtain ⟨hp_13p0, hp_13p1⟩ := hp_13
                           refine zk_dI3 ?_
                           unfold f_HS_refuse
                           refine zk_nE (fun v1_5 h_v1_5 => ?_)
                           refine zk_gv (by omega) (by decide) (fun v2_4 h_v2_4 => ?_)
                           refine zk_n ?_
                           refine zk_sv (by omega) (by decide) (fun a4_4 h_a4_4 => ?_)
                           refine zk_rI3 ?_
                           refine zk_rI11 ?_
                           refine zk_d13 (s_HM_exchange _ _ _ _ _ _ _ _ _ _ _ _ _ _ _ _ (by omega) (by omega) (by omega) (by omega) h_t4 h_t16 h_t17) (fun v376_4 v377_4 v378_4 v379_4 v380_4 v381_4 v382_4 a383_4 a384_4 a385_4 a386_4 a387_4 a388_4 hp_14 => ?_)
                           try dsimp only at hp_14
                           obtain ⟨hp_14p0, hp_14p1, hp_14p2, hp_14p3⟩ := hp_14
                           refine zk_ret ?_
                           try dsimp only
                           exact ⟨by omega, by omega, by omega, by omega, by omega, hp_8p4, hp_13p0, hp_13p1, hp_14p0, hp_14p1, hp_14p2, by rw [hp_14p3 _ (by omega)]; exact R_many, by rw [hp_14p3 _ (by omega)]; exact R_ch, by rw [hp_14p3 _ (by omega)]; exact R_pa, by intro c hc; rw [hp_14p3 _ (by omega)]; exact R_st c hc, by intro c hc; rw [hp_14p3 _ (by omega)]; exact R_ex c hc, by intro c hc; rw [hp_14p3 _ (by omega)]; exact R_tr c hc, by intro c hc; rw [hp_14p3 _ (by omega)]; exact R_pl c hc, by intro c hc; rw [hp_14p3 _ (by omega)]; exact R_te c hc, by intro c hc; rw [hp_14p3 _ (by omega)]; exact R_go c hc⟩)))
            · first
              | (exfalso; omega)
              | (skip
                 refine zk_dI3 ?_
                 unfold f_HS_refuse
                 refine zk_nE (fun v1_6 h_v1_6 => ?_)
                 refine zk_gv (by omega) (by decide) (fun v2_5 h_v2_5 => ?_)
                 refine zk_n ?_
                 refine zk_sv (by omega) (by decide) (fun a4_5 h_a4_5 => ?_)
                 refine zk_rI3 ?_
                 refine zk_rI11 ?_
                 refine zk_d13 (s_HM_exchange _ _ _ _ _ _ _ _ _ _ _ _ _ _ _ _ (by omega) (by omega) (by omega) (by omega) h_t4 h_t16 h_t17) (fun v376_5 v377_5 v378_5 v379_5 v380_5 v381_5 v382_5 a383_5 a384_5 a385_5 a386_5 a387_5 a388_5 hp_15 => ?_)
                 try dsimp only at hp_15
                 obtain ⟨hp_15p0, hp_15p1, hp_15p2, hp_15p3⟩ := hp_15
                 refine zk_ret ?_
                 try dsimp only
                 exact ⟨by omega, by omega, by omega, by omega, by omega, hp_4p4, h_t63, h_t64, hp_15p0, hp_15p1, hp_15p2, by rw [hp_15p3 _ (by omega)]; exact R_many, by rw [hp_15p3 _ (by omega)]; exact R_ch, by rw [hp_15p3 _ (by omega)]; exact R_pa, by intro c hc; rw [hp_15p3 _ (by omega)]; exact R_st c hc, by intro c hc; rw [hp_15p3 _ (by omega)]; exact R_ex c hc, by intro c hc; rw [hp_15p3 _ (by omega)]; exact R_tr c hc, by intro c hc; rw [hp_15p3 _ (by omega)]; exact R_pl c hc, by intro c hc; rw [hp_15p3 _ (by omega)]; exact R_te c hc, by intro c hc; rw [hp_15p3 _ (by omega)]; exact R_go c hc⟩))
       · first
         | (exfalso; omega)
         | (skip
            unfold f_HS_exchange_25
            refine zk_dI3 ?_
            unfold f_HS_refuse
            refine zk_nE (fun v1_7 h_v1_7 => ?_)
            refine zk_gv (by omega) (by decide) (fun v2_6 h_v2_6 => ?_)
            refine zk_n ?_
            refine zk_sv (by omega) (by decide) (fun a4_6 h_a4_6 => ?_)
            refine zk_rI3 ?_
            refine zk_rI11 ?_
            refine zk_d13 (s_HM_exchange _ _ _ _ _ _ _ _ _ _ _ _ _ _ _ _ (by omega) (by omega) (by omega) (by omega) h_t4 h_t16 h_t17) (fun v376_6 v377_6 v378_6 v379_6 v380_6 v381_6 v382_6 a383_6 a384_6 a385_6 a386_6 a387_6 a388_6 hp_16 => ?_)
            try dsimp only at hp_16
            obtain ⟨hp_16p0, hp_16p1, hp_16p2, hp_16p3⟩ := hp_16
            refine zk_ret ?_
            try dsimp only
            exact ⟨by omega, by omega, by omega, by omega, by omega, h_t46, h_t63, h_t64, hp_16p0, hp_16p1, hp_16p2, by rw [hp_16p3 _ (by omega)]; exact R_many, by rw [hp_16p3 _ (by omega)]; exact R_ch, by rw [hp_16p3 _ (by omega)]; exact R_pa, by intro c hc; rw [hp_16p3 _ (by omega)]; exact R_st c hc, by intro c hc; rw [hp_16p3 _ (by omega)]; exact R_ex c hc, by intro c hc; rw [hp_16p3 _ (by omega)]; exact R_tr c hc, by intro c hc; rw [hp_16p3 _ (by omega)]; exact R_pl c hc, by intro c hc; rw [hp_16p3 _ (by omega)]; exact R_te c hc, by intro c hc; rw [hp_16p3 _ (by omega)]; exact R_go c hc⟩))
set_option maxHeartbeats 4000000 in
set_option maxRecDepth 10000 in
theorem st_20 (N : Int) (σ : Nat → Int) (τ : Nat → Nat → Int) (hI : INV N σ τ) (a1 : Int) (a2 : Int) (a3 : Int) (a4 : Int) (b_a1 : (-2147483648) ≤ a1 ∧ a1 ≤ 2147483647) (b_a2 : (-2147483648) ≤ a2 ∧ a2 ≤ 2147483647) (b_a3 : (-2147483648) ≤ a3 ∧ a3 ≤ 2147483647) (b_a4 : (-2147483648) ≤ a4 ∧ a4 ≤ 2147483647) : zok (f_OP_20 N a1 a2 a3 a4 (σ 3) (σ 4) (σ 5) (σ 19) (σ 20) (σ 21) (σ 22) (σ 26) (σ 27) (σ 28) (σ 29) (σ 30) (σ 34) (σ 35) (σ 36) (σ 49) (τ 2) (τ 3) (τ 4) (τ 14) (τ 15) (τ 16) (τ 17) (τ 34) (τ 35) (τ 36) (τ 37) (τ 38) (τ 39) (τ 40) (τ 41) (τ 46) (τ 47) (τ 63) (τ 64)) (fun o => (True) ∧ INV (N + 6) (zst σ [(3, o.2.2.1), (4, o.2.2.2.1), (5, o.2.2.2.2.1), (19, o.2.2.2.2.2.1), (20, o.2.2.2.2.2.2.1), (21, o.2.2.2.2.2.2.2.1), (22, o.2.2.2.2.2.2.2.2.1), (30, o.2.2.2.2.2.2.2.2.2.1), (34, o.2.2.2.2.2.2.2.2.2.2.1), (35, o.2.2.2.2.2.2.2.2.2.2.2.1), (36, o.2.2.2.2.2.2.2.2.2.2.2.2.1)]) (zta τ [(2, o.2.2.2.2.2.2.2.2.2.2.2.2.2.1), (3, o.2.2.2.2.2.2.2.2.2.2.2.2.2.2.1), (4, o.2.2.2.2.2.2.2.2.2.2.2.2.2.2.2.1), (14, o.2.2.2.2.2.2.2.2.2.2.2.2.2.2.2.2.1), (15, o.2.2.2.2.2.2.2.2.2.2.2.2.2.2.2.2.2.1), (16, o.2.2.2.2.2.2.2.2.2.2.2.2.2.2.2.2.2.2.1), (17, o.2.2.2.2.2.2.2.2.2.2.2.2.2.2.2.2.2.2.2.1), (46, o.2.2.2.2.2.2.2.2.2.2.2.2.2.2.2.2.2.2.2.2.1), (47, o.2.2.2.2.2.2.2.2.2.2.2.2.2.2.2.2.2.2.2.2.2.1), (63, o.2.2.2.2.2.2.2.2.2.2.2.2.2.2.2.2.2.2.2.2.2.2.1), (64, o.2.2.2.2.2.2.2.2.2.2.2.2.2.2.2.2.2.2.2.2.2.2.2)])) := by
  have zg1 := hI.2
  have zg2 := zg1.2
  have zg3 := zg2.2
  have zg4 := zg3.2
  have zg5 := zg4.2
  have zg6 := zg5.2
  have zg7 := zg6.2
  have zg8 := zg7.2
  have zg9 := zg8.2
  have zg10 := zg9.2
  have zg11 := zg10.2
  have zg12 := zg11.2
  have zg13 := zg12.2
  have zg14 := zg13.2
  have zg15 := zg14.2
  have zg16 := zg15.2
  have zg17 := zg16.2
  have zg18 := zg17.2
  have zg19 := zg18.2
  have zg20 := zg19.2
  have zg21 := zg20.2
  have zg22 := zg21.2
  have zg23 := zg22.2
  have zg24 := zg23.2
  have zg25 := zg24.2
  have zg26 := zg25.2
  have zg27 := zg26.2
  have zg28 := zg27.2
  have zg29 := zg28.2
  have zg30 := zg29.2
  have zg31 := zg30.2
  have zg32 := zg31.2
  have zg33 := zg32.2
  have zg34 := zg33.2
  have zg35 := zg34.2
  have zg36 := zg35.2
  have zg37 := zg36.2
  have zg38 := zg37.2
  have zg39 := zg38.2
  have zg40 := zg39.2
  have zg41 := zg40.2
  have zg42 := zg41.2
  have zg43 := zg42.2
  have zg44 := zg43.2
  have zg45 := zg44.2
  have zg46 := zg45.2
  have zg47 := zg46.2
  have zg48 := zg47.2
  have zg49 := zg48.2
  have zg50 := zg49.2
  have zg51 := zg50.2
  have zg52 := zg51.2
  have zg53 := zg52.2
  have zg54 := zg53.2
  have zg55 := zg54.2
  have zg56 := zg55.2
  have zg57 := zg56.2
  have zg58 := zg57.2
  have zg59 := zg58.2
  have zg60 := zg59.2
  have zg61 := zg60.2
  have zg62 := zg61.2
  have zg63 := zg62.2
  have zg64 := zg63.2
  have zg65 := zg64.2
  have zg66 := zg65.2
  have zg67 := zg66.2
  have zg68 := zg67.2
  have zg69 := zg68.2
  have zg70 := zg69.2
  have zg71 := zg70.2
  have zg72 := zg71.2
  have zg73 := zg72.2
  have zg74 := zg73.2
  have zg75 := zg74.2
  have zg76 := zg75.2
  have zg77 := zg76.2
  have zg78 := zg77.2
  have zg79 := zg78.2
  have zg80 := zg79.2
  have zg81 := zg80.2
  have zg82 := zg81.2
  have zg83 := zg82.2
  have zg84 := zg83.2
  have zg85 := zg84.2
  have zg86 := zg85.2
  have zg87 := zg86.2
  have zg88 := zg87.2
  have zg89 := zg88.2
  have zg90 := zg89.2
  have zg91 := zg90.2
  have zg92 := zg91.2
  have zg93 := zg92.2
  have zg94 := zg93.2
  have zg95 := zg94.2
  have zg96 := zg95.2
  have zg97 := zg96.2
  have zg98 := zg97.2
  have zg99 := zg98.2
  have zg100 := zg99.2
  have zg101 := zg100.2
  have zg102 := zg101.2
  have zg103 := zg102.2
  have zg104 := zg103.2
  have zg105 := zg104.2
  have zg106 := zg105.2
  have zg107 := zg106.2
  have zg108 := zg107.2
  have zg109 := zg108.2
  have zg110 := zg109.2
  have zg111 := zg110.2
  have zg112 := zg111.2
  have zg113 := zg112.2
  have zg114 := zg113.2
  have zg115 := zg114.2
  have zg116 := zg115.2
  have zg117 := zg116.2
  have zg118 := zg117.2
  have zg119 := zg118.2
  have zg120 := zg119.2
  have zg121 := zg120.2
  have zg122 := zg121.2
  have zg123 := zg122.2
  have zg124 := zg123.2
  have zg125 := zg124.2
  have I_s3 := zg2.1
  have I_s26 := zg3.1
  have I_s27 := zg4.1
  have I_s28 := zg5.1
  have I_s29 := zg6.1
  have I_s34 := zg10.1
  have I_s35 := zg11.1
  have I_s36 := zg12.1
  have I_s49 := zg21.1
  have I_t4 := zg99.1
  have I_t16 := zg104.1
  have I_t17 := zg105.1
  have I_t34 := zg45.1
  have I_t35 := zg46.1
  have I_t36 := zg47.1
  have I_t37 := zg48.1
  have I_t38 := zg49.1
  have I_t39 := zg50.1
  have I_t40 := zg51.1
  have I_t41 := zg52.1
  have I_t46 := zg56.1
  have I_t63 := zg70.1
  have I_t64 := zg71.1
  have I_s30 := zg42.1
  have R_many := zg113.1
  have R_ch := zg114.1
  have R_pa := zg115.1
  have R_st := zg116.1
  have R_ex := zg117.1
  have R_tr := zg118.1
  have R_pl := zg119.1
  have R_te := zg120.1
  have R_go := zg121.1
  refine zok_mono (s_OP_20 N a1 a2 a3 a4 (σ 3) (σ 4) (σ 5) (σ 19) (σ 20) (σ 21) (σ 22) (σ 26) (σ 27) (σ 28) (σ 29) (σ 30) (σ 34) (σ 35) (σ 36) (σ 49) (τ 2) (τ 3) (τ 4) (τ 14) (τ 15) (τ 16) (τ 17) (τ 34) (τ 35) (τ 36) (τ 37) (τ 38) (τ 39) (τ 40) (τ 41) (τ 46) (τ 47) (τ 63) (τ 64) b_a1 b_a2 b_a3 b_a4 I_s3 I_s26 I_s27 I_s28 I_s29 I_s34 I_s35 I_s36 I_s49 I_t4 I_t16 I_t17 I_t34 I_t35 I_t36 I_t37 I_t38 I_t39 I_t40 I_t41 I_t46 I_t63 I_t64 I_s30 R_many R_ch R_pa R_st R_ex R_tr R_pl R_te R_go) (fun o ho => ?_)
  obtain ⟨p0, p1, p2, p3, p4, p5, p6, p7, p8, p9, p10, p11, p12, p13, p14, p15, p16, p17, p18, p19⟩ := ho
  exact ⟨trivial, ⟨hI.1, zg1.1, p0, zg3.1, zg4.1, zg5.1, zg6.1, zg7.1, zg8.1, zg9.1, p1, p2, p3, zg13.1, zg14.1, zg15.1, zg16.1, zg17.1, zg18.1, zg19.1, zg20.1, zg21.1, zg22.1, zg23.1, zg24.1, zg25.1, zg26.1, zg27.1, zg28.1, zg29.1, zg30.1, zg31.1, zg32.1, zg33.1, zg34.1, zg35.1, zg36.1, zg37.1, zg38.1, zg39.1, zg40.1, zg41.1, p4, zg43.1, zg44.1, zg45.1, zg46.1, zg47.1, zg48.1, zg49.1, zg50.1, zg51.1, zg52.1, zg53.1, zg54.1, zg55.1, p5, zg57.1, zg58.1, zg59.1, zg60.1, zg61.1, zg62.1, zg63.1, zg64.1, zg65.1, zg66.1, zg67.1, zg68.1, zg69.1, p6, p7, zg72.1, zg73.1, zg74.1, zg75.1, zg76.1, zg77.1, zg78.1, zg79.1, zg80.1, zg81.1, zg82.1, zg83.1, zg84.1, zg85.1, zg86.1, zg87.1, zg88.1, zg89.1, zg90.1, zg91.1, zg92.1, zg93.1, zg94.1, zg95.1, zg96.1, zg97.1, zg98.1, p8, zg100.1, zg101.1, zg102.1, zg103.1, p9, p10, zg106.1, zg107.1, zg108.1, zg109.1, zg110.1, zg111.1, zg112.1, p11, p12, p13, p14, p15, p16, p17, p18, p19, zg122.1, zg123.1, zg124.1, zg125⟩⟩
def f_OP_21 (N : Int) (s4 : Int) (s49 : Int) (t4 : Nat → Int) (t16 : Nat → Int) (t17 : Nat → Int) (t38 : Nat → Int) (t63 : Nat → Int) : Option (Int × Int × Int × (Nat → Int) × (Nat → Int)) :=
  zd1 (f_HS_steep s49 t38 t63) fun v389 =>
  zd4 (f_HM_steep t4 s4 t16 t17) fun v390 v391 a392 a393 =>
  some (v389, v390, v391, a392, a393)
set_option maxHeartbeats 4000000 in
theorem s_OP_21 (N : Int) (s4 : Int) (s49 : Int) (t4 : Nat → Int) (t16 : Nat → Int) (t17 : Nat → Int) (t38 : Nat → Int) (t63 : Nat → Int) (b_s49 : 0 ≤ s49 ∧ s49 ≤ 12) (h_t4 : RI t4) (h_t16 : zR t16 0 10) (h_t17 : zR t17 0 30) (h_t38 : zR t38 0 99) (h_t63 : zR t63 0 10) (R_many : s49 = t4 0) (R_te : RV 1 5 4 t38 t4) : zok (f_OP_21 N s4 s49 t4 t16 t17 t38 t63) (fun o => zR o.2.2.2.1 0 10 ∧ zR o.2.2.2.2 0 30) := by
  unfold f_OP_21
  refine zk_dI1 ?_
  unfold f_HS_steep
  refine zk_gl 2 rfl (by decide) (by decide) (fun v1 h_v1 => ?_)
  have r_v1 := h_t38 (2)
  refine zk_d1 (s_Columns_lowestSteep _ _ _ (by omega) (by omega) h_t63) (fun v2 hp => ?_)
  try dsimp only at hp
  have hpp0 := hp
  refine zk_rI1 ?_
  refine zk_d4 (s_HM_steep _ _ _ _ h_t4 h_t16 h_t17) (fun v390 v391 a392 a393 hp_2 => ?_)
  try dsimp only at hp_2
  obtain ⟨hp_2p0, hp_2p1⟩ := hp_2
  refine zk_ret ?_
  try dsimp only
  exact ⟨hp_2p0, hp_2p1⟩
set_option maxHeartbeats 4000000 in
set_option maxRecDepth 10000 in
theorem st_21 (N : Int) (σ : Nat → Int) (τ : Nat → Nat → Int) (hI : INV N σ τ)   : zok (f_OP_21 N (σ 4) (σ 49) (τ 4) (τ 16) (τ 17) (τ 38) (τ 63)) (fun o => (True) ∧ INV (N + 6) (zst σ [(4, o.2.2.1)]) (zta τ [(16, o.2.2.2.1), (17, o.2.2.2.2)])) := by
  have zg1 := hI.2
  have zg2 := zg1.2
  have zg3 := zg2.2
  have zg4 := zg3.2
  have zg5 := zg4.2
  have zg6 := zg5.2
  have zg7 := zg6.2
  have zg8 := zg7.2
  have zg9 := zg8.2
  have zg10 := zg9.2
  have zg11 := zg10.2
  have zg12 := zg11.2
  have zg13 := zg12.2
  have zg14 := zg13.2
  have zg15 := zg14.2
  have zg16 := zg15.2
  have zg17 := zg16.2
  have zg18 := zg17.2
  have zg19 := zg18.2
  have zg20 := zg19.2
  have zg21 := zg20.2
  have zg22 := zg21.2
  have zg23 := zg22.2
  have zg24 := zg23.2
  have zg25 := zg24.2
  have zg26 := zg25.2
  have zg27 := zg26.2
  have zg28 := zg27.2
  have zg29 := zg28.2
  have zg30 := zg29.2
  have zg31 := zg30.2
  have zg32 := zg31.2
  have zg33 := zg32.2
  have zg34 := zg33.2
  have zg35 := zg34.2
  have zg36 := zg35.2
  have zg37 := zg36.2
  have zg38 := zg37.2
  have zg39 := zg38.2
  have zg40 := zg39.2
  have zg41 := zg40.2
  have zg42 := zg41.2
  have zg43 := zg42.2
  have zg44 := zg43.2
  have zg45 := zg44.2
  have zg46 := zg45.2
  have zg47 := zg46.2
  have zg48 := zg47.2
  have zg49 := zg48.2
  have zg50 := zg49.2
  have zg51 := zg50.2
  have zg52 := zg51.2
  have zg53 := zg52.2
  have zg54 := zg53.2
  have zg55 := zg54.2
  have zg56 := zg55.2
  have zg57 := zg56.2
  have zg58 := zg57.2
  have zg59 := zg58.2
  have zg60 := zg59.2
  have zg61 := zg60.2
  have zg62 := zg61.2
  have zg63 := zg62.2
  have zg64 := zg63.2
  have zg65 := zg64.2
  have zg66 := zg65.2
  have zg67 := zg66.2
  have zg68 := zg67.2
  have zg69 := zg68.2
  have zg70 := zg69.2
  have zg71 := zg70.2
  have zg72 := zg71.2
  have zg73 := zg72.2
  have zg74 := zg73.2
  have zg75 := zg74.2
  have zg76 := zg75.2
  have zg77 := zg76.2
  have zg78 := zg77.2
  have zg79 := zg78.2
  have zg80 := zg79.2
  have zg81 := zg80.2
  have zg82 := zg81.2
  have zg83 := zg82.2
  have zg84 := zg83.2
  have zg85 := zg84.2
  have zg86 := zg85.2
  have zg87 := zg86.2
  have zg88 := zg87.2
  have zg89 := zg88.2
  have zg90 := zg89.2
  have zg91 := zg90.2
  have zg92 := zg91.2
  have zg93 := zg92.2
  have zg94 := zg93.2
  have zg95 := zg94.2
  have zg96 := zg95.2
  have zg97 := zg96.2
  have zg98 := zg97.2
  have zg99 := zg98.2
  have zg100 := zg99.2
  have zg101 := zg100.2
  have zg102 := zg101.2
  have zg103 := zg102.2
  have zg104 := zg103.2
  have zg105 := zg104.2
  have zg106 := zg105.2
  have zg107 := zg106.2
  have zg108 := zg107.2
  have zg109 := zg108.2
  have zg110 := zg109.2
  have zg111 := zg110.2
  have zg112 := zg111.2
  have zg113 := zg112.2
  have zg114 := zg113.2
  have zg115 := zg114.2
  have zg116 := zg115.2
  have zg117 := zg116.2
  have zg118 := zg117.2
  have zg119 := zg118.2
  have zg120 := zg119.2
  have zg121 := zg120.2
  have zg122 := zg121.2
  have zg123 := zg122.2
  have zg124 := zg123.2
  have zg125 := zg124.2
  have I_s49 := zg21.1
  have I_t4 := zg99.1
  have I_t16 := zg104.1
  have I_t17 := zg105.1
  have I_t38 := zg49.1
  have I_t63 := zg70.1
  have R_many := zg113.1
  have R_te := zg120.1
  refine zok_mono (s_OP_21 N (σ 4) (σ 49) (τ 4) (τ 16) (τ 17) (τ 38) (τ 63) I_s49 I_t4 I_t16 I_t17 I_t38 I_t63 R_many R_te) (fun o ho => ?_)
  obtain ⟨p0, p1⟩ := ho
  exact ⟨trivial, ⟨hI.1, zg1.1, zg2.1, zg3.1, zg4.1, zg5.1, zg6.1, zg7.1, zg8.1, zg9.1, zg10.1, zg11.1, zg12.1, zg13.1, zg14.1, zg15.1, zg16.1, zg17.1, zg18.1, zg19.1, zg20.1, zg21.1, zg22.1, zg23.1, zg24.1, zg25.1, zg26.1, zg27.1, zg28.1, zg29.1, zg30.1, zg31.1, zg32.1, zg33.1, zg34.1, zg35.1, zg36.1, zg37.1, zg38.1, zg39.1, zg40.1, zg41.1, ⟨zg42.1.1, Int.le_trans zg42.1.2 (Int.le_add_of_nonneg_right (by decide))⟩, zg43.1, zg44.1, zg45.1, zg46.1, zg47.1, zg48.1, zg49.1, zg50.1, zg51.1, zg52.1, zg53.1, zg54.1, zg55.1, zg56.1, zg57.1, zg58.1, zg59.1, zg60.1, zg61.1, zg62.1, zg63.1, zg64.1, zg65.1, zg66.1, zg67.1, zg68.1, zg69.1, zg70.1, zg71.1, zg72.1, zg73.1, zg74.1, zg75.1, zg76.1, zg77.1, zg78.1, zg79.1, zg80.1, zg81.1, zg82.1, zg83.1, zg84.1, zg85.1, zg86.1, zg87.1, zg88.1, zg89.1, zg90.1, zg91.1, zg92.1, zg93.1, zg94.1, zg95.1, zg96.1, zg97.1, zg98.1, zg99.1, zg100.1, zg101.1, zg102.1, zg103.1, p0, p1, zg106.1, zg107.1, zg108.1, zg109.1, zg110.1, zg111.1, zg112.1, zg113.1, zg114.1, zg115.1, zg116.1, zg117.1, zg118.1, zg119.1, zg120.1, zg121.1, zg122.1, zg123.1, zg124.1, zg125⟩⟩
def f_OP_22 (N : Int) (s4 : Int) (s26 : Int) (s27 : Int) (s30 : Int) (s49 : Int) (t4 : Nat → Int) (t16 : Nat → Int) (t17 : Nat → Int) (t34 : Nat → Int) (t35 : Nat → Int) (t36 : Nat → Int) (t37 : Nat → Int) (t38 : Nat → Int) (t39 : Nat → Int) (t63 : Nat → Int) (t64 : Nat → Int) : Option (Int × Int × Int × Int × (Nat → Int) × (Nat → Int) × (Nat → Int) × (Nat → Int) × (Nat → Int)) :=
  zd4 (f_HS_slide s49 t38 s30 t63 t64) fun v394 v395 a396 a397 =>
  zd5 (f_HM_slide s4 t4 t16 t17) fun v398 v399 a400 a401 a402 =>
  some (v394, v398, v399, v395, a400, a401, a402, a396, a397)
set_option maxHeartbeats 4000000 in
theorem s_OP_22 (N : Int) (s4 : Int) (s26 : Int) (s27 : Int) (s30 : Int) (s49 : Int) (t4 : Nat → Int) (t16 : Nat → Int) (t17 : Nat → Int) (t34 : Nat → Int) (t35 : Nat → Int) (t36 : Nat → Int) (t37 : Nat → Int) (t38 : Nat → Int) (t39 : Nat → Int) (t63 : Nat → Int) (t64 : Nat → Int) (b_s26 : 0 ≤ s26 ∧ s26 ≤ 6) (b_s27 : 0 ≤ s27 ∧ s27 ≤ 6) (b_s49 : 0 ≤ s49 ∧ s49 ≤ 12) (h_t4 : RI t4) (h_t16 : zR t16 0 10) (h_t17 : zR t17 0 30) (h_t34 : zR t34 0 60) (h_t35 : zR t35 0 1) (h_t36 : zR t36 0 20) (h_t37 : zR t37 0 11) (h_t38 : zR t38 0 99) (h_t39 : zR t39 (-1) 10) (h_t63 : zR t63 0 10) (h_t64 : zR t64 0 30) (I_s30 : 0 ≤ s30 ∧ s30 ≤ N) (R_many : s49 = t4 0) (R_ch : s26 = t4 1) (R_pa : s27 = t4 2) (R_st : RV 3 153 s26 t34 t4) (R_ex : RV 3 154 s26 t35 t4) (R_tr : RV 3 155 s26 t36 t4) (R_pl : RV 1 171 s27 t37 t4) (R_te : RV 1 5 4 t38 t4) (R_go : RV 1 141 s49 t39 t4) : zok (f_OP_22 N s4 s26 s27 s30 s49 t4 t16 t17 t34 t35 t36 t37 t38 t39 t63 t64) (fun o => (0 ≤ o.2.2.2.1 ∧ o.2.2.2.1 ≤ N + 6) ∧ zR o.2.2.2.2.2.2.2.1 0 10 ∧ zR o.2.2.2.2.2.2.2.2 0 30 ∧ RI o.2.2.2.2.1 ∧ zR o.2.2.2.2.2.1 0 10 ∧ zR o.2.2.2.2.2.2.1 0 30 ∧ (s49 = o.2.2.2.2.1 0) ∧ (s26 = o.2.2.2.2.1 1) ∧ (s27 = o.2.2.2.2.1 2) ∧ (RV 3 153 s26 t34 o.2.2.2.2.1) ∧ (RV 3 154 s26 t35 o.2.2.2.2.1) ∧ (RV 3 155 s26 t36 o.2.2.2.2.1) ∧ (RV 1 171 s27 t37 o.2.2.2.2.1) ∧ (RV 1 5 4 t38 o.2.2.2.2.1) ∧ (RV 1 141 s49 t39 o.2.2.2.2.1)) := by
  unfold f_OP_22
  refine zk_dI4 ?_
  unfold f_HS_slide
  refine zk_n ?_
  refine zk_gl 2 rfl (by decide) (by decide) (fun v2 h_v2 => ?_)
  have r_v2 := h_t38 (2)
  refine zk_d3 (s_Columns_settle _ _ _ _ (by omega) (by omega) h_t63 h_t64) (fun v3 a4 a5 hp => ?_)
  try dsimp only at hp
  obtain ⟨hpp0, hpp1, hpp2⟩ := hp
  refine zk_rI4 ?_
  refine zk_d5 (s_HM_slide _ _ _ _ h_t4 h_t16 h_t17) (fun v398 v399 a400 a401 a402 hp_2 => ?_)
  try dsimp only at hp_2
  obtain ⟨hp_2p0, hp_2p1, hp_2p2, hp_2p3⟩ := hp_2
  refine zk_ret ?_
  try dsimp only
  exact ⟨by omega, hpp1, hpp2, hp_2p0, hp_2p1, hp_2p2, by rw [hp_2p3 _ (by omega)]; exact R_many, by rw [hp_2p3 _ (by omega)]; exact R_ch, by rw [hp_2p3 _ (by omega)]; exact R_pa, by intro c hc; rw [hp_2p3 _ (by omega)]; exact R_st c hc, by intro c hc; rw [hp_2p3 _ (by omega)]; exact R_ex c hc, by intro c hc; rw [hp_2p3 _ (by omega)]; exact R_tr c hc, by intro c hc; rw [hp_2p3 _ (by omega)]; exact R_pl c hc, by intro c hc; rw [hp_2p3 _ (by omega)]; exact R_te c hc, by intro c hc; rw [hp_2p3 _ (by omega)]; exact R_go c hc⟩
set_option maxHeartbeats 4000000 in
set_option maxRecDepth 10000 in
theorem st_22 (N : Int) (σ : Nat → Int) (τ : Nat → Nat → Int) (hI : INV N σ τ)   : zok (f_OP_22 N (σ 4) (σ 26) (σ 27) (σ 30) (σ 49) (τ 4) (τ 16) (τ 17) (τ 34) (τ 35) (τ 36) (τ 37) (τ 38) (τ 39) (τ 63) (τ 64)) (fun o => (True) ∧ INV (N + 6) (zst σ [(4, o.2.2.1), (30, o.2.2.2.1)]) (zta τ [(4, o.2.2.2.2.1), (16, o.2.2.2.2.2.1), (17, o.2.2.2.2.2.2.1), (63, o.2.2.2.2.2.2.2.1), (64, o.2.2.2.2.2.2.2.2)])) := by
  have zg1 := hI.2
  have zg2 := zg1.2
  have zg3 := zg2.2
  have zg4 := zg3.2
  have zg5 := zg4.2
  have zg6 := zg5.2
  have zg7 := zg6.2
  have zg8 := zg7.2
  have zg9 := zg8.2
  have zg10 := zg9.2
  have zg11 := zg10.2
  have zg12 := zg11.2
  have zg13 := zg12.2
  have zg14 := zg13.2
  have zg15 := zg14.2
  have zg16 := zg15.2
  have zg17 := zg16.2
  have zg18 := zg17.2
  have zg19 := zg18.2
  have zg20 := zg19.2
  have zg21 := zg20.2
  have zg22 := zg21.2
  have zg23 := zg22.2
  have zg24 := zg23.2
  have zg25 := zg24.2
  have zg26 := zg25.2
  have zg27 := zg26.2
  have zg28 := zg27.2
  have zg29 := zg28.2
  have zg30 := zg29.2
  have zg31 := zg30.2
  have zg32 := zg31.2
  have zg33 := zg32.2
  have zg34 := zg33.2
  have zg35 := zg34.2
  have zg36 := zg35.2
  have zg37 := zg36.2
  have zg38 := zg37.2
  have zg39 := zg38.2
  have zg40 := zg39.2
  have zg41 := zg40.2
  have zg42 := zg41.2
  have zg43 := zg42.2
  have zg44 := zg43.2
  have zg45 := zg44.2
  have zg46 := zg45.2
  have zg47 := zg46.2
  have zg48 := zg47.2
  have zg49 := zg48.2
  have zg50 := zg49.2
  have zg51 := zg50.2
  have zg52 := zg51.2
  have zg53 := zg52.2
  have zg54 := zg53.2
  have zg55 := zg54.2
  have zg56 := zg55.2
  have zg57 := zg56.2
  have zg58 := zg57.2
  have zg59 := zg58.2
  have zg60 := zg59.2
  have zg61 := zg60.2
  have zg62 := zg61.2
  have zg63 := zg62.2
  have zg64 := zg63.2
  have zg65 := zg64.2
  have zg66 := zg65.2
  have zg67 := zg66.2
  have zg68 := zg67.2
  have zg69 := zg68.2
  have zg70 := zg69.2
  have zg71 := zg70.2
  have zg72 := zg71.2
  have zg73 := zg72.2
  have zg74 := zg73.2
  have zg75 := zg74.2
  have zg76 := zg75.2
  have zg77 := zg76.2
  have zg78 := zg77.2
  have zg79 := zg78.2
  have zg80 := zg79.2
  have zg81 := zg80.2
  have zg82 := zg81.2
  have zg83 := zg82.2
  have zg84 := zg83.2
  have zg85 := zg84.2
  have zg86 := zg85.2
  have zg87 := zg86.2
  have zg88 := zg87.2
  have zg89 := zg88.2
  have zg90 := zg89.2
  have zg91 := zg90.2
  have zg92 := zg91.2
  have zg93 := zg92.2
  have zg94 := zg93.2
  have zg95 := zg94.2
  have zg96 := zg95.2
  have zg97 := zg96.2
  have zg98 := zg97.2
  have zg99 := zg98.2
  have zg100 := zg99.2
  have zg101 := zg100.2
  have zg102 := zg101.2
  have zg103 := zg102.2
  have zg104 := zg103.2
  have zg105 := zg104.2
  have zg106 := zg105.2
  have zg107 := zg106.2
  have zg108 := zg107.2
  have zg109 := zg108.2
  have zg110 := zg109.2
  have zg111 := zg110.2
  have zg112 := zg111.2
  have zg113 := zg112.2
  have zg114 := zg113.2
  have zg115 := zg114.2
  have zg116 := zg115.2
  have zg117 := zg116.2
  have zg118 := zg117.2
  have zg119 := zg118.2
  have zg120 := zg119.2
  have zg121 := zg120.2
  have zg122 := zg121.2
  have zg123 := zg122.2
  have zg124 := zg123.2
  have zg125 := zg124.2
  have I_s26 := zg3.1
  have I_s27 := zg4.1
  have I_s49 := zg21.1
  have I_t4 := zg99.1
  have I_t16 := zg104.1
  have I_t17 := zg105.1
  have I_t34 := zg45.1
  have I_t35 := zg46.1
  have I_t36 := zg47.1
  have I_t37 := zg48.1
  have I_t38 := zg49.1
  have I_t39 := zg50.1
  have I_t63 := zg70.1
  have I_t64 := zg71.1
  have I_s30 := zg42.1
  have R_many := zg113.1
  have R_ch := zg114.1
  have R_pa := zg115.1
  have R_st := zg116.1
  have R_ex := zg117.1
  have R_tr := zg118.1
  have R_pl := zg119.1
  have R_te := zg120.1
  have R_go := zg121.1
  refine zok_mono (s_OP_22 N (σ 4) (σ 26) (σ 27) (σ 30) (σ 49) (τ 4) (τ 16) (τ 17) (τ 34) (τ 35) (τ 36) (τ 37) (τ 38) (τ 39) (τ 63) (τ 64) I_s26 I_s27 I_s49 I_t4 I_t16 I_t17 I_t34 I_t35 I_t36 I_t37 I_t38 I_t39 I_t63 I_t64 I_s30 R_many R_ch R_pa R_st R_ex R_tr R_pl R_te R_go) (fun o ho => ?_)
  obtain ⟨p0, p1, p2, p3, p4, p5, p6, p7, p8, p9, p10, p11, p12, p13, p14⟩ := ho
  exact ⟨trivial, ⟨hI.1, zg1.1, zg2.1, zg3.1, zg4.1, zg5.1, zg6.1, zg7.1, zg8.1, zg9.1, zg10.1, zg11.1, zg12.1, zg13.1, zg14.1, zg15.1, zg16.1, zg17.1, zg18.1, zg19.1, zg20.1, zg21.1, zg22.1, zg23.1, zg24.1, zg25.1, zg26.1, zg27.1, zg28.1, zg29.1, zg30.1, zg31.1, zg32.1, zg33.1, zg34.1, zg35.1, zg36.1, zg37.1, zg38.1, zg39.1, zg40.1, zg41.1, p0, zg43.1, zg44.1, zg45.1, zg46.1, zg47.1, zg48.1, zg49.1, zg50.1, zg51.1, zg52.1, zg53.1, zg54.1, zg55.1, zg56.1, zg57.1, zg58.1, zg59.1, zg60.1, zg61.1, zg62.1, zg63.1, zg64.1, zg65.1, zg66.1, zg67.1, zg68.1, zg69.1, p1, p2, zg72.1, zg73.1, zg74.1, zg75.1, zg76.1, zg77.1, zg78.1, zg79.1, zg80.1, zg81.1, zg82.1, zg83.1, zg84.1, zg85.1, zg86.1, zg87.1, zg88.1, zg89.1, zg90.1, zg91.1, zg92.1, zg93.1, zg94.1, zg95.1, zg96.1, zg97.1, zg98.1, p3, zg100.1, zg101.1, zg102.1, zg103.1, p4, p5, zg106.1, zg107.1, zg108.1, zg109.1, zg110.1, zg111.1, zg112.1, p6, p7, p8, p9, p10, p11, p12, p13, p14, zg122.1, zg123.1, zg124.1, zg125⟩⟩
def f_OP_23 (N : Int) (a1 : Int) (s4 : Int) (s27 : Int) (s49 : Int) (t4 : Nat → Int) (t16 : Nat → Int) (t17 : Nat → Int) (t37 : Nat → Int) (t38 : Nat → Int) (t63 : Nat → Int) : Option (Int × Int × Int × (Nat → Int) × (Nat → Int)) :=
  zd1 (f_HS_shade a1 s27 s49 t37 t38 t63) fun v405 =>
  zd4 (f_HM_shade a1 t4 s4 t16 t17) fun v408 v409 a410 a411 =>
  some (v405, v408, v409, a410, a411)
set_option maxHeartbeats 4000000 in
theorem s_OP_23 (N : Int) (a1 : Int) (s4 : Int) (s27 : Int) (s49 : Int) (t4 : Nat → Int) (t16 : Nat → Int) (t17 : Nat → Int) (t37 : Nat → Int) (t38 : Nat → Int) (t63 : Nat → Int) (b_a1 : (-2147483648) ≤ a1 ∧ a1 ≤ 2147483647) (b_s27 : 0 ≤ s27 ∧ s27 ≤ 6) (b_s49 : 0 ≤ s49 ∧ s49 ≤ 12) (h_t4 : RI t4) (h_t16 : zR t16 0 10) (h_t17 : zR t17 0 30) (h_t37 : zR t37 0 11) (h_t38 : zR t38 0 99) (h_t63 : zR t63 0 10) (R_many : s49 = t4 0) (R_pa : s27 = t4 2) (R_pl : RV 1 171 s27 t37 t4) (R_te : RV 1 5 4 t38 t4) : zok (f_OP_23 N a1 s4 s27 s49 t4 t16 t17 t37 t38 t63) (fun o => zR o.2.2.2.1 0 10 ∧ zR o.2.2.2.2 0 30) := by
  unfold f_OP_23
  refine zk_dI1 ?_
  unfold f_HS_shade
  refine zk_ifc (zci_ne (by omega) (by omega)) (fun hc => ?_) (fun hc => ?_)
  · first
    | (exfalso; omega)
    | (skip
       refine zk_d1 (s_Hill_hasParish _ _ (by omega) (by omega)) (fun v1 hp => ?_)
       try dsimp only at hp
       obtain ⟨hpp0, hpp1⟩ := hp
       refine zk_ifc (zci_eqr (by omega)) (fun hc_2 => ?_) (fun hc_2 => ?_)
       · first
         | (exfalso; omega)
         | (skip
            refine zk_rI1 ?_
            refine zk_d4 (s_HM_shade _ _ _ _ _ (by omega) h_t4 h_t16 h_t17) (fun v408 v409 a410 a411 hp_2 => ?_)
            try dsimp only at hp_2
            obtain ⟨hp_2p0, hp_2p1⟩ := hp_2
            refine zk_ret ?_
            try dsimp only
            exact ⟨hp_2p0, hp_2p1⟩)
       · first
         | (exfalso; omega)
         | (skip
            refine zk_d1 (s_Hill_shadeOf _ _ _ _ _ _ (by omega) (by omega) (by omega) h_t37 h_t38 h_t63) (fun v2 hp_3 => ?_)
            try dsimp only at hp_3
            have hp_3p0 := hp_3
            refine zk_rI1 ?_
            refine zk_d4 (s_HM_shade _ _ _ _ _ (by omega) h_t4 h_t16 h_t17) (fun v408_2 v409_2 a410_2 a411_2 hp_4 => ?_)
            try dsimp only at hp_4
            obtain ⟨hp_4p0, hp_4p1⟩ := hp_4
            refine zk_ret ?_
            try dsimp only
            exact ⟨hp_4p0, hp_4p1⟩))
  · first
    | (exfalso; omega)
    | (skip
       refine zk_d1 (s_Hill_shades _ _ _ _ _ (by omega) (by omega) h_t37 h_t38 h_t63) (fun v3 hp_5 => ?_)
       refine zk_rI1 ?_
       refine zk_d4 (s_HM_shade _ _ _ _ _ (by omega) h_t4 h_t16 h_t17) (fun v408_3 v409_3 a410_3 a411_3 hp_6 => ?_)
       try dsimp only at hp_6
       obtain ⟨hp_6p0, hp_6p1⟩ := hp_6
       refine zk_ret ?_
       try dsimp only
       exact ⟨hp_6p0, hp_6p1⟩)
set_option maxHeartbeats 4000000 in
set_option maxRecDepth 10000 in
theorem st_23 (N : Int) (σ : Nat → Int) (τ : Nat → Nat → Int) (hI : INV N σ τ) (a1 : Int) (b_a1 : (-2147483648) ≤ a1 ∧ a1 ≤ 2147483647) : zok (f_OP_23 N a1 (σ 4) (σ 27) (σ 49) (τ 4) (τ 16) (τ 17) (τ 37) (τ 38) (τ 63)) (fun o => (True) ∧ INV (N + 6) (zst σ [(4, o.2.2.1)]) (zta τ [(16, o.2.2.2.1), (17, o.2.2.2.2)])) := by
  have zg1 := hI.2
  have zg2 := zg1.2
  have zg3 := zg2.2
  have zg4 := zg3.2
  have zg5 := zg4.2
  have zg6 := zg5.2
  have zg7 := zg6.2
  have zg8 := zg7.2
  have zg9 := zg8.2
  have zg10 := zg9.2
  have zg11 := zg10.2
  have zg12 := zg11.2
  have zg13 := zg12.2
  have zg14 := zg13.2
  have zg15 := zg14.2
  have zg16 := zg15.2
  have zg17 := zg16.2
  have zg18 := zg17.2
  have zg19 := zg18.2
  have zg20 := zg19.2
  have zg21 := zg20.2
  have zg22 := zg21.2
  have zg23 := zg22.2
  have zg24 := zg23.2
  have zg25 := zg24.2
  have zg26 := zg25.2
  have zg27 := zg26.2
  have zg28 := zg27.2
  have zg29 := zg28.2
  have zg30 := zg29.2
  have zg31 := zg30.2
  have zg32 := zg31.2
  have zg33 := zg32.2
  have zg34 := zg33.2
  have zg35 := zg34.2
  have zg36 := zg35.2
  have zg37 := zg36.2
  have zg38 := zg37.2
  have zg39 := zg38.2
  have zg40 := zg39.2
  have zg41 := zg40.2
  have zg42 := zg41.2
  have zg43 := zg42.2
  have zg44 := zg43.2
  have zg45 := zg44.2
  have zg46 := zg45.2
  have zg47 := zg46.2
  have zg48 := zg47.2
  have zg49 := zg48.2
  have zg50 := zg49.2
  have zg51 := zg50.2
  have zg52 := zg51.2
  have zg53 := zg52.2
  have zg54 := zg53.2
  have zg55 := zg54.2
  have zg56 := zg55.2
  have zg57 := zg56.2
  have zg58 := zg57.2
  have zg59 := zg58.2
  have zg60 := zg59.2
  have zg61 := zg60.2
  have zg62 := zg61.2
  have zg63 := zg62.2
  have zg64 := zg63.2
  have zg65 := zg64.2
  have zg66 := zg65.2
  have zg67 := zg66.2
  have zg68 := zg67.2
  have zg69 := zg68.2
  have zg70 := zg69.2
  have zg71 := zg70.2
  have zg72 := zg71.2
  have zg73 := zg72.2
  have zg74 := zg73.2
  have zg75 := zg74.2
  have zg76 := zg75.2
  have zg77 := zg76.2
  have zg78 := zg77.2
  have zg79 := zg78.2
  have zg80 := zg79.2
  have zg81 := zg80.2
  have zg82 := zg81.2
  have zg83 := zg82.2
  have zg84 := zg83.2
  have zg85 := zg84.2
  have zg86 := zg85.2
  have zg87 := zg86.2
  have zg88 := zg87.2
  have zg89 := zg88.2
  have zg90 := zg89.2
  have zg91 := zg90.2
  have zg92 := zg91.2
  have zg93 := zg92.2
  have zg94 := zg93.2
  have zg95 := zg94.2
  have zg96 := zg95.2
  have zg97 := zg96.2
  have zg98 := zg97.2
  have zg99 := zg98.2
  have zg100 := zg99.2
  have zg101 := zg100.2
  have zg102 := zg101.2
  have zg103 := zg102.2
  have zg104 := zg103.2
  have zg105 := zg104.2
  have zg106 := zg105.2
  have zg107 := zg106.2
  have zg108 := zg107.2
  have zg109 := zg108.2
  have zg110 := zg109.2
  have zg111 := zg110.2
  have zg112 := zg111.2
  have zg113 := zg112.2
  have zg114 := zg113.2
  have zg115 := zg114.2
  have zg116 := zg115.2
  have zg117 := zg116.2
  have zg118 := zg117.2
  have zg119 := zg118.2
  have zg120 := zg119.2
  have zg121 := zg120.2
  have zg122 := zg121.2
  have zg123 := zg122.2
  have zg124 := zg123.2
  have zg125 := zg124.2
  have I_s27 := zg4.1
  have I_s49 := zg21.1
  have I_t4 := zg99.1
  have I_t16 := zg104.1
  have I_t17 := zg105.1
  have I_t37 := zg48.1
  have I_t38 := zg49.1
  have I_t63 := zg70.1
  have R_many := zg113.1
  have R_pa := zg115.1
  have R_pl := zg119.1
  have R_te := zg120.1
  refine zok_mono (s_OP_23 N a1 (σ 4) (σ 27) (σ 49) (τ 4) (τ 16) (τ 17) (τ 37) (τ 38) (τ 63) b_a1 I_s27 I_s49 I_t4 I_t16 I_t17 I_t37 I_t38 I_t63 R_many R_pa R_pl R_te) (fun o ho => ?_)
  obtain ⟨p0, p1⟩ := ho
  exact ⟨trivial, ⟨hI.1, zg1.1, zg2.1, zg3.1, zg4.1, zg5.1, zg6.1, zg7.1, zg8.1, zg9.1, zg10.1, zg11.1, zg12.1, zg13.1, zg14.1, zg15.1, zg16.1, zg17.1, zg18.1, zg19.1, zg20.1, zg21.1, zg22.1, zg23.1, zg24.1, zg25.1, zg26.1, zg27.1, zg28.1, zg29.1, zg30.1, zg31.1, zg32.1, zg33.1, zg34.1, zg35.1, zg36.1, zg37.1, zg38.1, zg39.1, zg40.1, zg41.1, ⟨zg42.1.1, Int.le_trans zg42.1.2 (Int.le_add_of_nonneg_right (by decide))⟩, zg43.1, zg44.1, zg45.1, zg46.1, zg47.1, zg48.1, zg49.1, zg50.1, zg51.1, zg52.1, zg53.1, zg54.1, zg55.1, zg56.1, zg57.1, zg58.1, zg59.1, zg60.1, zg61.1, zg62.1, zg63.1, zg64.1, zg65.1, zg66.1, zg67.1, zg68.1, zg69.1, zg70.1, zg71.1, zg72.1, zg73.1, zg74.1, zg75.1, zg76.1, zg77.1, zg78.1, zg79.1, zg80.1, zg81.1, zg82.1, zg83.1, zg84.1, zg85.1, zg86.1, zg87.1, zg88.1, zg89.1, zg90.1, zg91.1, zg92.1, zg93.1, zg94.1, zg95.1, zg96.1, zg97.1, zg98.1, zg99.1, zg100.1, zg101.1, zg102.1, zg103.1, p0, p1, zg106.1, zg107.1, zg108.1, zg109.1, zg110.1, zg111.1, zg112.1, zg113.1, zg114.1, zg115.1, zg116.1, zg117.1, zg118.1, zg119.1, zg120.1, zg121.1, zg122.1, zg123.1, zg124.1, zg125⟩⟩
