def f_OP_4 (N : Int) (a1 : Int) (s4 : Int) (s49 : Int) (t4 : Nat → Int) (t63 : Nat → Int) (t64 : Nat → Int) : Option (Int × Int × Int) :=
  zd1 (f_HS_weight a1 s49 t63 t64) fun v64 =>
  zd2 (f_HM_weight a1 t4 s4) fun v67 v68 =>
  some (v64, v67, v68)
set_option maxHeartbeats 4000000 in
theorem s_OP_4 (N : Int) (a1 : Int) (s4 : Int) (s49 : Int) (t4 : Nat → Int) (t63 : Nat → Int) (t64 : Nat → Int) (b_a1 : (-2147483648) ≤ a1 ∧ a1 ≤ 2147483647) (b_s49 : 0 ≤ s49 ∧ s49 ≤ 12) (h_t4 : RI t4) (h_t63 : zR t63 0 10) (h_t64 : zR t64 0 30) (R_many : s49 = t4 0) : zok (f_OP_4 N a1 s4 s49 t4 t63 t64) (fun o => True) := by
  unfold f_OP_4
  refine zk_dI1 ?_
  unfold f_HS_weight
  refine zk_d1 (s_Columns_has _ _ (by omega) (by omega)) (fun v1 hp => ?_)
  try dsimp only at hp
  obtain ⟨hpp0, hpp1⟩ := hp
  refine zk_ifc (zci_eqr (by omega)) (fun hc => ?_) (fun hc => ?_)
  · first
    | (exfalso; omega)
    | (skip
       refine zk_rI1 ?_
       refine zk_d2 (s_HM_weight _ _ _ (by omega) h_t4) (fun v67 v68 hp_2 => ?_)
       exact zk_ret trivial)
  · first
    | (exfalso; omega)
    | (skip
       refine zk_d1 (s_Columns_load _ _ _ _ (by omega) (by omega) h_t63 h_t64) (fun v2 hp_3 => ?_)
       refine zk_rI1 ?_
       refine zk_d2 (s_HM_weight _ _ _ (by omega) h_t4) (fun v67_2 v68_2 hp_4 => ?_)
       exact zk_ret trivial)
set_option maxHeartbeats 4000000 in
set_option maxRecDepth 10000 in
theorem st_4 (N : Int) (σ : Nat → Int) (τ : Nat → Nat → Int) (hI : INV N σ τ) (a1 : Int) (b_a1 : (-2147483648) ≤ a1 ∧ a1 ≤ 2147483647) : zok (f_OP_4 N a1 (σ 4) (σ 49) (τ 4) (τ 63) (τ 64)) (fun o => (True) ∧ INV (N + 6) (zst σ [(4, o.2.2)]) τ) := by
  obtain ⟨I_s0, I_s1, I_s3, I_s26, I_s27, I_s28, I_s29, I_s31, I_s32, I_s33, I_s34, I_s35, I_s36, I_s37, I_s38, I_s39, I_s41, I_s42, I_s46, I_s47, I_s48, I_s49, I_s50, I_s51, I_s52, I_s53, I_s54, I_s55, I_s56, I_s57, I_s58, I_s59, I_s60, I_s61, I_s62, I_s63, I_s65, I_s66, I_s68, I_s69, I_s71, I_s72, I_s30, I_t0, I_t1, I_t34, I_t35, I_t36, I_t37, I_t38, I_t39, I_t40, I_t41, I_t42, I_t43, I_t44, I_t46, I_t48, I_t49, I_t50, I_t52, I_t53, I_t54, I_t55, I_t56, I_t57, I_t58, I_t59, I_t60, I_t61, I_t63, I_t64, I_t65, I_t66, I_t67, I_t68, I_t69, I_t70, I_t71, I_t72, I_t73, I_t74, I_t75, I_t76, I_t77, I_t78, I_t79, I_t80, I_t81, I_t82, I_t83, I_t84, I_t85, I_t86, I_t87, I_t88, I_t89, I_t90, I_t91, I_t4, I_s7, I_s25, I_t7, I_t6, I_t16, I_t17, I_t28, I_t30, I_t31, I_t32, I_t18, I_t23, I_im, R_many, R_ch, R_pa, R_st, R_ex, R_tr, R_pl, R_te, R_go, R_tp, R_kp, R_i0, R_i1⟩ := hI
  refine zok_mono (s_OP_4 N a1 (σ 4) (σ 49) (τ 4) (τ 63) (τ 64) b_a1 I_s49 I_t4 I_t63 I_t64 R_many) (fun o ho => ?_)
  skip
  exact ⟨trivial, ⟨I_s0, I_s1, I_s3, I_s26, I_s27, I_s28, I_s29, I_s31, I_s32, I_s33, I_s34, I_s35, I_s36, I_s37, I_s38, I_s39, I_s41, I_s42, I_s46, I_s47, I_s48, I_s49, I_s50, I_s51, I_s52, I_s53, I_s54, I_s55, I_s56, I_s57, I_s58, I_s59, I_s60, I_s61, I_s62, I_s63, I_s65, I_s66, I_s68, I_s69, I_s71, I_s72, ⟨I_s30.1, Int.le_trans I_s30.2 (Int.le_add_of_nonneg_right (by decide))⟩, I_t0, I_t1, I_t34, I_t35, I_t36, I_t37, I_t38, I_t39, I_t40, I_t41, I_t42, I_t43, I_t44, I_t46, I_t48, I_t49, I_t50, I_t52, I_t53, I_t54, I_t55, I_t56, I_t57, I_t58, I_t59, I_t60, I_t61, I_t63, I_t64, I_t65, I_t66, I_t67, I_t68, I_t69, I_t70, I_t71, I_t72, I_t73, I_t74, I_t75, I_t76, I_t77, I_t78, I_t79, I_t80, I_t81, I_t82, I_t83, I_t84, I_t85, I_t86, I_t87, I_t88, I_t89, I_t90, I_t91, I_t4, I_s7, I_s25, I_t7, I_t6, I_t16, I_t17, I_t28, I_t30, I_t31, I_t32, I_t18, I_t23, I_im, R_many, R_ch, R_pa, R_st, R_ex, R_tr, R_pl, R_te, R_go, R_tp, R_kp, R_i0, R_i1⟩⟩
def f_OP_5 (N : Int) (a1 : Int) (s3 : Int) (s4 : Int) (s5 : Int) (s26 : Int) (s27 : Int) (s30 : Int) (s49 : Int) (t2 : Nat → Int) (t3 : Nat → Int) (t4 : Nat → Int) (t34 : Nat → Int) (t35 : Nat → Int) (t36 : Nat → Int) (t37 : Nat → Int) (t38 : Nat → Int) (t39 : Nat → Int) : Option (Int × Int × Int × Int × Int × Int × Int × (Nat → Int) × (Nat → Int) × (Nat → Int) × (Nat → Int) × (Nat → Int) × (Nat → Int)) :=
  zd8 (f_HS_child a1 s3 s26 s30 t2 t34 t35 t36) fun v71 v72 v73 v74 a75 a76 a77 a78 =>
  zd5 (f_HM_child a1 s4 s5 t3 t4) fun v81 v82 v83 a84 a85 =>
  some (v71, v81, v72, v82, v83, v73, v74, a75, a84, a85, a76, a77, a78)
set_option maxHeartbeats 4000000 in
theorem s_OP_5 (N : Int) (a1 : Int) (s3 : Int) (s4 : Int) (s5 : Int) (s26 : Int) (s27 : Int) (s30 : Int) (s49 : Int) (t2 : Nat → Int) (t3 : Nat → Int) (t4 : Nat → Int) (t34 : Nat → Int) (t35 : Nat → Int) (t36 : Nat → Int) (t37 : Nat → Int) (t38 : Nat → Int) (t39 : Nat → Int) (b_a1 : (-2147483648) ≤ a1 ∧ a1 ≤ 2147483647) (b_s3 : (-6) ≤ s3 ∧ s3 ≤ 0) (b_s26 : 0 ≤ s26 ∧ s26 ≤ 6) (b_s27 : 0 ≤ s27 ∧ s27 ≤ 6) (b_s49 : 0 ≤ s49 ∧ s49 ≤ 12) (h_t4 : RI t4) (h_t34 : zR t34 0 60) (h_t35 : zR t35 0 1) (h_t36 : zR t36 0 20) (h_t37 : zR t37 0 11) (h_t38 : zR t38 0 99) (h_t39 : zR t39 (-1) 10) (I_s30 : 0 ≤ s30 ∧ s30 ≤ N) (R_many : s49 = t4 0) (R_ch : s26 = t4 1) (R_pa : s27 = t4 2) (R_st : RV 3 153 s26 t34 t4) (R_ex : RV 3 154 s26 t35 t4) (R_tr : RV 3 155 s26 t36 t4) (R_pl : RV 1 171 s27 t37 t4) (R_te : RV 1 5 4 t38 t4) (R_go : RV 1 141 s49 t39 t4) : zok (f_OP_5 N a1 s3 s4 s5 s26 s27 s30 s49 t2 t3 t4 t34 t35 t36 t37 t38 t39) (fun o => (o.1 = o.2.1) ∧ ((-6) ≤ o.2.2.1 ∧ o.2.2.1 ≤ 0) ∧ (0 ≤ o.2.2.2.2.2.1 ∧ o.2.2.2.2.2.1 ≤ 6) ∧ (0 ≤ o.2.2.2.2.2.2.1 ∧ o.2.2.2.2.2.2.1 ≤ N + 6) ∧ zR o.2.2.2.2.2.2.2.2.2.2.1 0 60 ∧ zR o.2.2.2.2.2.2.2.2.2.2.2.1 0 1 ∧ zR o.2.2.2.2.2.2.2.2.2.2.2.2 0 20 ∧ RI o.2.2.2.2.2.2.2.2.2.1 ∧ (s49 = o.2.2.2.2.2.2.2.2.2.1 0) ∧ (o.2.2.2.2.2.1 = o.2.2.2.2.2.2.2.2.2.1 1) ∧ (s27 = o.2.2.2.2.2.2.2.2.2.1 2) ∧ (RV 3 153 o.2.2.2.2.2.1 o.2.2.2.2.2.2.2.2.2.2.1 o.2.2.2.2.2.2.2.2.2.1) ∧ (RV 3 154 o.2.2.2.2.2.1 o.2.2.2.2.2.2.2.2.2.2.2.1 o.2.2.2.2.2.2.2.2.2.1) ∧ (RV 3 155 o.2.2.2.2.2.1 o.2.2.2.2.2.2.2.2.2.2.2.2 o.2.2.2.2.2.2.2.2.2.1) ∧ (RV 1 171 s27 t37 o.2.2.2.2.2.2.2.2.2.1) ∧ (RV 1 5 4 t38 o.2.2.2.2.2.2.2.2.2.1) ∧ (RV 1 141 s49 t39 o.2.2.2.2.2.2.2.2.2.1)) := by
  unfold f_OP_5
  refine zk_dI8 ?_
  unfold f_HS_child
  refine zk_ifc (zci_lt (by omega) (by omega)) (fun hc => ?_) (fun hc => ?_)
  · first
    | (exfalso; omega)
    | (skip
       unfold f_HS_child_11
       refine zk_dI3 ?_
       unfold f_HS_refuse
       refine zk_nE (fun v1 h_v1 => ?_)
       refine zk_gv (by omega) (by decide) (fun v2 h_v2 => ?_)
       refine zk_n ?_
       refine zk_sv (by omega) (by decide) (fun a4 h_a4 => ?_)
       refine zk_rI3 ?_
       refine zk_rI8 ?_
       refine zk_dI5 ?_
       unfold f_HM_child
       refine zk_nE (fun v1_2 h_v1_2 => ?_)
       rw [zwi (by omega)] at h_v1_2
       replace h_v1_2 := h_v1_2.symm
       subst h_v1_2
       refine zk_d1 (s_HM_in _ _ _ (by omega) (by omega) (by omega)) (fun v2_2 hp => ?_)
       try dsimp only at hp
       have hpp0 := hp
       refine zk_ifc (zci_ner (by omega)) (fun hc_2 => ?_) (fun hc_2 => ?_)
       · first
         | (exfalso; omega)
         | (skip
            refine zk_gl 1 rfl (by decide) (by decide) (fun v3_2 h_v3_2 => ?_)
            have r_v3_2 := RI_1 h_t4
            refine zk_ifc (zci_ne (by omega) (by omega)) (fun hc_3 => ?_) (fun hc_3 => ?_)
            · first
              | (exfalso; omega)
              | (skip
                 refine zk_n ?_
                 refine zk_n ?_
                 refine zk_sv (by omega) (by decide) (fun a6 h_a6 => ?_)
                 have i_a6 : RI a6 := by rw [h_a6]; exact RIz_c h_t4 (by omega) (by omega)
                 refine zk_n ?_
                 refine zk_n ?_
                 refine zk_n ?_
                 refine zk_sv (by omega) (by decide) (fun a10 h_a10 => ?_)
                 have i_a10 : RI a10 := by rw [h_a10]; exact RIz_c i_a6 (by omega) (by omega)
                 refine zk_n ?_
                 refine zk_n ?_
                 refine zk_n ?_
                 refine zk_sv (by omega) (by decide) (fun a14 h_a14 => ?_)
                 have i_a14 : RI a14 := by rw [h_a14]; exact RIz_c i_a10 (by omega) (by omega)
                 refine zk_gl 1 rfl (by decide) (by decide) (fun v15 h_v15 => ?_)
                 have z_v15_a14 := zu_rd h_a14 (1)
                 have z_v15_a10 := zu_rd h_a10 (1)
                 have z_v15_a6 := zu_rd h_a6 (1)
                 have r_v15 := RI_1 i_a14
                 refine zk_n ?_
                 refine zk_sl 1 rfl (by decide) (by decide) (fun a17 h_a17 => ?_)
                 have i_a17 : RI a17 := by rw [h_a17]; exact RIz_1 i_a14 (by omega)
                 refine zk_d3 (s_HM_tell _ _ _ (by omega)) (fun v18 v19 a20 hp_2 => ?_)
                 try dsimp only at hp_2
                 obtain ⟨hp_2p0, hp_2p1⟩ := hp_2
                 refine zk_rI5 ?_
                 refine zk_ret ?_
                 try dsimp only
                 exact ⟨by omega, by omega, by omega, by omega, h_t34, h_t35, h_t36, i_a17, by first | omega | (simp only [h_a17, h_a14, h_a10, h_a6, h_a4, zu, ↓reduceIte]; (repeat' split) <;> omega), by first | omega | (simp only [h_a17, h_a14, h_a10, h_a6, h_a4, zu, ↓reduceIte]; (repeat' split) <;> omega), by first | omega | (simp only [h_a17, h_a14, h_a10, h_a6, h_a4, zu, ↓reduceIte]; (repeat' split) <;> omega), by (intro c hc; first | (have q := fun h => R_st c h; simp only [h_a17, h_a14, h_a10, h_a6, h_a4, zu, ↓reduceIte]; (repeat' split) <;> first | omega | (exact q (by omega))) | exact R_st c hc), by (intro c hc; first | (have q := fun h => R_ex c h; simp only [h_a17, h_a14, h_a10, h_a6, h_a4, zu, ↓reduceIte]; (repeat' split) <;> first | omega | (exact q (by omega))) | exact R_ex c hc), by (intro c hc; first | (have q := fun h => R_tr c h; simp only [h_a17, h_a14, h_a10, h_a6, h_a4, zu, ↓reduceIte]; (repeat' split) <;> first | omega | (exact q (by omega))) | exact R_tr c hc), by (intro c hc; first | (have q := fun h => R_pl c h; simp only [h_a17, h_a14, h_a10, h_a6, h_a4, zu, ↓reduceIte]; (repeat' split) <;> first | omega | (exact q (by omega))) | exact R_pl c hc), by (intro c hc; first | (have q := fun h => R_te c h; simp only [h_a17, h_a14, h_a10, h_a6, h_a4, zu, ↓reduceIte]; (repeat' split) <;> first | omega | (exact q (by omega))) | exact R_te c hc), by (intro c hc; first | (have q := fun h => R_go c h; simp only [h_a17, h_a14, h_a10, h_a6, h_a4, zu, ↓reduceIte]; (repeat' split) <;> first | omega | (exact q (by omega))) | exact R_go c hc)⟩)
            · first
              | (exfalso; omega)
              | (skip
                 refine zk_d3 (s_HM_tell _ _ _ (by omega)) (fun v21 v22 a23 hp_3 => ?_)
                 try dsimp only at hp_3
                 obtain ⟨hp_3p0, hp_3p1⟩ := hp_3
                 refine zk_rI5 ?_
                 refine zk_ret ?_
                 try dsimp only
                 exact ⟨by omega, by omega, by omega, by omega, h_t34, h_t35, h_t36, h_t4, by first | omega | (simp only [h_a4, zu, ↓reduceIte]; (repeat' split) <;> omega), by first | omega | (simp only [h_a4, zu, ↓reduceIte]; (repeat' split) <;> omega), by first | omega | (simp only [h_a4, zu, ↓reduceIte]; (repeat' split) <;> omega), by (intro c hc; first | (have q := fun h => R_st c h; simp only [h_a4, zu, ↓reduceIte]; (repeat' split) <;> first | omega | (exact q (by omega))) | exact R_st c hc), by (intro c hc; first | (have q := fun h => R_ex c h; simp only [h_a4, zu, ↓reduceIte]; (repeat' split) <;> first | omega | (exact q (by omega))) | exact R_ex c hc), by (intro c hc; first | (have q := fun h => R_tr c h; simp only [h_a4, zu, ↓reduceIte]; (repeat' split) <;> first | omega | (exact q (by omega))) | exact R_tr c hc), by (intro c hc; first | (have q := fun h => R_pl c h; simp only [h_a4, zu, ↓reduceIte]; (repeat' split) <;> first | omega | (exact q (by omega))) | exact R_pl c hc), by (intro c hc; first | (have q := fun h => R_te c h; simp only [h_a4, zu, ↓reduceIte]; (repeat' split) <;> first | omega | (exact q (by omega))) | exact R_te c hc), by (intro c hc; first | (have q := fun h => R_go c h; simp only [h_a4, zu, ↓reduceIte]; (repeat' split) <;> first | omega | (exact q (by omega))) | exact R_go c hc)⟩))
       · first
         | (exfalso; omega)
         | (skip
            refine zk_d3 (s_HM_tell _ _ _ (by omega)) (fun v24 v25 a26 hp_4 => ?_)
            try dsimp only at hp_4
            obtain ⟨hp_4p0, hp_4p1⟩ := hp_4
            refine zk_rI5 ?_
            refine zk_ret ?_
            try dsimp only
            exact ⟨by omega, by omega, by omega, by omega, h_t34, h_t35, h_t36, h_t4, by first | omega | (simp only [h_a4, zu, ↓reduceIte]; (repeat' split) <;> omega), by first | omega | (simp only [h_a4, zu, ↓reduceIte]; (repeat' split) <;> omega), by first | omega | (simp only [h_a4, zu, ↓reduceIte]; (repeat' split) <;> omega), by (intro c hc; first | (have q := fun h => R_st c h; simp only [h_a4, zu, ↓reduceIte]; (repeat' split) <;> first | omega | (exact q (by omega))) | exact R_st c hc), by (intro c hc; first | (have q := fun h => R_ex c h; simp only [h_a4, zu, ↓reduceIte]; (repeat' split) <;> first | omega | (exact q (by omega))) | exact R_ex c hc), by (intro c hc; first | (have q := fun h => R_tr c h; simp only [h_a4, zu, ↓reduceIte]; (repeat' split) <;> first | omega | (exact q (by omega))) | exact R_tr c hc), by (intro c hc; first | (have q := fun h => R_pl c h; simp only [h_a4, zu, ↓reduceIte]; (repeat' split) <;> first | omega | (exact q (by omega))) | exact R_pl c hc), by (intro c hc; first | (have q := fun h => R_te c h; simp only [h_a4, zu, ↓reduceIte]; (repeat' split) <;> first | omega | (exact q (by omega))) | exact R_te c hc), by (intro c hc; first | (have q := fun h => R_go c h; simp only [h_a4, zu, ↓reduceIte]; (repeat' split) <;> first | omega | (exact q (by omega))) | exact R_go c hc)⟩))
  · first
    | (exfalso; omega)
    | (skip
       refine zk_ifc (zci_le (by omega) (by omega)) (fun hc_4 => ?_) (fun hc_4 => ?_)
       · first
         | (exfalso; omega)
         | (skip
            refine zk_ifc (zci_lt (by omega) (by omega)) (fun hc_5 => ?_) (fun hc_5 => ?_)
            · first
              | (exfalso; omega)
              | (skip
                 refine zk_dI5 ?_
                 unfold f_Hill_enroll
                 refine zk_ifc (zci_lt (by omega) (by omega)) (fun hc_6 => ?_) (fun hc_6 => ?_)
                 · first
                   | (exfalso; omega)
                   | (skip
                      refine zk_sv (by omega) (by decide) (fun a1_2 h_a1_2 => ?_)
                      have i_a1_2 : zR a1_2 0 60 := by rw [h_a1_2]; exact zR_zu h_t34 (by decide) (by decide) (by omega)
                      refine zk_sv (by omega) (by decide) (fun a2 h_a2 => ?_)
                      have i_a2 : zR a2 0 1 := by rw [h_a2]; exact zR_zu h_t35 (by decide) (by decide) (by omega)
                      refine zk_sv (by omega) (by decide) (fun a3 h_a3 => ?_)
                      have i_a3 : zR a3 0 20 := by rw [h_a3]; exact zR_zu h_t36 (by decide) (by decide) (by omega)
                      refine zk_n ?_
                      refine zk_rI5 ?_
                      refine zk_dI3 ?_
                      unfold f_HS_accept
                      refine zk_n ?_
                      refine zk_rI3 ?_
                      refine zk_rI8 ?_
                      refine zk_dI5 ?_
                      unfold f_HM_child
                      refine zk_nE (fun v1_4 h_v1_4 => ?_)
                      rw [zwi (by omega)] at h_v1_4
                      replace h_v1_4 := h_v1_4.symm
                      subst h_v1_4
                      refine zk_d1 (s_HM_in _ _ _ (by omega) (by omega) (by omega)) (fun v2_3 hp_5 => ?_)
                      try dsimp only at hp_5
                      have hp_5p0 := hp_5
                      refine zk_ifc (zci_ner (by omega)) (fun hc_7 => ?_) (fun hc_7 => ?_)
                      · first
                        | (exfalso; omega)
                        | (skip
                           refine zk_gl 1 rfl (by decide) (by decide) (fun v3_3 h_v3_3 => ?_)
                           have r_v3_3 := RI_1 h_t4
                           refine zk_ifc (zci_ne (by omega) (by omega)) (fun hc_8 => ?_) (fun hc_8 => ?_)
                           · first
                             | (exfalso; omega)
                             | (skip
                                refine zk_n ?_
                                refine zk_n ?_
                                refine zk_sv (by omega) (by decide) (fun a6_2 h_a6_2 => ?_)
                                have i_a6_2 : RI a6_2 := by rw [h_a6_2]; exact RIz_c h_t4 (by omega) (by omega)
                                refine zk_n ?_
                                refine zk_n ?_
                                refine zk_n ?_
                                refine zk_sv (by omega) (by decide) (fun a10_2 h_a10_2 => ?_)
                                have i_a10_2 : RI a10_2 := by rw [h_a10_2]; exact RIz_c i_a6_2 (by omega) (by omega)
                                refine zk_n ?_
                                refine zk_n ?_
                                refine zk_n ?_
                                refine zk_sv (by omega) (by decide) (fun a14_2 h_a14_2 => ?_)
                                have i_a14_2 : RI a14_2 := by rw [h_a14_2]; exact RIz_c i_a10_2 (by omega) (by omega)
                                refine zk_gl 1 rfl (by decide) (by decide) (fun v15_2 h_v15_2 => ?_)
                                have z_v15_2_a14_2 := zu_rd h_a14_2 (1)
                                have z_v15_2_a10_2 := zu_rd h_a10_2 (1)
                                have z_v15_2_a6_2 := zu_rd h_a6_2 (1)
                                have r_v15_2 := RI_1 i_a14_2
                                refine zk_n ?_
                                refine zk_sl 1 rfl (by decide) (by decide) (fun a17_2 h_a17_2 => ?_)
                                have i_a17_2 : RI a17_2 := by rw [h_a17_2]; exact RIz_1 i_a14_2 (by omega)
                                refine zk_d3 (s_HM_tell _ _ _ (by omega)) (fun v18_2 v19_2 a20_2 hp_6 => ?_)
                                try dsimp only at hp_6
                                obtain ⟨hp_6p0, hp_6p1⟩ := hp_6
                                refine zk_rI5 ?_
                                refine zk_ret ?_
                                try dsimp only
                                exact ⟨by omega, by omega, by omega, by omega, i_a1_2, i_a2, i_a3, i_a17_2, by first | omega | (simp only [h_a17_2, h_a14_2, h_a10_2, h_a6_2, h_a3, h_a2, h_a1_2, zu, ↓reduceIte]; (repeat' split) <;> omega), by first | omega | (simp only [h_a17_2, h_a14_2, h_a10_2, h_a6_2, h_a3, h_a2, h_a1_2, zu, ↓reduceIte]; (repeat' split) <;> omega), by first | omega | (simp only [h_a17_2, h_a14_2, h_a10_2, h_a6_2, h_a3, h_a2, h_a1_2, zu, ↓reduceIte]; (repeat' split) <;> omega), by (intro c hc; first | (have q := fun h => R_st c h; simp only [h_a17_2, h_a14_2, h_a10_2, h_a6_2, h_a3, h_a2, h_a1_2, zu, ↓reduceIte]; (repeat' split) <;> first | omega | (exact q (by omega))) | exact R_st c hc), by (intro c hc; first | (have q := fun h => R_ex c h; simp only [h_a17_2, h_a14_2, h_a10_2, h_a6_2, h_a3, h_a2, h_a1_2, zu, ↓reduceIte]; (repeat' split) <;> first | omega | (exact q (by omega))) | exact R_ex c hc), by (intro c hc; first | (have q := fun h => R_tr c h; simp only [h_a17_2, h_a14_2, h_a10_2, h_a6_2, h_a3, h_a2, h_a1_2, zu, ↓reduceIte]; (repeat' split) <;> first | omega | (exact q (by omega))) | exact R_tr c hc), by (intro c hc; first | (have q := fun h => R_pl c h; simp only [h_a17_2, h_a14_2, h_a10_2, h_a6_2, h_a3, h_a2, h_a1_2, zu, ↓reduceIte]; (repeat' split) <;> first | omega | (exact q (by omega))) | exact R_pl c hc), by (intro c hc; first | (have q := fun h => R_te c h; simp only [h_a17_2, h_a14_2, h_a10_2, h_a6_2, h_a3, h_a2, h_a1_2, zu, ↓reduceIte]; (repeat' split) <;> first | omega | (exact q (by omega))) | exact R_te c hc), by (intro c hc; first | (have q := fun h => R_go c h; simp only [h_a17_2, h_a14_2, h_a10_2, h_a6_2, h_a3, h_a2, h_a1_2, zu, ↓reduceIte]; (repeat' split) <;> first | omega | (exact q (by omega))) | exact R_go c hc)⟩)
                           · first
                             | (exfalso; omega)
                             | (skip
                                refine zk_d3 (s_HM_tell _ _ _ (by omega)) (fun v21_2 v22_2 a23_2 hp_7 => ?_)
                                try dsimp only at hp_7
                                obtain ⟨hp_7p0, hp_7p1⟩ := hp_7
                                refine zk_rI5 ?_
                                refine zk_ret ?_
                                try dsimp only
                                exact ⟨by omega, by omega, by omega, by omega, i_a1_2, i_a2, i_a3, h_t4, by first | omega | (simp only [h_a3, h_a2, h_a1_2, zu, ↓reduceIte]; (repeat' split) <;> omega), by first | omega | (simp only [h_a3, h_a2, h_a1_2, zu, ↓reduceIte]; (repeat' split) <;> omega), by first | omega | (simp only [h_a3, h_a2, h_a1_2, zu, ↓reduceIte]; (repeat' split) <;> omega), by (intro c hc; first | (have q := fun h => R_st c h; simp only [h_a3, h_a2, h_a1_2, zu, ↓reduceIte]; (repeat' split) <;> first | omega | (exact q (by omega))) | exact R_st c hc), by (intro c hc; first | (have q := fun h => R_ex c h; simp only [h_a3, h_a2, h_a1_2, zu, ↓reduceIte]; (repeat' split) <;> first | omega | (exact q (by omega))) | exact R_ex c hc), by (intro c hc; first | (have q := fun h => R_tr c h; simp only [h_a3, h_a2, h_a1_2, zu, ↓reduceIte]; (repeat' split) <;> first | omega | (exact q (by omega))) | exact R_tr c hc), by (intro c hc; first | (have q := fun h => R_pl c h; simp only [h_a3, h_a2, h_a1_2, zu, ↓reduceIte]; (repeat' split) <;> first | omega | (exact q (by omega))) | exact R_pl c hc), by (intro c hc; first | (have q := fun h => R_te c h; simp only [h_a3, h_a2, h_a1_2, zu, ↓reduceIte]; (repeat' split) <;> first | omega | (exact q (by omega))) | exact R_te c hc), by (intro c hc; first | (have q := fun h => R_go c h; simp only [h_a3, h_a2, h_a1_2, zu, ↓reduceIte]; (repeat' split) <;> first | omega | (exact q (by omega))) | exact R_go c hc)⟩))
                      · first
                        | (exfalso; omega)
                        | (skip
                           refine zk_d3 (s_HM_tell _ _ _ (by omega)) (fun v24_2 v25_2 a26_2 hp_8 => ?_)
                           try dsimp only at hp_8
                           obtain ⟨hp_8p0, hp_8p1⟩ := hp_8
                           refine zk_rI5 ?_
                           refine zk_ret ?_
                           try dsimp only
                           exact ⟨by omega, by omega, by omega, by omega, i_a1_2, i_a2, i_a3, h_t4, by first | omega | (simp only [h_a3, h_a2, h_a1_2, zu, ↓reduceIte]; (repeat' split) <;> omega), by first | omega | (simp only [h_a3, h_a2, h_a1_2, zu, ↓reduceIte]; (repeat' split) <;> omega), by first | omega | (simp only [h_a3, h_a2, h_a1_2, zu, ↓reduceIte]; (repeat' split) <;> omega), by (intro c hc; first | (have q := fun h => R_st c h; simp only [h_a3, h_a2, h_a1_2, zu, ↓reduceIte]; (repeat' split) <;> first | omega | (exact q (by omega))) | exact R_st c hc), by (intro c hc; first | (have q := fun h => R_ex c h; simp only [h_a3, h_a2, h_a1_2, zu, ↓reduceIte]; (repeat' split) <;> first | omega | (exact q (by omega))) | exact R_ex c hc), by (intro c hc; first | (have q := fun h => R_tr c h; simp only [h_a3, h_a2, h_a1_2, zu, ↓reduceIte]; (repeat' split) <;> first | omega | (exact q (by omega))) | exact R_tr c hc), by (intro c hc; first | (have q := fun h => R_pl c h; simp only [h_a3, h_a2, h_a1_2, zu, ↓reduceIte]; (repeat' split) <;> first | omega | (exact q (by omega))) | exact R_pl c hc), by (intro c hc; first | (have q := fun h => R_te c h; simp only [h_a3, h_a2, h_a1_2, zu, ↓reduceIte]; (repeat' split) <;> first | omega | (exact q (by omega))) | exact R_te c hc), by (intro c hc; first | (have q := fun h => R_go c h; simp only [h_a3, h_a2, h_a1_2, zu, ↓reduceIte]; (repeat' split) <;> first | omega | (exact q (by omega))) | exact R_go c hc)⟩))
                 · first
                   | (exfalso; omega)
                   | (skip
                      refine zk_rI5 ?_
                      refine zk_dI3 ?_
                      unfold f_HS_accept
                      refine zk_n ?_
                      refine zk_rI3 ?_
                      refine zk_rI8 ?_
                      refine zk_dI5 ?_
                      unfold f_HM_child
                      refine zk_nE (fun v1_6 h_v1_6 => ?_)
                      rw [zwi (by omega)] at h_v1_6
                      replace h_v1_6 := h_v1_6.symm
                      subst h_v1_6
                      refine zk_d1 (s_HM_in _ _ _ (by omega) (by omega) (by omega)) (fun v2_4 hp_9 => ?_)
                      try dsimp only at hp_9
                      have hp_9p0 := hp_9
                      refine zk_ifc (zci_ner (by omega)) (fun hc_9 => ?_) (fun hc_9 => ?_)
                      · first
                        | (exfalso; omega)
                        | (skip
                           refine zk_gl 1 rfl (by decide) (by decide) (fun v3_4 h_v3_4 => ?_)
                           have r_v3_4 := RI_1 h_t4
                           refine zk_ifc (zci_ne (by omega) (by omega)) (fun hc_10 => ?_) (fun hc_10 => ?_)
                           · first
                             | (exfalso; omega)
                             | (skip
                                refine zk_n ?_
                                refine zk_n ?_
                                refine zk_sv (by omega) (by decide) (fun a6_3 h_a6_3 => ?_)
                                have i_a6_3 : RI a6_3 := by rw [h_a6_3]; exact RIz_c h_t4 (by omega) (by omega)
                                refine zk_n ?_
                                refine zk_n ?_
                                refine zk_n ?_
                                refine zk_sv (by omega) (by decide) (fun a10_3 h_a10_3 => ?_)
                                have i_a10_3 : RI a10_3 := by rw [h_a10_3]; exact RIz_c i_a6_3 (by omega) (by omega)
                                refine zk_n ?_
                                refine zk_n ?_
                                refine zk_n ?_
                                refine zk_sv (by omega) (by decide) (fun a14_3 h_a14_3 => ?_)
                                have i_a14_3 : RI a14_3 := by rw [h_a14_3]; exact RIz_c i_a10_3 (by omega) (by omega)
                                refine zk_gl 1 rfl (by decide) (by decide) (fun v15_3 h_v15_3 => ?_)
                                have z_v15_3_a14_3 := zu_rd h_a14_3 (1)
                                have z_v15_3_a10_3 := zu_rd h_a10_3 (1)
                                have z_v15_3_a6_3 := zu_rd h_a6_3 (1)
                                have r_v15_3 := RI_1 i_a14_3
                                refine zk_n ?_
                                refine zk_sl 1 rfl (by decide) (by decide) (fun a17_3 h_a17_3 => ?_)
                                have i_a17_3 : RI a17_3 := by rw [h_a17_3]; exact RIz_1 i_a14_3 (by omega)
                                refine zk_d3 (s_HM_tell _ _ _ (by omega)) (fun v18_3 v19_3 a20_3 hp_10 => ?_)
                                try dsimp only at hp_10
                                obtain ⟨hp_10p0, hp_10p1⟩ := hp_10
                                refine zk_rI5 ?_
                                refine zk_ret ?_
                                try dsimp only
                                exact ⟨by omega, by omega, by omega, by omega, h_t34, h_t35, h_t36, i_a17_3, by first | omega | (simp only [h_a17_3, h_a14_3, h_a10_3, h_a6_3, zu, ↓reduceIte]; (repeat' split) <;> omega), by first | omega | (simp only [h_a17_3, h_a14_3, h_a10_3, h_a6_3, zu, ↓reduceIte]; (repeat' split) <;> omega), by first | omega | (simp only [h_a17_3, h_a14_3, h_a10_3, h_a6_3, zu, ↓reduceIte]; (repeat' split) <;> omega), by (intro c hc; first | (have q := fun h => R_st c h; simp only [h_a17_3, h_a14_3, h_a10_3, h_a6_3, zu, ↓reduceIte]; (repeat' split) <;> first | omega | (exact q (by omega))) | exact R_st c hc), by (intro c hc; first | (have q := fun h => R_ex c h; simp only [h_a17_3, h_a14_3, h_a10_3, h_a6_3, zu, ↓reduceIte]; (repeat' split) <;> first | omega | (exact q (by omega))) | exact R_ex c hc), by (intro c hc; first | (have q := fun h => R_tr c h; simp only [h_a17_3, h_a14_3, h_a10_3, h_a6_3, zu, ↓reduceIte]; (repeat' split) <;> first | omega | (exact q (by omega))) | exact R_tr c hc), by (intro c hc; first | (have q := fun h => R_pl c h; simp only [h_a17_3, h_a14_3, h_a10_3, h_a6_3, zu, ↓reduceIte]; (repeat' split) <;> first | omega | (exact q (by omega))) | exact R_pl c hc), by (intro c hc; first | (have q := fun h => R_te c h; simp only [h_a17_3, h_a14_3, h_a10_3, h_a6_3, zu, ↓reduceIte]; (repeat' split) <;> first | omega | (exact q (by omega))) | exact R_te c hc), by (intro c hc; first | (have q := fun h => R_go c h; simp only [h_a17_3, h_a14_3, h_a10_3, h_a6_3, zu, ↓reduceIte]; (repeat' split) <;> first | omega | (exact q (by omega))) | exact R_go c hc)⟩)
                           · first
                             | (exfalso; omega)
                             | (skip
                                refine zk_d3 (s_HM_tell _ _ _ (by omega)) (fun v21_3 v22_3 a23_3 hp_11 => ?_)
                                try dsimp only at hp_11
                                obtain ⟨hp_11p0, hp_11p1⟩ := hp_11
                                refine zk_rI5 ?_
                                refine zk_ret ?_
                                try dsimp only
                                exact ⟨by omega, by omega, by omega, by omega, h_t34, h_t35, h_t36, h_t4, by first | omega | (simp only [zu_eq, zu, ↓reduceIte]; (repeat' split) <;> omega), by first | omega | (simp only [zu_eq, zu, ↓reduceIte]; (repeat' split) <;> omega), by first | omega | (simp only [zu_eq, zu, ↓reduceIte]; (repeat' split) <;> omega), by (intro c hc; first | (have q := fun h => R_st c h; simp only [zu_eq, zu, ↓reduceIte]; (repeat' split) <;> first | omega | (exact q (by omega))) | exact R_st c hc), by (intro c hc; first | (have q := fun h => R_ex c h; simp only [zu_eq, zu, ↓reduceIte]; (repeat' split) <;> first | omega | (exact q (by omega))) | exact R_ex c hc), by (intro c hc; first | (have q := fun h => R_tr c h; simp only [zu_eq, zu, ↓reduceIte]; (repeat' split) <;> first | omega | (exact q (by omega))) | exact R_tr c hc), by (intro c hc; first | (have q := fun h => R_pl c h; simp only [zu_eq, zu, ↓reduceIte]; (repeat' split) <;> first | omega | (exact q (by omega))) | exact R_pl c hc), by (intro c hc; first | (have q := fun h => R_te c h; simp only [zu_eq, zu, ↓reduceIte]; (repeat' split) <;> first | omega | (exact q (by omega))) | exact R_te c hc), by (intro c hc; first | (have q := fun h => R_go c h; simp only [zu_eq, zu, ↓reduceIte]; (repeat' split) <;> first | omega | (exact q (by omega))) | exact R_go c hc)⟩))
                      · first
                        | (exfalso; omega)
                        | (skip
                           refine zk_d3 (s_HM_tell _ _ _ (by omega)) (fun v24_3 v25_3 a26_3 hp_12 => ?_)
                           try dsimp only at hp_12
                           obtain ⟨hp_12p0, hp_12p1⟩ := hp_12
                           refine zk_rI5 ?_
                           refine zk_ret ?_
                           try dsimp only
                           exact ⟨by omega, by omega, by omega, by omega, h_t34, h_t35, h_t36, h_t4, by first | omega | (simp only [zu_eq, zu, ↓reduceIte]; (repeat' split) <;> omega), by first | omega | (simp only [zu_eq, zu, ↓reduceIte]; (repeat' split) <;> omega), by first | omega | (simp only [zu_eq, zu, ↓reduceIte]; (repeat' split) <;> omega), by (intro c hc; first | (have q := fun h => R_st c h; simp only [zu_eq, zu, ↓reduceIte]; (repeat' split) <;> first | omega | (exact q (by omega))) | exact R_st c hc), by (intro c hc; first | (have q := fun h => R_ex c h; simp only [zu_eq, zu, ↓reduceIte]; (repeat' split) <;> first | omega | (exact q (by omega))) | exact R_ex c hc), by (intro c hc; first | (have q := fun h => R_tr c h; simp only [zu_eq, zu, ↓reduceIte]; (repeat' split) <;> first | omega | (exact q (by omega))) | exact R_tr c hc), by (intro c hc; first | (have q := fun h => R_pl c h; simp only [zu_eq, zu, ↓reduceIte]; (repeat' split) <;> first | omega | (exact q (by omega))) | exact R_pl c hc), by (intro c hc; first | (have q := fun h => R_te c h; simp only [zu_eq, zu, ↓reduceIte]; (repeat' split) <;> first | omega | (exact q (by omega))) | exact R_te c hc), by (intro c hc; first | (have q := fun h => R_go c h; simp only [zu_eq, zu, ↓reduceIte]; (repeat' split) <;> first | omega | (exact q (by omega))) | exact R_go c hc)⟩)))
            · first
              | (exfalso; omega)
              | (skip
                 refine zk_dI3 ?_
                 unfold f_HS_refuse
                 refine zk_nE (fun v1_7 h_v1_7 => ?_)
                 refine zk_gv (by omega) (by decide) (fun v2_5 h_v2_5 => ?_)
                 refine zk_n ?_
                 refine zk_sv (by omega) (by decide) (fun a4_2 h_a4_2 => ?_)
                 refine zk_rI3 ?_
                 refine zk_rI8 ?_
                 refine zk_dI5 ?_
                 unfold f_HM_child
                 refine zk_nE (fun v1_8 h_v1_8 => ?_)
                 rw [zwi (by omega)] at h_v1_8
                 replace h_v1_8 := h_v1_8.symm
                 subst h_v1_8
                 refine zk_d1 (s_HM_in _ _ _ (by omega) (by omega) (by omega)) (fun v2_6 hp_13 => ?_)
                 try dsimp only at hp_13
                 have hp_13p0 := hp_13
                 refine zk_ifc (zci_ner (by omega)) (fun hc_11 => ?_) (fun hc_11 => ?_)
                 · first
                   | (exfalso; omega)
                   | (skip
                      refine zk_gl 1 rfl (by decide) (by decide) (fun v3_6 h_v3_6 => ?_)
                      have r_v3_6 := RI_1 h_t4
                      refine zk_ifc (zci_ne (by omega) (by omega)) (fun hc_12 => ?_) (fun hc_12 => ?_)
                      · first
                        | (exfalso; omega)
                        | (skip
                           refine zk_n ?_
                           refine zk_n ?_
                           refine zk_sv (by omega) (by decide) (fun a6_4 h_a6_4 => ?_)
                           have i_a6_4 : RI a6_4 := by rw [h_a6_4]; exact RIz_c h_t4 (by omega) (by omega)
                           refine zk_n ?_
                           refine zk_n ?_
                           refine zk_n ?_
                           refine zk_sv (by omega) (by decide) (fun a10_4 h_a10_4 => ?_)
                           have i_a10_4 : RI a10_4 := by rw [h_a10_4]; exact RIz_c i_a6_4 (by omega) (by omega)
                           refine zk_n ?_
                           refine zk_n ?_
                           refine zk_n ?_
                           refine zk_sv (by omega) (by decide) (fun a14_4 h_a14_4 => ?_)
                           have i_a14_4 : RI a14_4 := by rw [h_a14_4]; exact RIz_c i_a10_4 (by omega) (by omega)
                           refine zk_gl 1 rfl (by decide) (by decide) (fun v15_4 h_v15_4 => ?_)
                           have z_v15_4_a14_4 := zu_rd h_a14_4 (1)
                           have z_v15_4_a10_4 := zu_rd h_a10_4 (1)
                           have z_v15_4_a6_4 := zu_rd h_a6_4 (1)
                           have r_v15_4 := RI_1 i_a14_4
                           refine zk_n ?_
                           refine zk_sl 1 rfl (by decide) (by decide) (fun a17_4 h_a17_4 => ?_)
                           have i_a17_4 : RI a17_4 := by rw [h_a17_4]; exact RIz_1 i_a14_4 (by omega)
                           refine zk_d3 (s_HM_tell _ _ _ (by omega)) (fun v18_4 v19_4 a20_4 hp_14 => ?_)
                           try dsimp only at hp_14
                           obtain ⟨hp_14p0, hp_14p1⟩ := hp_14
                           refine zk_rI5 ?_
                           refine zk_ret ?_
                           try dsimp only
                           exact ⟨by omega, by omega, by omega, by omega, h_t34, h_t35, h_t36, i_a17_4, by first | omega | (simp only [h_a17_4, h_a14_4, h_a10_4, h_a6_4, h_a4_2, zu, ↓reduceIte]; (repeat' split) <;> omega), by first | omega | (simp only [h_a17_4, h_a14_4, h_a10_4, h_a6_4, h_a4_2, zu, ↓reduceIte]; (repeat' split) <;> omega), by first | omega | (simp only [h_a17_4, h_a14_4, h_a10_4, h_a6_4, h_a4_2, zu, ↓reduceIte]; (repeat' split) <;> omega), by (intro c hc; first | (have q := fun h => R_st c h; simp only [h_a17_4, h_a14_4, h_a10_4, h_a6_4, h_a4_2, zu, ↓reduceIte]; (repeat' split) <;> first | omega | (exact q (by omega))) | exact R_st c hc), by (intro c hc; first | (have q := fun h => R_ex c h; simp only [h_a17_4, h_a14_4, h_a10_4, h_a6_4, h_a4_2, zu, ↓reduceIte]; (repeat' split) <;> first | omega | (exact q (by omega))) | exact R_ex c hc), by (intro c hc; first | (have q := fun h => R_tr c h; simp only [h_a17_4, h_a14_4, h_a10_4, h_a6_4, h_a4_2, zu, ↓reduceIte]; (repeat' split) <;> first | omega | (exact q (by omega))) | exact R_tr c hc), by (intro c hc; first | (have q := fun h => R_pl c h; simp only [h_a17_4, h_a14_4, h_a10_4, h_a6_4, h_a4_2, zu, ↓reduceIte]; (repeat' split) <;> first | omega | (exact q (by omega))) | exact R_pl c hc), by (intro c hc; first | (have q := fun h => R_te c h; simp only [h_a17_4, h_a14_4, h_a10_4, h_a6_4, h_a4_2, zu, ↓reduceIte]; (repeat' split) <;> first | omega | (exact q (by omega))) | exact R_te c hc), by (intro c hc; first | (have q := fun h => R_go c h; simp only [h_a17_4, h_a14_4, h_a10_4, h_a6_4, h_a4_2, zu, ↓reduceIte]; (repeat' split) <;> first | omega | (exact q (by omega))) | exact R_go c hc)⟩)
                      · first
                        | (exfalso; omega)
                        | (skip
                           refine zk_d3 (s_HM_tell _ _ _ (by omega)) (fun v21_4 v22_4 a23_4 hp_15 => ?_)
                           try dsimp only at hp_15
                           obtain ⟨hp_15p0, hp_15p1⟩ := hp_15
                           refine zk_rI5 ?_
                           refine zk_ret ?_
                           try dsimp only
                           exact ⟨by omega, by omega, by omega, by omega, h_t34, h_t35, h_t36, h_t4, by first | omega | (simp only [h_a4_2, zu, ↓reduceIte]; (repeat' split) <;> omega), by first | omega | (simp only [h_a4_2, zu, ↓reduceIte]; (repeat' split) <;> omega), by first | omega | (simp only [h_a4_2, zu, ↓reduceIte]; (repeat' split) <;> omega), by (intro c hc; first | (have q := fun h => R_st c h; simp only [h_a4_2, zu, ↓reduceIte]; (repeat' split) <;> first | omega | (exact q (by omega))) | exact R_st c hc), by (intro c hc; first | (have q := fun h => R_ex c h; simp only [h_a4_2, zu, ↓reduceIte]; (repeat' split) <;> first | omega | (exact q (by omega))) | exact R_ex c hc), by (intro c hc; first | (have q := fun h => R_tr c h; simp only [h_a4_2, zu, ↓reduceIte]; (repeat' split) <;> first | omega | (exact q (by omega))) | exact R_tr c hc), by (intro c hc; first | (have q := fun h => R_pl c h; simp only [h_a4_2, zu, ↓reduceIte]; (repeat' split) <;> first | omega | (exact q (by omega))) | exact R_pl c hc), by (intro c hc; first | (have q := fun h => R_te c h; simp only [h_a4_2, zu, ↓reduceIte]; (repeat' split) <;> first | omega | (exact q (by omega))) | exact R_te c hc), by (intro c hc; first | (have q := fun h => R_go c h; simp only [h_a4_2, zu, ↓reduceIte]; (repeat' split) <;> first | omega | (exact q (by omega))) | exact R_go c hc)⟩))
                 · first
                   | (exfalso; omega)
                   | (skip
                      refine zk_d3 (s_HM_tell _ _ _ (by omega)) (fun v24_4 v25_4 a26_4 hp_16 => ?_)
                      try dsimp only at hp_16
                      obtain ⟨hp_16p0, hp_16p1⟩ := hp_16
                      refine zk_rI5 ?_
                      refine zk_ret ?_
                      try dsimp only
                      exact ⟨by omega, by omega, by omega, by omega, h_t34, h_t35, h_t36, h_t4, by first | omega | (simp only [h_a4_2, zu, ↓reduceIte]; (repeat' split) <;> omega), by first | omega | (simp only [h_a4_2, zu, ↓reduceIte]; (repeat' split) <;> omega), by first | omega | (simp only [h_a4_2, zu, ↓reduceIte]; (repeat' split) <;> omega), by (intro c hc; first | (have q := fun h => R_st c h; simp only [h_a4_2, zu, ↓reduceIte]; (repeat' split) <;> first | omega | (exact q (by omega))) | exact R_st c hc), by (intro c hc; first | (have q := fun h => R_ex c h; simp only [h_a4_2, zu, ↓reduceIte]; (repeat' split) <;> first | omega | (exact q (by omega))) | exact R_ex c hc), by (intro c hc; first | (have q := fun h => R_tr c h; simp only [h_a4_2, zu, ↓reduceIte]; (repeat' split) <;> first | omega | (exact q (by omega))) | exact R_tr c hc), by (intro c hc; first | (have q := fun h => R_pl c h; simp only [h_a4_2, zu, ↓reduceIte]; (repeat' split) <;> first | omega | (exact q (by omega))) | exact R_pl c hc), by (intro c hc; first | (have q := fun h => R_te c h; simp only [h_a4_2, zu, ↓reduceIte]; (repeat' split) <;> first | omega | (exact q (by omega))) | exact R_te c hc), by (intro c hc; first | (have q := fun h => R_go c h; simp only [h_a4_2, zu, ↓reduceIte]; (repeat' split) <;> first | omega | (exact q (by omega))) | exact R_go c hc)⟩)))
       · first
         | (exfalso; omega)
         | (skip
            unfold f_HS_child_11
            refine zk_dI3 ?_
            unfold f_HS_refuse
            refine zk_nE (fun v1_9 h_v1_9 => ?_)
            refine zk_gv (by omega) (by decide) (fun v2_7 h_v2_7 => ?_)
            refine zk_n ?_
            refine zk_sv (by omega) (by decide) (fun a4_3 h_a4_3 => ?_)
            refine zk_rI3 ?_
            refine zk_rI8 ?_
            refine zk_dI5 ?_
            unfold f_HM_child
            refine zk_nE (fun v1_10 h_v1_10 => ?_)
            rw [zwi (by omega)] at h_v1_10
            replace h_v1_10 := h_v1_10.symm
            subst h_v1_10
            refine zk_d1 (s_HM_in _ _ _ (by omega) (by omega) (by omega)) (fun v2_8 hp_17 => ?_)
            try dsimp only at hp_17
            have hp_17p0 := hp_17
            refine zk_ifc (zci_ner (by omega)) (fun hc_13 => ?_) (fun hc_13 => ?_)
            · first
              | (exfalso; omega)
              | (skip
                 refine zk_gl 1 rfl (by decide) (by decide) (fun v3_8 h_v3_8 => ?_)
                 have r_v3_8 := RI_1 h_t4
                 refine zk_ifc (zci_ne (by omega) (by omega)) (fun hc_14 => ?_) (fun hc_14 => ?_)
                 · first
                   | (exfalso; omega)
                   | (skip
                      refine zk_n ?_
                      refine zk_n ?_
                      refine zk_sv (by omega) (by decide) (fun a6_5 h_a6_5 => ?_)
                      have i_a6_5 : RI a6_5 := by rw [h_a6_5]; exact RIz_c h_t4 (by omega) (by omega)
                      refine zk_n ?_
                      refine zk_n ?_
                      refine zk_n ?_
                      refine zk_sv (by omega) (by decide) (fun a10_5 h_a10_5 => ?_)
                      have i_a10_5 : RI a10_5 := by rw [h_a10_5]; exact RIz_c i_a6_5 (by omega) (by omega)
                      refine zk_n ?_
                      refine zk_n ?_
                      refine zk_n ?_
                      refine zk_sv (by omega) (by decide) (fun a14_5 h_a14_5 => ?_)
                      have i_a14_5 : RI a14_5 := by rw [h_a14_5]; exact RIz_c i_a10_5 (by omega) (by omega)
                      refine zk_gl 1 rfl (by decide) (by decide) (fun v15_5 h_v15_5 => ?_)
                      have z_v15_5_a14_5 := zu_rd h_a14_5 (1)
                      have z_v15_5_a10_5 := zu_rd h_a10_5 (1)
                      have z_v15_5_a6_5 := zu_rd h_a6_5 (1)
                      have r_v15_5 := RI_1 i_a14_5
                      refine zk_n ?_
                      refine zk_sl 1 rfl (by decide) (by decide) (fun a17_5 h_a17_5 => ?_)
                      have i_a17_5 : RI a17_5 := by rw [h_a17_5]; exact RIz_1 i_a14_5 (by omega)
                      refine zk_d3 (s_HM_tell _ _ _ (by omega)) (fun v18_5 v19_5 a20_5 hp_18 => ?_)
                      try dsimp only at hp_18
                      obtain ⟨hp_18p0, hp_18p1⟩ := hp_18
                      refine zk_rI5 ?_
                      refine zk_ret ?_
                      try dsimp only
                      exact ⟨by omega, by omega, by omega, by omega, h_t34, h_t35, h_t36, i_a17_5, by first | omega | (simp only [h_a17_5, h_a14_5, h_a10_5, h_a6_5, h_a4_3, zu, ↓reduceIte]; (repeat' split) <;> omega), by first | omega | (simp only [h_a17_5, h_a14_5, h_a10_5, h_a6_5, h_a4_3, zu, ↓reduceIte]; (repeat' split) <;> omega), by first | omega | (simp only [h_a17_5, h_a14_5, h_a10_5, h_a6_5, h_a4_3, zu, ↓reduceIte]; (repeat' split) <;> omega), by (intro c hc; first | (have q := fun h => R_st c h; simp only [h_a17_5, h_a14_5, h_a10_5, h_a6_5, h_a4_3, zu, ↓reduceIte]; (repeat' split) <;> first | omega | (exact q (by omega))) | exact R_st c hc), by (intro c hc; first | (have q := fun h => R_ex c h; simp only [h_a17_5, h_a14_5, h_a10_5, h_a6_5, h_a4_3, zu, ↓reduceIte]; (repeat' split) <;> first | omega | (exact q (by omega))) | exact R_ex c hc), by (intro c hc; first | (have q := fun h => R_tr c h; simp only [h_a17_5, h_a14_5, h_a10_5, h_a6_5, h_a4_3, zu, ↓reduceIte]; (repeat' split) <;> first | omega | (exact q (by omega))) | exact R_tr c hc), by (intro c hc; first | (have q := fun h => R_pl c h; simp only [h_a17_5, h_a14_5, h_a10_5, h_a6_5, h_a4_3, zu, ↓reduceIte]; (repeat' split) <;> first | omega | (exact q (by omega))) | exact R_pl c hc), by (intro c hc; first | (have q := fun h => R_te c h; simp only [h_a17_5, h_a14_5, h_a10_5, h_a6_5, h_a4_3, zu, ↓reduceIte]; (repeat' split) <;> first | omega | (exact q (by omega))) | exact R_te c hc), by (intro c hc; first | (have q := fun h => R_go c h; simp only [h_a17_5, h_a14_5, h_a10_5, h_a6_5, h_a4_3, zu, ↓reduceIte]; (repeat' split) <;> first | omega | (exact q (by omega))) | exact R_go c hc)⟩)
                 · first
                   | (exfalso; omega)
                   | (skip
                      refine zk_d3 (s_HM_tell _ _ _ (by omega)) (fun v21_5 v22_5 a23_5 hp_19 => ?_)
                      try dsimp only at hp_19
                      obtain ⟨hp_19p0, hp_19p1⟩ := hp_19
                      refine zk_rI5 ?_
                      refine zk_ret ?_
                      try dsimp only
                      exact ⟨by omega, by omega, by omega, by omega, h_t34, h_t35, h_t36, h_t4, by first | omega | (simp only [h_a4_3, zu, ↓reduceIte]; (repeat' split) <;> omega), by first | omega | (simp only [h_a4_3, zu, ↓reduceIte]; (repeat' split) <;> omega), by first | omega | (simp only [h_a4_3, zu, ↓reduceIte]; (repeat' split) <;> omega), by (intro c hc; first | (have q := fun h => R_st c h; simp only [h_a4_3, zu, ↓reduceIte]; (repeat' split) <;> first | omega | (exact q (by omega))) | exact R_st c hc), by (intro c hc; first | (have q := fun h => R_ex c h; simp only [h_a4_3, zu, ↓reduceIte]; (repeat' split) <;> first | omega | (exact q (by omega))) | exact R_ex c hc), by (intro c hc; first | (have q := fun h => R_tr c h; simp only [h_a4_3, zu, ↓reduceIte]; (repeat' split) <;> first | omega | (exact q (by omega))) | exact R_tr c hc), by (intro c hc; first | (have q := fun h => R_pl c h; simp only [h_a4_3, zu, ↓reduceIte]; (repeat' split) <;> first | omega | (exact q (by omega))) | exact R_pl c hc), by (intro c hc; first | (have q := fun h => R_te c h; simp only [h_a4_3, zu, ↓reduceIte]; (repeat' split) <;> first | omega | (exact q (by omega))) | exact R_te c hc), by (intro c hc; first | (have q := fun h => R_go c h; simp only [h_a4_3, zu, ↓reduceIte]; (repeat' split) <;> first | omega | (exact q (by omega))) | exact R_go c hc)⟩))
            · first
              | (exfalso; omega)
              | (skip
                 refine zk_d3 (s_HM_tell _ _ _ (by omega)) (fun v24_5 v25_5 a26_5 hp_20 => ?_)
                 try dsimp only at hp_20
                 obtain ⟨hp_20p0, hp_20p1⟩ := hp_20
                 refine zk_rI5 ?_
                 refine zk_ret ?_
                 try dsimp only
                 exact ⟨by omega, by omega, by omega, by omega, h_t34, h_t35, h_t36, h_t4, by first | omega | (simp only [h_a4_3, zu, ↓reduceIte]; (repeat' split) <;> omega), by first | omega | (simp only [h_a4_3, zu, ↓reduceIte]; (repeat' split) <;> omega), by first | omega | (simp only [h_a4_3, zu, ↓reduceIte]; (repeat' split) <;> omega), by (intro c hc; first | (have q := fun h => R_st c h; simp only [h_a4_3, zu, ↓reduceIte]; (repeat' split) <;> first | omega | (exact q (by omega))) | exact R_st c hc), by (intro c hc; first | (have q := fun h => R_ex c h; simp only [h_a4_3, zu, ↓reduceIte]; (repeat' split) <;> first | omega | (exact q (by omega))) | exact R_ex c hc), by (intro c hc; first | (have q := fun h => R_tr c h; simp only [h_a4_3, zu, ↓reduceIte]; (repeat' split) <;> first | omega | (exact q (by omega))) | exact R_tr c hc), by (intro c hc; first | (have q := fun h => R_pl c h; simp only [h_a4_3, zu, ↓reduceIte]; (repeat' split) <;> first | omega | (exact q (by omega))) | exact R_pl c hc), by (intro c hc; first | (have q := fun h => R_te c h; simp only [h_a4_3, zu, ↓reduceIte]; (repeat' split) <;> first | omega | (exact q (by omega))) | exact R_te c hc), by (intro c hc; first | (have q := fun h => R_go c h; simp only [h_a4_3, zu, ↓reduceIte]; (repeat' split) <;> first | omega | (exact q (by omega))) | exact R_go c hc)⟩)))
set_option maxHeartbeats 4000000 in
set_option maxRecDepth 10000 in
theorem st_5 (N : Int) (σ : Nat → Int) (τ : Nat → Nat → Int) (hI : INV N σ τ) (a1 : Int) (b_a1 : (-2147483648) ≤ a1 ∧ a1 ≤ 2147483647) : zok (f_OP_5 N a1 (σ 3) (σ 4) (σ 5) (σ 26) (σ 27) (σ 30) (σ 49) (τ 2) (τ 3) (τ 4) (τ 34) (τ 35) (τ 36) (τ 37) (τ 38) (τ 39)) (fun o => (o.1 = o.2.1) ∧ INV (N + 6) (zst σ [(3, o.2.2.1), (4, o.2.2.2.1), (5, o.2.2.2.2.1), (26, o.2.2.2.2.2.1), (30, o.2.2.2.2.2.2.1)]) (zta τ [(2, o.2.2.2.2.2.2.2.1), (3, o.2.2.2.2.2.2.2.2.1), (4, o.2.2.2.2.2.2.2.2.2.1), (34, o.2.2.2.2.2.2.2.2.2.2.1), (35, o.2.2.2.2.2.2.2.2.2.2.2.1), (36, o.2.2.2.2.2.2.2.2.2.2.2.2)])) := by
  obtain ⟨I_s0, I_s1, I_s3, I_s26, I_s27, I_s28, I_s29, I_s31, I_s32, I_s33, I_s34, I_s35, I_s36, I_s37, I_s38, I_s39, I_s41, I_s42, I_s46, I_s47, I_s48, I_s49, I_s50, I_s51, I_s52, I_s53, I_s54, I_s55, I_s56, I_s57, I_s58, I_s59, I_s60, I_s61, I_s62, I_s63, I_s65, I_s66, I_s68, I_s69, I_s71, I_s72, I_s30, I_t0, I_t1, I_t34, I_t35, I_t36, I_t37, I_t38, I_t39, I_t40, I_t41, I_t42, I_t43, I_t44, I_t46, I_t48, I_t49, I_t50, I_t52, I_t53, I_t54, I_t55, I_t56, I_t57, I_t58, I_t59, I_t60, I_t61, I_t63, I_t64, I_t65, I_t66, I_t67, I_t68, I_t69, I_t70, I_t71, I_t72, I_t73, I_t74, I_t75, I_t76, I_t77, I_t78, I_t79, I_t80, I_t81, I_t82, I_t83, I_t84, I_t85, I_t86, I_t87, I_t88, I_t89, I_t90, I_t91, I_t4, I_s7, I_s25, I_t7, I_t6, I_t16, I_t17, I_t28, I_t30, I_t31, I_t32, I_t18, I_t23, I_im, R_many, R_ch, R_pa, R_st, R_ex, R_tr, R_pl, R_te, R_go, R_tp, R_kp, R_i0, R_i1⟩ := hI
  refine zok_mono (s_OP_5 N a1 (σ 3) (σ 4) (σ 5) (σ 26) (σ 27) (σ 30) (σ 49) (τ 2) (τ 3) (τ 4) (τ 34) (τ 35) (τ 36) (τ 37) (τ 38) (τ 39) b_a1 I_s3 I_s26 I_s27 I_s49 I_t4 I_t34 I_t35 I_t36 I_t37 I_t38 I_t39 I_s30 R_many R_ch R_pa R_st R_ex R_tr R_pl R_te R_go) (fun o ho => ?_)
  obtain ⟨p0, p1, p2, p3, p4, p5, p6, p7, p8, p9, p10, p11, p12, p13, p14, p15, p16⟩ := ho
  exact ⟨p0, ⟨I_s0, I_s1, p1, p2, I_s27, I_s28, I_s29, I_s31, I_s32, I_s33, I_s34, I_s35, I_s36, I_s37, I_s38, I_s39, I_s41, I_s42, I_s46, I_s47, I_s48, I_s49, I_s50, I_s51, I_s52, I_s53, I_s54, I_s55, I_s56, I_s57, I_s58, I_s59, I_s60, I_s61, I_s62, I_s63, I_s65, I_s66, I_s68, I_s69, I_s71, I_s72, p3, I_t0, I_t1, p4, p5, p6, I_t37, I_t38, I_t39, I_t40, I_t41, I_t42, I_t43, I_t44, I_t46, I_t48, I_t49, I_t50, I_t52, I_t53, I_t54, I_t55, I_t56, I_t57, I_t58, I_t59, I_t60, I_t61, I_t63, I_t64, I_t65, I_t66, I_t67, I_t68, I_t69, I_t70, I_t71, I_t72, I_t73, I_t74, I_t75, I_t76, I_t77, I_t78, I_t79, I_t80, I_t81, I_t82, I_t83, I_t84, I_t85, I_t86, I_t87, I_t88, I_t89, I_t90, I_t91, p7, I_s7, I_s25, I_t7, I_t6, I_t16, I_t17, I_t28, I_t30, I_t31, I_t32, I_t18, I_t23, I_im, p8, p9, p10, p11, p12, p13, p14, p15, p16, R_tp, R_kp, R_i0, R_i1⟩⟩
def f_OP_6 (N : Int) (a1 : Int) (a2 : Int) (s3 : Int) (s4 : Int) (s5 : Int) (s26 : Int) (s27 : Int) (s30 : Int) (s49 : Int) (t2 : Nat → Int) (t3 : Nat → Int) (t4 : Nat → Int) (t34 : Nat → Int) (t35 : Nat → Int) (t36 : Nat → Int) (t37 : Nat → Int) (t38 : Nat → Int) (t39 : Nat → Int) : Option (Int × Int × Int × Int × Int × Int × (Nat → Int) × (Nat → Int) × (Nat → Int) × (Nat → Int)) :=
  zd5 (f_HS_expel a1 a2 s26 s3 s30 t2 t35) fun v90 v91 v92 a93 a94 =>
  zd5 (f_HM_expel a1 a2 s4 s5 t3 t4) fun v99 v100 v101 a102 a103 =>
  some (v90, v99, v91, v100, v101, v92, a93, a102, a103, a94)
set_option maxHeartbeats 4000000 in
theorem s_OP_6 (N : Int) (a1 : Int) (a2 : Int) (s3 : Int) (s4 : Int) (s5 : Int) (s26 : Int) (s27 : Int) (s30 : Int) (s49 : Int) (t2 : Nat → Int) (t3 : Nat → Int) (t4 : Nat → Int) (t34 : Nat → Int) (t35 : Nat → Int) (t36 : Nat → Int) (t37 : Nat → Int) (t38 : Nat → Int) (t39 : Nat → Int) (b_a1 : (-2147483648) ≤ a1 ∧ a1 ≤ 2147483647) (b_a2 : (-2147483648) ≤ a2 ∧ a2 ≤ 2147483647) (b_s3 : (-6) ≤ s3 ∧ s3 ≤ 0) (b_s26 : 0 ≤ s26 ∧ s26 ≤ 6) (b_s27 : 0 ≤ s27 ∧ s27 ≤ 6) (b_s49 : 0 ≤ s49 ∧ s49 ≤ 12) (h_t4 : RI t4) (h_t34 : zR t34 0 60) (h_t35 : zR t35 0 1) (h_t36 : zR t36 0 20) (h_t37 : zR t37 0 11) (h_t38 : zR t38 0 99) (h_t39 : zR t39 (-1) 10) (I_s30 : 0 ≤ s30 ∧ s30 ≤ N) (R_many : s49 = t4 0) (R_ch : s26 = t4 1) (R_pa : s27 = t4 2) (R_st : RV 3 153 s26 t34 t4) (R_ex : RV 3 154 s26 t35 t4) (R_tr : RV 3 155 s26 t36 t4) (R_pl : RV 1 171 s27 t37 t4) (R_te : RV 1 5 4 t38 t4) (R_go : RV 1 141 s49 t39 t4) : zok (f_OP_6 N a1 a2 s3 s4 s5 s26 s27 s30 s49 t2 t3 t4 t34 t35 t36 t37 t38 t39) (fun o => (o.1 = o.2.1) ∧ ((-6) ≤ o.2.2.1 ∧ o.2.2.1 ≤ 0) ∧ (0 ≤ o.2.2.2.2.2.1 ∧ o.2.2.2.2.2.1 ≤ N + 6) ∧ zR o.2.2.2.2.2.2.2.2.2 0 1 ∧ RI o.2.2.2.2.2.2.2.2.1 ∧ (s49 = o.2.2.2.2.2.2.2.2.1 0) ∧ (s26 = o.2.2.2.2.2.2.2.2.1 1) ∧ (s27 = o.2.2.2.2.2.2.2.2.1 2) ∧ (RV 3 153 s26 t34 o.2.2.2.2.2.2.2.2.1) ∧ (RV 3 154 s26 o.2.2.2.2.2.2.2.2.2 o.2.2.2.2.2.2.2.2.1) ∧ (RV 3 155 s26 t36 o.2.2.2.2.2.2.2.2.1) ∧ (RV 1 171 s27 t37 o.2.2.2.2.2.2.2.2.1) ∧ (RV 1 5 4 t38 o.2.2.2.2.2.2.2.2.1) ∧ (RV 1 141 s49 t39 o.2.2.2.2.2.2.2.2.1)) := by
  unfold f_OP_6
  have q_ex : (a1 < 0 ∨ s26 ≤ a1) ∨ t35 a1.toNat = t4 (153 + 3 * a1 + 1).toNat := by
    by_cases h : a1 < 0 ∨ s26 ≤ a1
    · exact Or.inl h
    · exact Or.inr (RV_at R_ex (by omega) (by omega) (by omega))
  refine zk_dI5 ?_
  unfold f_HS_expel
  refine zk_ifc (zci_ltr (by omega)) (fun hc => ?_) (fun hc => ?_)
  · first
    | (exfalso; omega)
    | (skip
       unfold f_HS_expel_9
       refine zk_dI3 ?_
       unfold f_HS_refuse
       refine zk_nE (fun v1 h_v1 => ?_)
       refine zk_gv (by omega) (by decide) (fun v2 h_v2 => ?_)
       refine zk_n ?_
       refine zk_sv (by omega) (by decide) (fun a4 h_a4 => ?_)
       refine zk_rI3 ?_
       refine zk_rI5 ?_
       refine zk_dI5 ?_
       unfold f_HM_expel
       refine zk_nE (fun v1_2 h_v1_2 => ?_)
       rw [zwi (by omega)] at h_v1_2
       replace h_v1_2 := h_v1_2.symm
       subst h_v1_2
       refine zk_d1 (s_HM_in _ _ _ (by omega) (by omega) (by omega)) (fun v2_2 hp => ?_)
       try dsimp only at hp
       have hpp0 := hp
       refine zk_ifc (zci_ner (by omega)) (fun hc_2 => ?_) (fun hc_2 => ?_)
       · first
         | (exfalso; omega)
         | (skip
            refine zk_d1 (s_HM_isChild _ _ (by omega) h_t4) (fun v3_2 hp_2 => ?_)
            try dsimp only at hp_2
            obtain ⟨hp_2p0, hp_2p1⟩ := hp_2
            refine zk_ifc (zci_eqr (by omega)) (fun hc_3 => ?_) (fun hc_3 => ?_)
            · first
              | (exfalso; omega)
              | (skip
                 refine zk_d3 (s_HM_tell _ _ _ (by omega)) (fun v4 v5 a6 hp_3 => ?_)
                 try dsimp only at hp_3
                 obtain ⟨hp_3p0, hp_3p1⟩ := hp_3
                 refine zk_rI5 ?_
                 refine zk_ret ?_
                 try dsimp only
                 exact ⟨by omega, by omega, by omega, h_t35, h_t4, by first | omega | (simp only [h_a4, zu, ↓reduceIte]; (repeat' split) <;> omega), by first | omega | (simp only [h_a4, zu, ↓reduceIte]; (repeat' split) <;> omega), by first | omega | (simp only [h_a4, zu, ↓reduceIte]; (repeat' split) <;> omega), by (intro c hc; first | (have q := fun h => R_st c h; simp only [h_a4, zu, ↓reduceIte]; (repeat' split) <;> first | omega | (exact q (by omega))) | exact R_st c hc), by (intro c hc; first | (have q := fun h => R_ex c h; simp only [h_a4, zu, ↓reduceIte]; (repeat' split) <;> first | omega | (exact q (by omega))) | exact R_ex c hc), by (intro c hc; first | (have q := fun h => R_tr c h; simp only [h_a4, zu, ↓reduceIte]; (repeat' split) <;> first | omega | (exact q (by omega))) | exact R_tr c hc), by (intro c hc; first | (have q := fun h => R_pl c h; simp only [h_a4, zu, ↓reduceIte]; (repeat' split) <;> first | omega | (exact q (by omega))) | exact R_pl c hc), by (intro c hc; first | (have q := fun h => R_te c h; simp only [h_a4, zu, ↓reduceIte]; (repeat' split) <;> first | omega | (exact q (by omega))) | exact R_te c hc), by (intro c hc; first | (have q := fun h => R_go c h; simp only [h_a4, zu, ↓reduceIte]; (repeat' split) <;> first | omega | (exact q (by omega))) | exact R_go c hc)⟩)
            · first
              | (exfalso; omega)
              | (skip
                 refine zk_n ?_
                 refine zk_n ?_
                 refine zk_n ?_
                 refine zk_d3 (s_HM_change _ _ _ _ (by omega)) (fun v10 v11 a12 hp_4 => ?_)
                 try dsimp only at hp_4
                 obtain ⟨hp_4p0, hp_4p1, hp_4p2⟩ := hp_4
                 have i_a12 : RI a12 := by rw [hp_4p2]; exact RIz_c h_t4 (by omega) (by omega)
                 refine zk_rI5 ?_
                 refine zk_ret ?_
                 try dsimp only
                 exact ⟨by omega, by omega, by omega, h_t35, i_a12, by first | omega | (simp only [hp_4p2, h_a4, zu, ↓reduceIte]; (repeat' split) <;> omega), by first | omega | (simp only [hp_4p2, h_a4, zu, ↓reduceIte]; (repeat' split) <;> omega), by first | omega | (simp only [hp_4p2, h_a4, zu, ↓reduceIte]; (repeat' split) <;> omega), by (intro c hc; first | (have q := fun h => R_st c h; simp only [hp_4p2, h_a4, zu, ↓reduceIte]; (repeat' split) <;> first | omega | (exact q (by omega))) | exact R_st c hc), by (intro c hc; first | (have q := fun h => R_ex c h; simp only [hp_4p2, h_a4, zu, ↓reduceIte]; (repeat' split) <;> first | omega | (exact q (by omega))) | exact R_ex c hc), by (intro c hc; first | (have q := fun h => R_tr c h; simp only [hp_4p2, h_a4, zu, ↓reduceIte]; (repeat' split) <;> first | omega | (exact q (by omega))) | exact R_tr c hc), by (intro c hc; first | (have q := fun h => R_pl c h; simp only [hp_4p2, h_a4, zu, ↓reduceIte]; (repeat' split) <;> first | omega | (exact q (by omega))) | exact R_pl c hc), by (intro c hc; first | (have q := fun h => R_te c h; simp only [hp_4p2, h_a4, zu, ↓reduceIte]; (repeat' split) <;> first | omega | (exact q (by omega))) | exact R_te c hc), by (intro c hc; first | (have q := fun h => R_go c h; simp only [hp_4p2, h_a4, zu, ↓reduceIte]; (repeat' split) <;> first | omega | (exact q (by omega))) | exact R_go c hc)⟩))
       · first
         | (exfalso; omega)
         | (skip
            refine zk_d3 (s_HM_tell _ _ _ (by omega)) (fun v13 v14 a15 hp_5 => ?_)
            try dsimp only at hp_5
            obtain ⟨hp_5p0, hp_5p1⟩ := hp_5
            refine zk_rI5 ?_
            refine zk_ret ?_
            try dsimp only
            exact ⟨by omega, by omega, by omega, h_t35, h_t4, by first | omega | (simp only [h_a4, zu, ↓reduceIte]; (repeat' split) <;> omega), by first | omega | (simp only [h_a4, zu, ↓reduceIte]; (repeat' split) <;> omega), by first | omega | (simp only [h_a4, zu, ↓reduceIte]; (repeat' split) <;> omega), by (intro c hc; first | (have q := fun h => R_st c h; simp only [h_a4, zu, ↓reduceIte]; (repeat' split) <;> first | omega | (exact q (by omega))) | exact R_st c hc), by (intro c hc; first | (have q := fun h => R_ex c h; simp only [h_a4, zu, ↓reduceIte]; (repeat' split) <;> first | omega | (exact q (by omega))) | exact R_ex c hc), by (intro c hc; first | (have q := fun h => R_tr c h; simp only [h_a4, zu, ↓reduceIte]; (repeat' split) <;> first | omega | (exact q (by omega))) | exact R_tr c hc), by (intro c hc; first | (have q := fun h => R_pl c h; simp only [h_a4, zu, ↓reduceIte]; (repeat' split) <;> first | omega | (exact q (by omega))) | exact R_pl c hc), by (intro c hc; first | (have q := fun h => R_te c h; simp only [h_a4, zu, ↓reduceIte]; (repeat' split) <;> first | omega | (exact q (by omega))) | exact R_te c hc), by (intro c hc; first | (have q := fun h => R_go c h; simp only [h_a4, zu, ↓reduceIte]; (repeat' split) <;> first | omega | (exact q (by omega))) | exact R_go c hc)⟩))
  · first
    | (exfalso; omega)
    | (skip
       refine zk_ifc (zci_le (by omega) (by omega)) (fun hc_4 => ?_) (fun hc_4 => ?_)
       · first
         | (exfalso; omega)
         | (skip
            refine zk_d1 (s_Hill_hasChild _ _ (by omega) (by omega)) (fun v1_3 hp_6 => ?_)
            try dsimp only at hp_6
            obtain ⟨hp_6p0, hp_6p1⟩ := hp_6
            refine zk_ifc (zci_ner (by omega)) (fun hc_5 => ?_) (fun hc_5 => ?_)
            · first
              | (exfalso; omega)
              | (skip
                 refine zk_gv (by omega) (by decide) (fun v2_3 h_v2_3 => ?_)
                 have r_v2_3 := h_t35 (a1.toNat)
                 refine zk_sv (by omega) (by decide) (fun a3 h_a3 => ?_)
                 have i_a3 : zR a3 0 1 := by rw [h_a3]; exact zR_zu h_t35 (by decide) (by decide) (by omega)
                 refine zk_dI3 ?_
                 unfold f_HS_accept
                 refine zk_n ?_
                 refine zk_rI3 ?_
                 refine zk_rI5 ?_
                 refine zk_dI5 ?_
                 unfold f_HM_expel
                 refine zk_nE (fun v1_5 h_v1_5 => ?_)
                 rw [zwi (by omega)] at h_v1_5
                 replace h_v1_5 := h_v1_5.symm
                 subst h_v1_5
                 refine zk_d1 (s_HM_in _ _ _ (by omega) (by omega) (by omega)) (fun v2_4 hp_7 => ?_)
                 try dsimp only at hp_7
                 have hp_7p0 := hp_7
                 refine zk_ifc (zci_ner (by omega)) (fun hc_6 => ?_) (fun hc_6 => ?_)
                 · first
                   | (exfalso; omega)
                   | (skip
                      refine zk_d1 (s_HM_isChild _ _ (by omega) h_t4) (fun v3_3 hp_8 => ?_)
                      try dsimp only at hp_8
                      obtain ⟨hp_8p0, hp_8p1⟩ := hp_8
                      refine zk_ifc (zci_eqr (by omega)) (fun hc_7 => ?_) (fun hc_7 => ?_)
                      · first
                        | (exfalso; omega)
                        | (skip
                           refine zk_d3 (s_HM_tell _ _ _ (by omega)) (fun v4_2 v5_2 a6_2 hp_9 => ?_)
                           try dsimp only at hp_9
                           obtain ⟨hp_9p0, hp_9p1⟩ := hp_9
                           refine zk_rI5 ?_
                           refine zk_ret ?_
                           try dsimp only
                           exact ⟨by omega, by omega, by omega, i_a3, h_t4, by first | omega | (simp only [h_a3, zu, ↓reduceIte]; (repeat' split) <;> omega), by first | omega | (simp only [h_a3, zu, ↓reduceIte]; (repeat' split) <;> omega), by first | omega | (simp only [h_a3, zu, ↓reduceIte]; (repeat' split) <;> omega), by (intro c hc; first | (have q := fun h => R_st c h; simp only [h_a3, zu, ↓reduceIte]; (repeat' split) <;> first | omega | (exact q (by omega))) | exact R_st c hc), by (intro c hc; first | (have q := fun h => R_ex c h; simp only [h_a3, zu, ↓reduceIte]; (repeat' split) <;> first | omega | (exact q (by omega))) | exact R_ex c hc), by (intro c hc; first | (have q := fun h => R_tr c h; simp only [h_a3, zu, ↓reduceIte]; (repeat' split) <;> first | omega | (exact q (by omega))) | exact R_tr c hc), by (intro c hc; first | (have q := fun h => R_pl c h; simp only [h_a3, zu, ↓reduceIte]; (repeat' split) <;> first | omega | (exact q (by omega))) | exact R_pl c hc), by (intro c hc; first | (have q := fun h => R_te c h; simp only [h_a3, zu, ↓reduceIte]; (repeat' split) <;> first | omega | (exact q (by omega))) | exact R_te c hc), by (intro c hc; first | (have q := fun h => R_go c h; simp only [h_a3, zu, ↓reduceIte]; (repeat' split) <;> first | omega | (exact q (by omega))) | exact R_go c hc)⟩)
                      · first
                        | (exfalso; omega)
                        | (skip
                           refine zk_n ?_
                           refine zk_n ?_
                           refine zk_n ?_
                           refine zk_d3 (s_HM_change _ _ _ _ (by omega)) (fun v10_2 v11_2 a12_2 hp_10 => ?_)
                           try dsimp only at hp_10
                           obtain ⟨hp_10p0, hp_10p1, hp_10p2⟩ := hp_10
                           have i_a12_2 : RI a12_2 := by rw [hp_10p2]; exact RIz_c h_t4 (by omega) (by omega)
                           refine zk_rI5 ?_
                           refine zk_ret ?_
                           try dsimp only
                           exact ⟨by omega, by omega, by omega, i_a3, i_a12_2, by first | omega | (simp only [hp_10p2, h_a3, zu, ↓reduceIte]; (repeat' split) <;> omega), by first | omega | (simp only [hp_10p2, h_a3, zu, ↓reduceIte]; (repeat' split) <;> omega), by first | omega | (simp only [hp_10p2, h_a3, zu, ↓reduceIte]; (repeat' split) <;> omega), by (intro c hc; first | (have q := fun h => R_st c h; simp only [hp_10p2, h_a3, zu, ↓reduceIte]; (repeat' split) <;> first | omega | (exact q (by omega))) | exact R_st c hc), by (intro c hc; first | (have q := fun h => R_ex c h; simp only [hp_10p2, h_a3, zu, ↓reduceIte]; (repeat' split) <;> first | omega | (exact q (by omega))) | exact R_ex c hc), by (intro c hc; first | (have q := fun h => R_tr c h; simp only [hp_10p2, h_a3, zu, ↓reduceIte]; (repeat' split) <;> first | omega | (exact q (by omega))) | exact R_tr c hc), by (intro c hc; first | (have q := fun h => R_pl c h; simp only [hp_10p2, h_a3, zu, ↓reduceIte]; (repeat' split) <;> first | omega | (exact q (by omega))) | exact R_pl c hc), by (intro c hc; first | (have q := fun h => R_te c h; simp only [hp_10p2, h_a3, zu, ↓reduceIte]; (repeat' split) <;> first | omega | (exact q (by omega))) | exact R_te c hc), by (intro c hc; first | (have q := fun h => R_go c h; simp only [hp_10p2, h_a3, zu, ↓reduceIte]; (repeat' split) <;> first | omega | (exact q (by omega))) | exact R_go c hc)⟩))
                 · first
                   | (exfalso; omega)
                   | (skip
                      refine zk_d3 (s_HM_tell _ _ _ (by omega)) (fun v13_2 v14_2 a15_2 hp_11 => ?_)
                      try dsimp only at hp_11
                      obtain ⟨hp_11p0, hp_11p1⟩ := hp_11
                      refine zk_rI5 ?_
                      refine zk_ret ?_
                      try dsimp only
                      exact ⟨by omega, by omega, by omega, i_a3, h_t4, by first | omega | (simp only [h_a3, zu, ↓reduceIte]; (repeat' split) <;> omega), by first | omega | (simp only [h_a3, zu, ↓reduceIte]; (repeat' split) <;> omega), by first | omega | (simp only [h_a3, zu, ↓reduceIte]; (repeat' split) <;> omega), by (intro c hc; first | (have q := fun h => R_st c h; simp only [h_a3, zu, ↓reduceIte]; (repeat' split) <;> first | omega | (exact q (by omega))) | exact R_st c hc), by (intro c hc; first | (have q := fun h => R_ex c h; simp only [h_a3, zu, ↓reduceIte]; (repeat' split) <;> first | omega | (exact q (by omega))) | exact R_ex c hc), by (intro c hc; first | (have q := fun h => R_tr c h; simp only [h_a3, zu, ↓reduceIte]; (repeat' split) <;> first | omega | (exact q (by omega))) | exact R_tr c hc), by (intro c hc; first | (have q := fun h => R_pl c h; simp only [h_a3, zu, ↓reduceIte]; (repeat' split) <;> first | omega | (exact q (by omega))) | exact R_pl c hc), by (intro c hc; first | (have q := fun h => R_te c h; simp only [h_a3, zu, ↓reduceIte]; (repeat' split) <;> first | omega | (exact q (by omega))) | exact R_te c hc), by (intro c hc; first | (have q := fun h => R_go c h; simp only [h_a3, zu, ↓reduceIte]; (repeat' split) <;> first | omega | (exact q (by omega))) | exact R_go c hc)⟩))
            · first
              | (exfalso; omega)
              | (skip
                 refine zk_dI3 ?_
                 unfold f_HS_refuse
                 refine zk_nE (fun v1_6 h_v1_6 => ?_)
                 refine zk_gv (by omega) (by decide) (fun v2_5 h_v2_5 => ?_)
                 refine zk_n ?_
                 refine zk_sv (by omega) (by decide) (fun a4_2 h_a4_2 => ?_)
                 refine zk_rI3 ?_
                 refine zk_rI5 ?_
                 refine zk_dI5 ?_
                 unfold f_HM_expel
                 refine zk_nE (fun v1_7 h_v1_7 => ?_)
                 rw [zwi (by omega)] at h_v1_7
                 replace h_v1_7 := h_v1_7.symm
                 subst h_v1_7
                 refine zk_d1 (s_HM_in _ _ _ (by omega) (by omega) (by omega)) (fun v2_6 hp_12 => ?_)
                 try dsimp only at hp_12
                 have hp_12p0 := hp_12
                 refine zk_ifc (zci_ner (by omega)) (fun hc_8 => ?_) (fun hc_8 => ?_)
                 · first
                   | (exfalso; omega)
                   | (skip
                      refine zk_d1 (s_HM_isChild _ _ (by omega) h_t4) (fun v3_5 hp_13 => ?_)
                      try dsimp only at hp_13
                      obtain ⟨hp_13p0, hp_13p1⟩ := hp_13
                      refine zk_ifc (zci_eqr (by omega)) (fun hc_9 => ?_) (fun hc_9 => ?_)
                      · first
                        | (exfalso; omega)
                        | (skip
                           refine zk_d3 (s_HM_tell _ _ _ (by omega)) (fun v4_3 v5_3 a6_3 hp_14 => ?_)
                           try dsimp only at hp_14
                           obtain ⟨hp_14p0, hp_14p1⟩ := hp_14
                           refine zk_rI5 ?_
                           refine zk_ret ?_
                           try dsimp only
                           exact ⟨by omega, by omega, by omega, h_t35, h_t4, by first | omega | (simp only [h_a4_2, zu, ↓reduceIte]; (repeat' split) <;> omega), by first | omega | (simp only [h_a4_2, zu, ↓reduceIte]; (repeat' split) <;> omega), by first | omega | (simp only [h_a4_2, zu, ↓reduceIte]; (repeat' split) <;> omega), by (intro c hc; first | (have q := fun h => R_st c h; simp only [h_a4_2, zu, ↓reduceIte]; (repeat' split) <;> first | omega | (exact q (by omega))) | exact R_st c hc), by (intro c hc; first | (have q := fun h => R_ex c h; simp only [h_a4_2, zu, ↓reduceIte]; (repeat' split) <;> first | omega | (exact q (by omega))) | exact R_ex c hc), by (intro c hc; first | (have q := fun h => R_tr c h; simp only [h_a4_2, zu, ↓reduceIte]; (repeat' split) <;> first | omega | (exact q (by omega))) | exact R_tr c hc), by (intro c hc; first | (have q := fun h => R_pl c h; simp only [h_a4_2, zu, ↓reduceIte]; (repeat' split) <;> first | omega | (exact q (by omega))) | exact R_pl c hc), by (intro c hc; first | (have q := fun h => R_te c h; simp only [h_a4_2, zu, ↓reduceIte]; (repeat' split) <;> first | omega | (exact q (by omega))) | exact R_te c hc), by (intro c hc; first | (have q := fun h => R_go c h; simp only [h_a4_2, zu, ↓reduceIte]; (repeat' split) <;> first | omega | (exact q (by omega))) | exact R_go c hc)⟩)
                      · first
                        | (exfalso; omega)
                        | (skip
                           refine zk_n ?_
                           refine zk_n ?_
                           refine zk_n ?_
                           refine zk_d3 (s_HM_change _ _ _ _ (by omega)) (fun v10_3 v11_3 a12_3 hp_15 => ?_)
                           try dsimp only at hp_15
                           obtain ⟨hp_15p0, hp_15p1, hp_15p2⟩ := hp_15
                           have i_a12_3 : RI a12_3 := by rw [hp_15p2]; exact RIz_c h_t4 (by omega) (by omega)
                           refine zk_rI5 ?_
                           refine zk_ret ?_
                           try dsimp only
                           exact ⟨by omega, by omega, by omega, h_t35, i_a12_3, by first | omega | (simp only [hp_15p2, h_a4_2, zu, ↓reduceIte]; (repeat' split) <;> omega), by first | omega | (simp only [hp_15p2, h_a4_2, zu, ↓reduceIte]; (repeat' split) <;> omega), by first | omega | (simp only [hp_15p2, h_a4_2, zu, ↓reduceIte]; (repeat' split) <;> omega), by (intro c hc; first | (have q := fun h => R_st c h; simp only [hp_15p2, h_a4_2, zu, ↓reduceIte]; (repeat' split) <;> first | omega | (exact q (by omega))) | exact R_st c hc), by (intro c hc; first | (have q := fun h => R_ex c h; simp only [hp_15p2, h_a4_2, zu, ↓reduceIte]; (repeat' split) <;> first | omega | (exact q (by omega))) | exact R_ex c hc), by (intro c hc; first | (have q := fun h => R_tr c h; simp only [hp_15p2, h_a4_2, zu, ↓reduceIte]; (repeat' split) <;> first | omega | (exact q (by omega))) | exact R_tr c hc), by (intro c hc; first | (have q := fun h => R_pl c h; simp only [hp_15p2, h_a4_2, zu, ↓reduceIte]; (repeat' split) <;> first | omega | (exact q (by omega))) | exact R_pl c hc), by (intro c hc; first | (have q := fun h => R_te c h; simp only [hp_15p2, h_a4_2, zu, ↓reduceIte]; (repeat' split) <;> first | omega | (exact q (by omega))) | exact R_te c hc), by (intro c hc; first | (have q := fun h => R_go c h; simp only [hp_15p2, h_a4_2, zu, ↓reduceIte]; (repeat' split) <;> first | omega | (exact q (by omega))) | exact R_go c hc)⟩))
                 · first
                   | (exfalso; omega)
                   | (skip
                      refine zk_d3 (s_HM_tell _ _ _ (by omega)) (fun v13_3 v14_3 a15_3 hp_16 => ?_)
                      try dsimp only at hp_16
                      obtain ⟨hp_16p0, hp_16p1⟩ := hp_16
                      refine zk_rI5 ?_
                      refine zk_ret ?_
                      try dsimp only
                      exact ⟨by omega, by omega, by omega, h_t35, h_t4, by first | omega | (simp only [h_a4_2, zu, ↓reduceIte]; (repeat' split) <;> omega), by first | omega | (simp only [h_a4_2, zu, ↓reduceIte]; (repeat' split) <;> omega), by first | omega | (simp only [h_a4_2, zu, ↓reduceIte]; (repeat' split) <;> omega), by (intro c hc; first | (have q := fun h => R_st c h; simp only [h_a4_2, zu, ↓reduceIte]; (repeat' split) <;> first | omega | (exact q (by omega))) | exact R_st c hc), by (intro c hc; first | (have q := fun h => R_ex c h; simp only [h_a4_2, zu, ↓reduceIte]; (repeat' split) <;> first | omega | (exact q (by omega))) | exact R_ex c hc), by (intro c hc; first | (have q := fun h => R_tr c h; simp only [h_a4_2, zu, ↓reduceIte]; (repeat' split) <;> first | omega | (exact q (by omega))) | exact R_tr c hc), by (intro c hc; first | (have q := fun h => R_pl c h; simp only [h_a4_2, zu, ↓reduceIte]; (repeat' split) <;> first | omega | (exact q (by omega))) | exact R_pl c hc), by (intro c hc; first | (have q := fun h => R_te c h; simp only [h_a4_2, zu, ↓reduceIte]; (repeat' split) <;> first | omega | (exact q (by omega))) | exact R_te c hc), by (intro c hc; first | (have q := fun h => R_go c h; simp only [h_a4_2, zu, ↓reduceIte]; (repeat' split) <;> first | omega | (exact q (by omega))) | exact R_go c hc)⟩)))
       · first
         | (exfalso; omega)
         | (skip
            unfold f_HS_expel_9
            refine zk_dI3 ?_
            unfold f_HS_refuse
            refine zk_nE (fun v1_8 h_v1_8 => ?_)
            refine zk_gv (by omega) (by decide) (fun v2_7 h_v2_7 => ?_)
            refine zk_n ?_
            refine zk_sv (by omega) (by decide) (fun a4_3 h_a4_3 => ?_)
            refine zk_rI3 ?_
            refine zk_rI5 ?_
            refine zk_dI5 ?_
            unfold f_HM_expel
            refine zk_nE (fun v1_9 h_v1_9 => ?_)
            rw [zwi (by omega)] at h_v1_9
            replace h_v1_9 := h_v1_9.symm
            subst h_v1_9
            refine zk_d1 (s_HM_in _ _ _ (by omega) (by omega) (by omega)) (fun v2_8 hp_17 => ?_)
            try dsimp only at hp_17
            have hp_17p0 := hp_17
            refine zk_ifc (zci_ner (by omega)) (fun hc_10 => ?_) (fun hc_10 => ?_)
            · first
              | (exfalso; omega)
              | (skip
                 refine zk_d1 (s_HM_isChild _ _ (by omega) h_t4) (fun v3_7 hp_18 => ?_)
                 try dsimp only at hp_18
                 obtain ⟨hp_18p0, hp_18p1⟩ := hp_18
                 refine zk_ifc (zci_eqr (by omega)) (fun hc_11 => ?_) (fun hc_11 => ?_)
                 · first
                   | (exfalso; omega)
                   | (skip
                      refine zk_d3 (s_HM_tell _ _ _ (by omega)) (fun v4_4 v5_4 a6_4 hp_19 => ?_)
                      try dsimp only at hp_19
                      obtain ⟨hp_19p0, hp_19p1⟩ := hp_19
                      refine zk_rI5 ?_
                      refine zk_ret ?_
                      try dsimp only
                      exact ⟨by omega, by omega, by omega, h_t35, h_t4, by first | omega | (simp only [h_a4_3, zu, ↓reduceIte]; (repeat' split) <;> omega), by first | omega | (simp only [h_a4_3, zu, ↓reduceIte]; (repeat' split) <;> omega), by first | omega | (simp only [h_a4_3, zu, ↓reduceIte]; (repeat' split) <;> omega), by (intro c hc; first | (have q := fun h => R_st c h; simp only [h_a4_3, zu, ↓reduceIte]; (repeat' split) <;> first | omega | (exact q (by omega))) | exact R_st c hc), by (intro c hc; first | (have q := fun h => R_ex c h; simp only [h_a4_3, zu, ↓reduceIte]; (repeat' split) <;> first | omega | (exact q (by omega))) | exact R_ex c hc), by (intro c hc; first | (have q := fun h => R_tr c h; simp only [h_a4_3, zu, ↓reduceIte]; (repeat' split) <;> first | omega | (exact q (by omega))) | exact R_tr c hc), by (intro c hc; first | (have q := fun h => R_pl c h; simp only [h_a4_3, zu, ↓reduceIte]; (repeat' split) <;> first | omega | (exact q (by omega))) | exact R_pl c hc), by (intro c hc; first | (have q := fun h => R_te c h; simp only [h_a4_3, zu, ↓reduceIte]; (repeat' split) <;> first | omega | (exact q (by omega))) | exact R_te c hc), by (intro c hc; first | (have q := fun h => R_go c h; simp only [h_a4_3, zu, ↓reduceIte]; (repeat' split) <;> first | omega | (exact q (by omega))) | exact R_go c hc)⟩)
                 · first
                   | (exfalso; omega)
                   | (skip
                      refine zk_n ?_
                      refine zk_n ?_
                      refine zk_n ?_
                      refine zk_d3 (s_HM_change _ _ _ _ (by omega)) (fun v10_4 v11_4 a12_4 hp_20 => ?_)
                      try dsimp only at hp_20
                      obtain ⟨hp_20p0, hp_20p1, hp_20p2⟩ := hp_20
                      have i_a12_4 : RI a12_4 := by rw [hp_20p2]; exact RIz_c h_t4 (by omega) (by omega)
                      refine zk_rI5 ?_
                      refine zk_ret ?_
                      try dsimp only
                      exact ⟨by omega, by omega, by omega, h_t35, i_a12_4, by first | omega | (simp only [hp_20p2, h_a4_3, zu, ↓reduceIte]; (repeat' split) <;> omega), by first | omega | (simp only [hp_20p2, h_a4_3, zu, ↓reduceIte]; (repeat' split) <;> omega), by first | omega | (simp only [hp_20p2, h_a4_3, zu, ↓reduceIte]; (repeat' split) <;> omega), by (intro c hc; first | (have q := fun h => R_st c h; simp only [hp_20p2, h_a4_3, zu, ↓reduceIte]; (repeat' split) <;> first | omega | (exact q (by omega))) | exact R_st c hc), by (intro c hc; first | (have q := fun h => R_ex c h; simp only [hp_20p2, h_a4_3, zu, ↓reduceIte]; (repeat' split) <;> first | omega | (exact q (by omega))) | exact R_ex c hc), by (intro c hc; first | (have q := fun h => R_tr c h; simp only [hp_20p2, h_a4_3, zu, ↓reduceIte]; (repeat' split) <;> first | omega | (exact q (by omega))) | exact R_tr c hc), by (intro c hc; first | (have q := fun h => R_pl c h; simp only [hp_20p2, h_a4_3, zu, ↓reduceIte]; (repeat' split) <;> first | omega | (exact q (by omega))) | exact R_pl c hc), by (intro c hc; first | (have q := fun h => R_te c h; simp only [hp_20p2, h_a4_3, zu, ↓reduceIte]; (repeat' split) <;> first | omega | (exact q (by omega))) | exact R_te c hc), by (intro c hc; first | (have q := fun h => R_go c h; simp only [hp_20p2, h_a4_3, zu, ↓reduceIte]; (repeat' split) <;> first | omega | (exact q (by omega))) | exact R_go c hc)⟩))
            · first
              | (exfalso; omega)
              | (skip
                 refine zk_d3 (s_HM_tell _ _ _ (by omega)) (fun v13_4 v14_4 a15_4 hp_21 => ?_)
                 try dsimp only at hp_21
                 obtain ⟨hp_21p0, hp_21p1⟩ := hp_21
                 refine zk_rI5 ?_
                 refine zk_ret ?_
                 try dsimp only
                 exact ⟨by omega, by omega, by omega, h_t35, h_t4, by first | omega | (simp only [h_a4_3, zu, ↓reduceIte]; (repeat' split) <;> omega), by first | omega | (simp only [h_a4_3, zu, ↓reduceIte]; (repeat' split) <;> omega), by first | omega | (simp only [h_a4_3, zu, ↓reduceIte]; (repeat' split) <;> omega), by (intro c hc; first | (have q := fun h => R_st c h; simp only [h_a4_3, zu, ↓reduceIte]; (repeat' split) <;> first | omega | (exact q (by omega))) | exact R_st c hc), by (intro c hc; first | (have q := fun h => R_ex c h; simp only [h_a4_3, zu, ↓reduceIte]; (repeat' split) <;> first | omega | (exact q (by omega))) | exact R_ex c hc), by (intro c hc; first | (have q := fun h => R_tr c h; simp only [h_a4_3, zu, ↓reduceIte]; (repeat' split) <;> first | omega | (exact q (by omega))) | exact R_tr c hc), by (intro c hc; first | (have q := fun h => R_pl c h; simp only [h_a4_3, zu, ↓reduceIte]; (repeat' split) <;> first | omega | (exact q (by omega))) | exact R_pl c hc), by (intro c hc; first | (have q := fun h => R_te c h; simp only [h_a4_3, zu, ↓reduceIte]; (repeat' split) <;> first | omega | (exact q (by omega))) | exact R_te c hc), by (intro c hc; first | (have q := fun h => R_go c h; simp only [h_a4_3, zu, ↓reduceIte]; (repeat' split) <;> first | omega | (exact q (by omega))) | exact R_go c hc)⟩)))
set_option maxHeartbeats 4000000 in
set_option maxRecDepth 10000 in
theorem st_6 (N : Int) (σ : Nat → Int) (τ : Nat → Nat → Int) (hI : INV N σ τ) (a1 : Int) (a2 : Int) (b_a1 : (-2147483648) ≤ a1 ∧ a1 ≤ 2147483647) (b_a2 : (-2147483648) ≤ a2 ∧ a2 ≤ 2147483647) : zok (f_OP_6 N a1 a2 (σ 3) (σ 4) (σ 5) (σ 26) (σ 27) (σ 30) (σ 49) (τ 2) (τ 3) (τ 4) (τ 34) (τ 35) (τ 36) (τ 37) (τ 38) (τ 39)) (fun o => (o.1 = o.2.1) ∧ INV (N + 6) (zst σ [(3, o.2.2.1), (4, o.2.2.2.1), (5, o.2.2.2.2.1), (30, o.2.2.2.2.2.1)]) (zta τ [(2, o.2.2.2.2.2.2.1), (3, o.2.2.2.2.2.2.2.1), (4, o.2.2.2.2.2.2.2.2.1), (35, o.2.2.2.2.2.2.2.2.2)])) := by
  obtain ⟨I_s0, I_s1, I_s3, I_s26, I_s27, I_s28, I_s29, I_s31, I_s32, I_s33, I_s34, I_s35, I_s36, I_s37, I_s38, I_s39, I_s41, I_s42, I_s46, I_s47, I_s48, I_s49, I_s50, I_s51, I_s52, I_s53, I_s54, I_s55, I_s56, I_s57, I_s58, I_s59, I_s60, I_s61, I_s62, I_s63, I_s65, I_s66, I_s68, I_s69, I_s71, I_s72, I_s30, I_t0, I_t1, I_t34, I_t35, I_t36, I_t37, I_t38, I_t39, I_t40, I_t41, I_t42, I_t43, I_t44, I_t46, I_t48, I_t49, I_t50, I_t52, I_t53, I_t54, I_t55, I_t56, I_t57, I_t58, I_t59, I_t60, I_t61, I_t63, I_t64, I_t65, I_t66, I_t67, I_t68, I_t69, I_t70, I_t71, I_t72, I_t73, I_t74, I_t75, I_t76, I_t77, I_t78, I_t79, I_t80, I_t81, I_t82, I_t83, I_t84, I_t85, I_t86, I_t87, I_t88, I_t89, I_t90, I_t91, I_t4, I_s7, I_s25, I_t7, I_t6, I_t16, I_t17, I_t28, I_t30, I_t31, I_t32, I_t18, I_t23, I_im, R_many, R_ch, R_pa, R_st, R_ex, R_tr, R_pl, R_te, R_go, R_tp, R_kp, R_i0, R_i1⟩ := hI
  refine zok_mono (s_OP_6 N a1 a2 (σ 3) (σ 4) (σ 5) (σ 26) (σ 27) (σ 30) (σ 49) (τ 2) (τ 3) (τ 4) (τ 34) (τ 35) (τ 36) (τ 37) (τ 38) (τ 39) b_a1 b_a2 I_s3 I_s26 I_s27 I_s49 I_t4 I_t34 I_t35 I_t36 I_t37 I_t38 I_t39 I_s30 R_many R_ch R_pa R_st R_ex R_tr R_pl R_te R_go) (fun o ho => ?_)
  obtain ⟨p0, p1, p2, p3, p4, p5, p6, p7, p8, p9, p10, p11, p12, p13⟩ := ho
  exact ⟨p0, ⟨I_s0, I_s1, p1, I_s26, I_s27, I_s28, I_s29, I_s31, I_s32, I_s33, I_s34, I_s35, I_s36, I_s37, I_s38, I_s39, I_s41, I_s42, I_s46, I_s47, I_s48, I_s49, I_s50, I_s51, I_s52, I_s53, I_s54, I_s55, I_s56, I_s57, I_s58, I_s59, I_s60, I_s61, I_s62, I_s63, I_s65, I_s66, I_s68, I_s69, I_s71, I_s72, p2, I_t0, I_t1, I_t34, p3, I_t36, I_t37, I_t38, I_t39, I_t40, I_t41, I_t42, I_t43, I_t44, I_t46, I_t48, I_t49, I_t50, I_t52, I_t53, I_t54, I_t55, I_t56, I_t57, I_t58, I_t59, I_t60, I_t61, I_t63, I_t64, I_t65, I_t66, I_t67, I_t68, I_t69, I_t70, I_t71, I_t72, I_t73, I_t74, I_t75, I_t76, I_t77, I_t78, I_t79, I_t80, I_t81, I_t82, I_t83, I_t84, I_t85, I_t86, I_t87, I_t88, I_t89, I_t90, I_t91, p4, I_s7, I_s25, I_t7, I_t6, I_t16, I_t17, I_t28, I_t30, I_t31, I_t32, I_t18, I_t23, I_im, p5, p6, p7, p8, p9, p10, p11, p12, p13, R_tp, R_kp, R_i0, R_i1⟩⟩
def f_OP_7 (N : Int) (a1 : Int) (a2 : Int) (s4 : Int) (s26 : Int) (t4 : Nat → Int) (t34 : Nat → Int) (t35 : Nat → Int) (t36 : Nat → Int) : Option (Int × Int × Int) :=
  zd1 (f_HS_fact a1 a2 s26 t34 t35 t36) fun v108 =>
  zd2 (f_HM_fact a1 a2 t4 s4) fun v113 v114 =>
  some (v108, v113, v114)
set_option maxHeartbeats 4000000 in
theorem s_OP_7 (N : Int) (a1 : Int) (a2 : Int) (s4 : Int) (s26 : Int) (t4 : Nat → Int) (t34 : Nat → Int) (t35 : Nat → Int) (t36 : Nat → Int) (b_a1 : (-2147483648) ≤ a1 ∧ a1 ≤ 2147483647) (b_a2 : (-2147483648) ≤ a2 ∧ a2 ≤ 2147483647) (b_s26 : 0 ≤ s26 ∧ s26 ≤ 6) (h_t4 : RI t4) (h_t34 : zR t34 0 60) (h_t35 : zR t35 0 1) (h_t36 : zR t36 0 20) (R_ch : s26 = t4 1) (R_st : RV 3 153 s26 t34 t4) (R_ex : RV 3 154 s26 t35 t4) (R_tr : RV 3 155 s26 t36 t4) : zok (f_OP_7 N a1 a2 s4 s26 t4 t34 t35 t36) (fun o => (o.1 = o.2.1)) := by
  unfold f_OP_7
  have q_st : (a1 < 0 ∨ s26 ≤ a1 ∨ a2 ≠ 0) ∨ t34 a1.toNat = t4 (153 + 3 * a1 + a2).toNat := by
    by_cases h : a1 < 0 ∨ s26 ≤ a1 ∨ a2 ≠ 0
    · exact Or.inl h
    · exact Or.inr (RV_at R_st (by omega) (by omega) (by omega))
  have q_ex : (a1 < 0 ∨ s26 ≤ a1 ∨ a2 ≠ 1) ∨ t35 a1.toNat = t4 (153 + 3 * a1 + a2).toNat := by
    by_cases h : a1 < 0 ∨ s26 ≤ a1 ∨ a2 ≠ 1
    · exact Or.inl h
    · exact Or.inr (RV_at R_ex (by omega) (by omega) (by omega))
  have q_tr : (a1 < 0 ∨ s26 ≤ a1 ∨ a2 ≠ 2) ∨ t36 a1.toNat = t4 (153 + 3 * a1 + a2).toNat := by
    by_cases h : a1 < 0 ∨ s26 ≤ a1 ∨ a2 ≠ 2
    · exact Or.inl h
    · exact Or.inr (RV_at R_tr (by omega) (by omega) (by omega))
  refine zk_dI1 ?_
  unfold f_HS_fact
  refine zk_d1 (s_Hill_hasChild _ _ (by omega) (by omega)) (fun v1 hp => ?_)
  try dsimp only at hp
  obtain ⟨hpp0, hpp1⟩ := hp
  refine zk_ifc (zci_ner (by omega)) (fun hc => ?_) (fun hc => ?_)
  · first
    | (exfalso; omega)
    | (skip
       refine zk_ifc (zci_eqr (by omega)) (fun hc_2 => ?_) (fun hc_2 => ?_)
       · first
         | (exfalso; omega)
         | (skip
            refine zk_gv (by omega) (by decide) (fun v2 h_v2 => ?_)
            have r_v2 := h_t34 (a1.toNat)
            refine zk_rI1 ?_
            refine zk_dI2 ?_
            unfold f_HM_fact
            refine zk_d1 (s_HM_isChild _ _ (by omega) h_t4) (fun v1_2 hp_2 => ?_)
            try dsimp only at hp_2
            obtain ⟨hp_2p0, hp_2p1⟩ := hp_2
            refine zk_ifc (zci_eqr (by omega)) (fun hc_3 => ?_) (fun hc_3 => ?_)
            · first
              | (exfalso; omega)
              | (skip
                 refine zk_rI2 ?_
                 refine zk_ret ?_
                 try dsimp only
                 all_goals exact (by omega))
            · first
              | (exfalso; omega)
              | (skip
                 refine zk_nE (fun v2_2 h_v2_2 => ?_)
                 rw [zwi (by omega)] at h_v2_2
                 replace h_v2_2 := h_v2_2.symm
                 subst h_v2_2
                 refine zk_d1 (s_HM_in _ _ _ (by omega) (by omega) (by omega)) (fun v3 hp_3 => ?_)
                 try dsimp only at hp_3
                 have hp_3p0 := hp_3
                 refine zk_ifc (zci_eqr (by omega)) (fun hc_4 => ?_) (fun hc_4 => ?_)
                 · first
                   | (exfalso; omega)
                   | (skip
                      refine zk_rI2 ?_
                      refine zk_ret ?_
                      try dsimp only
                      all_goals exact (by omega))
                 · first
                   | (exfalso; omega)
                   | (skip
                      refine zk_n ?_
                      refine zk_n ?_
                      refine zk_n ?_
                      refine zk_gv (by omega) (by decide) (fun v7 h_v7 => ?_)
                      have r_v7 := RI_c h_t4 (i := ((153 + (3 * a1)) + a2)) (by omega)
                      refine zk_rI2 ?_
                      refine zk_ret ?_
                      try dsimp only
                      all_goals exact (by omega))))
       · first
         | (exfalso; omega)
         | (skip
            refine zk_ifc (zci_eqr (by omega)) (fun hc_5 => ?_) (fun hc_5 => ?_)
            · first
              | (exfalso; omega)
              | (skip
                 refine zk_gv (by omega) (by decide) (fun v3_2 h_v3_2 => ?_)
                 have r_v3_2 := h_t35 (a1.toNat)
                 refine zk_rI1 ?_
                 refine zk_dI2 ?_
                 unfold f_HM_fact
                 refine zk_d1 (s_HM_isChild _ _ (by omega) h_t4) (fun v1_3 hp_4 => ?_)
                 try dsimp only at hp_4
                 obtain ⟨hp_4p0, hp_4p1⟩ := hp_4
                 refine zk_ifc (zci_eqr (by omega)) (fun hc_6 => ?_) (fun hc_6 => ?_)
                 · first
                   | (exfalso; omega)
                   | (skip
                      refine zk_rI2 ?_
                      refine zk_ret ?_
                      try dsimp only
                      all_goals exact (by omega))
                 · first
                   | (exfalso; omega)
                   | (skip
                      refine zk_nE (fun v2_3 h_v2_3 => ?_)
                      rw [zwi (by omega)] at h_v2_3
                      replace h_v2_3 := h_v2_3.symm
                      subst h_v2_3
                      refine zk_d1 (s_HM_in _ _ _ (by omega) (by omega) (by omega)) (fun v3_3 hp_5 => ?_)
                      try dsimp only at hp_5
                      have hp_5p0 := hp_5
                      refine zk_ifc (zci_eqr (by omega)) (fun hc_7 => ?_) (fun hc_7 => ?_)
                      · first
                        | (exfalso; omega)
                        | (skip
                           refine zk_rI2 ?_
                           refine zk_ret ?_
                           try dsimp only
                           all_goals exact (by omega))
                      · first
                        | (exfalso; omega)
                        | (skip
                           refine zk_n ?_
                           refine zk_n ?_
                           refine zk_n ?_
                           refine zk_gv (by omega) (by decide) (fun v7_2 h_v7_2 => ?_)
                           have r_v7_2 := RI_c h_t4 (i := ((153 + (3 * a1)) + a2)) (by omega)
                           refine zk_rI2 ?_
                           refine zk_ret ?_
                           try dsimp only
                           all_goals exact (by omega))))
            · first
              | (exfalso; omega)
              | (skip
                 refine zk_ifc (zci_eqr (by omega)) (fun hc_8 => ?_) (fun hc_8 => ?_)
                 · first
                   | (exfalso; omega)
                   | (skip
                      refine zk_gv (by omega) (by decide) (fun v4_3 h_v4_3 => ?_)
                      have r_v4_3 := h_t36 (a1.toNat)
                      refine zk_rI1 ?_
                      refine zk_dI2 ?_
                      unfold f_HM_fact
                      refine zk_d1 (s_HM_isChild _ _ (by omega) h_t4) (fun v1_4 hp_6 => ?_)
                      try dsimp only at hp_6
                      obtain ⟨hp_6p0, hp_6p1⟩ := hp_6
                      refine zk_ifc (zci_eqr (by omega)) (fun hc_9 => ?_) (fun hc_9 => ?_)
                      · first
                        | (exfalso; omega)
                        | (skip
                           refine zk_rI2 ?_
                           refine zk_ret ?_
                           try dsimp only
                           all_goals exact (by omega))
                      · first
                        | (exfalso; omega)
                        | (skip
                           refine zk_nE (fun v2_4 h_v2_4 => ?_)
                           rw [zwi (by omega)] at h_v2_4
                           replace h_v2_4 := h_v2_4.symm
                           subst h_v2_4
                           refine zk_d1 (s_HM_in _ _ _ (by omega) (by omega) (by omega)) (fun v3_4 hp_7 => ?_)
                           try dsimp only at hp_7
                           have hp_7p0 := hp_7
                           refine zk_ifc (zci_eqr (by omega)) (fun hc_10 => ?_) (fun hc_10 => ?_)
                           · first
                             | (exfalso; omega)
                             | (skip
                                refine zk_rI2 ?_
                                refine zk_ret ?_
                                try dsimp only
                                all_goals exact (by omega))
                           · first
                             | (exfalso; omega)
                             | (skip
                                refine zk_n ?_
                                refine zk_n ?_
                                refine zk_n ?_
                                refine zk_gv (by omega) (by decide) (fun v7_3 h_v7_3 => ?_)
                                have r_v7_3 := RI_c h_t4 (i := ((153 + (3 * a1)) + a2)) (by omega)
                                refine zk_rI2 ?_
                                refine zk_ret ?_
                                try dsimp only
                                all_goals exact (by omega))))
                 · first
                   | (exfalso; omega)
                   | (skip
                      refine zk_rI1 ?_
                      refine zk_dI2 ?_
                      unfold f_HM_fact
                      refine zk_d1 (s_HM_isChild _ _ (by omega) h_t4) (fun v1_5 hp_8 => ?_)
                      try dsimp only at hp_8
                      obtain ⟨hp_8p0, hp_8p1⟩ := hp_8
                      refine zk_ifc (zci_eqr (by omega)) (fun hc_11 => ?_) (fun hc_11 => ?_)
                      · first
                        | (exfalso; omega)
                        | (skip
                           refine zk_rI2 ?_
                           refine zk_ret ?_
                           try dsimp only
                           all_goals exact (by omega))
                      · first
                        | (exfalso; omega)
                        | (skip
                           refine zk_nE (fun v2_5 h_v2_5 => ?_)
                           rw [zwi (by omega)] at h_v2_5
                           replace h_v2_5 := h_v2_5.symm
                           subst h_v2_5
                           refine zk_d1 (s_HM_in _ _ _ (by omega) (by omega) (by omega)) (fun v3_5 hp_9 => ?_)
                           try dsimp only at hp_9
                           have hp_9p0 := hp_9
                           refine zk_ifc (zci_eqr (by omega)) (fun hc_12 => ?_) (fun hc_12 => ?_)
                           · first
                             | (exfalso; omega)
                             | (skip
                                refine zk_rI2 ?_
                                refine zk_ret ?_
                                try dsimp only
                                all_goals exact (by omega))
                           · first
                             | (exfalso; omega)
                             | (skip
                                refine zk_n ?_
                                refine zk_n ?_
                                refine zk_n ?_
                                refine zk_gv (by omega) (by decide) (fun v7_4 h_v7_4 => ?_)
                                have r_v7_4 := RI_c h_t4 (i := ((153 + (3 * a1)) + a2)) (by omega)
                                refine zk_rI2 ?_
                                refine zk_ret ?_
                                try dsimp only
                                all_goals exact (by omega)))))))
  · first
    | (exfalso; omega)
    | (skip
       refine zk_rI1 ?_
       refine zk_dI2 ?_
       unfold f_HM_fact
       refine zk_d1 (s_HM_isChild _ _ (by omega) h_t4) (fun v1_6 hp_10 => ?_)
       try dsimp only at hp_10
       obtain ⟨hp_10p0, hp_10p1⟩ := hp_10
       refine zk_ifc (zci_eqr (by omega)) (fun hc_13 => ?_) (fun hc_13 => ?_)
       · first
         | (exfalso; omega)
         | (skip
            refine zk_rI2 ?_
            refine zk_ret ?_
            try dsimp only
            all_goals exact (by omega))
       · first
         | (exfalso; omega)
         | (skip
            refine zk_nE (fun v2_6 h_v2_6 => ?_)
            rw [zwi (by omega)] at h_v2_6
            replace h_v2_6 := h_v2_6.symm
            subst h_v2_6
            refine zk_d1 (s_HM_in _ _ _ (by omega) (by omega) (by omega)) (fun v3_6 hp_11 => ?_)
            try dsimp only at hp_11
            have hp_11p0 := hp_11
            refine zk_ifc (zci_eqr (by omega)) (fun hc_14 => ?_) (fun hc_14 => ?_)
            · first
              | (exfalso; omega)
              | (skip
                 refine zk_rI2 ?_
                 refine zk_ret ?_
                 try dsimp only
                 all_goals exact (by omega))
            · first
              | (exfalso; omega)
              | (skip
                 refine zk_n ?_
                 refine zk_n ?_
                 refine zk_n ?_
                 refine zk_gv (by omega) (by decide) (fun v7_5 h_v7_5 => ?_)
                 have r_v7_5 := RI_c h_t4 (i := ((153 + (3 * a1)) + a2)) (by omega)
                 refine zk_rI2 ?_
                 refine zk_ret ?_
                 try dsimp only
                 all_goals exact (by omega))))
set_option maxHeartbeats 4000000 in
set_option maxRecDepth 10000 in
theorem st_7 (N : Int) (σ : Nat → Int) (τ : Nat → Nat → Int) (hI : INV N σ τ) (a1 : Int) (a2 : Int) (b_a1 : (-2147483648) ≤ a1 ∧ a1 ≤ 2147483647) (b_a2 : (-2147483648) ≤ a2 ∧ a2 ≤ 2147483647) : zok (f_OP_7 N a1 a2 (σ 4) (σ 26) (τ 4) (τ 34) (τ 35) (τ 36)) (fun o => (o.1 = o.2.1) ∧ INV (N + 6) (zst σ [(4, o.2.2)]) τ) := by
  obtain ⟨I_s0, I_s1, I_s3, I_s26, I_s27, I_s28, I_s29, I_s31, I_s32, I_s33, I_s34, I_s35, I_s36, I_s37, I_s38, I_s39, I_s41, I_s42, I_s46, I_s47, I_s48, I_s49, I_s50, I_s51, I_s52, I_s53, I_s54, I_s55, I_s56, I_s57, I_s58, I_s59, I_s60, I_s61, I_s62, I_s63, I_s65, I_s66, I_s68, I_s69, I_s71, I_s72, I_s30, I_t0, I_t1, I_t34, I_t35, I_t36, I_t37, I_t38, I_t39, I_t40, I_t41, I_t42, I_t43, I_t44, I_t46, I_t48, I_t49, I_t50, I_t52, I_t53, I_t54, I_t55, I_t56, I_t57, I_t58, I_t59, I_t60, I_t61, I_t63, I_t64, I_t65, I_t66, I_t67, I_t68, I_t69, I_t70, I_t71, I_t72, I_t73, I_t74, I_t75, I_t76, I_t77, I_t78, I_t79, I_t80, I_t81, I_t82, I_t83, I_t84, I_t85, I_t86, I_t87, I_t88, I_t89, I_t90, I_t91, I_t4, I_s7, I_s25, I_t7, I_t6, I_t16, I_t17, I_t28, I_t30, I_t31, I_t32, I_t18, I_t23, I_im, R_many, R_ch, R_pa, R_st, R_ex, R_tr, R_pl, R_te, R_go, R_tp, R_kp, R_i0, R_i1⟩ := hI
  refine zok_mono (s_OP_7 N a1 a2 (σ 4) (σ 26) (τ 4) (τ 34) (τ 35) (τ 36) b_a1 b_a2 I_s26 I_t4 I_t34 I_t35 I_t36 R_ch R_st R_ex R_tr) (fun o ho => ?_)
  have p0 := ho
  exact ⟨p0, ⟨I_s0, I_s1, I_s3, I_s26, I_s27, I_s28, I_s29, I_s31, I_s32, I_s33, I_s34, I_s35, I_s36, I_s37, I_s38, I_s39, I_s41, I_s42, I_s46, I_s47, I_s48, I_s49, I_s50, I_s51, I_s52, I_s53, I_s54, I_s55, I_s56, I_s57, I_s58, I_s59, I_s60, I_s61, I_s62, I_s63, I_s65, I_s66, I_s68, I_s69, I_s71, I_s72, ⟨I_s30.1, Int.le_trans I_s30.2 (Int.le_add_of_nonneg_right (by decide))⟩, I_t0, I_t1, I_t34, I_t35, I_t36, I_t37, I_t38, I_t39, I_t40, I_t41, I_t42, I_t43, I_t44, I_t46, I_t48, I_t49, I_t50, I_t52, I_t53, I_t54, I_t55, I_t56, I_t57, I_t58, I_t59, I_t60, I_t61, I_t63, I_t64, I_t65, I_t66, I_t67, I_t68, I_t69, I_t70, I_t71, I_t72, I_t73, I_t74, I_t75, I_t76, I_t77, I_t78, I_t79, I_t80, I_t81, I_t82, I_t83, I_t84, I_t85, I_t86, I_t87, I_t88, I_t89, I_t90, I_t91, I_t4, I_s7, I_s25, I_t7, I_t6, I_t16, I_t17, I_t28, I_t30, I_t31, I_t32, I_t18, I_t23, I_im, R_many, R_ch, R_pa, R_st, R_ex, R_tr, R_pl, R_te, R_go, R_tp, R_kp, R_i0, R_i1⟩⟩
