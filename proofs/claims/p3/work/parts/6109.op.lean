def f_OP_36 (N : Int) (a1 : Int) (s0 : Int) (s4 : Int) (s7 : Int) (s26 : Int) (s27 : Int) (s28 : Int) (s29 : Int) (s49 : Int) (t2 : Nat → Int) (t3 : Nat → Int) (t4 : Nat → Int) (t38 : Nat → Int) (t63 : Nat → Int) : Option (Int × Int × Int) :=
  zd1 (f_HS_count a1 s0 s26 s27 s28 s29 t2 s49 t38 t63) fun v734 =>
  zd2 (f_HM_count a1 s7 t3 t4 s4) fun v737 v738 =>
  some (v734, v737, v738)
set_option maxHeartbeats 4000000 in
theorem s_OP_36 (N : Int) (a1 : Int) (s0 : Int) (s4 : Int) (s7 : Int) (s26 : Int) (s27 : Int) (s28 : Int) (s29 : Int) (s49 : Int) (t2 : Nat → Int) (t3 : Nat → Int) (t4 : Nat → Int) (t38 : Nat → Int) (t63 : Nat → Int) (b_a1 : (-2147483648) ≤ a1 ∧ a1 ≤ 2147483647) (b_s0 : 0 ≤ s0 ∧ s0 ≤ 400) (b_s7 : 0 ≤ s7 ∧ s7 ≤ 400) (b_s26 : 0 ≤ s26 ∧ s26 ≤ 6) (b_s27 : 0 ≤ s27 ∧ s27 ≤ 6) (b_s28 : 0 ≤ s28 ∧ s28 ≤ 6) (b_s29 : (-1) ≤ s29 ∧ s29 ≤ 5) (b_s49 : 0 ≤ s49 ∧ s49 ≤ 12) (h_t4 : RI t4) (h_t38 : zR t38 0 99) (h_t63 : zR t63 0 10) (R_many : s49 = t4 0) (R_ch : s26 = t4 1) (R_pa : s27 = t4 2) (R_te : RV 1 5 4 t38 t4) (R_tp : s0 = s7) : zok (f_OP_36 N a1 s0 s4 s7 s26 s27 s28 s29 s49 t2 t3 t4 t38 t63) (fun o => True) := by
  unfold f_OP_36
  refine zk_dI1 ?_
  unfold f_HS_count
  refine zk_ifc (zci_eqr (by omega)) (fun hc => ?_) (fun hc => ?_)
  · first
    | (exfalso; omega)
    | (skip
       refine zk_rI1 ?_
       refine zk_d2 (s_HM_count _ _ _ _ _ (by omega) h_t4) (fun v737 v738 hp => ?_)
       exact zk_ret trivial)
  · first
    | (exfalso; omega)
    | (skip
       refine zk_ifc (zci_eqr (by omega)) (fun hc_2 => ?_) (fun hc_2 => ?_)
       · first
         | (exfalso; omega)
         | (skip
            refine zk_d1 (s_Columns_stones _ _ (by omega) h_t63) (fun v1 hp_2 => ?_)
            refine zk_rI1 ?_
            refine zk_d2 (s_HM_count _ _ _ _ _ (by omega) h_t4) (fun v737_2 v738_2 hp_3 => ?_)
            exact zk_ret trivial)
       · first
         | (exfalso; omega)
         | (skip
            refine zk_ifc (zci_eqr (by omega)) (fun hc_3 => ?_) (fun hc_3 => ?_)
            · first
              | (exfalso; omega)
              | (skip
                 refine zk_rI1 ?_
                 refine zk_d2 (s_HM_count _ _ _ _ _ (by omega) h_t4) (fun v737_3 v738_3 hp_4 => ?_)
                 exact zk_ret trivial)
            · first
              | (exfalso; omega)
              | (skip
                 refine zk_ifc (zci_eqr (by omega)) (fun hc_4 => ?_) (fun hc_4 => ?_)
                 · first
                   | (exfalso; omega)
                   | (skip
                      refine zk_rI1 ?_
                      refine zk_d2 (s_HM_count _ _ _ _ _ (by omega) h_t4) (fun v737_4 v738_4 hp_5 => ?_)
                      exact zk_ret trivial)
                 · first
                   | (exfalso; omega)
                   | (skip
                      refine zk_ifc (zci_eqr (by omega)) (fun hc_5 => ?_) (fun hc_5 => ?_)
                      · first
                        | (exfalso; omega)
                        | (skip
                           refine zk_rI1 ?_
                           refine zk_d2 (s_HM_count _ _ _ _ _ (by omega) h_t4) (fun v737_5 v738_5 hp_6 => ?_)
                           exact zk_ret trivial)
                      · first
                        | (exfalso; omega)
                        | (skip
                           refine zk_ifc (zci_eqr (by omega)) (fun hc_6 => ?_) (fun hc_6 => ?_)
                           · first
                             | (exfalso; omega)
                             | (skip
                                refine zk_rI1 ?_
                                refine zk_d2 (s_HM_count _ _ _ _ _ (by omega) h_t4) (fun v737_6 v738_6 hp_7 => ?_)
                                exact zk_ret trivial)
                           · first
                             | (exfalso; omega)
                             | (skip
                                refine zk_ifc (zci_eqr (by omega)) (fun hc_7 => ?_) (fun hc_7 => ?_)
                                · first
                                  | (exfalso; omega)
                                  | (skip
                                     refine zk_gl 1 rfl (by decide) (by decide) (fun v2 h_v2 => ?_)
                                     refine zk_rI1 ?_
                                     refine zk_d2 (s_HM_count _ _ _ _ _ (by omega) h_t4) (fun v737_7 v738_7 hp_8 => ?_)
                                     exact zk_ret trivial)
                                · first
                                  | (exfalso; omega)
                                  | (skip
                                     refine zk_ifc (zci_eqr (by omega)) (fun hc_8 => ?_) (fun hc_8 => ?_)
                                     · first
                                       | (exfalso; omega)
                                       | (skip
                                          refine zk_gl 2 rfl (by decide) (by decide) (fun v3 h_v3 => ?_)
                                          refine zk_rI1 ?_
                                          refine zk_d2 (s_HM_count _ _ _ _ _ (by omega) h_t4) (fun v737_8 v738_8 hp_9 => ?_)
                                          exact zk_ret trivial)
                                     · first
                                       | (exfalso; omega)
                                       | (skip
                                          refine zk_ifc (zci_eqr (by omega)) (fun hc_9 => ?_) (fun hc_9 => ?_)
                                          · first
                                            | (exfalso; omega)
                                            | (skip
                                               refine zk_gl 3 rfl (by decide) (by decide) (fun v4 h_v4 => ?_)
                                               refine zk_rI1 ?_
                                               refine zk_d2 (s_HM_count _ _ _ _ _ (by omega) h_t4) (fun v737_9 v738_9 hp_10 => ?_)
                                               exact zk_ret trivial)
                                          · first
                                            | (exfalso; omega)
                                            | (skip
                                               refine zk_ifc (zci_eqr (by omega)) (fun hc_10 => ?_) (fun hc_10 => ?_)
                                               · first
                                                 | (exfalso; omega)
                                                 | (skip
                                                    refine zk_gl 5 rfl (by decide) (by decide) (fun v5 h_v5 => ?_)
                                                    refine zk_rI1 ?_
                                                    refine zk_d2 (s_HM_count _ _ _ _ _ (by omega) h_t4) (fun v737_10 v738_10 hp_11 => ?_)
                                                    exact zk_ret trivial)
                                               · first
                                                 | (exfalso; omega)
                                                 | (skip
                                                    refine zk_ifc (zci_eqr (by omega)) (fun hc_11 => ?_) (fun hc_11 => ?_)
                                                    · first
                                                      | (exfalso; omega)
                                                      | (skip
                                                         refine zk_gl 6 rfl (by decide) (by decide) (fun v6 h_v6 => ?_)
                                                         refine zk_rI1 ?_
                                                         refine zk_d2 (s_HM_count _ _ _ _ _ (by omega) h_t4) (fun v737_11 v738_11 hp_12 => ?_)
                                                         exact zk_ret trivial)
                                                    · first
                                                      | (exfalso; omega)
                                                      | (skip
                                                         refine zk_ifc (zci_eqr (by omega)) (fun hc_12 => ?_) (fun hc_12 => ?_)
                                                         · first
                                                           | (exfalso; omega)
                                                           | (skip
                                                              refine zk_rI1 ?_
                                                              refine zk_d2 (s_HM_count _ _ _ _ _ (by omega) h_t4) (fun v737_12 v738_12 hp_13 => ?_)
                                                              exact zk_ret trivial)
                                                         · first
                                                           | (exfalso; omega)
                                                           | (skip
                                                              refine zk_ifc (zci_eqr (by omega)) (fun hc_13 => ?_) (fun hc_13 => ?_)
                                                              · first
                                                                | (exfalso; omega)
                                                                | (skip
                                                                   refine zk_gl 0 rfl (by decide) (by decide) (fun v7 h_v7 => ?_)
                                                                   have r_v7 := h_t38 (0)
                                                                   refine zk_rI1 ?_
                                                                   refine zk_d2 (s_HM_count _ _ _ _ _ (by omega) h_t4) (fun v737_13 v738_13 hp_14 => ?_)
                                                                   exact zk_ret trivial)
                                                              · first
                                                                | (exfalso; omega)
                                                                | (skip
                                                                   refine zk_ifc (zci_eqr (by omega)) (fun hc_14 => ?_) (fun hc_14 => ?_)
                                                                   · first
                                                                     | (exfalso; omega)
                                                                     | (skip
                                                                        refine zk_gl 1 rfl (by decide) (by decide) (fun v8 h_v8 => ?_)
                                                                        have r_v8 := h_t38 (1)
                                                                        refine zk_rI1 ?_
                                                                        refine zk_d2 (s_HM_count _ _ _ _ _ (by omega) h_t4) (fun v737_14 v738_14 hp_15 => ?_)
                                                                        exact zk_ret trivial)
                                                                   · first
                                                                     | (exfalso; omega)
                                                                     | (skip
                                                                        refine zk_ifc (zci_eqr (by omega)) (fun hc_15 => ?_) (fun hc_15 => ?_)
                                                                        · first
                                                                          | (exfalso; omega)
                                                                          | (skip
                                                                             refine zk_gl 2 rfl (by decide) (by decide) (fun v9 h_v9 => ?_)
                                                                             have r_v9 := h_t38 (2)
                                                                             refine zk_rI1 ?_
                                                                             refine zk_d2 (s_HM_count _ _ _ _ _ (by omega) h_t4) (fun v737_15 v738_15 hp_16 => ?_)
                                                                             exact zk_ret trivial)
                                                                        · first
                                                                          | (exfalso; omega)
                                                                          | (skip
                                                                             refine zk_ifc (zci_eqr (by omega)) (fun hc_16 => ?_) (fun hc_16 => ?_)
                                                                             · first
                                                                               | (exfalso; omega)
                                                                               | (skip
                                                                                  refine zk_gl 3 rfl (by decide) (by decide) (fun v10 h_v10 => ?_)
                                                                                  have r_v10 := h_t38 (3)
                                                                                  refine zk_rI1 ?_
                                                                                  refine zk_d2 (s_HM_count _ _ _ _ _ (by omega) h_t4) (fun v737_16 v738_16 hp_17 => ?_)
                                                                                  exact zk_ret trivial)
                                                                             · first
                                                                               | (exfalso; omega)
                                                                               | (skip
                                                                                  refine zk_rI1 ?_
                                                                                  refine zk_d2 (s_HM_count _ _ _ _ _ (by omega) h_t4) (fun v737_17 v738_17 hp_18 => ?_)
                                                                                  exact zk_ret trivial))))))))))))))))
set_option maxHeartbeats 4000000 in
set_option maxRecDepth 10000 in
theorem st_36 (N : Int) (σ : Nat → Int) (τ : Nat → Nat → Int) (hI : INV N σ τ) (a1 : Int) (b_a1 : (-2147483648) ≤ a1 ∧ a1 ≤ 2147483647) : zok (f_OP_36 N a1 (σ 0) (σ 4) (σ 7) (σ 26) (σ 27) (σ 28) (σ 29) (σ 49) (τ 2) (τ 3) (τ 4) (τ 38) (τ 63)) (fun o => (True) ∧ INV (N + 6) (zst σ [(4, o.2.2)]) τ) := by
  obtain ⟨I_s0, I_s1, I_s3, I_s26, I_s27, I_s28, I_s29, I_s31, I_s32, I_s33, I_s34, I_s35, I_s36, I_s37, I_s38, I_s39, I_s41, I_s42, I_s46, I_s47, I_s48, I_s49, I_s50, I_s51, I_s52, I_s53, I_s54, I_s55, I_s56, I_s57, I_s58, I_s59, I_s60, I_s61, I_s62, I_s63, I_s65, I_s66, I_s68, I_s69, I_s71, I_s72, I_s30, I_t0, I_t1, I_t34, I_t35, I_t36, I_t37, I_t38, I_t39, I_t40, I_t41, I_t42, I_t43, I_t44, I_t46, I_t48, I_t49, I_t50, I_t52, I_t53, I_t54, I_t55, I_t56, I_t57, I_t58, I_t59, I_t60, I_t61, I_t63, I_t64, I_t65, I_t66, I_t67, I_t68, I_t69, I_t70, I_t71, I_t72, I_t73, I_t74, I_t75, I_t76, I_t77, I_t78, I_t79, I_t80, I_t81, I_t82, I_t83, I_t84, I_t85, I_t86, I_t87, I_t88, I_t89, I_t90, I_t91, I_t4, I_s7, I_s25, I_t7, I_t6, I_t16, I_t17, I_t28, I_t30, I_t31, I_t32, I_t18, I_t23, I_im, R_many, R_ch, R_pa, R_st, R_ex, R_tr, R_pl, R_te, R_go, R_tp, R_kp, R_i0, R_i1⟩ := hI
  refine zok_mono (s_OP_36 N a1 (σ 0) (σ 4) (σ 7) (σ 26) (σ 27) (σ 28) (σ 29) (σ 49) (τ 2) (τ 3) (τ 4) (τ 38) (τ 63) b_a1 I_s0 I_s7 I_s26 I_s27 I_s28 I_s29 I_s49 I_t4 I_t38 I_t63 R_many R_ch R_pa R_te R_tp) (fun o ho => ?_)
  skip
  exact ⟨trivial, ⟨I_s0, I_s1, I_s3, I_s26, I_s27, I_s28, I_s29, I_s31, I_s32, I_s33, I_s34, I_s35, I_s36, I_s37, I_s38, I_s39, I_s41, I_s42, I_s46, I_s47, I_s48, I_s49, I_s50, I_s51, I_s52, I_s53, I_s54, I_s55, I_s56, I_s57, I_s58, I_s59, I_s60, I_s61, I_s62, I_s63, I_s65, I_s66, I_s68, I_s69, I_s71, I_s72, ⟨I_s30.1, Int.le_trans I_s30.2 (Int.le_add_of_nonneg_right (by decide))⟩, I_t0, I_t1, I_t34, I_t35, I_t36, I_t37, I_t38, I_t39, I_t40, I_t41, I_t42, I_t43, I_t44, I_t46, I_t48, I_t49, I_t50, I_t52, I_t53, I_t54, I_t55, I_t56, I_t57, I_t58, I_t59, I_t60, I_t61, I_t63, I_t64, I_t65, I_t66, I_t67, I_t68, I_t69, I_t70, I_t71, I_t72, I_t73, I_t74, I_t75, I_t76, I_t77, I_t78, I_t79, I_t80, I_t81, I_t82, I_t83, I_t84, I_t85, I_t86, I_t87, I_t88, I_t89, I_t90, I_t91, I_t4, I_s7, I_s25, I_t7, I_t6, I_t16, I_t17, I_t28, I_t30, I_t31, I_t32, I_t18, I_t23, I_im, R_many, R_ch, R_pa, R_st, R_ex, R_tr, R_pl, R_te, R_go, R_tp, R_kp, R_i0, R_i1⟩⟩
def f_OP_37 (N : Int) (s3 : Int) (s4 : Int) (s5 : Int) : Option (Int × Int × Int) :=
  zd1 (f_HS_status s3) fun v739 =>
  zd2 (f_HM_status s5 s4) fun v740 v741 =>
  some (v739, v740, v741)
set_option maxHeartbeats 4000000 in
theorem s_OP_37 (N : Int) (s3 : Int) (s4 : Int) (s5 : Int) (b_s3 : (-6) ≤ s3 ∧ s3 ≤ 0) : zok (f_OP_37 N s3 s4 s5) (fun o => True) := by
  unfold f_OP_37
  refine zk_dI1 ?_
  unfold f_HS_status
  refine zk_rI1 ?_
  refine zk_d2 (s_HM_status _ _) (fun v740 v741 hp => ?_)
  exact zk_ret trivial
set_option maxHeartbeats 4000000 in
set_option maxRecDepth 10000 in
theorem st_37 (N : Int) (σ : Nat → Int) (τ : Nat → Nat → Int) (hI : INV N σ τ)   : zok (f_OP_37 N (σ 3) (σ 4) (σ 5)) (fun o => (True) ∧ INV (N + 6) (zst σ [(4, o.2.2)]) τ) := by
  obtain ⟨I_s0, I_s1, I_s3, I_s26, I_s27, I_s28, I_s29, I_s31, I_s32, I_s33, I_s34, I_s35, I_s36, I_s37, I_s38, I_s39, I_s41, I_s42, I_s46, I_s47, I_s48, I_s49, I_s50, I_s51, I_s52, I_s53, I_s54, I_s55, I_s56, I_s57, I_s58, I_s59, I_s60, I_s61, I_s62, I_s63, I_s65, I_s66, I_s68, I_s69, I_s71, I_s72, I_s30, I_t0, I_t1, I_t34, I_t35, I_t36, I_t37, I_t38, I_t39, I_t40, I_t41, I_t42, I_t43, I_t44, I_t46, I_t48, I_t49, I_t50, I_t52, I_t53, I_t54, I_t55, I_t56, I_t57, I_t58, I_t59, I_t60, I_t61, I_t63, I_t64, I_t65, I_t66, I_t67, I_t68, I_t69, I_t70, I_t71, I_t72, I_t73, I_t74, I_t75, I_t76, I_t77, I_t78, I_t79, I_t80, I_t81, I_t82, I_t83, I_t84, I_t85, I_t86, I_t87, I_t88, I_t89, I_t90, I_t91, I_t4, I_s7, I_s25, I_t7, I_t6, I_t16, I_t17, I_t28, I_t30, I_t31, I_t32, I_t18, I_t23, I_im, R_many, R_ch, R_pa, R_st, R_ex, R_tr, R_pl, R_te, R_go, R_tp, R_kp, R_i0, R_i1⟩ := hI
  refine zok_mono (s_OP_37 N (σ 3) (σ 4) (σ 5) I_s3) (fun o ho => ?_)
  skip
  exact ⟨trivial, ⟨I_s0, I_s1, I_s3, I_s26, I_s27, I_s28, I_s29, I_s31, I_s32, I_s33, I_s34, I_s35, I_s36, I_s37, I_s38, I_s39, I_s41, I_s42, I_s46, I_s47, I_s48, I_s49, I_s50, I_s51, I_s52, I_s53, I_s54, I_s55, I_s56, I_s57, I_s58, I_s59, I_s60, I_s61, I_s62, I_s63, I_s65, I_s66, I_s68, I_s69, I_s71, I_s72, ⟨I_s30.1, Int.le_trans I_s30.2 (Int.le_add_of_nonneg_right (by decide))⟩, I_t0, I_t1, I_t34, I_t35, I_t36, I_t37, I_t38, I_t39, I_t40, I_t41, I_t42, I_t43, I_t44, I_t46, I_t48, I_t49, I_t50, I_t52, I_t53, I_t54, I_t55, I_t56, I_t57, I_t58, I_t59, I_t60, I_t61, I_t63, I_t64, I_t65, I_t66, I_t67, I_t68, I_t69, I_t70, I_t71, I_t72, I_t73, I_t74, I_t75, I_t76, I_t77, I_t78, I_t79, I_t80, I_t81, I_t82, I_t83, I_t84, I_t85, I_t86, I_t87, I_t88, I_t89, I_t90, I_t91, I_t4, I_s7, I_s25, I_t7, I_t6, I_t16, I_t17, I_t28, I_t30, I_t31, I_t32, I_t18, I_t23, I_im, R_many, R_ch, R_pa, R_st, R_ex, R_tr, R_pl, R_te, R_go, R_tp, R_kp, R_i0, R_i1⟩⟩
