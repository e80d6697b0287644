theorem k_become {c p l f m c' p' l' f' m' v1 v2 v3 v4 v5 : Int} {b1 b2 b3 b4 b5 b6 ord od hts wts d1 d2 d3 d4 d5 d6 ord' od' hts' wts' u1 u2 u3 u4 u5 u6 uo ud uh uw : Nat → Int} (h : f_Hill_become c p l f m b1 b2 b3 b4 b5 b6 ord od hts wts c' p' l' f' m' d1 d2 d3 d4 d5 d6 ord' od' hts' wts' = some (v1, v2, v3, v4, v5, u1, u2, u3, u4, u5, u6, uo, ud, uh, uw)) : (v1 = c ∧ v2 = p ∧ v3 = l ∧ v4 = f ∧ v5 = m) ∧ (∀ j : Nat, j < 2544 → uo j = ord j) ∧ (∀ j : Nat, j < 6 → ud j = od j) ∧ (∀ j : Nat, j < 12 → uh j = hts j) ∧ (∀ j : Nat, j < 120 → uw j = wts j) := by
  unfold f_Hill_become at h
  obtain ⟨w1, w2, w3, e1, h⟩ := xz_d3 h
  unfold f_Columns_become at e1
  replace e1 := xp_cp (xp_cp e1)
  cases e1
  replace h := xp_cp (xp_cp (xp_cp (xp_cp (xp_cp (xp_cp (xp_cp (xp_cp h)))))))
  cases h
  exact ⟨⟨rfl, rfl, rfl, rfl, rfl⟩, fun j hj => cpy_lt (n := 2544) hj, fun j hj => cpy_lt (n := 6) hj, fun j hj => cpy_lt (n := 12) hj, fun j hj => cpy_lt (n := 120) hj⟩
set_option maxHeartbeats 4000000 in
theorem k_image {a1 : Int} {s26 : Int} {s27 : Int} {s28 : Int} {s29 : Int} {s49 : Int} {t34 : Nat → Int} {t35 : Nat → Int} {t36 : Nat → Int} {t37 : Nat → Int} {t38 : Nat → Int} {t39 : Nat → Int} {t40 : Nat → Int} {t41 : Nat → Int} {t63 : Nat → Int} {t64 : Nat → Int} {s3 : Int} {s30 : Int} {t0 : Nat → Int} {t2 : Nat → Int} {s50 : Int} {s51 : Int} {s52 : Int} {s53 : Int} {s55 : Int} {s56 : Int} {s57 : Int} {s58 : Int} {s62 : Int} {t65 : Nat → Int} {t66 : Nat → Int} {t67 : Nat → Int} {t68 : Nat → Int} {t69 : Nat → Int} {t70 : Nat → Int} {t71 : Nat → Int} {t72 : Nat → Int} {s63 : Int} {t73 : Nat → Int} {t74 : Nat → Int} {t75 : Nat → Int} {t76 : Nat → Int} {t77 : Nat → Int} {t78 : Nat → Int} {t79 : Nat → Int} {t80 : Nat → Int} {t85 : Nat → Int} {t86 : Nat → Int} {t87 : Nat → Int} {t88 : Nat → Int} {x_ans : Int} {n_s3 : Int} {n_s30 : Int} {n_t0 : Nat → Int} {n_t2 : Nat → Int} {n_s50 : Int} {n_s51 : Int} {n_s52 : Int} {n_s53 : Int} {n_s55 : Int} {n_s56 : Int} {n_s57 : Int} {n_s58 : Int} {n_s62 : Int} {n_t65 : Nat → Int} {n_t66 : Nat → Int} {n_t67 : Nat → Int} {n_t68 : Nat → Int} {n_t69 : Nat → Int} {n_t70 : Nat → Int} {n_t71 : Nat → Int} {n_t72 : Nat → Int} {n_s63 : Int} {n_t73 : Nat → Int} {n_t74 : Nat → Int} {n_t75 : Nat → Int} {n_t76 : Nat → Int} {n_t77 : Nat → Int} {n_t78 : Nat → Int} {n_t79 : Nat → Int} {n_t80 : Nat → Int} {n_t85 : Nat → Int} {n_t86 : Nat → Int} {n_t87 : Nat → Int} {n_t88 : Nat → Int} (b1 : -2147483648 ≤ a1 ∧ a1 ≤ 2147483647) (h : f_HS_image a1 s26 s27 s28 s29 s49 t34 t35 t36 t37 t38 t39 t40 t41 t63 t64 s3 s30 t0 t2 s50 s51 s52 s53 s55 s56 s57 s58 s62 t65 t66 t67 t68 t69 t70 t71 t72 s63 t73 t74 t75 t76 t77 t78 t79 t80 t85 t86 t87 t88 = some (x_ans, n_s3, n_s30, n_t0, n_t2, n_s50, n_s51, n_s52, n_s53, n_s55, n_s56, n_s57, n_s58, n_s62, n_t65, n_t66, n_t67, n_t68, n_t69, n_t70, n_t71, n_t72, n_s63, n_t73, n_t74, n_t75, n_t76, n_t77, n_t78, n_t79, n_t80, n_t85, n_t86, n_t87, n_t88)) : (a1 = 0 ∧ (n_s52 = s28 ∧ n_s53 = s29 ∧ n_s62 = s49 ∧ (∀ j : Nat, j < 2544 → n_t71 j = t40 j) ∧ (∀ j : Nat, j < 6 → n_t72 j = t41 j) ∧ (∀ j : Nat, j < 12 → n_t85 j = t63 j) ∧ (∀ j : Nat, j < 120 → n_t86 j = t64 j)) ∧ (n_s57 = s57 ∧ n_s58 = s58 ∧ n_s63 = s63 ∧ n_t79 = t79 ∧ n_t80 = t80 ∧ n_t87 = t87 ∧ n_t88 = t88)) ∨ (a1 = 1 ∧ (n_s57 = s28 ∧ n_s58 = s29 ∧ n_s63 = s49 ∧ (∀ j : Nat, j < 2544 → n_t79 j = t40 j) ∧ (∀ j : Nat, j < 6 → n_t80 j = t41 j) ∧ (∀ j : Nat, j < 12 → n_t87 j = t63 j) ∧ (∀ j : Nat, j < 120 → n_t88 j = t64 j)) ∧ (n_s52 = s52 ∧ n_s53 = s53 ∧ n_s62 = s62 ∧ n_t71 = t71 ∧ n_t72 = t72 ∧ n_t85 = t85 ∧ n_t86 = t86)) ∨ ((a1 < 0 ∨ 1 < a1) ∧ (n_s52 = s52 ∧ n_s53 = s53 ∧ n_s62 = s62 ∧ n_t71 = t71 ∧ n_t72 = t72 ∧ n_t85 = t85 ∧ n_t86 = t86) ∧ (n_s57 = s57 ∧ n_s58 = s58 ∧ n_s63 = s63 ∧ n_t79 = t79 ∧ n_t80 = t80 ∧ n_t87 = t87 ∧ n_t88 = t88)) := by
  have no : f_HS_image_9 s26 s27 s28 s29 s49 t34 t35 t36 t37 t38 t39 t40 t41 t63 t64 s3 s30 t0 t2 s50 s51 s52 s53 s55 s56 s57 s58 s62 t65 t66 t67 t68 t69 t70 t71 t72 s63 t73 t74 t75 t76 t77 t78 t79 t80 t85 t86 t87 t88 = some (x_ans, n_s3, n_s30, n_t0, n_t2, n_s50, n_s51, n_s52, n_s53, n_s55, n_s56, n_s57, n_s58, n_s62, n_t65, n_t66, n_t67, n_t68, n_t69, n_t70, n_t71, n_t72, n_s63, n_t73, n_t74, n_t75, n_t76, n_t77, n_t78, n_t79, n_t80, n_t85, n_t86, n_t87, n_t88) → (n_s52 = s52 ∧ n_s53 = s53 ∧ n_s62 = s62 ∧ n_t71 = t71 ∧ n_t72 = t72 ∧ n_t85 = t85 ∧ n_t86 = t86) ∧ (n_s57 = s57 ∧ n_s58 = s58 ∧ n_s63 = s63 ∧ n_t79 = t79 ∧ n_t80 = t80 ∧ n_t87 = t87 ∧ n_t88 = t88) := fun h => by
    unfold f_HS_image_9 at h
    obtain ⟨u1, u2, u3, e, h⟩ := xz_d3 h
    cases h
    exact ⟨⟨rfl, rfl, rfl, rfl, rfl, rfl, rfl⟩, ⟨rfl, rfl, rfl, rfl, rfl, rfl, rfl⟩⟩
  unfold f_HS_image at h
  rw [zwi b1, zwi (x := 2) (by decide)] at h
  by_cases c1 : a1 < 0
  · rw [if_pos c1] at h
    exact Or.inr (Or.inr ⟨Or.inl c1, no h⟩)
  rw [if_neg c1] at h
  by_cases c2 : a1 < 2
  · rw [if_pos c2] at h
    by_cases c3 : a1 = 0
    · rw [if_pos c3] at h
      obtain ⟨v1, v2, v3, v4, v5, d1, d2, d3, d4, d5, d6, d7, d8, d9, d10, e, h⟩ := xz_d15 h
      obtain ⟨⟨g1, g2, g3, g4, g5⟩, g6, g7, g8, g9⟩ := k_become e
      unfold f_HS_image_28 at h
      replace h := (xp_s (xp_f (by decide +kernel) h)).2
      obtain ⟨u1, u2, u3, e2, h⟩ := xz_d3 h
      cases h
      exact Or.inl ⟨c3, ⟨g3, g4, g5, g6, g7, g8, g9⟩, ⟨rfl, rfl, rfl, rfl, rfl, rfl, rfl⟩⟩
    · have c4 : a1 = 1 := by omega
      rw [if_neg c3, if_pos c4] at h
      obtain ⟨v1, v2, v3, v4, v5, d1, d2, d3, d4, d5, d6, d7, d8, d9, d10, e, h⟩ := xz_d15 h
      obtain ⟨⟨g1, g2, g3, g4, g5⟩, g6, g7, g8, g9⟩ := k_become e
      unfold f_HS_image_28 at h
      replace h := (xp_s (xp_f (by decide +kernel) h)).2
      obtain ⟨u1, u2, u3, e2, h⟩ := xz_d3 h
      cases h
      exact Or.inr (Or.inl ⟨c4, ⟨g3, g4, g5, g6, g7, g8, g9⟩, ⟨rfl, rfl, rfl, rfl, rfl, rfl, rfl⟩⟩)
  · rw [if_neg c2] at h
    exact Or.inr (Or.inr ⟨Or.inr (by omega), no h⟩)
set_option maxHeartbeats 4000000 in
theorem k_back {a1 : Int} {t0 : Nat → Int} {s50 : Int} {s51 : Int} {s52 : Int} {s53 : Int} {s55 : Int} {s56 : Int} {s57 : Int} {s58 : Int} {s62 : Int} {t65 : Nat → Int} {t66 : Nat → Int} {t67 : Nat → Int} {t68 : Nat → Int} {t69 : Nat → Int} {t70 : Nat → Int} {t71 : Nat → Int} {t72 : Nat → Int} {s63 : Int} {t73 : Nat → Int} {t74 : Nat → Int} {t75 : Nat → Int} {t76 : Nat → Int} {t77 : Nat → Int} {t78 : Nat → Int} {t79 : Nat → Int} {t80 : Nat → Int} {t85 : Nat → Int} {t86 : Nat → Int} {t87 : Nat → Int} {t88 : Nat → Int} {s3 : Int} {s26 : Int} {s27 : Int} {s28 : Int} {s29 : Int} {s30 : Int} {t2 : Nat → Int} {s49 : Int} {t34 : Nat → Int} {t35 : Nat → Int} {t36 : Nat → Int} {t37 : Nat → Int} {t38 : Nat → Int} {t39 : Nat → Int} {t40 : Nat → Int} {t41 : Nat → Int} {t63 : Nat → Int} {t64 : Nat → Int} {x_ans : Int} {n_s3 : Int} {n_s26 : Int} {n_s27 : Int} {n_s28 : Int} {n_s29 : Int} {n_s30 : Int} {n_t2 : Nat → Int} {n_s49 : Int} {n_t34 : Nat → Int} {n_t35 : Nat → Int} {n_t36 : Nat → Int} {n_t37 : Nat → Int} {n_t38 : Nat → Int} {n_t39 : Nat → Int} {n_t40 : Nat → Int} {n_t41 : Nat → Int} {n_t63 : Nat → Int} {n_t64 : Nat → Int} (b1 : -2147483648 ≤ a1 ∧ a1 ≤ 2147483647) (h : f_HS_back a1 t0 s50 s51 s52 s53 s55 s56 s57 s58 s62 t65 t66 t67 t68 t69 t70 t71 t72 s63 t73 t74 t75 t76 t77 t78 t79 t80 t85 t86 t87 t88 s3 s26 s27 s28 s29 s30 t2 s49 t34 t35 t36 t37 t38 t39 t40 t41 t63 t64 = some (x_ans, n_s3, n_s26, n_s27, n_s28, n_s29, n_s30, n_t2, n_s49, n_t34, n_t35, n_t36, n_t37, n_t38, n_t39, n_t40, n_t41, n_t63, n_t64)) : (a1 = 0 ∧ x_ans = 0 ∧ (n_s28 = s52 ∧ n_s29 = s53 ∧ n_s49 = s62 ∧ (∀ j : Nat, j < 2544 → n_t40 j = t71 j) ∧ (∀ j : Nat, j < 6 → n_t41 j = t72 j) ∧ (∀ j : Nat, j < 12 → n_t63 j = t85 j) ∧ (∀ j : Nat, j < 120 → n_t64 j = t86 j))) ∨ (a1 = 1 ∧ x_ans = 0 ∧ (n_s28 = s57 ∧ n_s29 = s58 ∧ n_s49 = s63 ∧ (∀ j : Nat, j < 2544 → n_t40 j = t79 j) ∧ (∀ j : Nat, j < 6 → n_t41 j = t80 j) ∧ (∀ j : Nat, j < 12 → n_t63 j = t87 j) ∧ (∀ j : Nat, j < 120 → n_t64 j = t88 j))) ∨ (x_ans < 0 ∧ (n_s28 = s28 ∧ n_s29 = s29 ∧ n_s49 = s49 ∧ n_t40 = t40 ∧ n_t41 = t41 ∧ n_t63 = t63 ∧ n_t64 = t64)) := by
  have no : ∀ {x : Int} {y z : Int} {w : Nat → Int}, (-7 < x ∧ x < 0) → f_HS_refuse x s3 t2 = some (y, z, w) → y = x := fun hx e => by
    have q := k_refuse hx e
    cases q
    rfl
  have no9 : f_HS_back_9 t0 s50 s51 s52 s53 s55 s56 s57 s58 s62 t65 t66 t67 t68 t69 t70 t71 t72 s63 t73 t74 t75 t76 t77 t78 t79 t80 t85 t86 t87 t88 s3 s26 s27 s28 s29 s30 t2 s49 t34 t35 t36 t37 t38 t39 t40 t41 t63 t64 = some (x_ans, n_s3, n_s26, n_s27, n_s28, n_s29, n_s30, n_t2, n_s49, n_t34, n_t35, n_t36, n_t37, n_t38, n_t39, n_t40, n_t41, n_t63, n_t64) → x_ans < 0 ∧ (n_s28 = s28 ∧ n_s29 = s29 ∧ n_s49 = s49 ∧ n_t40 = t40 ∧ n_t41 = t41 ∧ n_t63 = t63 ∧ n_t64 = t64) := fun h => by
    unfold f_HS_back_9 at h
    obtain ⟨u1, u2, u3, e, h⟩ := xz_d3 h
    have q := no (by decide) e
    cases h
    exact ⟨by omega, rfl, rfl, rfl, rfl, rfl, rfl, rfl⟩
  unfold f_HS_back at h
  rw [zwi b1, zwi (x := 2) (by decide)] at h
  by_cases c1 : a1 < 0
  · rw [if_pos c1] at h
    exact Or.inr (Or.inr (no9 h))
  rw [if_neg c1] at h
  by_cases c2 : a1 < 2
  · rw [if_pos c2] at h
    replace h := (xp_g h).2
    rcases xp_if h with ⟨_, h⟩ | ⟨_, h⟩
    · by_cases c3 : a1 = 0
      · rw [if_pos c3] at h
        obtain ⟨v1, v2, v3, v4, v5, d1, d2, d3, d4, d5, d6, d7, d8, d9, d10, e, h⟩ := xz_d15 h
        obtain ⟨⟨g1, g2, g3, g4, g5⟩, g6, g7, g8, g9⟩ := k_become e
        unfold f_HS_back_44 at h
        obtain ⟨u1, u2, u3, e2, h⟩ := xz_d3 h
        have ka := k_accept e2
        cases ka
        cases h
        exact Or.inl ⟨c3, rfl, g3, g4, g5, g6, g7, g8, g9⟩
      · have c4 : a1 = 1 := by omega
        rw [if_neg c3, if_pos c4] at h
        obtain ⟨v1, v2, v3, v4, v5, d1, d2, d3, d4, d5, d6, d7, d8, d9, d10, e, h⟩ := xz_d15 h
        obtain ⟨⟨g1, g2, g3, g4, g5⟩, g6, g7, g8, g9⟩ := k_become e
        unfold f_HS_back_44 at h
        obtain ⟨u1, u2, u3, e2, h⟩ := xz_d3 h
        have ka := k_accept e2
        cases ka
        cases h
        exact Or.inr (Or.inl ⟨c4, rfl, g3, g4, g5, g6, g7, g8, g9⟩)
    · obtain ⟨u1, u2, u3, e, h⟩ := xz_d3 h
      have q := no (by decide) e
      cases h
      exact Or.inr (Or.inr ⟨by omega, rfl, rfl, rfl, rfl, rfl, rfl, rfl⟩)
  · rw [if_neg c2] at h
    exact Or.inr (Or.inr (no9 h))
def SIM2 (σ : Nat → Int) (τ : Nat → Nat → Int) : Prop := τ 1 = τ 7 ∧ (∀ k : Nat, k < 8 → τ 13 k = zcd k) ∧ σ 1 = σ 12 ∧ HILL2 (σ 28) (σ 29) (τ 40) (τ 41) (τ 4) ∧ (τ 6 0 ≠ 0 → HILL2 (σ 52) (σ 53) (τ 71) (τ 72) (fun j => τ 5 (5580 * 0 + j))) ∧ (τ 6 1 ≠ 0 → HILL2 (σ 57) (σ 58) (τ 79) (τ 80) (fun j => τ 5 (5580 * 1 + j)))
def XX (σ : Nat → Int) (τ : Nat → Nat → Int) : Prop := (RI (τ 4)) ∧ (zR (τ 16) 0 10) ∧ (zR (τ 17) 0 30) ∧ (0 ≤ σ 0 ∧ σ 0 ≤ 400) ∧ (σ 0 = σ 7) ∧ (zR (τ 1) 0 255) ∧ (0 ≤ σ 28 ∧ σ 28 ≤ 6) ∧ (-1 ≤ σ 29 ∧ σ 29 ≤ 5) ∧ (zIM (τ 6) (τ 5)) ∧ (zR (τ 6) 0 1) ∧ (0 ≤ σ 52 ∧ σ 52 ≤ 6) ∧ (0 ≤ σ 57 ∧ σ 57 ≤ 6) ∧ (zR (τ 7) 0 255) ∧ (0 ≤ σ 7 ∧ σ 7 ≤ 400)
set_option maxHeartbeats 4000000 in
set_option maxRecDepth 10000 in
theorem INV_XX {N : Int} {σ : Nat → Int} {τ : Nat → Nat → Int} (h : INV N σ τ) : XX σ τ := by
  obtain ⟨I_s0, I_s1, I_s3, I_s26, I_s27, I_s28, I_s29, I_s31, I_s32, I_s33, I_s34, I_s35, I_s36, I_s37, I_s38, I_s39, I_s41, I_s42, I_s46, I_s47, I_s48, I_s49, I_s50, I_s51, I_s52, I_s53, I_s54, I_s55, I_s56, I_s57, I_s58, I_s59, I_s60, I_s61, I_s62, I_s63, I_s65, I_s66, I_s68, I_s69, I_s71, I_s72, I_s30, I_t0, I_t1, I_t34, I_t35, I_t36, I_t37, I_t38, I_t39, I_t40, I_t41, I_t42, I_t43, I_t44, I_t46, I_t48, I_t49, I_t50, I_t52, I_t53, I_t54, I_t55, I_t56, I_t57, I_t58, I_t59, I_t60, I_t61, I_t63, I_t64, I_t65, I_t66, I_t67, I_t68, I_t69, I_t70, I_t71, I_t72, I_t73, I_t74, I_t75, I_t76, I_t77, I_t78, I_t79, I_t80, I_t81, I_t82, I_t83, I_t84, I_t85, I_t86, I_t87, I_t88, I_t89, I_t90, I_t91, I_t4, I_s7, I_s25, I_t7, I_t6, I_t16, I_t17, I_t28, I_t30, I_t31, I_t32, I_t18, I_t23, I_im, R_many, R_ch, R_pa, R_st, R_ex, R_tr, R_pl, R_te, R_go, R_tp, R_kp, R_i0, R_i1⟩ := h
  exact ⟨I_t4, I_t16, I_t17, I_s0, R_tp, I_t1, I_s28, I_s29, I_im, I_t6, I_s52, I_s57, I_t7, I_s7⟩
