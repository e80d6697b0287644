section
theorem k_become {c p l f m c' p' l' f' m' v1 v2 v3 v4 v5 : Int} {b1 b2 b3 b4 b5 b6 ord od hts wts d1 d2 d3 d4 d5 d6 ord' od' hts' wts' u1 u2 u3 u4 u5 u6 uo ud uh uw : Nat → Int} (h : f_Hill_become c p l f m b1 b2 b3 b4 b5 b6 ord od hts wts c' p' l' f' m' d1 d2 d3 d4 d5 d6 ord' od' hts' wts' = some (v1, v2, v3, v4, v5, u1, u2, u3, u4, u5, u6, uo, ud, uh, uw)) : (v1 = c ∧ v2 = p ∧ v3 = l ∧ v4 = f ∧ v5 = m) ∧ (∀ j : Nat, j < 2544 → uo j = ord j) ∧ (∀ j : Nat, j < 6 → ud j = od j) ∧ (∀ j : Nat, j < 12 → uh j = hts j) ∧ (∀ j : Nat, j < 120 → uw j = wts j) := by
  unfold f_Hill_become at h
  obtain ⟨w1, w2, w3, e1, h⟩ := xz_d3 h
  unfold f_Columns_become at e1
  replace e1 := xp_cp (xp_cp e1)
  cases e1
  replace h := xp_cp (xp_cp (xp_cp (xp_cp (xp_cp (xp_cp (xp_cp (xp_cp h)))))))
  cases h
  exact ⟨⟨rfl, rfl, rfl, rfl, rfl⟩, fun j hj => cpy_lt (n := 2544) hj, fun j hj => cpy_lt (n := 6) hj, fun j hj => cpy_lt (n := 12) hj, fun j hj => cpy_lt (n := 120) hj⟩
set_option maxHeartbeats 4000000 in
theorem k_image {a1 : Int} {s26 : Int} {s27 : Int} {s28 : Int} {s29 : Int} {s49 : Int} {t34 : Nat → Int} {t35 : Nat → Int} {t36 : Nat → Int} {t37 : Nat → Int} {t38 : Nat → Int} {t39 : Nat → Int} {t40 : Nat → Int} {t41 : Nat → Int} {t63 : Nat → Int} {t64 : Nat → Int} {s3 : Int} {s30 : Int} {t0 : Nat → Int} {t2 : Nat → Int} {s50 : Int} {s51 : Int} {s52 : Int} {s53 : Int} {s55 : Int} {s56 : Int} {s57 : Int} {s58 : Int} {s62 : Int} {t65 : Nat → Int} {t66 : Nat → Int} {t67 : Nat → Int} {t68 : Nat → Int} {t69 : Nat → Int} {t70 : Nat → Int} {t71 : Nat → Int} {t72 : Nat → Int} {s63 : Int} {t73 : Nat → Int} {t74 : Nat → Int} {t75 : Nat → Int} {t76 : Nat → Int} {t77 : Nat → Int} {t78 : Nat → Int} {t79 : Nat → Int} {t80 : Nat → Int} {t85 : Nat → Int} {t86 : Nat → Int} {t87 : Nat → Int} {t88 : Nat → Int} {x_ans : Int} {n_s3 : Int} {n_s30 : Int} {n_t0 : Nat → Int} {n_t2 : Nat → Int} {n_s50 : Int} {n_s51 : Int} {n_s52 : Int} {n_s53 : Int} {n_s55 : Int} {n_s56 : Int} {n_s57 : Int} {n_s58 : Int} {n_s62 : Int} {n_t65 : Nat → Int} {n_t66 : Nat → Int} {n_t67 : Nat → Int} {n_t68 : Nat → Int} {n_t69 : Nat → Int} {n_t70 : Nat → Int} {n_t71 : Nat → Int} {n_t72 : Nat → Int} {n_s63 : Int} {n_t73 : Nat → Int} {n_t74 : Nat → Int} {n_t75 : Nat → Int} {n_t76 : Nat → Int} {n_t77 : Nat → Int} {n_t78 : Nat → Int} {n_t79 : Nat → Int} {n_t80 : Nat → Int} {n_t85 : Nat → Int} {n_t86 : Nat → Int} {n_t87 : Nat → Int} {n_t88 : Nat → Int} (b1 : -2147483648 ≤ a1 ∧ a1 ≤ 2147483647) (h : f_HS_image a1 s26 s27 s28 s29 s49 t34 t35 t36 t37 t38 t39 t40 t41 t63 t64 s3 s30 t0 t2 s50 s51 s52 s53 s55 s56 s57 s58 s62 t65 t66 t67 t68 t69 t70 t71 t72 s63 t73 t74 t75 t76 t77 t78 t79 t80 t85 t86 t87 t88 = some (x_ans, n_s3, n_s30, n_t0, n_t2, n_s50, n_s51, n_s52, n_s53, n_s55, n_s56, n_s57, n_s58, n_s62, n_t65, n_t66, n_t67, n_t68, n_t69, n_t70, n_t71, n_t72, n_s63, n_t73, n_t74, n_t75, n_t76, n_t77, n_t78, n_t79, n_t80, n_t85, n_t86, n_t87, n_t88)) : (a1 = 0 ∧ (n_s52 = s28 ∧ n_s53 = s29 ∧ n_s62 = s49 ∧ (∀ j : Nat, j < 2544 → n_t71 j = t40 j) ∧ (∀ j : Nat, j < 6 → n_t72 j = t41 j) ∧ (∀ j : Nat, j < 12 → n_t85 j = t63 j) ∧ (∀ j : Nat, j < 120 → n_t86 j = t64 j)) ∧ (n_s57 = s57 ∧ n_s58 = s58 ∧ n_s63 = s63 ∧ n_t79 = t79 ∧ n_t80 = t80 ∧ n_t87 = t87 ∧ n_t88 = t88)) ∨ (a1 = 1 ∧ (n_s57 = s28 ∧ n_s58 = s29 ∧ n_s63 = s49 ∧ (∀ j : Nat, j < 2544 → n_t79 j = t40 j) ∧ (∀ j : Nat, j < 6 → n_t80 j = t41 j) ∧ (∀ j : Nat, j < 12 → n_t87 j = t63 j) ∧ (∀ j : Nat, j < 120 → n_t88 j = t64 j)) ∧ (n_s52 = s52 ∧ n_s53 = s53 ∧ n_s62 = s62 ∧ n_t71 = t71 ∧ n_t72 = t72 ∧ n_t85 = t85 ∧ n_t86 = t86)) ∨ ((a1 < 0 ∨ 1 < a1) ∧ (n_s52 = s52 ∧ n_s53 = s53 ∧ n_s62 = s62 ∧ n_t71 = t71 ∧ n_t72 = t72 ∧ n_t85 = t85 ∧ n_t86 = t86) ∧ (n_s57 = s57 ∧ n_s58 = s58 ∧ n_s63 = s63 ∧ n_t79 = t79 ∧ n_t80 = t80 ∧ n_t87 = t87 ∧ n_t88 = t88)) := by
  have no : f_HS_image_9 s26 s27 s28 s29 s49 t34 t35 t36 t37 t38 t39 t40 t41 t63 t64 s3 s30 t0 t2 s50 s51 s52 s53 s55 s56 s57 s58 s62 t65 t66 t67 t68 t69 t70 t71 t72 s63 t73 t74 t75 t76 t77 t78 t79 t80 t85 t86 t87 t88 = some (x_ans, n_s3, n_s30, n_t0, n_t2, n_s50, n_s51, n_s52, n_s53, n_s55, n_s56, n_s57, n_s58, n_s62, n_t65, n_t66, n_t67, n_t68, n_t69, n_t70, n_t71, n_t72, n_s63, n_t73, n_t74, n_t75, n_t76, n_t77, n_t78, n_t79, n_t80, n_t85, n_t86, n_t87, n_t88) → (n_s52 = s52 ∧ n_s53 = s53 ∧ n_s62 = s62 ∧ n_t71 = t71 ∧ n_t72 = t72 ∧ n_t85 = t85 ∧ n_t86 = t86) ∧ (n_s57 = s57 ∧ n_s58 = s58 ∧ n_s63 = s63 ∧ n_t79 = t79 ∧ n_t80 = t80 ∧ n_t87 = t87 ∧ n_t88 = t88) := fun h => by
    unfold f_HS_image_9 at h
    obtain ⟨u1, u2, u3, e, h⟩ := xz_d3 h
    cases h
    exact ⟨⟨rfl, rfl, rfl, rfl, rfl, rfl, rfl⟩, ⟨rfl, rfl, rfl, rfl, rfl, rfl, rfl⟩⟩
  unfold f_HS_image at h
  rw [zwi b1, zwi (x := 2) (by decide)] at h
  by_cases c1 : a1 < 0
  · rw [if_pos c1] at h
    exact Or.inr (Or.inr ⟨Or.inl c1, no h⟩)
  rw [if_neg c1] at h
  by_cases c2 : a1 < 2
  · rw [if_pos c2] at h
    by_cases c3 : a1 = 0
    · rw [if_pos c3] at h
      obtain ⟨v1, v2, v3, v4, v5, d1, d2, d3, d4, d5, d6, d7, d8, d9, d10, e, h⟩ := xz_d15 h
      obtain ⟨⟨g1, g2, g3, g4, g5⟩, g6, g7, g8, g9⟩ := k_become e
      unfold f_HS_image_28 at h
      replace h := (xp_s (xp_f (by decide +kernel) h)).2
      obtain ⟨u1, u2, u3, e2, h⟩ := xz_d3 h
      cases h
      exact Or.inl ⟨c3, ⟨g3, g4, g5, g6, g7, g8, g9⟩, ⟨rfl, rfl, rfl, rfl, rfl, rfl, rfl⟩⟩
    · have c4 : a1 = 1 := by omega
      rw [if_neg c3, if_pos c4] at h
      obtain ⟨v1, v2, v3, v4, v5, d1, d2, d3, d4, d5, d6, d7, d8, d9, d10, e, h⟩ := xz_d15 h
      obtain ⟨⟨g1, g2, g3, g4, g5⟩, g6, g7, g8, g9⟩ := k_become e
      unfold f_HS_image_28 at h
      replace h := (xp_s (xp_f (by decide +kernel) h)).2
      obtain ⟨u1, u2, u3, e2, h⟩ := xz_d3 h
      cases h
      exact Or.inr (Or.inl ⟨c4, ⟨g3, g4, g5, g6, g7, g8, g9⟩, ⟨rfl, rfl, rfl, rfl, rfl, rfl, rfl⟩⟩)
  · rw [if_neg c2] at h
    exact Or.inr (Or.inr ⟨Or.inr (by omega), no h⟩)
set_option maxHeartbeats 4000000 in
theorem k_back {a1 : Int} {t0 : Nat → Int} {s50 : Int} {s51 : Int} {s52 : Int} {s53 : Int} {s55 : Int} {s56 : Int} {s57 : Int} {s58 : Int} {s62 : Int} {t65 : Nat → Int} {t66 : Nat → Int} {t67 : Nat → Int} {t68 : Nat → Int} {t69 : Nat → Int} {t70 : Nat → Int} {t71 : Nat → Int} {t72 : Nat → Int} {s63 : Int} {t73 : Nat → Int} {t74 : Nat → Int} {t75 : Nat → Int} {t76 : Nat → Int} {t77 : Nat → Int} {t78 : Nat → Int} {t79 : Nat → Int} {t80 : Nat → Int} {t85 : Nat → Int} {t86 : Nat → Int} {t87 : Nat → Int} {t88 : Nat → Int} {s3 : Int} {s26 : Int} {s27 : Int} {s28 : Int} {s29 : Int} {s30 : Int} {t2 : Nat → Int} {s49 : Int} {t34 : Nat → Int} {t35 : Nat → Int} {t36 : Nat → Int} {t37 : Nat → Int} {t38 : Nat → Int} {t39 : Nat → Int} {t40 : Nat → Int} {t41 : Nat → Int} {t63 : Nat → Int} {t64 : Nat → Int} {x_ans : Int} {n_s3 : Int} {n_s26 : Int} {n_s27 : Int} {n_s28 : Int} {n_s29 : Int} {n_s30 : Int} {n_t2 : Nat → Int} {n_s49 : Int} {n_t34 : Nat → Int} {n_t35 : Nat → Int} {n_t36 : Nat → Int} {n_t37 : Nat → Int} {n_t38 : Nat → Int} {n_t39 : Nat → Int} {n_t40 : Nat → Int} {n_t41 : Nat → Int} {n_t63 : Nat → Int} {n_t64 : Nat → Int} (b1 : -2147483648 ≤ a1 ∧ a1 ≤ 2147483647) (h : f_HS_back a1 t0 s50 s51 s52 s53 s55 s56 s57 s58 s62 t65 t66 t67 t68 t69 t70 t71 t72 s63 t73 t74 t75 t76 t77 t78 t79 t80 t85 t86 t87 t88 s3 s26 s27 s28 s29 s30 t2 s49 t34 t35 t36 t37 t38 t39 t40 t41 t63 t64 = some (x_ans, n_s3, n_s26, n_s27, n_s28, n_s29, n_s30, n_t2, n_s49, n_t34, n_t35, n_t36, n_t37, n_t38, n_t39, n_t40, n_t41, n_t63, n_t64)) : (a1 = 0 ∧ x_ans = 0 ∧ (n_s28 = s52 ∧ n_s29 = s53 ∧ n_s49 = s62 ∧ (∀ j : Nat, j < 2544 → n_t40 j = t71 j) ∧ (∀ j : Nat, j < 6 → n_t41 j = t72 j) ∧ (∀ j : Nat, j < 12 → n_t63 j = t85 j) ∧ (∀ j : Nat, j < 120 → n_t64 j = t86 j))) ∨ (a1 = 1 ∧ x_ans = 0 ∧ (n_s28 = s57 ∧ n_s29 = s58 ∧ n_s49 = s63 ∧ (∀ j : Nat, j < 2544 → n_t40 j = t79 j) ∧ (∀ j : Nat, j < 6 → n_t41 j = t80 j) ∧ (∀ j : Nat, j < 12 → n_t63 j = t87 j) ∧ (∀ j : Nat, j < 120 → n_t64 j = t88 j))) ∨ (x_ans < 0 ∧ (n_s28 = s28 ∧ n_s29 = s29 ∧ n_s49 = s49 ∧ n_t40 = t40 ∧ n_t41 = t41 ∧ n_t63 = t63 ∧ n_t64 = t64)) := by
  have no : ∀ {x : Int} {y z : Int} {w : Nat → Int}, (-7 < x ∧ x < 0) → f_HS_refuse x s3 t2 = some (y, z, w) → y = x := fun hx e => by
    have q := k_refuse hx e
    cases q
    rfl
  have no9 : f_HS_back_9 t0 s50 s51 s52 s53 s55 s56 s57 s58 s62 t65 t66 t67 t68 t69 t70 t71 t72 s63 t73 t74 t75 t76 t77 t78 t79 t80 t85 t86 t87 t88 s3 s26 s27 s28 s29 s30 t2 s49 t34 t35 t36 t37 t38 t39 t40 t41 t63 t64 = some (x_ans, n_s3, n_s26, n_s27, n_s28, n_s29, n_s30, n_t2, n_s49, n_t34, n_t35, n_t36, n_t37, n_t38, n_t39, n_t40, n_t41, n_t63, n_t64) → x_ans < 0 ∧ (n_s28 = s28 ∧ n_s29 = s29 ∧ n_s49 = s49 ∧ n_t40 = t40 ∧ n_t41 = t41 ∧ n_t63 = t63 ∧ n_t64 = t64) := fun h => by
    unfold f_HS_back_9 at h
    obtain ⟨u1, u2, u3, e, h⟩ := xz_d3 h
    have q := no (by decide) e
    cases h
    exact ⟨by omega, rfl, rfl, rfl, rfl, rfl, rfl, rfl⟩
  unfold f_HS_back at h
  rw [zwi b1, zwi (x := 2) (by decide)] at h
  by_cases c1 : a1 < 0
  · rw [if_pos c1] at h
    exact Or.inr (Or.inr (no9 h))
  rw [if_neg c1] at h
  by_cases c2 : a1 < 2
  · rw [if_pos c2] at h
    replace h := (xp_g h).2
    rcases xp_if h with ⟨_, h⟩ | ⟨_, h⟩
    · by_cases c3 : a1 = 0
      · rw [if_pos c3] at h
        obtain ⟨v1, v2, v3, v4, v5, d1, d2, d3, d4, d5, d6, d7, d8, d9, d10, e, h⟩ := xz_d15 h
        obtain ⟨⟨g1, g2, g3, g4, g5⟩, g6, g7, g8, g9⟩ := k_become e
        unfold f_HS_back_44 at h
        obtain ⟨u1, u2, u3, e2, h⟩ := xz_d3 h
        have ka := k_accept e2
        cases ka
        cases h
        exact Or.inl ⟨c3, rfl, g3, g4, g5, g6, g7, g8, g9⟩
      · have c4 : a1 = 1 := by omega
        rw [if_neg c3, if_pos c4] at h
        obtain ⟨v1, v2, v3, v4, v5, d1, d2, d3, d4, d5, d6, d7, d8, d9, d10, e, h⟩ := xz_d15 h
        obtain ⟨⟨g1, g2, g3, g4, g5⟩, g6, g7, g8, g9⟩ := k_become e
        unfold f_HS_back_44 at h
        obtain ⟨u1, u2, u3, e2, h⟩ := xz_d3 h
        have ka := k_accept e2
        cases ka
        cases h
        exact Or.inr (Or.inl ⟨c4, rfl, g3, g4, g5, g6, g7, g8, g9⟩)
    · obtain ⟨u1, u2, u3, e, h⟩ := xz_d3 h
      have q := no (by decide) e
      cases h
      exact Or.inr (Or.inr ⟨by omega, rfl, rfl, rfl, rfl, rfl, rfl, rfl⟩)
  · rw [if_neg c2] at h
    exact Or.inr (Or.inr (no9 h))
noncomputable def SIM2 (σ : Nat → Int) (τ : Nat → Nat → Int) : Prop := τ 1 = τ 7 ∧ (∀ k : Nat, k < 8 → τ 13 k = zcd k) ∧ σ 1 = σ 12 ∧ HILL2 (σ 28) (σ 29) (τ 40) (τ 41) (τ 4) ∧ (τ 6 0 ≠ 0 → HILL2 (σ 52) (σ 53) (τ 71) (τ 72) (fun j => τ 5 (5580 * 0 + j))) ∧ (τ 6 1 ≠ 0 → HILL2 (σ 57) (σ 58) (τ 79) (τ 80) (fun j => τ 5 (5580 * 1 + j)))
noncomputable def XX (σ : Nat → Int) (τ : Nat → Nat → Int) : Prop := (RI (τ 4)) ∧ (zR (τ 16) 0 10) ∧ (zR (τ 17) 0 30) ∧ (0 ≤ σ 0 ∧ σ 0 ≤ 400) ∧ (σ 0 = σ 7) ∧ (zR (τ 1) 0 255) ∧ (0 ≤ σ 28 ∧ σ 28 ≤ 6) ∧ (-1 ≤ σ 29 ∧ σ 29 ≤ 5) ∧ (zIM (τ 6) (τ 5)) ∧ (zR (τ 6) 0 1) ∧ (0 ≤ σ 52 ∧ σ 52 ≤ 6) ∧ (0 ≤ σ 57 ∧ σ 57 ≤ 6) ∧ (zR (τ 7) 0 255) ∧ (0 ≤ σ 7 ∧ σ 7 ≤ 400)
set_option maxHeartbeats 4000000 in
set_option maxRecDepth 10000 in
theorem INV_XX {N : Int} {σ : Nat → Int} {τ : Nat → Nat → Int} (h : INV N σ τ) : XX σ τ := by
  have zg1 := h.2
  have zg2 := zg1.2
  have zg3 := zg2.2
  have zg4 := zg3.2
  have zg5 := zg4.2
  have zg6 := zg5.2
  have zg7 := zg6.2
  have zg8 := zg7.2
  have zg9 := zg8.2
  have zg10 := zg9.2
  have zg11 := zg10.2
  have zg12 := zg11.2
  have zg13 := zg12.2
  have zg14 := zg13.2
  have zg15 := zg14.2
  have zg16 := zg15.2
  have zg17 := zg16.2
  have zg18 := zg17.2
  have zg19 := zg18.2
  have zg20 := zg19.2
  have zg21 := zg20.2
  have zg22 := zg21.2
  have zg23 := zg22.2
  have zg24 := zg23.2
  have zg25 := zg24.2
  have zg26 := zg25.2
  have zg27 := zg26.2
  have zg28 := zg27.2
  have zg29 := zg28.2
  have zg30 := zg29.2
  have zg31 := zg30.2
  have zg32 := zg31.2
  have zg33 := zg32.2
  have zg34 := zg33.2
  have zg35 := zg34.2
  have zg36 := zg35.2
  have zg37 := zg36.2
  have zg38 := zg37.2
  have zg39 := zg38.2
  have zg40 := zg39.2
  have zg41 := zg40.2
  have zg42 := zg41.2
  have zg43 := zg42.2
  have zg44 := zg43.2
  have zg45 := zg44.2
  have zg46 := zg45.2
  have zg47 := zg46.2
  have zg48 := zg47.2
  have zg49 := zg48.2
  have zg50 := zg49.2
  have zg51 := zg50.2
  have zg52 := zg51.2
  have zg53 := zg52.2
  have zg54 := zg53.2
  have zg55 := zg54.2
  have zg56 := zg55.2
  have zg57 := zg56.2
  have zg58 := zg57.2
  have zg59 := zg58.2
  have zg60 := zg59.2
  have zg61 := zg60.2
  have zg62 := zg61.2
  have zg63 := zg62.2
  have zg64 := zg63.2
  have zg65 := zg64.2
  have zg66 := zg65.2
  have zg67 := zg66.2
  have zg68 := zg67.2
  have zg69 := zg68.2
  have zg70 := zg69.2
  have zg71 := zg70.2
  have zg72 := zg71.2
  have zg73 := zg72.2
  have zg74 := zg73.2
  have zg75 := zg74.2
  have zg76 := zg75.2
  have zg77 := zg76.2
  have zg78 := zg77.2
  have zg79 := zg78.2
  have zg80 := zg79.2
  have zg81 := zg80.2
  have zg82 := zg81.2
  have zg83 := zg82.2
  have zg84 := zg83.2
  have zg85 := zg84.2
  have zg86 := zg85.2
  have zg87 := zg86.2
  have zg88 := zg87.2
  have zg89 := zg88.2
  have zg90 := zg89.2
  have zg91 := zg90.2
  have zg92 := zg91.2
  have zg93 := zg92.2
  have zg94 := zg93.2
  have zg95 := zg94.2
  have zg96 := zg95.2
  have zg97 := zg96.2
  have zg98 := zg97.2
  have zg99 := zg98.2
  have zg100 := zg99.2
  have zg101 := zg100.2
  have zg102 := zg101.2
  have zg103 := zg102.2
  have zg104 := zg103.2
  have zg105 := zg104.2
  have zg106 := zg105.2
  have zg107 := zg106.2
  have zg108 := zg107.2
  have zg109 := zg108.2
  have zg110 := zg109.2
  have zg111 := zg110.2
  have zg112 := zg111.2
  have zg113 := zg112.2
  have zg114 := zg113.2
  have zg115 := zg114.2
  have zg116 := zg115.2
  have zg117 := zg116.2
  have zg118 := zg117.2
  have zg119 := zg118.2
  have zg120 := zg119.2
  have zg121 := zg120.2
  have zg122 := zg121.2
  have zg123 := zg122.2
  have zg124 := zg123.2
  have zg125 := zg124.2
  have I_t4 := zg99.1
  have I_t16 := zg104.1
  have I_t17 := zg105.1
  have I_s0 := h.1
  have R_tp := zg122.1
  have I_t1 := zg44.1
  have I_s28 := zg5.1
  have I_s29 := zg6.1
  have I_im := zg112.1
  have I_t6 := zg103.1
  have I_s52 := zg24.1
  have I_s57 := zg29.1
  have I_t7 := zg102.1
  have I_s7 := zg100.1
  exact ⟨I_t4, I_t16, I_t17, I_s0, R_tp, I_t1, I_s28, I_s29, I_im, I_t6, I_s52, I_s57, I_t7, I_s7⟩
end
section
set_option maxHeartbeats 4000000 in
set_option maxRecDepth 10000 in
theorem y_0 {N : Int} {σ : Nat → Int} {τ : Nat → Nat → Int} (hX : XX σ τ) (hS : SIM2 σ τ)  {o : Int × Int × Int × Int × Int × Int × Int × (Nat → Int) × (Nat → Int) × (Nat → Int) × (Nat → Int) × (Nat → Int)} (h : f_OP_0 N (σ 3) (σ 4) (σ 5) (σ 26) (σ 27) (σ 30) (σ 49) (τ 2) (τ 3) (τ 4) (τ 34) (τ 35) (τ 36) (τ 37) (τ 38) (τ 39) (τ 63) = some o) : (True) ∧ SIM2 (zst σ [(3, o.2.2.1), (4, o.2.2.2.1), (5, o.2.2.2.2.1), (30, o.2.2.2.2.2.1), (49, o.2.2.2.2.2.2.1)]) (zta τ [(2, o.2.2.2.2.2.2.2.1), (3, o.2.2.2.2.2.2.2.2.1), (4, o.2.2.2.2.2.2.2.2.2.1), (39, o.2.2.2.2.2.2.2.2.2.2.1), (63, o.2.2.2.2.2.2.2.2.2.2.2)]) := by
  obtain ⟨x_RI, x_h16, x_h17, x_b0, x_e0, x_t1, x_la, x_fo, x_im, x_k6, x_la0, x_la1, x_t7, x_b7⟩ := hX
  obtain ⟨S1, S2, S3, S4, S5, S6⟩ := hS
  unfold f_OP_0 at h
  obtain ⟨x_ans, n_s3, n_s30, n_t2, n_s49, n_t39, n_t63, e1, h⟩ := xz_d7 h
  obtain ⟨y_ans, n_s4, n_s5, n_t3, n_t4, e2, h⟩ := xz_d5 h
  have fr : FRM (τ 4) n_t4 := fr_column (RI_0 x_RI) e2
  cases h
  exact ⟨trivial, S1, S2, S3, HILL2_f S4 fr, S5, S6⟩
set_option maxHeartbeats 4000000 in
set_option maxRecDepth 10000 in
theorem y_1 {N : Int} {σ : Nat → Int} {τ : Nat → Nat → Int} (hX : XX σ τ) (hS : SIM2 σ τ) (a1 : Int) (a2 : Int) (b_a1 : (-2147483648) ≤ a1 ∧ a1 ≤ 2147483647) (b_a2 : (-2147483648) ≤ a2 ∧ a2 ≤ 2147483647) {o : Int × Int × Int × Int × Int × Int × (Nat → Int) × (Nat → Int) × (Nat → Int) × (Nat → Int) × (Nat → Int)} (h : f_OP_1 N a1 a2 (σ 3) (σ 4) (σ 5) (σ 26) (σ 27) (σ 30) (σ 49) (τ 2) (τ 3) (τ 4) (τ 34) (τ 35) (τ 36) (τ 37) (τ 38) (τ 39) (τ 63) (τ 64) = some o) : (True) ∧ SIM2 (zst σ [(3, o.2.2.1), (4, o.2.2.2.1), (5, o.2.2.2.2.1), (30, o.2.2.2.2.2.1)]) (zta τ [(2, o.2.2.2.2.2.2.1), (3, o.2.2.2.2.2.2.2.1), (4, o.2.2.2.2.2.2.2.2.1), (63, o.2.2.2.2.2.2.2.2.2.1), (64, o.2.2.2.2.2.2.2.2.2.2)]) := by
  obtain ⟨x_RI, x_h16, x_h17, x_b0, x_e0, x_t1, x_la, x_fo, x_im, x_k6, x_la0, x_la1, x_t7, x_b7⟩ := hX
  obtain ⟨S1, S2, S3, S4, S5, S6⟩ := hS
  unfold f_OP_1 at h
  obtain ⟨x_ans, n_s3, n_s30, n_t2, n_t63, n_t64, e1, h⟩ := xz_d6 h
  obtain ⟨y_ans, n_s4, n_s5, n_t3, n_t4, e2, h⟩ := xz_d5 h
  have fr : FRM (τ 4) n_t4 := FRM_g (zok_x (s_HM_stone _ _ _ _ _ _ b_a1 b_a2 x_RI) e2).2
  cases h
  exact ⟨trivial, S1, S2, S3, HILL2_f S4 fr, S5, S6⟩
set_option maxHeartbeats 4000000 in
set_option maxRecDepth 10000 in
theorem y_2 {N : Int} {σ : Nat → Int} {τ : Nat → Nat → Int} (hX : XX σ τ) (hS : SIM2 σ τ) (a1 : Int) (b_a1 : (-2147483648) ≤ a1 ∧ a1 ≤ 2147483647) {o : Int × Int × Int × Int × Int × Int × (Nat → Int) × (Nat → Int) × (Nat → Int) × (Nat → Int)} (h : f_OP_2 N a1 (σ 3) (σ 4) (σ 5) (σ 26) (σ 27) (σ 30) (σ 49) (τ 2) (τ 3) (τ 4) (τ 34) (τ 35) (τ 36) (τ 37) (τ 38) (τ 39) (τ 63) (τ 64) = some o) : (True) ∧ SIM2 (zst σ [(3, o.2.2.1), (4, o.2.2.2.1), (5, o.2.2.2.2.1), (30, o.2.2.2.2.2.1)]) (zta τ [(2, o.2.2.2.2.2.2.1), (3, o.2.2.2.2.2.2.2.1), (4, o.2.2.2.2.2.2.2.2.1), (63, o.2.2.2.2.2.2.2.2.2)]) := by
  obtain ⟨x_RI, x_h16, x_h17, x_b0, x_e0, x_t1, x_la, x_fo, x_im, x_k6, x_la0, x_la1, x_t7, x_b7⟩ := hX
  obtain ⟨S1, S2, S3, S4, S5, S6⟩ := hS
  unfold f_OP_2 at h
  obtain ⟨x_ans, n_s3, n_s30, n_t2, n_t63, e1, h⟩ := xz_d5 h
  obtain ⟨y_ans, n_s4, n_s5, n_t3, n_t4, e2, h⟩ := xz_d5 h
  have fr : FRM (τ 4) n_t4 := FRM_g (zok_x (s_HM_lift _ _ _ _ _ b_a1 x_RI) e2).2
  cases h
  exact ⟨trivial, S1, S2, S3, HILL2_f S4 fr, S5, S6⟩
set_option maxHeartbeats 4000000 in
set_option maxRecDepth 10000 in
theorem y_3 {N : Int} {σ : Nat → Int} {τ : Nat → Nat → Int} (hX : XX σ τ) (hS : SIM2 σ τ) (a1 : Int) (a2 : Int) (b_a1 : (-2147483648) ≤ a1 ∧ a1 ≤ 2147483647) (b_a2 : (-2147483648) ≤ a2 ∧ a2 ≤ 2147483647) {o : Int × Int × Int} (h : f_OP_3 N a1 a2 (σ 4) (σ 49) (τ 4) (τ 63) (τ 64) = some o) : (True) ∧ SIM2 (zst σ [(4, o.2.2)]) τ := by
  obtain ⟨x_RI, x_h16, x_h17, x_b0, x_e0, x_t1, x_la, x_fo, x_im, x_k6, x_la0, x_la1, x_t7, x_b7⟩ := hX
  obtain ⟨S1, S2, S3, S4, S5, S6⟩ := hS
  unfold f_OP_3 at h
  obtain ⟨x_ans, e1, h⟩ := xz_d1 h
  obtain ⟨y_ans, n_s4, e2, h⟩ := xz_d2 h
  cases h
  exact ⟨trivial, S1, S2, S3, S4, S5, S6⟩
set_option maxHeartbeats 4000000 in
set_option maxRecDepth 10000 in
theorem y_4 {N : Int} {σ : Nat → Int} {τ : Nat → Nat → Int} (hX : XX σ τ) (hS : SIM2 σ τ) (a1 : Int) (b_a1 : (-2147483648) ≤ a1 ∧ a1 ≤ 2147483647) {o : Int × Int × Int} (h : f_OP_4 N a1 (σ 4) (σ 49) (τ 4) (τ 63) (τ 64) = some o) : (True) ∧ SIM2 (zst σ [(4, o.2.2)]) τ := by
  obtain ⟨x_RI, x_h16, x_h17, x_b0, x_e0, x_t1, x_la, x_fo, x_im, x_k6, x_la0, x_la1, x_t7, x_b7⟩ := hX
  obtain ⟨S1, S2, S3, S4, S5, S6⟩ := hS
  unfold f_OP_4 at h
  obtain ⟨x_ans, e1, h⟩ := xz_d1 h
  obtain ⟨y_ans, n_s4, e2, h⟩ := xz_d2 h
  cases h
  exact ⟨trivial, S1, S2, S3, S4, S5, S6⟩
set_option maxHeartbeats 4000000 in
set_option maxRecDepth 10000 in
theorem y_5 {N : Int} {σ : Nat → Int} {τ : Nat → Nat → Int} (hX : XX σ τ) (hS : SIM2 σ τ) (a1 : Int) (b_a1 : (-2147483648) ≤ a1 ∧ a1 ≤ 2147483647) {o : Int × Int × Int × Int × Int × Int × Int × (Nat → Int) × (Nat → Int) × (Nat → Int) × (Nat → Int) × (Nat → Int) × (Nat → Int)} (h : f_OP_5 N a1 (σ 3) (σ 4) (σ 5) (σ 26) (σ 27) (σ 30) (σ 49) (τ 2) (τ 3) (τ 4) (τ 34) (τ 35) (τ 36) (τ 37) (τ 38) (τ 39) = some o) : (True) ∧ SIM2 (zst σ [(3, o.2.2.1), (4, o.2.2.2.1), (5, o.2.2.2.2.1), (26, o.2.2.2.2.2.1), (30, o.2.2.2.2.2.2.1)]) (zta τ [(2, o.2.2.2.2.2.2.2.1), (3, o.2.2.2.2.2.2.2.2.1), (4, o.2.2.2.2.2.2.2.2.2.1), (34, o.2.2.2.2.2.2.2.2.2.2.1), (35, o.2.2.2.2.2.2.2.2.2.2.2.1), (36, o.2.2.2.2.2.2.2.2.2.2.2.2)]) := by
  obtain ⟨x_RI, x_h16, x_h17, x_b0, x_e0, x_t1, x_la, x_fo, x_im, x_k6, x_la0, x_la1, x_t7, x_b7⟩ := hX
  obtain ⟨S1, S2, S3, S4, S5, S6⟩ := hS
  unfold f_OP_5 at h
  obtain ⟨x_ans, n_s3, n_s26, n_s30, n_t2, n_t34, n_t35, n_t36, e1, h⟩ := xz_d8 h
  obtain ⟨y_ans, n_s4, n_s5, n_t3, n_t4, e2, h⟩ := xz_d5 h
  have fr : FRM (τ 4) n_t4 := FRM_3 (fr_child (RI_1 x_RI) e2)
  cases h
  exact ⟨trivial, S1, S2, S3, HILL2_f S4 fr, S5, S6⟩
set_option maxHeartbeats 4000000 in
set_option maxRecDepth 10000 in
theorem y_6 {N : Int} {σ : Nat → Int} {τ : Nat → Nat → Int} (hX : XX σ τ) (hS : SIM2 σ τ) (a1 : Int) (a2 : Int) (b_a1 : (-2147483648) ≤ a1 ∧ a1 ≤ 2147483647) (b_a2 : (-2147483648) ≤ a2 ∧ a2 ≤ 2147483647) {o : Int × Int × Int × Int × Int × Int × (Nat → Int) × (Nat → Int) × (Nat → Int) × (Nat → Int)} (h : f_OP_6 N a1 a2 (σ 3) (σ 4) (σ 5) (σ 26) (σ 27) (σ 30) (σ 49) (τ 2) (τ 3) (τ 4) (τ 34) (τ 35) (τ 36) (τ 37) (τ 38) (τ 39) = some o) : (True) ∧ SIM2 (zst σ [(3, o.2.2.1), (4, o.2.2.2.1), (5, o.2.2.2.2.1), (30, o.2.2.2.2.2.1)]) (zta τ [(2, o.2.2.2.2.2.2.1), (3, o.2.2.2.2.2.2.2.1), (4, o.2.2.2.2.2.2.2.2.1), (35, o.2.2.2.2.2.2.2.2.2)]) := by
  obtain ⟨x_RI, x_h16, x_h17, x_b0, x_e0, x_t1, x_la, x_fo, x_im, x_k6, x_la0, x_la1, x_t7, x_b7⟩ := hX
  obtain ⟨S1, S2, S3, S4, S5, S6⟩ := hS
  unfold f_OP_6 at h
  obtain ⟨x_ans, n_s3, n_s30, n_t2, n_t35, e1, h⟩ := xz_d5 h
  obtain ⟨y_ans, n_s4, n_s5, n_t3, n_t4, e2, h⟩ := xz_d5 h
  have fr : FRM (τ 4) n_t4 := FRM_3 (fr_expel b_a1 (RI_1 x_RI) e2)
  cases h
  exact ⟨trivial, S1, S2, S3, HILL2_f S4 fr, S5, S6⟩
set_option maxHeartbeats 4000000 in
set_option maxRecDepth 10000 in
theorem y_7 {N : Int} {σ : Nat → Int} {τ : Nat → Nat → Int} (hX : XX σ τ) (hS : SIM2 σ τ) (a1 : Int) (a2 : Int) (b_a1 : (-2147483648) ≤ a1 ∧ a1 ≤ 2147483647) (b_a2 : (-2147483648) ≤ a2 ∧ a2 ≤ 2147483647) {o : Int × Int × Int} (h : f_OP_7 N a1 a2 (σ 4) (σ 26) (τ 4) (τ 34) (τ 35) (τ 36) = some o) : (True) ∧ SIM2 (zst σ [(4, o.2.2)]) τ := by
  obtain ⟨x_RI, x_h16, x_h17, x_b0, x_e0, x_t1, x_la, x_fo, x_im, x_k6, x_la0, x_la1, x_t7, x_b7⟩ := hX
  obtain ⟨S1, S2, S3, S4, S5, S6⟩ := hS
  unfold f_OP_7 at h
  obtain ⟨x_ans, e1, h⟩ := xz_d1 h
  obtain ⟨y_ans, n_s4, e2, h⟩ := xz_d2 h
  cases h
  exact ⟨trivial, S1, S2, S3, S4, S5, S6⟩
set_option maxHeartbeats 4000000 in
set_option maxRecDepth 10000 in
theorem y_8 {N : Int} {σ : Nat → Int} {τ : Nat → Nat → Int} (hX : XX σ τ) (hS : SIM2 σ τ) (a1 : Int) (b_a1 : (-2147483648) ≤ a1 ∧ a1 ≤ 2147483647) {o : Int × Int × Int × Int × Int × Int × Int × (Nat → Int) × (Nat → Int) × (Nat → Int) × (Nat → Int)} (h : f_OP_8 N a1 (σ 3) (σ 4) (σ 5) (σ 26) (σ 27) (σ 30) (σ 49) (τ 2) (τ 3) (τ 4) (τ 34) (τ 35) (τ 36) (τ 37) (τ 38) (τ 39) = some o) : (True) ∧ SIM2 (zst σ [(3, o.2.2.1), (4, o.2.2.2.1), (5, o.2.2.2.2.1), (27, o.2.2.2.2.2.1), (30, o.2.2.2.2.2.2.1)]) (zta τ [(2, o.2.2.2.2.2.2.2.1), (3, o.2.2.2.2.2.2.2.2.1), (4, o.2.2.2.2.2.2.2.2.2.1), (37, o.2.2.2.2.2.2.2.2.2.2)]) := by
  obtain ⟨x_RI, x_h16, x_h17, x_b0, x_e0, x_t1, x_la, x_fo, x_im, x_k6, x_la0, x_la1, x_t7, x_b7⟩ := hX
  obtain ⟨S1, S2, S3, S4, S5, S6⟩ := hS
  unfold f_OP_8 at h
  obtain ⟨x_ans, n_s3, n_s27, n_s30, n_t2, n_t37, e1, h⟩ := xz_d6 h
  obtain ⟨y_ans, n_s4, n_s5, n_t3, n_t4, e2, h⟩ := xz_d5 h
  have fr : FRM (τ 4) n_t4 := FRM_3 (fr_parish (RI_2 x_RI) e2)
  cases h
  exact ⟨trivial, S1, S2, S3, HILL2_f S4 fr, S5, S6⟩
set_option maxHeartbeats 4000000 in
set_option maxRecDepth 10000 in
theorem y_9 {N : Int} {σ : Nat → Int} {τ : Nat → Nat → Int} (hX : XX σ τ) (hS : SIM2 σ τ) (a1 : Int) (a2 : Int) (b_a1 : (-2147483648) ≤ a1 ∧ a1 ≤ 2147483647) (b_a2 : (-2147483648) ≤ a2 ∧ a2 ≤ 2147483647) {o : Int × Int × Int × Int × Int × Int × (Nat → Int) × (Nat → Int) × (Nat → Int) × (Nat → Int)} (h : f_OP_9 N a1 a2 (σ 3) (σ 4) (σ 5) (σ 26) (σ 27) (σ 30) (σ 49) (τ 2) (τ 3) (τ 4) (τ 34) (τ 35) (τ 36) (τ 37) (τ 38) (τ 39) = some o) : (True) ∧ SIM2 (zst σ [(3, o.2.2.1), (4, o.2.2.2.1), (5, o.2.2.2.2.1), (30, o.2.2.2.2.2.1)]) (zta τ [(2, o.2.2.2.2.2.2.1), (3, o.2.2.2.2.2.2.2.1), (4, o.2.2.2.2.2.2.2.2.1), (38, o.2.2.2.2.2.2.2.2.2)]) := by
  obtain ⟨x_RI, x_h16, x_h17, x_b0, x_e0, x_t1, x_la, x_fo, x_im, x_k6, x_la0, x_la1, x_t7, x_b7⟩ := hX
  obtain ⟨S1, S2, S3, S4, S5, S6⟩ := hS
  unfold f_OP_9 at h
  obtain ⟨x_ans, n_s3, n_s30, n_t2, n_t38, e1, h⟩ := xz_d5 h
  obtain ⟨y_ans, n_s4, n_s5, n_t3, n_t4, e2, h⟩ := xz_d5 h
  have fr : FRM (τ 4) n_t4 := FRM_3 (fr_terms b_a1 e2)
  cases h
  exact ⟨trivial, S1, S2, S3, HILL2_f S4 fr, S5, S6⟩
set_option maxHeartbeats 4000000 in
set_option maxRecDepth 10000 in
theorem y_10 {N : Int} {σ : Nat → Int} {τ : Nat → Nat → Int} (hX : XX σ τ) (hS : SIM2 σ τ) (a1 : Int) (a2 : Int) (a3 : Int) (a4 : Int) (a5 : Int) (b_a1 : (-2147483648) ≤ a1 ∧ a1 ≤ 2147483647) (b_a2 : (-2147483648) ≤ a2 ∧ a2 ≤ 2147483647) (b_a3 : (-2147483648) ≤ a3 ∧ a3 ≤ 2147483647) (b_a4 : (-2147483648) ≤ a4 ∧ a4 ≤ 2147483647) (b_a5 : (-2147483648) ≤ a5 ∧ a5 ≤ 2147483647) {o : Int × Int × Int × Int × Int × (Nat → Int) × (Nat → Int)} (h : f_OP_10 N a1 a2 a3 a4 a5 (σ 0) (σ 4) (σ 7) (τ 1) (τ 7) = some o) : (True) ∧ SIM2 (zst σ [(0, o.2.2.1), (4, o.2.2.2.1), (7, o.2.2.2.2.1)]) (zta τ [(1, o.2.2.2.2.2.1), (7, o.2.2.2.2.2.2)]) := by
  obtain ⟨x_RI, x_h16, x_h17, x_b0, x_e0, x_t1, x_la, x_fo, x_im, x_k6, x_la0, x_la1, x_t7, x_b7⟩ := hX
  obtain ⟨S1, S2, S3, S4, S5, S6⟩ := hS
  unfold f_OP_10 at h
  obtain ⟨x_ans, n_s0, n_t1, e1, h⟩ := xz_d3 h
  obtain ⟨y_ans, n_s4, n_s7, n_t7, e2, h⟩ := xz_d4 h
  have ft : n_t1 = n_t7 := by
    rw [← S1, ← x_e0] at e2
    exact x_feed x_b0 e1 e2
  cases h
  exact ⟨trivial, ft, S2, S3, S4, S5, S6⟩
set_option maxHeartbeats 4000000 in
set_option maxRecDepth 10000 in
theorem y_11 {N : Int} {σ : Nat → Int} {τ : Nat → Nat → Int} (hX : XX σ τ) (hS : SIM2 σ τ) (a1 : Int) (b_a1 : (-2147483648) ≤ a1 ∧ a1 ≤ 2147483647) {o : Int × Int × Int × Int × Int} (h : f_OP_11 N a1 (σ 0) (σ 4) (σ 7) = some o) : (True) ∧ SIM2 (zst σ [(0, o.2.2.1), (4, o.2.2.2.1), (7, o.2.2.2.2)]) τ := by
  obtain ⟨x_RI, x_h16, x_h17, x_b0, x_e0, x_t1, x_la, x_fo, x_im, x_k6, x_la0, x_la1, x_t7, x_b7⟩ := hX
  obtain ⟨S1, S2, S3, S4, S5, S6⟩ := hS
  unfold f_OP_11 at h
  obtain ⟨x_ans, n_s0, e1, h⟩ := xz_d2 h
  obtain ⟨y_ans, n_s4, n_s7, e2, h⟩ := xz_d3 h
  cases h
  exact ⟨trivial, S1, S2, S3, S4, S5, S6⟩
set_option maxHeartbeats 4000000 in
set_option maxRecDepth 10000 in
theorem y_12 {N : Int} {σ : Nat → Int} {τ : Nat → Nat → Int} (hX : XX σ τ) (hS : SIM2 σ τ)  {o : Int × Int × Int × Int × Int × Int × Int × Int × Int × Int × (Nat → Int) × (Nat → Int) × (Nat → Int) × (Nat → Int) × (Nat → Int)} (h : f_OP_12 N (σ 0) (σ 2) (σ 3) (σ 4) (σ 5) (σ 6) (σ 7) (σ 26) (σ 27) (σ 30) (σ 49) (τ 1) (τ 2) (τ 3) (τ 4) (τ 7) (τ 34) (τ 35) (τ 36) (τ 37) (τ 38) (τ 39) (τ 63) (τ 64) = some o) : (True) ∧ SIM2 (zst σ [(0, o.2.2.1), (2, o.2.2.2.1), (3, o.2.2.2.2.1), (4, o.2.2.2.2.2.1), (5, o.2.2.2.2.2.2.1), (6, o.2.2.2.2.2.2.2.1), (7, o.2.2.2.2.2.2.2.2.1), (30, o.2.2.2.2.2.2.2.2.2.1)]) (zta τ [(2, o.2.2.2.2.2.2.2.2.2.2.1), (3, o.2.2.2.2.2.2.2.2.2.2.2.1), (4, o.2.2.2.2.2.2.2.2.2.2.2.2.1), (63, o.2.2.2.2.2.2.2.2.2.2.2.2.2.1), (64, o.2.2.2.2.2.2.2.2.2.2.2.2.2.2)]) := by
  obtain ⟨x_RI, x_h16, x_h17, x_b0, x_e0, x_t1, x_la, x_fo, x_im, x_k6, x_la0, x_la1, x_t7, x_b7⟩ := hX
  obtain ⟨S1, S2, S3, S4, S5, S6⟩ := hS
  unfold f_OP_12 at h
  obtain ⟨x_ans, n_s0, n_s2, n_s3, n_s30, n_t2, n_t63, n_t64, e1, h⟩ := xz_d8 h
  obtain ⟨y_ans, n_s4, n_s5, n_s6, n_s7, n_t3, n_t4, e2, h⟩ := xz_d7 h
  have fr : FRM (τ 4) n_t4 := FRM_g (zok_x (s_HM_row _ _ _ _ _ _ _ x_t7 x_b7 x_RI) e2).2.2.2
  cases h
  exact ⟨trivial, S1, S2, S3, HILL2_f S4 fr, S5, S6⟩
end
section
set_option maxHeartbeats 4000000 in
set_option maxRecDepth 10000 in
theorem y_13 {N : Int} {σ : Nat → Int} {τ : Nat → Nat → Int} (hX : XX σ τ) (hS : SIM2 σ τ)  {o : Int × Int × Int} (h : f_OP_13 N (σ 2) (σ 4) (σ 6) = some o) : (True) ∧ SIM2 (zst σ [(4, o.2.2)]) τ := by
  obtain ⟨x_RI, x_h16, x_h17, x_b0, x_e0, x_t1, x_la, x_fo, x_im, x_k6, x_la0, x_la1, x_t7, x_b7⟩ := hX
  obtain ⟨S1, S2, S3, S4, S5, S6⟩ := hS
  unfold f_OP_13 at h
  obtain ⟨x_ans, e1, h⟩ := xz_d1 h
  obtain ⟨y_ans, n_s4, e2, h⟩ := xz_d2 h
  cases h
  exact ⟨trivial, S1, S2, S3, S4, S5, S6⟩
set_option maxHeartbeats 4000000 in
set_option maxRecDepth 10000 in
theorem y_14 {N : Int} {σ : Nat → Int} {τ : Nat → Nat → Int} (hX : XX σ τ) (hS : SIM2 σ τ)  {o : Int × Int × Int × Int × Int × Int × Int × Int × Int × Int × Int × Int × Int × Int × Int × Int × Int × Int × Int × Int × Int × Int × Int × Int × (Nat → Int) × (Nat → Int) × (Nat → Int) × (Nat → Int) × (Nat → Int) × (Nat → Int) × (Nat → Int) × (Nat → Int) × (Nat → Int) × (Nat → Int) × (Nat → Int) × (Nat → Int) × (Nat → Int) × (Nat → Int)} (h : f_OP_14 N (σ 0) (σ 1) (σ 3) (σ 4) (σ 5) (σ 7) (σ 8) (σ 9) (σ 10) (σ 11) (σ 12) (σ 13) (σ 14) (σ 15) (σ 16) (σ 17) (σ 18) (σ 26) (σ 27) (σ 28) (σ 30) (σ 31) (σ 32) (σ 33) (σ 49) (τ 1) (τ 2) (τ 3) (τ 4) (τ 7) (τ 8) (τ 9) (τ 10) (τ 11) (τ 12) (τ 13) (τ 34) (τ 35) (τ 36) (τ 37) (τ 38) (τ 39) (τ 40) (τ 41) (τ 42) (τ 43) (τ 44) (τ 45) = some o) : (o.1 = o.2.1) ∧ SIM2 (zst σ [(0, o.2.2.1), (1, o.2.2.2.1), (3, o.2.2.2.2.1), (4, o.2.2.2.2.2.1), (5, o.2.2.2.2.2.2.1), (7, o.2.2.2.2.2.2.2.1), (8, o.2.2.2.2.2.2.2.2.1), (9, o.2.2.2.2.2.2.2.2.2.1), (10, o.2.2.2.2.2.2.2.2.2.2.1), (11, o.2.2.2.2.2.2.2.2.2.2.2.1), (12, o.2.2.2.2.2.2.2.2.2.2.2.2.1), (13, o.2.2.2.2.2.2.2.2.2.2.2.2.2.1), (14, o.2.2.2.2.2.2.2.2.2.2.2.2.2.2.1), (15, o.2.2.2.2.2.2.2.2.2.2.2.2.2.2.2.1), (16, o.2.2.2.2.2.2.2.2.2.2.2.2.2.2.2.2.1), (17, o.2.2.2.2.2.2.2.2.2.2.2.2.2.2.2.2.2.1), (18, o.2.2.2.2.2.2.2.2.2.2.2.2.2.2.2.2.2.2.1), (28, o.2.2.2.2.2.2.2.2.2.2.2.2.2.2.2.2.2.2.2.1), (30, o.2.2.2.2.2.2.2.2.2.2.2.2.2.2.2.2.2.2.2.2.1), (31, o.2.2.2.2.2.2.2.2.2.2.2.2.2.2.2.2.2.2.2.2.2.1), (32, o.2.2.2.2.2.2.2.2.2.2.2.2.2.2.2.2.2.2.2.2.2.2.1), (33, o.2.2.2.2.2.2.2.2.2.2.2.2.2.2.2.2.2.2.2.2.2.2.2.1)]) (zta τ [(2, o.2.2.2.2.2.2.2.2.2.2.2.2.2.2.2.2.2.2.2.2.2.2.2.2.1), (3, o.2.2.2.2.2.2.2.2.2.2.2.2.2.2.2.2.2.2.2.2.2.2.2.2.2.1), (4, o.2.2.2.2.2.2.2.2.2.2.2.2.2.2.2.2.2.2.2.2.2.2.2.2.2.2.1), (8, o.2.2.2.2.2.2.2.2.2.2.2.2.2.2.2.2.2.2.2.2.2.2.2.2.2.2.2.1), (9, o.2.2.2.2.2.2.2.2.2.2.2.2.2.2.2.2.2.2.2.2.2.2.2.2.2.2.2.2.1), (10, o.2.2.2.2.2.2.2.2.2.2.2.2.2.2.2.2.2.2.2.2.2.2.2.2.2.2.2.2.2.1), (11, o.2.2.2.2.2.2.2.2.2.2.2.2.2.2.2.2.2.2.2.2.2.2.2.2.2.2.2.2.2.2.1), (12, o.2.2.2.2.2.2.2.2.2.2.2.2.2.2.2.2.2.2.2.2.2.2.2.2.2.2.2.2.2.2.2.1), (40, o.2.2.2.2.2.2.2.2.2.2.2.2.2.2.2.2.2.2.2.2.2.2.2.2.2.2.2.2.2.2.2.2.1), (41, o.2.2.2.2.2.2.2.2.2.2.2.2.2.2.2.2.2.2.2.2.2.2.2.2.2.2.2.2.2.2.2.2.2.1), (42, o.2.2.2.2.2.2.2.2.2.2.2.2.2.2.2.2.2.2.2.2.2.2.2.2.2.2.2.2.2.2.2.2.2.2.1), (43, o.2.2.2.2.2.2.2.2.2.2.2.2.2.2.2.2.2.2.2.2.2.2.2.2.2.2.2.2.2.2.2.2.2.2.2.1), (44, o.2.2.2.2.2.2.2.2.2.2.2.2.2.2.2.2.2.2.2.2.2.2.2.2.2.2.2.2.2.2.2.2.2.2.2.2.1), (45, o.2.2.2.2.2.2.2.2.2.2.2.2.2.2.2.2.2.2.2.2.2.2.2.2.2.2.2.2.2.2.2.2.2.2.2.2.2)]) := by
  obtain ⟨x_RI, x_h16, x_h17, x_b0, x_e0, x_t1, x_la, x_fo, x_im, x_k6, x_la0, x_la1, x_t7, x_b7⟩ := hX
  obtain ⟨S1, S2, S3, S4, S5, S6⟩ := hS
  unfold f_OP_14 at h
  obtain ⟨x_ans, n_s0, n_s1, n_s3, n_s28, n_s30, n_t2, n_s31, n_s32, n_s33, n_t40, n_t41, n_t42, n_t43, n_t44, n_t45, e1, h⟩ := xz_d16 h
  obtain ⟨y_ans, n_s4, n_s5, n_s7, n_s8, n_s9, n_s10, n_s11, n_s12, n_s13, n_s14, n_s15, n_s16, n_s17, n_s18, n_t3, n_t4, n_t8, n_t9, n_t10, n_t11, n_t12, e2, h⟩ := xz_d22 h
  rw [← S1, ← x_e0, ← S3] at e2
  have q := law_eq x_t1 S2 x_b0 x_la S4.1 S4.2.2 e1 e2
  have w4 := q.2.2.2.2.2.1 4 (by decide) (by decide)
  cases h
  exact ⟨q.1, S1, S2, q.2.1, ⟨q.2.2.2.2.1, S4.2.1.trans w4.symm, q.2.2.2.2.2.2⟩, S5, S6⟩
set_option maxHeartbeats 4000000 in
set_option maxRecDepth 10000 in
theorem y_15 {N : Int} {σ : Nat → Int} {τ : Nat → Nat → Int} (hX : XX σ τ) (hS : SIM2 σ τ)  {o : Int × Int × Int} (h : f_OP_15 N (σ 1) (σ 4) (σ 12) = some o) : (o.1 = o.2.1) ∧ SIM2 (zst σ [(4, o.2.2)]) τ := by
  obtain ⟨x_RI, x_h16, x_h17, x_b0, x_e0, x_t1, x_la, x_fo, x_im, x_k6, x_la0, x_la1, x_t7, x_b7⟩ := hX
  obtain ⟨S1, S2, S3, S4, S5, S6⟩ := hS
  unfold f_OP_15 at h
  obtain ⟨x_ans, e1, h⟩ := xz_d1 h
  obtain ⟨y_ans, n_s4, e2, h⟩ := xz_d2 h
  unfold f_HS_fault at e1
  unfold f_HM_fault at e2
  cases e1
  cases e2
  cases h
  exact ⟨S3, S1, S2, S3, S4, S5, S6⟩
set_option maxHeartbeats 4000000 in
set_option maxRecDepth 10000 in
theorem y_16 {N : Int} {σ : Nat → Int} {τ : Nat → Nat → Int} (hX : XX σ τ) (hS : SIM2 σ τ) (a1 : Int) (b_a1 : (-2147483648) ≤ a1 ∧ a1 ≤ 2147483647) {o : Int × Int × Int × Int × Int × Int × Int × (Nat → Int) × (Nat → Int) × (Nat → Int)} (h : f_OP_16 N a1 (σ 3) (σ 4) (σ 5) (σ 26) (σ 27) (σ 28) (σ 29) (σ 30) (σ 49) (τ 2) (τ 3) (τ 4) (τ 34) (τ 35) (τ 36) (τ 37) (τ 38) (τ 39) = some o) : (o.1 = o.2.1) ∧ SIM2 (zst σ [(3, o.2.2.1), (4, o.2.2.2.1), (5, o.2.2.2.2.1), (29, o.2.2.2.2.2.1), (30, o.2.2.2.2.2.2.1)]) (zta τ [(2, o.2.2.2.2.2.2.2.1), (3, o.2.2.2.2.2.2.2.2.1), (4, o.2.2.2.2.2.2.2.2.2)]) := by
  obtain ⟨x_RI, x_h16, x_h17, x_b0, x_e0, x_t1, x_la, x_fo, x_im, x_k6, x_la0, x_la1, x_t7, x_b7⟩ := hX
  obtain ⟨S1, S2, S3, S4, S5, S6⟩ := hS
  unfold f_OP_16 at h
  obtain ⟨x_ans, n_s3, n_s29, n_s30, n_t2, e1, h⟩ := xz_d5 h
  obtain ⟨y_ans, n_s4, n_s5, n_t3, n_t4, e2, h⟩ := xz_d5 h
  have q := x_force b_a1 x_la x_fo S4 e1 e2
  cases h
  exact ⟨q.1, S1, S2, S3, q.2.2.2.1, S5, S6⟩
set_option maxHeartbeats 4000000 in
set_option maxRecDepth 10000 in
theorem y_17 {N : Int} {σ : Nat → Int} {τ : Nat → Nat → Int} (hX : XX σ τ) (hS : SIM2 σ τ) (a1 : Int) (a2 : Int) (a3 : Int) (b_a1 : (-2147483648) ≤ a1 ∧ a1 ≤ 2147483647) (b_a2 : (-2147483648) ≤ a2 ∧ a2 ≤ 2147483647) (b_a3 : (-2147483648) ≤ a3 ∧ a3 ≤ 2147483647) {o : Int × Int × Int × Int × Int × Int × Int × Int × Int × Int × (Nat → Int) × (Nat → Int) × (Nat → Int) × (Nat → Int) × (Nat → Int) × (Nat → Int)} (h : f_OP_17 N a1 a2 a3 (σ 4) (σ 19) (σ 20) (σ 21) (σ 22) (σ 26) (σ 28) (σ 29) (σ 34) (σ 35) (σ 36) (σ 49) (τ 4) (τ 14) (τ 15) (τ 16) (τ 17) (τ 34) (τ 35) (τ 38) (τ 40) (τ 41) (τ 46) (τ 47) (τ 63) (τ 64) = some o) : (True) ∧ SIM2 (zst σ [(4, o.2.2.1), (19, o.2.2.2.1), (20, o.2.2.2.2.1), (21, o.2.2.2.2.2.1), (22, o.2.2.2.2.2.2.1), (34, o.2.2.2.2.2.2.2.1), (35, o.2.2.2.2.2.2.2.2.1), (36, o.2.2.2.2.2.2.2.2.2.1)]) (zta τ [(14, o.2.2.2.2.2.2.2.2.2.2.1), (15, o.2.2.2.2.2.2.2.2.2.2.2.1), (16, o.2.2.2.2.2.2.2.2.2.2.2.2.1), (17, o.2.2.2.2.2.2.2.2.2.2.2.2.2.1), (46, o.2.2.2.2.2.2.2.2.2.2.2.2.2.2.1), (47, o.2.2.2.2.2.2.2.2.2.2.2.2.2.2.2)]) := by
  obtain ⟨x_RI, x_h16, x_h17, x_b0, x_e0, x_t1, x_la, x_fo, x_im, x_k6, x_la0, x_la1, x_t7, x_b7⟩ := hX
  obtain ⟨S1, S2, S3, S4, S5, S6⟩ := hS
  unfold f_OP_17 at h
  obtain ⟨x_ans, n_s34, n_s35, n_s36, n_t46, n_t47, e1, h⟩ := xz_d6 h
  obtain ⟨y_ans, n_s4, n_s19, n_s20, n_s21, n_s22, n_t14, n_t15, n_t16, n_t17, e2, h⟩ := xz_d10 h
  cases h
  exact ⟨trivial, S1, S2, S3, S4, S5, S6⟩
set_option maxHeartbeats 4000000 in
set_option maxRecDepth 10000 in
theorem y_18 {N : Int} {σ : Nat → Int} {τ : Nat → Nat → Int} (hX : XX σ τ) (hS : SIM2 σ τ) (a1 : Int) (a2 : Int) (a3 : Int) (b_a1 : (-2147483648) ≤ a1 ∧ a1 ≤ 2147483647) (b_a2 : (-2147483648) ≤ a2 ∧ a2 ≤ 2147483647) (b_a3 : (-2147483648) ≤ a3 ∧ a3 ≤ 2147483647) {o : Int × Int × Int × Int × Int × Int × Int × Int × Int × Int × (Nat → Int) × (Nat → Int) × (Nat → Int) × (Nat → Int) × (Nat → Int) × (Nat → Int)} (h : f_OP_18 N a1 a2 a3 (σ 4) (σ 19) (σ 20) (σ 21) (σ 22) (σ 26) (σ 28) (σ 29) (σ 34) (σ 35) (σ 36) (σ 49) (τ 4) (τ 14) (τ 15) (τ 16) (τ 17) (τ 34) (τ 35) (τ 38) (τ 40) (τ 41) (τ 46) (τ 47) (τ 63) (τ 64) = some o) : (True) ∧ SIM2 (zst σ [(4, o.2.2.1), (19, o.2.2.2.1), (20, o.2.2.2.2.1), (21, o.2.2.2.2.2.1), (22, o.2.2.2.2.2.2.1), (34, o.2.2.2.2.2.2.2.1), (35, o.2.2.2.2.2.2.2.2.1), (36, o.2.2.2.2.2.2.2.2.2.1)]) (zta τ [(14, o.2.2.2.2.2.2.2.2.2.2.1), (15, o.2.2.2.2.2.2.2.2.2.2.2.1), (16, o.2.2.2.2.2.2.2.2.2.2.2.2.1), (17, o.2.2.2.2.2.2.2.2.2.2.2.2.2.1), (46, o.2.2.2.2.2.2.2.2.2.2.2.2.2.2.1), (47, o.2.2.2.2.2.2.2.2.2.2.2.2.2.2.2)]) := by
  obtain ⟨x_RI, x_h16, x_h17, x_b0, x_e0, x_t1, x_la, x_fo, x_im, x_k6, x_la0, x_la1, x_t7, x_b7⟩ := hX
  obtain ⟨S1, S2, S3, S4, S5, S6⟩ := hS
  unfold f_OP_18 at h
  obtain ⟨x_ans, n_s34, n_s35, n_s36, n_t46, n_t47, e1, h⟩ := xz_d6 h
  obtain ⟨y_ans, n_s4, n_s19, n_s20, n_s21, n_s22, n_t14, n_t15, n_t16, n_t17, e2, h⟩ := xz_d10 h
  cases h
  exact ⟨trivial, S1, S2, S3, S4, S5, S6⟩
set_option maxHeartbeats 4000000 in
set_option maxRecDepth 10000 in
theorem y_19 {N : Int} {σ : Nat → Int} {τ : Nat → Nat → Int} (hX : XX σ τ) (hS : SIM2 σ τ) (a1 : Int) (a2 : Int) (a3 : Int) (b_a1 : (-2147483648) ≤ a1 ∧ a1 ≤ 2147483647) (b_a2 : (-2147483648) ≤ a2 ∧ a2 ≤ 2147483647) (b_a3 : (-2147483648) ≤ a3 ∧ a3 ≤ 2147483647) {o : Int × Int × Int × Int × Int × Int × Int × Int × Int × Int × Int × Int × Int × (Nat → Int) × (Nat → Int) × (Nat → Int) × (Nat → Int) × (Nat → Int) × (Nat → Int) × (Nat → Int) × (Nat → Int) × (Nat → Int) × (Nat → Int) × (Nat → Int)} (h : f_OP_19 N a1 a2 a3 (σ 3) (σ 4) (σ 5) (σ 19) (σ 20) (σ 21) (σ 22) (σ 26) (σ 27) (σ 28) (σ 29) (σ 30) (σ 34) (σ 35) (σ 36) (σ 49) (τ 2) (τ 3) (τ 4) (τ 14) (τ 15) (τ 16) (τ 17) (τ 34) (τ 35) (τ 36) (τ 37) (τ 38) (τ 39) (τ 40) (τ 41) (τ 46) (τ 47) (τ 63) (τ 64) = some o) : (True) ∧ SIM2 (zst σ [(3, o.2.2.1), (4, o.2.2.2.1), (5, o.2.2.2.2.1), (19, o.2.2.2.2.2.1), (20, o.2.2.2.2.2.2.1), (21, o.2.2.2.2.2.2.2.1), (22, o.2.2.2.2.2.2.2.2.1), (30, o.2.2.2.2.2.2.2.2.2.1), (34, o.2.2.2.2.2.2.2.2.2.2.1), (35, o.2.2.2.2.2.2.2.2.2.2.2.1), (36, o.2.2.2.2.2.2.2.2.2.2.2.2.1)]) (zta τ [(2, o.2.2.2.2.2.2.2.2.2.2.2.2.2.1), (3, o.2.2.2.2.2.2.2.2.2.2.2.2.2.2.1), (4, o.2.2.2.2.2.2.2.2.2.2.2.2.2.2.2.1), (14, o.2.2.2.2.2.2.2.2.2.2.2.2.2.2.2.2.1), (15, o.2.2.2.2.2.2.2.2.2.2.2.2.2.2.2.2.2.1), (16, o.2.2.2.2.2.2.2.2.2.2.2.2.2.2.2.2.2.2.1), (17, o.2.2.2.2.2.2.2.2.2.2.2.2.2.2.2.2.2.2.2.1), (46, o.2.2.2.2.2.2.2.2.2.2.2.2.2.2.2.2.2.2.2.2.1), (47, o.2.2.2.2.2.2.2.2.2.2.2.2.2.2.2.2.2.2.2.2.2.1), (63, o.2.2.2.2.2.2.2.2.2.2.2.2.2.2.2.2.2.2.2.2.2.2.1), (64, o.2.2.2.2.2.2.2.2.2.2.2.2.2.2.2.2.2.2.2.2.2.2.2)]) := by
  obtain ⟨x_RI, x_h16, x_h17, x_b0, x_e0, x_t1, x_la, x_fo, x_im, x_k6, x_la0, x_la1, x_t7, x_b7⟩ := hX
  obtain ⟨S1, S2, S3, S4, S5, S6⟩ := hS
  unfold f_OP_19 at h
  obtain ⟨x_ans, n_s3, n_s30, n_t2, n_s34, n_s35, n_s36, n_t46, n_t47, n_t63, n_t64, e1, h⟩ := xz_d11 h
  obtain ⟨y_ans, n_s4, n_s5, n_s19, n_s20, n_s21, n_s22, n_t3, n_t4, n_t14, n_t15, n_t16, n_t17, e2, h⟩ := xz_d13 h
  have fr : FRM (τ 4) n_t4 := FRM_g (zok_x (s_HM_carry _ _ _ _ _ _ _ _ _ _ _ _ _ _ _ b_a1 b_a2 b_a3 x_RI x_h16 x_h17) e2).2.2.2
  cases h
  exact ⟨trivial, S1, S2, S3, HILL2_f S4 fr, S5, S6⟩
set_option maxHeartbeats 4000000 in
set_option maxRecDepth 10000 in
theorem y_20 {N : Int} {σ : Nat → Int} {τ : Nat → Nat → Int} (hX : XX σ τ) (hS : SIM2 σ τ) (a1 : Int) (a2 : Int) (a3 : Int) (a4 : Int) (b_a1 : (-2147483648) ≤ a1 ∧ a1 ≤ 2147483647) (b_a2 : (-2147483648) ≤ a2 ∧ a2 ≤ 2147483647) (b_a3 : (-2147483648) ≤ a3 ∧ a3 ≤ 2147483647) (b_a4 : (-2147483648) ≤ a4 ∧ a4 ≤ 2147483647) {o : Int × Int × Int × Int × Int × Int × Int × Int × Int × Int × Int × Int × Int × (Nat → Int) × (Nat → Int) × (Nat → Int) × (Nat → Int) × (Nat → Int) × (Nat → Int) × (Nat → Int) × (Nat → Int) × (Nat → Int) × (Nat → Int) × (Nat → Int)} (h : f_OP_20 N a1 a2 a3 a4 (σ 3) (σ 4) (σ 5) (σ 19) (σ 20) (σ 21) (σ 22) (σ 26) (σ 27) (σ 28) (σ 29) (σ 30) (σ 34) (σ 35) (σ 36) (σ 49) (τ 2) (τ 3) (τ 4) (τ 14) (τ 15) (τ 16) (τ 17) (τ 34) (τ 35) (τ 36) (τ 37) (τ 38) (τ 39) (τ 40) (τ 41) (τ 46) (τ 47) (τ 63) (τ 64) = some o) : (True) ∧ SIM2 (zst σ [(3, o.2.2.1), (4, o.2.2.2.1), (5, o.2.2.2.2.1), (19, o.2.2.2.2.2.1), (20, o.2.2.2.2.2.2.1), (21, o.2.2.2.2.2.2.2.1), (22, o.2.2.2.2.2.2.2.2.1), (30, o.2.2.2.2.2.2.2.2.2.1), (34, o.2.2.2.2.2.2.2.2.2.2.1), (35, o.2.2.2.2.2.2.2.2.2.2.2.1), (36, o.2.2.2.2.2.2.2.2.2.2.2.2.1)]) (zta τ [(2, o.2.2.2.2.2.2.2.2.2.2.2.2.2.1), (3, o.2.2.2.2.2.2.2.2.2.2.2.2.2.2.1), (4, o.2.2.2.2.2.2.2.2.2.2.2.2.2.2.2.1), (14, o.2.2.2.2.2.2.2.2.2.2.2.2.2.2.2.2.1), (15, o.2.2.2.2.2.2.2.2.2.2.2.2.2.2.2.2.2.1), (16, o.2.2.2.2.2.2.2.2.2.2.2.2.2.2.2.2.2.2.1), (17, o.2.2.2.2.2.2.2.2.2.2.2.2.2.2.2.2.2.2.2.1), (46, o.2.2.2.2.2.2.2.2.2.2.2.2.2.2.2.2.2.2.2.2.1), (47, o.2.2.2.2.2.2.2.2.2.2.2.2.2.2.2.2.2.2.2.2.2.1), (63, o.2.2.2.2.2.2.2.2.2.2.2.2.2.2.2.2.2.2.2.2.2.2.1), (64, o.2.2.2.2.2.2.2.2.2.2.2.2.2.2.2.2.2.2.2.2.2.2.2)]) := by
  obtain ⟨x_RI, x_h16, x_h17, x_b0, x_e0, x_t1, x_la, x_fo, x_im, x_k6, x_la0, x_la1, x_t7, x_b7⟩ := hX
  obtain ⟨S1, S2, S3, S4, S5, S6⟩ := hS
  unfold f_OP_20 at h
  obtain ⟨x_ans, n_s3, n_s30, n_t2, n_s34, n_s35, n_s36, n_t46, n_t47, n_t63, n_t64, e1, h⟩ := xz_d11 h
  obtain ⟨y_ans, n_s4, n_s5, n_s19, n_s20, n_s21, n_s22, n_t3, n_t4, n_t14, n_t15, n_t16, n_t17, e2, h⟩ := xz_d13 h
  have fr : FRM (τ 4) n_t4 := FRM_g (zok_x (s_HM_exchange _ _ _ _ _ _ _ _ _ _ _ _ _ _ _ _ b_a1 b_a2 b_a3 b_a4 x_RI x_h16 x_h17) e2).2.2.2
  cases h
  exact ⟨trivial, S1, S2, S3, HILL2_f S4 fr, S5, S6⟩
set_option maxHeartbeats 4000000 in
set_option maxRecDepth 10000 in
theorem y_21 {N : Int} {σ : Nat → Int} {τ : Nat → Nat → Int} (hX : XX σ τ) (hS : SIM2 σ τ)  {o : Int × Int × Int × (Nat → Int) × (Nat → Int)} (h : f_OP_21 N (σ 4) (σ 49) (τ 4) (τ 16) (τ 17) (τ 38) (τ 63) = some o) : (True) ∧ SIM2 (zst σ [(4, o.2.2.1)]) (zta τ [(16, o.2.2.2.1), (17, o.2.2.2.2)]) := by
  obtain ⟨x_RI, x_h16, x_h17, x_b0, x_e0, x_t1, x_la, x_fo, x_im, x_k6, x_la0, x_la1, x_t7, x_b7⟩ := hX
  obtain ⟨S1, S2, S3, S4, S5, S6⟩ := hS
  unfold f_OP_21 at h
  obtain ⟨x_ans, e1, h⟩ := xz_d1 h
  obtain ⟨y_ans, n_s4, n_t16, n_t17, e2, h⟩ := xz_d4 h
  cases h
  exact ⟨trivial, S1, S2, S3, S4, S5, S6⟩
set_option maxHeartbeats 4000000 in
set_option maxRecDepth 10000 in
theorem y_22 {N : Int} {σ : Nat → Int} {τ : Nat → Nat → Int} (hX : XX σ τ) (hS : SIM2 σ τ)  {o : Int × Int × Int × Int × (Nat → Int) × (Nat → Int) × (Nat → Int) × (Nat → Int) × (Nat → Int)} (h : f_OP_22 N (σ 4) (σ 26) (σ 27) (σ 30) (σ 49) (τ 4) (τ 16) (τ 17) (τ 34) (τ 35) (τ 36) (τ 37) (τ 38) (τ 39) (τ 63) (τ 64) = some o) : (True) ∧ SIM2 (zst σ [(4, o.2.2.1), (30, o.2.2.2.1)]) (zta τ [(4, o.2.2.2.2.1), (16, o.2.2.2.2.2.1), (17, o.2.2.2.2.2.2.1), (63, o.2.2.2.2.2.2.2.1), (64, o.2.2.2.2.2.2.2.2)]) := by
  obtain ⟨x_RI, x_h16, x_h17, x_b0, x_e0, x_t1, x_la, x_fo, x_im, x_k6, x_la0, x_la1, x_t7, x_b7⟩ := hX
  obtain ⟨S1, S2, S3, S4, S5, S6⟩ := hS
  unfold f_OP_22 at h
  obtain ⟨x_ans, n_s30, n_t63, n_t64, e1, h⟩ := xz_d4 h
  obtain ⟨y_ans, n_s4, n_t4, n_t16, n_t17, e2, h⟩ := xz_d5 h
  have fr : FRM (τ 4) n_t4 := FRM_g (zok_x (s_HM_slide _ _ _ _ x_RI x_h16 x_h17) e2).2.2.2
  cases h
  exact ⟨trivial, S1, S2, S3, HILL2_f S4 fr, S5, S6⟩
set_option maxHeartbeats 4000000 in
set_option maxRecDepth 10000 in
theorem y_23 {N : Int} {σ : Nat → Int} {τ : Nat → Nat → Int} (hX : XX σ τ) (hS : SIM2 σ τ) (a1 : Int) (b_a1 : (-2147483648) ≤ a1 ∧ a1 ≤ 2147483647) {o : Int × Int × Int × (Nat → Int) × (Nat → Int)} (h : f_OP_23 N a1 (σ 4) (σ 27) (σ 49) (τ 4) (τ 16) (τ 17) (τ 37) (τ 38) (τ 63) = some o) : (True) ∧ SIM2 (zst σ [(4, o.2.2.1)]) (zta τ [(16, o.2.2.2.1), (17, o.2.2.2.2)]) := by
  obtain ⟨x_RI, x_h16, x_h17, x_b0, x_e0, x_t1, x_la, x_fo, x_im, x_k6, x_la0, x_la1, x_t7, x_b7⟩ := hX
  obtain ⟨S1, S2, S3, S4, S5, S6⟩ := hS
  unfold f_OP_23 at h
  obtain ⟨x_ans, e1, h⟩ := xz_d1 h
  obtain ⟨y_ans, n_s4, n_t16, n_t17, e2, h⟩ := xz_d4 h
  cases h
  exact ⟨trivial, S1, S2, S3, S4, S5, S6⟩
set_option maxHeartbeats 4000000 in
set_option maxRecDepth 10000 in
theorem y_24 {N : Int} {σ : Nat → Int} {τ : Nat → Nat → Int} (hX : XX σ τ) (hS : SIM2 σ τ) (a1 : Int) (a2 : Int) (a3 : Int) (a4 : Int) (b_a1 : (-2147483648) ≤ a1 ∧ a1 ≤ 2147483647) (b_a2 : (-2147483648) ≤ a2 ∧ a2 ≤ 2147483647) (b_a3 : (-2147483648) ≤ a3 ∧ a3 ≤ 2147483647) (b_a4 : (-2147483648) ≤ a4 ∧ a4 ≤ 2147483647) {o : Int × Int × Int × Int × Int × Int × Int × Int × Int × Int × (Nat → Int) × (Nat → Int) × (Nat → Int) × (Nat → Int) × (Nat → Int) × (Nat → Int) × (Nat → Int) × (Nat → Int)} (h : f_OP_24 N a1 a2 a3 a4 (σ 4) (σ 19) (σ 20) (σ 21) (σ 22) (σ 26) (σ 27) (σ 28) (σ 29) (σ 34) (σ 35) (σ 36) (σ 49) (τ 4) (τ 14) (τ 15) (τ 16) (τ 17) (τ 34) (τ 35) (τ 37) (τ 38) (τ 40) (τ 41) (τ 46) (τ 47) (τ 63) (τ 64) = some o) : (True) ∧ SIM2 (zst σ [(4, o.2.2.1), (19, o.2.2.2.1), (20, o.2.2.2.2.1), (21, o.2.2.2.2.2.1), (22, o.2.2.2.2.2.2.1), (34, o.2.2.2.2.2.2.2.1), (35, o.2.2.2.2.2.2.2.2.1), (36, o.2.2.2.2.2.2.2.2.2.1)]) (zta τ [(14, o.2.2.2.2.2.2.2.2.2.2.1), (15, o.2.2.2.2.2.2.2.2.2.2.2.1), (16, o.2.2.2.2.2.2.2.2.2.2.2.2.1), (17, o.2.2.2.2.2.2.2.2.2.2.2.2.2.1), (46, o.2.2.2.2.2.2.2.2.2.2.2.2.2.2.1), (47, o.2.2.2.2.2.2.2.2.2.2.2.2.2.2.2.1), (63, o.2.2.2.2.2.2.2.2.2.2.2.2.2.2.2.2.1), (64, o.2.2.2.2.2.2.2.2.2.2.2.2.2.2.2.2.2)]) := by
  obtain ⟨x_RI, x_h16, x_h17, x_b0, x_e0, x_t1, x_la, x_fo, x_im, x_k6, x_la0, x_la1, x_t7, x_b7⟩ := hX
  obtain ⟨S1, S2, S3, S4, S5, S6⟩ := hS
  unfold f_OP_24 at h
  obtain ⟨x_ans, n_s34, n_s35, n_s36, n_t46, n_t47, n_t63, n_t64, e1, h⟩ := xz_d8 h
  obtain ⟨y_ans, n_s4, n_s19, n_s20, n_s21, n_s22, n_t14, n_t15, n_t16, n_t17, e2, h⟩ := xz_d10 h
  cases h
  exact ⟨trivial, S1, S2, S3, S4, S5, S6⟩
set_option maxHeartbeats 4000000 in
set_option maxRecDepth 10000 in
theorem y_25 {N : Int} {σ : Nat → Int} {τ : Nat → Nat → Int} (hX : XX σ τ) (hS : SIM2 σ τ) (a1 : Int) (a2 : Int) (b_a1 : (-2147483648) ≤ a1 ∧ a1 ≤ 2147483647) (b_a2 : (-2147483648) ≤ a2 ∧ a2 ≤ 2147483647) {o : Int × Int × Int × Int × Int × Int × (Nat → Int) × (Nat → Int) × (Nat → Int) × (Nat → Int)} (h : f_OP_25 N a1 a2 (σ 3) (σ 4) (σ 5) (σ 26) (σ 27) (σ 30) (σ 49) (τ 2) (τ 3) (τ 4) (τ 34) (τ 35) (τ 36) (τ 37) (τ 38) (τ 39) = some o) : (True) ∧ SIM2 (zst σ [(3, o.2.2.1), (4, o.2.2.2.1), (5, o.2.2.2.2.1), (30, o.2.2.2.2.2.1)]) (zta τ [(2, o.2.2.2.2.2.2.1), (3, o.2.2.2.2.2.2.2.1), (4, o.2.2.2.2.2.2.2.2.1), (39, o.2.2.2.2.2.2.2.2.2)]) := by
  obtain ⟨x_RI, x_h16, x_h17, x_b0, x_e0, x_t1, x_la, x_fo, x_im, x_k6, x_la0, x_la1, x_t7, x_b7⟩ := hX
  obtain ⟨S1, S2, S3, S4, S5, S6⟩ := hS
  unfold f_OP_25 at h
  obtain ⟨x_ans, n_s3, n_s30, n_t2, n_t39, e1, h⟩ := xz_d5 h
  obtain ⟨y_ans, n_s4, n_s5, n_t3, n_t4, e2, h⟩ := xz_d5 h
  have fr : FRM (τ 4) n_t4 := FRM_3 (fr_goal b_a1 (RI_0 x_RI) e2)
  cases h
  exact ⟨trivial, S1, S2, S3, HILL2_f S4 fr, S5, S6⟩
end
section
set_option maxHeartbeats 4000000 in
set_option maxRecDepth 10000 in
theorem y_26 {N : Int} {σ : Nat → Int} {τ : Nat → Nat → Int} (hX : XX σ τ) (hS : SIM2 σ τ) (a1 : Int) (a2 : Int) (a3 : Int) (b_a1 : (-2147483648) ≤ a1 ∧ a1 ≤ 2147483647) (b_a2 : (-2147483648) ≤ a2 ∧ a2 ≤ 2147483647) (b_a3 : (-2147483648) ≤ a3 ∧ a3 ≤ 2147483647) {o : Int × Int × Int × Int × Int × Int × Int × Int × Int × Int × Int × Int × Int × Int × Int × Int × Int × Int × Int × Int × Int × Int × Int × (Nat → Int) × (Nat → Int) × (Nat → Int) × (Nat → Int) × (Nat → Int) × (Nat → Int) × (Nat → Int) × (Nat → Int) × (Nat → Int) × (Nat → Int) × (Nat → Int) × (Nat → Int) × (Nat → Int) × (Nat → Int) × (Nat → Int) × (Nat → Int) × (Nat → Int) × (Nat → Int) × (Nat → Int) × (Nat → Int) × (Nat → Int) × (Nat → Int) × (Nat → Int) × (Nat → Int) × (Nat → Int) × (Nat → Int) × (Nat → Int) × (Nat → Int)} (h : f_OP_26 N a1 a2 a3 (σ 4) (σ 19) (σ 20) (σ 21) (σ 22) (σ 23) (σ 26) (σ 28) (σ 29) (σ 30) (σ 34) (σ 35) (σ 36) (σ 37) (σ 38) (σ 39) (σ 49) (σ 64) (σ 65) (σ 66) (σ 67) (σ 68) (σ 69) (σ 70) (σ 71) (σ 72) (τ 4) (τ 14) (τ 15) (τ 18) (τ 19) (τ 20) (τ 21) (τ 22) (τ 23) (τ 24) (τ 25) (τ 26) (τ 27) (τ 34) (τ 35) (τ 38) (τ 39) (τ 40) (τ 41) (τ 46) (τ 47) (τ 48) (τ 49) (τ 50) (τ 51) (τ 52) (τ 53) (τ 54) (τ 55) (τ 56) (τ 57) (τ 58) (τ 63) (τ 64) (τ 89) (τ 90) (τ 91) = some o) : (True) ∧ SIM2 (zst σ [(4, o.2.2.1), (19, o.2.2.2.1), (20, o.2.2.2.2.1), (21, o.2.2.2.2.2.1), (22, o.2.2.2.2.2.2.1), (23, o.2.2.2.2.2.2.2.1), (34, o.2.2.2.2.2.2.2.2.1), (35, o.2.2.2.2.2.2.2.2.2.1), (36, o.2.2.2.2.2.2.2.2.2.2.1), (37, o.2.2.2.2.2.2.2.2.2.2.2.1), (38, o.2.2.2.2.2.2.2.2.2.2.2.2.1), (39, o.2.2.2.2.2.2.2.2.2.2.2.2.2.1), (64, o.2.2.2.2.2.2.2.2.2.2.2.2.2.2.1), (65, o.2.2.2.2.2.2.2.2.2.2.2.2.2.2.2.1), (66, o.2.2.2.2.2.2.2.2.2.2.2.2.2.2.2.2.1), (67, o.2.2.2.2.2.2.2.2.2.2.2.2.2.2.2.2.2.1), (68, o.2.2.2.2.2.2.2.2.2.2.2.2.2.2.2.2.2.2.1), (69, o.2.2.2.2.2.2.2.2.2.2.2.2.2.2.2.2.2.2.2.1), (70, o.2.2.2.2.2.2.2.2.2.2.2.2.2.2.2.2.2.2.2.2.1), (71, o.2.2.2.2.2.2.2.2.2.2.2.2.2.2.2.2.2.2.2.2.2.1), (72, o.2.2.2.2.2.2.2.2.2.2.2.2.2.2.2.2.2.2.2.2.2.2.1)]) (zta τ [(14, o.2.2.2.2.2.2.2.2.2.2.2.2.2.2.2.2.2.2.2.2.2.2.2.1), (15, o.2.2.2.2.2.2.2.2.2.2.2.2.2.2.2.2.2.2.2.2.2.2.2.2.1), (18, o.2.2.2.2.2.2.2.2.2.2.2.2.2.2.2.2.2.2.2.2.2.2.2.2.2.1), (19, o.2.2.2.2.2.2.2.2.2.2.2.2.2.2.2.2.2.2.2.2.2.2.2.2.2.2.1), (20, o.2.2.2.2.2.2.2.2.2.2.2.2.2.2.2.2.2.2.2.2.2.2.2.2.2.2.2.1), (21, o.2.2.2.2.2.2.2.2.2.2.2.2.2.2.2.2.2.2.2.2.2.2.2.2.2.2.2.2.1), (22, o.2.2.2.2.2.2.2.2.2.2.2.2.2.2.2.2.2.2.2.2.2.2.2.2.2.2.2.2.2.1), (23, o.2.2.2.2.2.2.2.2.2.2.2.2.2.2.2.2.2.2.2.2.2.2.2.2.2.2.2.2.2.2.1), (24, o.2.2.2.2.2.2.2.2.2.2.2.2.2.2.2.2.2.2.2.2.2.2.2.2.2.2.2.2.2.2.2.1), (25, o.2.2.2.2.2.2.2.2.2.2.2.2.2.2.2.2.2.2.2.2.2.2.2.2.2.2.2.2.2.2.2.2.1), (26, o.2.2.2.2.2.2.2.2.2.2.2.2.2.2.2.2.2.2.2.2.2.2.2.2.2.2.2.2.2.2.2.2.2.1), (27, o.2.2.2.2.2.2.2.2.2.2.2.2.2.2.2.2.2.2.2.2.2.2.2.2.2.2.2.2.2.2.2.2.2.2.1), (46, o.2.2.2.2.2.2.2.2.2.2.2.2.2.2.2.2.2.2.2.2.2.2.2.2.2.2.2.2.2.2.2.2.2.2.2.1), (47, o.2.2.2.2.2.2.2.2.2.2.2.2.2.2.2.2.2.2.2.2.2.2.2.2.2.2.2.2.2.2.2.2.2.2.2.2.1), (48, o.2.2.2.2.2.2.2.2.2.2.2.2.2.2.2.2.2.2.2.2.2.2.2.2.2.2.2.2.2.2.2.2.2.2.2.2.2.1), (49, o.2.2.2.2.2.2.2.2.2.2.2.2.2.2.2.2.2.2.2.2.2.2.2.2.2.2.2.2.2.2.2.2.2.2.2.2.2.2.1), (50, o.2.2.2.2.2.2.2.2.2.2.2.2.2.2.2.2.2.2.2.2.2.2.2.2.2.2.2.2.2.2.2.2.2.2.2.2.2.2.2.1), (51, o.2.2.2.2.2.2.2.2.2.2.2.2.2.2.2.2.2.2.2.2.2.2.2.2.2.2.2.2.2.2.2.2.2.2.2.2.2.2.2.2.1), (52, o.2.2.2.2.2.2.2.2.2.2.2.2.2.2.2.2.2.2.2.2.2.2.2.2.2.2.2.2.2.2.2.2.2.2.2.2.2.2.2.2.2.1), (53, o.2.2.2.2.2.2.2.2.2.2.2.2.2.2.2.2.2.2.2.2.2.2.2.2.2.2.2.2.2.2.2.2.2.2.2.2.2.2.2.2.2.2.1), (54, o.2.2.2.2.2.2.2.2.2.2.2.2.2.2.2.2.2.2.2.2.2.2.2.2.2.2.2.2.2.2.2.2.2.2.2.2.2.2.2.2.2.2.2.1), (55, o.2.2.2.2.2.2.2.2.2.2.2.2.2.2.2.2.2.2.2.2.2.2.2.2.2.2.2.2.2.2.2.2.2.2.2.2.2.2.2.2.2.2.2.2.1), (56, o.2.2.2.2.2.2.2.2.2.2.2.2.2.2.2.2.2.2.2.2.2.2.2.2.2.2.2.2.2.2.2.2.2.2.2.2.2.2.2.2.2.2.2.2.2.1), (57, o.2.2.2.2.2.2.2.2.2.2.2.2.2.2.2.2.2.2.2.2.2.2.2.2.2.2.2.2.2.2.2.2.2.2.2.2.2.2.2.2.2.2.2.2.2.2.1), (58, o.2.2.2.2.2.2.2.2.2.2.2.2.2.2.2.2.2.2.2.2.2.2.2.2.2.2.2.2.2.2.2.2.2.2.2.2.2.2.2.2.2.2.2.2.2.2.2.1), (89, o.2.2.2.2.2.2.2.2.2.2.2.2.2.2.2.2.2.2.2.2.2.2.2.2.2.2.2.2.2.2.2.2.2.2.2.2.2.2.2.2.2.2.2.2.2.2.2.2.1), (90, o.2.2.2.2.2.2.2.2.2.2.2.2.2.2.2.2.2.2.2.2.2.2.2.2.2.2.2.2.2.2.2.2.2.2.2.2.2.2.2.2.2.2.2.2.2.2.2.2.2.1), (91, o.2.2.2.2.2.2.2.2.2.2.2.2.2.2.2.2.2.2.2.2.2.2.2.2.2.2.2.2.2.2.2.2.2.2.2.2.2.2.2.2.2.2.2.2.2.2.2.2.2.2)]) := by
  obtain ⟨x_RI, x_h16, x_h17, x_b0, x_e0, x_t1, x_la, x_fo, x_im, x_k6, x_la0, x_la1, x_t7, x_b7⟩ := hX
  obtain ⟨S1, S2, S3, S4, S5, S6⟩ := hS
  unfold f_OP_26 at h
  obtain ⟨x_ans, n_s34, n_s35, n_s36, n_s37, n_s38, n_s39, n_t46, n_t47, n_t48, n_t49, n_t50, n_t51, n_t52, n_t53, n_t54, n_t55, n_t56, n_t57, n_t58, n_s64, n_s65, n_s66, n_s67, n_s68, n_s69, n_s70, n_s71, n_s72, n_t89, n_t90, n_t91, e1, h⟩ := xz_d32 h
  obtain ⟨y_ans, n_s4, n_s19, n_s20, n_s21, n_s22, n_s23, n_t14, n_t15, n_t18, n_t19, n_t20, n_t21, n_t22, n_t23, n_t24, n_t25, n_t26, n_t27, e2, h⟩ := xz_d19 h
  cases h
  exact ⟨trivial, S1, S2, S3, S4, S5, S6⟩
set_option maxHeartbeats 4000000 in
set_option maxRecDepth 10000 in
theorem y_27 {N : Int} {σ : Nat → Int} {τ : Nat → Nat → Int} (hX : XX σ τ) (hS : SIM2 σ τ) (a1 : Int) (b_a1 : (-2147483648) ≤ a1 ∧ a1 ≤ 2147483647) {o : Int × Int × Int × Int × (Nat → Int) × (Nat → Int)} (h : f_OP_27 N a1 (σ 4) (σ 30) (σ 44) (σ 49) (τ 4) (τ 28) (τ 61) (τ 63) (τ 64) = some o) : (True) ∧ SIM2 (zst σ [(4, o.2.2.1), (44, o.2.2.2.1)]) (zta τ [(28, o.2.2.2.2.1), (61, o.2.2.2.2.2)]) := by
  obtain ⟨x_RI, x_h16, x_h17, x_b0, x_e0, x_t1, x_la, x_fo, x_im, x_k6, x_la0, x_la1, x_t7, x_b7⟩ := hX
  obtain ⟨S1, S2, S3, S4, S5, S6⟩ := hS
  unfold f_OP_27 at h
  obtain ⟨x_ans, n_s44, n_t61, e1, h⟩ := xz_d3 h
  obtain ⟨y_ans, n_s4, n_t28, e2, h⟩ := xz_d3 h
  cases h
  exact ⟨trivial, S1, S2, S3, S4, S5, S6⟩
set_option maxHeartbeats 4000000 in
set_option maxRecDepth 10000 in
theorem y_28 {N : Int} {σ : Nat → Int} {τ : Nat → Nat → Int} (hX : XX σ τ) (hS : SIM2 σ τ) (a1 : Int) (a2 : Int) (b_a1 : (-2147483648) ≤ a1 ∧ a1 ≤ 2147483647) (b_a2 : (-2147483648) ≤ a2 ∧ a2 ≤ 2147483647) {o : Int × Int × Int × Int × Int × Int × (Nat → Int) × (Nat → Int) × (Nat → Int) × (Nat → Int)} (h : f_OP_28 N a1 a2 (σ 3) (σ 4) (σ 5) (σ 26) (σ 27) (σ 30) (σ 49) (τ 2) (τ 3) (τ 4) (τ 34) (τ 35) (τ 36) (τ 37) (τ 38) (τ 39) = some o) : (True) ∧ SIM2 (zst σ [(3, o.2.2.1), (4, o.2.2.2.1), (5, o.2.2.2.2.1), (30, o.2.2.2.2.2.1)]) (zta τ [(2, o.2.2.2.2.2.2.1), (3, o.2.2.2.2.2.2.2.1), (4, o.2.2.2.2.2.2.2.2.1), (36, o.2.2.2.2.2.2.2.2.2)]) := by
  obtain ⟨x_RI, x_h16, x_h17, x_b0, x_e0, x_t1, x_la, x_fo, x_im, x_k6, x_la0, x_la1, x_t7, x_b7⟩ := hX
  obtain ⟨S1, S2, S3, S4, S5, S6⟩ := hS
  unfold f_OP_28 at h
  obtain ⟨x_ans, n_s3, n_s30, n_t2, n_t36, e1, h⟩ := xz_d5 h
  obtain ⟨y_ans, n_s4, n_s5, n_t3, n_t4, e2, h⟩ := xz_d5 h
  have fr : FRM (τ 4) n_t4 := FRM_3 (fr_trips b_a1 (RI_1 x_RI) e2)
  cases h
  exact ⟨trivial, S1, S2, S3, HILL2_f S4 fr, S5, S6⟩
set_option maxHeartbeats 4000000 in
set_option maxRecDepth 10000 in
theorem y_29 {N : Int} {σ : Nat → Int} {τ : Nat → Nat → Int} (hX : XX σ τ) (hS : SIM2 σ τ) (a1 : Int) (a2 : Int) (a3 : Int) (b_a1 : (-2147483648) ≤ a1 ∧ a1 ≤ 2147483647) (b_a2 : (-2147483648) ≤ a2 ∧ a2 ≤ 2147483647) (b_a3 : (-2147483648) ≤ a3 ∧ a3 ≤ 2147483647) {o : Int × Int × Int × Int × Int × Int × Int × (Nat → Int) × (Nat → Int)} (h : f_OP_29 N a1 a2 a3 (σ 4) (σ 26) (σ 45) (σ 46) (σ 47) (σ 48) (τ 4) (τ 29) (τ 36) (τ 62) = some o) : (True) ∧ SIM2 (zst σ [(4, o.2.2.1), (45, o.2.2.2.1), (46, o.2.2.2.2.1), (47, o.2.2.2.2.2.1), (48, o.2.2.2.2.2.2.1)]) (zta τ [(29, o.2.2.2.2.2.2.2.1), (62, o.2.2.2.2.2.2.2.2)]) := by
  obtain ⟨x_RI, x_h16, x_h17, x_b0, x_e0, x_t1, x_la, x_fo, x_im, x_k6, x_la0, x_la1, x_t7, x_b7⟩ := hX
  obtain ⟨S1, S2, S3, S4, S5, S6⟩ := hS
  unfold f_OP_29 at h
  obtain ⟨x_ans, n_s45, n_s46, n_s47, n_s48, n_t62, e1, h⟩ := xz_d6 h
  obtain ⟨y_ans, n_s4, n_t29, e2, h⟩ := xz_d3 h
  cases h
  exact ⟨trivial, S1, S2, S3, S4, S5, S6⟩
set_option maxHeartbeats 4000000 in
set_option maxRecDepth 10000 in
theorem y_30 {N : Int} {σ : Nat → Int} {τ : Nat → Nat → Int} (hX : XX σ τ) (hS : SIM2 σ τ) (a1 : Int) (a2 : Int) (a3 : Int) (b_a1 : (-2147483648) ≤ a1 ∧ a1 ≤ 2147483647) (b_a2 : (-2147483648) ≤ a2 ∧ a2 ≤ 2147483647) (b_a3 : (-2147483648) ≤ a3 ∧ a3 ≤ 2147483647) {o : Int × Int × Int × Int × Int × Int × Int × Int × Int × Int × Int × Int × Int × Int × Int × (Nat → Int) × (Nat → Int) × (Nat → Int) × (Nat → Int) × (Nat → Int) × (Nat → Int) × (Nat → Int) × (Nat → Int) × (Nat → Int) × (Nat → Int) × (Nat → Int) × (Nat → Int) × (Nat → Int) × (Nat → Int)} (h : f_OP_30 N a1 a2 a3 (σ 4) (σ 19) (σ 20) (σ 21) (σ 22) (σ 26) (σ 27) (σ 28) (σ 29) (σ 30) (σ 34) (σ 35) (σ 36) (σ 40) (σ 41) (σ 42) (σ 43) (σ 49) (σ 60) (τ 4) (τ 14) (τ 15) (τ 16) (τ 17) (τ 30) (τ 31) (τ 32) (τ 34) (τ 35) (τ 37) (τ 38) (τ 40) (τ 41) (τ 46) (τ 47) (τ 48) (τ 59) (τ 60) (τ 63) (τ 64) (τ 81) (τ 82) = some o) : (True) ∧ SIM2 (zst σ [(4, o.2.2.1), (19, o.2.2.2.1), (20, o.2.2.2.2.1), (21, o.2.2.2.2.2.1), (22, o.2.2.2.2.2.2.1), (34, o.2.2.2.2.2.2.2.1), (35, o.2.2.2.2.2.2.2.2.1), (36, o.2.2.2.2.2.2.2.2.2.1), (40, o.2.2.2.2.2.2.2.2.2.2.1), (41, o.2.2.2.2.2.2.2.2.2.2.2.1), (42, o.2.2.2.2.2.2.2.2.2.2.2.2.1), (43, o.2.2.2.2.2.2.2.2.2.2.2.2.2.1), (60, o.2.2.2.2.2.2.2.2.2.2.2.2.2.2.1)]) (zta τ [(14, o.2.2.2.2.2.2.2.2.2.2.2.2.2.2.2.1), (15, o.2.2.2.2.2.2.2.2.2.2.2.2.2.2.2.2.1), (16, o.2.2.2.2.2.2.2.2.2.2.2.2.2.2.2.2.2.1), (17, o.2.2.2.2.2.2.2.2.2.2.2.2.2.2.2.2.2.2.1), (30, o.2.2.2.2.2.2.2.2.2.2.2.2.2.2.2.2.2.2.2.1), (31, o.2.2.2.2.2.2.2.2.2.2.2.2.2.2.2.2.2.2.2.2.1), (32, o.2.2.2.2.2.2.2.2.2.2.2.2.2.2.2.2.2.2.2.2.2.1), (46, o.2.2.2.2.2.2.2.2.2.2.2.2.2.2.2.2.2.2.2.2.2.2.1), (47, o.2.2.2.2.2.2.2.2.2.2.2.2.2.2.2.2.2.2.2.2.2.2.2.1), (48, o.2.2.2.2.2.2.2.2.2.2.2.2.2.2.2.2.2.2.2.2.2.2.2.2.1), (59, o.2.2.2.2.2.2.2.2.2.2.2.2.2.2.2.2.2.2.2.2.2.2.2.2.2.1), (60, o.2.2.2.2.2.2.2.2.2.2.2.2.2.2.2.2.2.2.2.2.2.2.2.2.2.2.1), (81, o.2.2.2.2.2.2.2.2.2.2.2.2.2.2.2.2.2.2.2.2.2.2.2.2.2.2.2.1), (82, o.2.2.2.2.2.2.2.2.2.2.2.2.2.2.2.2.2.2.2.2.2.2.2.2.2.2.2.2)]) := by
  obtain ⟨x_RI, x_h16, x_h17, x_b0, x_e0, x_t1, x_la, x_fo, x_im, x_k6, x_la0, x_la1, x_t7, x_b7⟩ := hX
  obtain ⟨S1, S2, S3, S4, S5, S6⟩ := hS
  unfold f_OP_30 at h
  obtain ⟨x_ans, n_s34, n_s35, n_s36, n_s40, n_s41, n_s42, n_s43, n_t46, n_t47, n_t48, n_s60, n_t59, n_t60, n_t81, n_t82, e1, h⟩ := xz_d16 h
  obtain ⟨y_ans, n_s4, n_s19, n_s20, n_s21, n_s22, n_t14, n_t15, n_t16, n_t17, n_t30, n_t31, n_t32, e2, h⟩ := xz_d13 h
  cases h
  exact ⟨trivial, S1, S2, S3, S4, S5, S6⟩
set_option maxHeartbeats 4000000 in
set_option maxRecDepth 10000 in
theorem y_31 {N : Int} {σ : Nat → Int} {τ : Nat → Nat → Int} (hX : XX σ τ) (hS : SIM2 σ τ) (a1 : Int) (b_a1 : (-2147483648) ≤ a1 ∧ a1 ≤ 2147483647) {o : Int × Int × Int} (h : f_OP_31 N a1 (σ 4) (σ 49) (τ 4) (τ 63) (τ 64) = some o) : (True) ∧ SIM2 (zst σ [(4, o.2.2)]) τ := by
  obtain ⟨x_RI, x_h16, x_h17, x_b0, x_e0, x_t1, x_la, x_fo, x_im, x_k6, x_la0, x_la1, x_t7, x_b7⟩ := hX
  obtain ⟨S1, S2, S3, S4, S5, S6⟩ := hS
  unfold f_OP_31 at h
  obtain ⟨x_ans, e1, h⟩ := xz_d1 h
  obtain ⟨y_ans, n_s4, e2, h⟩ := xz_d2 h
  cases h
  exact ⟨trivial, S1, S2, S3, S4, S5, S6⟩
set_option maxHeartbeats 4000000 in
set_option maxRecDepth 10000 in
theorem y_32 {N : Int} {σ : Nat → Int} {τ : Nat → Nat → Int} (hX : XX σ τ) (hS : SIM2 σ τ) (a1 : Int) (a2 : Int) (b_a1 : (-2147483648) ≤ a1 ∧ a1 ≤ 2147483647) (b_a2 : (-2147483648) ≤ a2 ∧ a2 ≤ 2147483647) {o : Int × Int × Int × Int × Int × Int × Int × Int × Int × (Nat → Int) × (Nat → Int) × (Nat → Int) × (Nat → Int) × (Nat → Int) × (Nat → Int) × (Nat → Int)} (h : f_OP_32 N a1 a2 (σ 3) (σ 4) (σ 5) (σ 24) (σ 25) (σ 30) (σ 49) (σ 61) (τ 2) (τ 3) (τ 4) (τ 16) (τ 17) (τ 33) (τ 38) (τ 63) (τ 64) (τ 83) (τ 84) = some o) : (True) ∧ SIM2 (zst σ [(3, o.2.2.1), (4, o.2.2.2.1), (5, o.2.2.2.2.1), (24, o.2.2.2.2.2.1), (25, o.2.2.2.2.2.2.1), (30, o.2.2.2.2.2.2.2.1), (61, o.2.2.2.2.2.2.2.2.1)]) (zta τ [(2, o.2.2.2.2.2.2.2.2.2.1), (3, o.2.2.2.2.2.2.2.2.2.2.1), (16, o.2.2.2.2.2.2.2.2.2.2.2.1), (17, o.2.2.2.2.2.2.2.2.2.2.2.2.1), (33, o.2.2.2.2.2.2.2.2.2.2.2.2.2.1), (83, o.2.2.2.2.2.2.2.2.2.2.2.2.2.2.1), (84, o.2.2.2.2.2.2.2.2.2.2.2.2.2.2.2)]) := by
  obtain ⟨x_RI, x_h16, x_h17, x_b0, x_e0, x_t1, x_la, x_fo, x_im, x_k6, x_la0, x_la1, x_t7, x_b7⟩ := hX
  obtain ⟨S1, S2, S3, S4, S5, S6⟩ := hS
  unfold f_OP_32 at h
  obtain ⟨x_ans, n_s3, n_s30, n_t2, n_s61, n_t83, n_t84, e1, h⟩ := xz_d7 h
  obtain ⟨y_ans, n_s4, n_s5, n_s24, n_s25, n_t3, n_t16, n_t17, n_t33, e2, h⟩ := xz_d9 h
  cases h
  exact ⟨trivial, S1, S2, S3, S4, S5, S6⟩
set_option maxHeartbeats 4000000 in
set_option maxRecDepth 10000 in
theorem y_33 {N : Int} {σ : Nat → Int} {τ : Nat → Nat → Int} (hX : XX σ τ) (hS : SIM2 σ τ) (a1 : Int) (a2 : Int) (b_a1 : (-2147483648) ≤ a1 ∧ a1 ≤ 2147483647) (b_a2 : (-2147483648) ≤ a2 ∧ a2 ≤ 2147483647) {o : Int × Int × Int} (h : f_OP_33 N a1 a2 (σ 4) (σ 25) (σ 61) (τ 33) (τ 83) (τ 84) = some o) : (True) ∧ SIM2 (zst σ [(4, o.2.2)]) τ := by
  obtain ⟨x_RI, x_h16, x_h17, x_b0, x_e0, x_t1, x_la, x_fo, x_im, x_k6, x_la0, x_la1, x_t7, x_b7⟩ := hX
  obtain ⟨S1, S2, S3, S4, S5, S6⟩ := hS
  unfold f_OP_33 at h
  obtain ⟨x_ans, e1, h⟩ := xz_d1 h
  obtain ⟨y_ans, n_s4, e2, h⟩ := xz_d2 h
  cases h
  exact ⟨trivial, S1, S2, S3, S4, S5, S6⟩
set_option maxHeartbeats 4000000 in
set_option maxRecDepth 10000 in
theorem y_34 {N : Int} {σ : Nat → Int} {τ : Nat → Nat → Int} (hX : XX σ τ) (hS : SIM2 σ τ) (a1 : Int) (b_a1 : (-2147483648) ≤ a1 ∧ a1 ≤ 2147483647) {o : Int × Int × Int × Int × Int × Int × Int × Int × Int × Int × Int × Int × Int × Int × Int × Int × (Nat → Int) × (Nat → Int) × (Nat → Int) × (Nat → Int) × (Nat → Int) × (Nat → Int) × (Nat → Int) × (Nat → Int) × (Nat → Int) × (Nat → Int) × (Nat → Int) × (Nat → Int) × (Nat → Int) × (Nat → Int) × (Nat → Int) × (Nat → Int) × (Nat → Int) × (Nat → Int) × (Nat → Int) × (Nat → Int) × (Nat → Int) × (Nat → Int) × (Nat → Int) × (Nat → Int) × (Nat → Int)} (h : f_OP_34 N a1 (σ 3) (σ 4) (σ 5) (σ 26) (σ 27) (σ 28) (σ 29) (σ 30) (σ 49) (σ 50) (σ 51) (σ 52) (σ 53) (σ 55) (σ 56) (σ 57) (σ 58) (σ 62) (σ 63) (τ 0) (τ 2) (τ 3) (τ 4) (τ 5) (τ 6) (τ 34) (τ 35) (τ 36) (τ 37) (τ 38) (τ 39) (τ 40) (τ 41) (τ 63) (τ 64) (τ 65) (τ 66) (τ 67) (τ 68) (τ 69) (τ 70) (τ 71) (τ 72) (τ 73) (τ 74) (τ 75) (τ 76) (τ 77) (τ 78) (τ 79) (τ 80) (τ 85) (τ 86) (τ 87) (τ 88) = some o) : (True) ∧ SIM2 (zst σ [(3, o.2.2.1), (4, o.2.2.2.1), (5, o.2.2.2.2.1), (30, o.2.2.2.2.2.1), (50, o.2.2.2.2.2.2.1), (51, o.2.2.2.2.2.2.2.1), (52, o.2.2.2.2.2.2.2.2.1), (53, o.2.2.2.2.2.2.2.2.2.1), (55, o.2.2.2.2.2.2.2.2.2.2.1), (56, o.2.2.2.2.2.2.2.2.2.2.2.1), (57, o.2.2.2.2.2.2.2.2.2.2.2.2.1), (58, o.2.2.2.2.2.2.2.2.2.2.2.2.2.1), (62, o.2.2.2.2.2.2.2.2.2.2.2.2.2.2.1), (63, o.2.2.2.2.2.2.2.2.2.2.2.2.2.2.2.1)]) (zta τ [(0, o.2.2.2.2.2.2.2.2.2.2.2.2.2.2.2.2.1), (2, o.2.2.2.2.2.2.2.2.2.2.2.2.2.2.2.2.2.1), (3, o.2.2.2.2.2.2.2.2.2.2.2.2.2.2.2.2.2.2.1), (5, o.2.2.2.2.2.2.2.2.2.2.2.2.2.2.2.2.2.2.2.1), (6, o.2.2.2.2.2.2.2.2.2.2.2.2.2.2.2.2.2.2.2.2.1), (65, o.2.2.2.2.2.2.2.2.2.2.2.2.2.2.2.2.2.2.2.2.2.1), (66, o.2.2.2.2.2.2.2.2.2.2.2.2.2.2.2.2.2.2.2.2.2.2.1), (67, o.2.2.2.2.2.2.2.2.2.2.2.2.2.2.2.2.2.2.2.2.2.2.2.1), (68, o.2.2.2.2.2.2.2.2.2.2.2.2.2.2.2.2.2.2.2.2.2.2.2.2.1), (69, o.2.2.2.2.2.2.2.2.2.2.2.2.2.2.2.2.2.2.2.2.2.2.2.2.2.1), (70, o.2.2.2.2.2.2.2.2.2.2.2.2.2.2.2.2.2.2.2.2.2.2.2.2.2.2.1), (71, o.2.2.2.2.2.2.2.2.2.2.2.2.2.2.2.2.2.2.2.2.2.2.2.2.2.2.2.1), (72, o.2.2.2.2.2.2.2.2.2.2.2.2.2.2.2.2.2.2.2.2.2.2.2.2.2.2.2.2.1), (73, o.2.2.2.2.2.2.2.2.2.2.2.2.2.2.2.2.2.2.2.2.2.2.2.2.2.2.2.2.2.1), (74, o.2.2.2.2.2.2.2.2.2.2.2.2.2.2.2.2.2.2.2.2.2.2.2.2.2.2.2.2.2.2.1), (75, o.2.2.2.2.2.2.2.2.2.2.2.2.2.2.2.2.2.2.2.2.2.2.2.2.2.2.2.2.2.2.2.1), (76, o.2.2.2.2.2.2.2.2.2.2.2.2.2.2.2.2.2.2.2.2.2.2.2.2.2.2.2.2.2.2.2.2.1), (77, o.2.2.2.2.2.2.2.2.2.2.2.2.2.2.2.2.2.2.2.2.2.2.2.2.2.2.2.2.2.2.2.2.2.1), (78, o.2.2.2.2.2.2.2.2.2.2.2.2.2.2.2.2.2.2.2.2.2.2.2.2.2.2.2.2.2.2.2.2.2.2.1), (79, o.2.2.2.2.2.2.2.2.2.2.2.2.2.2.2.2.2.2.2.2.2.2.2.2.2.2.2.2.2.2.2.2.2.2.2.1), (80, o.2.2.2.2.2.2.2.2.2.2.2.2.2.2.2.2.2.2.2.2.2.2.2.2.2.2.2.2.2.2.2.2.2.2.2.2.1), (85, o.2.2.2.2.2.2.2.2.2.2.2.2.2.2.2.2.2.2.2.2.2.2.2.2.2.2.2.2.2.2.2.2.2.2.2.2.2.1), (86, o.2.2.2.2.2.2.2.2.2.2.2.2.2.2.2.2.2.2.2.2.2.2.2.2.2.2.2.2.2.2.2.2.2.2.2.2.2.2.1), (87, o.2.2.2.2.2.2.2.2.2.2.2.2.2.2.2.2.2.2.2.2.2.2.2.2.2.2.2.2.2.2.2.2.2.2.2.2.2.2.2.1), (88, o.2.2.2.2.2.2.2.2.2.2.2.2.2.2.2.2.2.2.2.2.2.2.2.2.2.2.2.2.2.2.2.2.2.2.2.2.2.2.2.2)]) := by
  obtain ⟨x_RI, x_h16, x_h17, x_b0, x_e0, x_t1, x_la, x_fo, x_im, x_k6, x_la0, x_la1, x_t7, x_b7⟩ := hX
  obtain ⟨S1, S2, S3, S4, S5, S6⟩ := hS
  unfold f_OP_34 at h
  obtain ⟨x_ans, n_s3, n_s30, n_t0, n_t2, n_s50, n_s51, n_s52, n_s53, n_s55, n_s56, n_s57, n_s58, n_s62, n_t65, n_t66, n_t67, n_t68, n_t69, n_t70, n_t71, n_t72, n_s63, n_t73, n_t74, n_t75, n_t76, n_t77, n_t78, n_t79, n_t80, n_t85, n_t86, n_t87, n_t88, e1, h⟩ := xz_d35 h
  obtain ⟨y_ans, n_s4, n_s5, n_t3, n_t5, n_t6, e2, h⟩ := xz_d6 h
  have w := zok_x (ww_HM_image _ _ _ _ _ _ _ b_a1 x_RI x_k6 x_im) e2
  dsimp only at w
  obtain ⟨w1, w2, w3, w4, w5, w6⟩ := w
  have q := k_image b_a1 e1
  cases h
  refine ⟨trivial, S1, S2, S3, S4, ?_, ?_⟩
  · show n_t6 0 ≠ 0 → HILL2 n_s52 n_s53 n_t71 n_t72 (fun j => n_t5 (5580 * 0 + j))
    intro hk
    have k6 := w6 0 (by decide)
    rcases q with ⟨q1, q2, q3⟩ | ⟨q1, q2, q3⟩ | ⟨q1, q2, q3⟩
    · rw [q2.1, q2.2.1]
      exact HILL2_c x_la.2 S4 q2.2.2.2.1 q2.2.2.2.2.1 (fun y hy => by have z := w4 (by omega) y hy; rw [q1] at z; exact z)
    · rw [q3.1, q3.2.1, q3.2.2.2.1, q3.2.2.2.2.1]
      rw [if_neg (by omega)] at k6
      exact HILL2_c x_la0.2 (S5 (by rw [← k6]; exact hk)) (fun _ _ => rfl) (fun _ _ => rfl) (fun y hy => w5 0 (by decide) (by omega) y hy)
    · rw [q2.1, q2.2.1, q2.2.2.2.1, q2.2.2.2.2.1]
      rw [if_neg (by omega)] at k6
      exact HILL2_c x_la0.2 (S5 (by rw [← k6]; exact hk)) (fun _ _ => rfl) (fun _ _ => rfl) (fun y hy => w5 0 (by decide) (by omega) y hy)
  · show n_t6 1 ≠ 0 → HILL2 n_s57 n_s58 n_t79 n_t80 (fun j => n_t5 (5580 * 1 + j))
    intro hk
    have k6 := w6 1 (by decide)
    rcases q with ⟨q1, q2, q3⟩ | ⟨q1, q2, q3⟩ | ⟨q1, q2, q3⟩
    · rw [q3.1, q3.2.1, q3.2.2.2.1, q3.2.2.2.2.1]
      rw [if_neg (by omega)] at k6
      exact HILL2_c x_la1.2 (S6 (by rw [← k6]; exact hk)) (fun _ _ => rfl) (fun _ _ => rfl) (fun y hy => w5 1 (by decide) (by omega) y hy)
    · rw [q2.1, q2.2.1]
      exact HILL2_c x_la.2 S4 q2.2.2.2.1 q2.2.2.2.2.1 (fun y hy => by have z := w4 (by omega) y hy; rw [q1] at z; exact z)
    · rw [q3.1, q3.2.1, q3.2.2.2.1, q3.2.2.2.2.1]
      rw [if_neg (by omega)] at k6
      exact HILL2_c x_la1.2 (S6 (by rw [← k6]; exact hk)) (fun _ _ => rfl) (fun _ _ => rfl) (fun y hy => w5 1 (by decide) (by omega) y hy)
set_option maxHeartbeats 4000000 in
set_option maxRecDepth 10000 in
theorem y_35 {N : Int} {σ : Nat → Int} {τ : Nat → Nat → Int} (hX : XX σ τ) (hS : SIM2 σ τ) (a1 : Int) (b_a1 : (-2147483648) ≤ a1 ∧ a1 ≤ 2147483647) {o : Int × Int × Int × Int × Int × Int × Int × Int × Int × Int × Int × (Nat → Int) × (Nat → Int) × (Nat → Int) × (Nat → Int) × (Nat → Int) × (Nat → Int) × (Nat → Int) × (Nat → Int) × (Nat → Int) × (Nat → Int) × (Nat → Int) × (Nat → Int) × (Nat → Int)} (h : f_OP_35 N a1 (σ 3) (σ 4) (σ 5) (σ 26) (σ 27) (σ 28) (σ 29) (σ 30) (σ 49) (σ 50) (σ 51) (σ 52) (σ 53) (σ 55) (σ 56) (σ 57) (σ 58) (σ 62) (σ 63) (τ 0) (τ 2) (τ 3) (τ 4) (τ 5) (τ 6) (τ 34) (τ 35) (τ 36) (τ 37) (τ 38) (τ 39) (τ 40) (τ 41) (τ 63) (τ 64) (τ 65) (τ 66) (τ 67) (τ 68) (τ 69) (τ 70) (τ 71) (τ 72) (τ 73) (τ 74) (τ 75) (τ 76) (τ 77) (τ 78) (τ 79) (τ 80) (τ 85) (τ 86) (τ 87) (τ 88) = some o) (hans : o.1 = o.2.1) : (True) ∧ SIM2 (zst σ [(3, o.2.2.1), (4, o.2.2.2.1), (5, o.2.2.2.2.1), (26, o.2.2.2.2.2.1), (27, o.2.2.2.2.2.2.1), (28, o.2.2.2.2.2.2.2.1), (29, o.2.2.2.2.2.2.2.2.1), (30, o.2.2.2.2.2.2.2.2.2.1), (49, o.2.2.2.2.2.2.2.2.2.2.1)]) (zta τ [(2, o.2.2.2.2.2.2.2.2.2.2.2.1), (3, o.2.2.2.2.2.2.2.2.2.2.2.2.1), (4, o.2.2.2.2.2.2.2.2.2.2.2.2.2.1), (34, o.2.2.2.2.2.2.2.2.2.2.2.2.2.2.1), (35, o.2.2.2.2.2.2.2.2.2.2.2.2.2.2.2.1), (36, o.2.2.2.2.2.2.2.2.2.2.2.2.2.2.2.2.1), (37, o.2.2.2.2.2.2.2.2.2.2.2.2.2.2.2.2.2.1), (38, o.2.2.2.2.2.2.2.2.2.2.2.2.2.2.2.2.2.2.1), (39, o.2.2.2.2.2.2.2.2.2.2.2.2.2.2.2.2.2.2.2.1), (40, o.2.2.2.2.2.2.2.2.2.2.2.2.2.2.2.2.2.2.2.2.1), (41, o.2.2.2.2.2.2.2.2.2.2.2.2.2.2.2.2.2.2.2.2.2.1), (63, o.2.2.2.2.2.2.2.2.2.2.2.2.2.2.2.2.2.2.2.2.2.2.1), (64, o.2.2.2.2.2.2.2.2.2.2.2.2.2.2.2.2.2.2.2.2.2.2.2)]) := by
  obtain ⟨x_RI, x_h16, x_h17, x_b0, x_e0, x_t1, x_la, x_fo, x_im, x_k6, x_la0, x_la1, x_t7, x_b7⟩ := hX
  obtain ⟨S1, S2, S3, S4, S5, S6⟩ := hS
  unfold f_OP_35 at h
  obtain ⟨x_ans, n_s3, n_s26, n_s27, n_s28, n_s29, n_s30, n_t2, n_s49, n_t34, n_t35, n_t36, n_t37, n_t38, n_t39, n_t40, n_t41, n_t63, n_t64, e1, h⟩ := xz_d19 h
  obtain ⟨y_ans, n_s4, n_s5, n_t3, n_t4, e2, h⟩ := xz_d5 h
  have w := zok_x (ww_HM_back _ _ _ _ _ _ _ b_a1 x_k6 x_RI x_im) e2
  dsimp only at w
  obtain ⟨w1, w2, w3, w4, w5⟩ := w
  have q := k_back b_a1 e1
  have ea : x_ans = y_ans := by cases h; exact hans
  cases h
  refine ⟨trivial, S1, S2, S3, ?_, S5, S6⟩
  show HILL2 n_s28 n_s29 n_t40 n_t41 n_t4
  rcases q with ⟨q1, q2, q3⟩ | ⟨q1, q2, q3⟩ | ⟨q1, q2⟩
  · have z := w3 (by omega)
    have zk := w5 (by omega)
    rw [q1] at z zk
    rw [q3.1, q3.2.1]
    exact HILL2_c x_la0.2 (S5 zk) q3.2.2.2.1 q3.2.2.2.2.1 z
  · have z := w3 (by omega)
    have zk := w5 (by omega)
    rw [q1] at z zk
    rw [q3.1, q3.2.1]
    exact HILL2_c x_la1.2 (S6 zk) q3.2.2.2.1 q3.2.2.2.2.1 z
  · have z := w4 (by omega)
    rw [q2.1, q2.2.1, q2.2.2.2.1, q2.2.2.2.2.1, z]
    exact S4
set_option maxHeartbeats 4000000 in
set_option maxRecDepth 10000 in
theorem y_36 {N : Int} {σ : Nat → Int} {τ : Nat → Nat → Int} (hX : XX σ τ) (hS : SIM2 σ τ) (a1 : Int) (b_a1 : (-2147483648) ≤ a1 ∧ a1 ≤ 2147483647) {o : Int × Int × Int} (h : f_OP_36 N a1 (σ 0) (σ 4) (σ 7) (σ 26) (σ 27) (σ 28) (σ 29) (σ 49) (τ 2) (τ 3) (τ 4) (τ 38) (τ 63) = some o) : (True) ∧ SIM2 (zst σ [(4, o.2.2)]) τ := by
  obtain ⟨x_RI, x_h16, x_h17, x_b0, x_e0, x_t1, x_la, x_fo, x_im, x_k6, x_la0, x_la1, x_t7, x_b7⟩ := hX
  obtain ⟨S1, S2, S3, S4, S5, S6⟩ := hS
  unfold f_OP_36 at h
  obtain ⟨x_ans, e1, h⟩ := xz_d1 h
  obtain ⟨y_ans, n_s4, e2, h⟩ := xz_d2 h
  cases h
  exact ⟨trivial, S1, S2, S3, S4, S5, S6⟩
set_option maxHeartbeats 4000000 in
set_option maxRecDepth 10000 in
theorem y_37 {N : Int} {σ : Nat → Int} {τ : Nat → Nat → Int} (hX : XX σ τ) (hS : SIM2 σ τ)  {o : Int × Int × Int} (h : f_OP_37 N (σ 3) (σ 4) (σ 5) = some o) : (True) ∧ SIM2 (zst σ [(4, o.2.2)]) τ := by
  obtain ⟨x_RI, x_h16, x_h17, x_b0, x_e0, x_t1, x_la, x_fo, x_im, x_k6, x_la0, x_la1, x_t7, x_b7⟩ := hX
  obtain ⟨S1, S2, S3, S4, S5, S6⟩ := hS
  unfold f_OP_37 at h
  obtain ⟨x_ans, e1, h⟩ := xz_d1 h
  obtain ⟨y_ans, n_s4, e2, h⟩ := xz_d2 h
  cases h
  exact ⟨trivial, S1, S2, S3, S4, S5, S6⟩
end
