theorem k_become {c p l f m c' p' l' f' m' v1 v2 v3 v4 v5 : Int} {b1 b2 b3 b4 b5 b6 ord od hts wts d1 d2 d3 d4 d5 d6 ord' od' hts' wts' u1 u2 u3 u4 u5 u6 uo ud uh uw : Nat → Int} (h : f_Hill_become c p l f m b1 b2 b3 b4 b5 b6 ord od hts wts c' p' l' f' m' d1 d2 d3 d4 d5 d6 ord' od' hts' wts' = some (v1, v2, v3, v4, v5, u1, u2, u3, u4, u5, u6, uo, ud, uh, uw)) : (v1 = c ∧ v2 = p ∧ v3 = l ∧ v4 = f ∧ v5 = m) ∧ (∀ j : Nat, j < 2544 → uo j = ord j) ∧ (∀ j : Nat, j < 6 → ud j = od j) ∧ (∀ j : Nat, j < 12 → uh j = hts j) ∧ (∀ j : Nat, j < 120 → uw j = wts j) := by
  unfold f_Hill_become at h
  obtain ⟨w1, w2, w3, e1, h⟩ := xz_d3 h
  unfold f_Columns_become at e1
  replace e1 := xp_cp (xp_cp e1)
  cases e1
  replace h := xp_cp (xp_cp (xp_cp (xp_cp (xp_cp (xp_cp (xp_cp (xp_cp h)))))))
  cases h
  exact ⟨⟨rfl, rfl, rfl, rfl, rfl⟩, fun j hj => cpy_lt (n := 2544) hj, fun j hj => cpy_lt (n := 6) hj, fun j hj => cpy_lt (n := 12) hj, fun j hj => cpy_lt (n := 120) hj⟩
set_option maxHeartbeats 4000000 in
theorem k_image {a1 : Int} {s26 : Int} {s27 : Int} {s28 : Int} {s29 : Int} {s49 : Int} {t34 : Nat → Int} {t35 : Nat → Int} {t36 : Nat → Int} {t37 : Nat → Int} {t38 : Nat → Int} {t39 : Nat → Int} {t40 : Nat → Int} {t41 : Nat → Int} {t63 : Nat → Int} {t64 : Nat → Int} {s3 : Int} {s30 : Int} {t0 : Nat → Int} {t2 : Nat → Int} {s50 : Int} {s51 : Int} {s52 : Int} {s53 : Int} {s55 : Int} {s56 : Int} {s57 : Int} {s58 : Int} {s62 : Int} {t65 : Nat → Int} {t66 : Nat → Int} {t67 : Nat → Int} {t68 : Nat → Int} {t69 : Nat → Int} {t70 : Nat → Int} {t71 : Nat → Int} {t72 : Nat → Int} {s63 : Int} {t73 : Nat → Int} {t74 : Nat → Int} {t75 : Nat → Int} {t76 : Nat → Int} {t77 : Nat → Int} {t78 : Nat → Int} {t79 : Nat → Int} {t80 : Nat → Int} {t85 : Nat → Int} {t86 : Nat → Int} {t87 : Nat → Int} {t88 : Nat → Int} {x_ans : Int} {n_s3 : Int} {n_s30 : Int} {n_t0 : Nat → Int} {n_t2 : Nat → Int} {n_s50 : Int} {n_s51 : Int} {n_s52 : Int} {n_s53 : Int} {n_s55 : Int} {n_s56 : Int} {n_s57 : Int} {n_s58 : Int} {n_s62 : Int} {n_t65 : Nat → Int} {n_t66 : Nat → Int} {n_t67 : Nat → Int} {n_t68 : Nat → Int} {n_t69 : Nat → Int} {n_t70 : Nat → Int} {n_t71 : Nat → Int} {n_t72 : Nat → Int} {n_s63 : Int} {n_t73 : Nat → Int} {n_t74 : Nat → Int} {n_t75 : Nat → Int} {n_t76 : Nat → Int} {n_t77 : Nat → Int} {n_t78 : Nat → Int} {n_t79 : Nat → Int} {n_t80 : Nat → Int} {n_t85 : Nat → Int} {n_t86 : Nat → Int} {n_t87 : Nat → Int} {n_t88 : Nat → Int} (b1 : -2147483648 ≤ a1 ∧ a1 ≤ 2147483647) (h : f_HS_image a1 s26 s27 s28 s29 s49 t34 t35 t36 t37 t38 t39 t40 t41 t63 t64 s3 s30 t0 t2 s50 s51 s52 s53 s55 s56 s57 s58 s62 t65 t66 t67 t68 t69 t70 t71 t72 s63 t73 t74 t75 t76 t77 t78 t79 t80 t85 t86 t87 t88 = some (x_ans, n_s3, n_s30, n_t0, n_t2, n_s50, n_s51, n_s52, n_s53, n_s55, n_s56, n_s57, n_s58, n_s62, n_t65, n_t66, n_t67, n_t68, n_t69, n_t70, n_t71, n_t72, n_s63, n_t73, n_t74, n_t75, n_t76, n_t77, n_t78, n_t79, n_t80, n_t85, n_t86, n_t87, n_t88)) : (a1 = 0 ∧ (n_s52 = s28 ∧ n_s53 = s29 ∧ n_s62 = s49 ∧ (∀ j : Nat, j < 2544 → n_t71 j = t40 j) ∧ (∀ j : Nat, j < 6 → n_t72 j = t41 j) ∧ (∀ j : Nat, j < 12 → n_t85 j = t63 j) ∧ (∀ j : Nat, j < 120 → n_t86 j = t64 j)) ∧ (n_s57 = s57 ∧ n_s58 = s58 ∧ n_s63 = s63 ∧ n_t79 = t79 ∧ n_t80 = t80 ∧ n_t87 = t87 ∧ n_t88 = t88)) ∨ (a1 = 1 ∧ (n_s57 = s28 ∧ n_s58 = s29 ∧ n_s63 = s49 ∧ (∀ j : Nat, j < 2544 → n_t79 j = t40 j) ∧ (∀ j : Nat, j < 6 → n_t80 j = t41 j) ∧ (∀ j : Nat, j < 12 → n_t87 j = t63 j) ∧ (∀ j : Nat, j < 120 → n_t88 j = t64 j)) ∧ (n_s52 = s52 ∧ n_s53 = s53 ∧ n_s62 = s62 ∧ n_t71 = t71 ∧ n_t72 = t72 ∧ n_t85 = t85 ∧ n_t86 = t86)) ∨ ((a1 < 0 ∨ 1 < a1) ∧ (n_s52 = s52 ∧ n_s53 = s53 ∧ n_s62 = s62 ∧ n_t71 = t71 ∧ n_t72 = t72 ∧ n_t85 = t85 ∧ n_t86 = t86) ∧ (n_s57 = s57 ∧ n_s58 = s58 ∧ n_s63 = s63 ∧ n_t79 = t79 ∧ n_t80 = t80 ∧ n_t87 = t87 ∧ n_t88 = t88)) := by
  have no : f_HS_image_9 s26 s27 s28 s29 s49 t34 t35 t36 t37 t38 t39 t40 t41 t63 t64 s3 s30 t0 t2 s50 s51 s52 s53 s55 s56 s57 s58 s62 t65 t66 t67 t68 t69 t70 t71 t72 s63 t73 t74 t75 t76 t77 t78 t79 t80 t85 t86 t87 t88 = some (x_ans, n_s3, n_s30, n_t0, n_t2, n_s50, n_s51, n_s52, n_s53, n_s55, n_s56, n_s57, n_s58, n_s62, n_t65, n_t66, n_t67, n_t68, n_t69, n_t70, n_t71, n_t72, n_s63, n_t73, n_t74, n_t75, n_t76, n_t77, n_t78, n_t79, n_t80, n_t85, n_t86, n_t87, n_t88) → (n_s52 = s52 ∧ n_s53 = s53 ∧ n_s62 = s62 ∧ n_t71 = t71 ∧ n_t72 = t72 ∧ n_t85 = t85 ∧ n_t86 = t86) ∧ (n_s57 = s57 ∧ n_s58 = s58 ∧ n_s63 = s63 ∧ n_t79 = t79 ∧ n_t80 = t80 ∧ n_t87 = t87 ∧ n_t88 = t88) := fun h => by
    unfold f_HS_image_9 at h
    obtain ⟨u1, u2, u3, e, h⟩ := xz_d3 h
    cases h
    exact ⟨⟨rfl, rfl, rfl, rfl, rfl, rfl, rfl⟩, ⟨rfl, rfl, rfl, rfl, rfl, rfl, rfl⟩⟩
  unfold f_HS_image at h
  rw [zwi b1, zwi (x := 2) (by decide)] at h
  by_cases c1 : a1 < 0
  · rw [if_pos c1] at h
    exact Or.inr (Or.inr ⟨Or.inl c1, no h⟩)
  rw [if_neg c1] at h
  by_cases c2 : a1 < 2
  · rw [if_pos c2] at h
    by_cases c3 : a1 = 0
    · rw [if_pos c3] at h
      obtain ⟨v1, v2, v3, v4, v5, d1, d2, d3, d4, d5, d6, d7, d8, d9, d10, e, h⟩ := xz_d15 h
      obtain ⟨⟨g1, g2, g3, g4, g5⟩, g6, g7, g8, g9⟩ := k_become e
      unfold f_HS_image_28 at h
      replace h := (xp_s (xp_f (by decide +kernel) h)).2
      obtain ⟨u1, u2, u3, e2, h⟩ := xz_d3 h
      cases h
      exact Or.inl ⟨c3, ⟨g3, g4, g5, g6, g7, g8, g9⟩, ⟨rfl, rfl, rfl, rfl, rfl, rfl, rfl⟩⟩
    · have c4 : a1 = 1 := by omega
      rw [if_neg c3, if_pos c4] at h
      obtain ⟨v1, v2, v3, v4, v5, d1, d2, d3, d4, d5, d6, d7, d8, d9, d10, e, h⟩ := xz_d15 h
      obtain ⟨⟨g1, g2, g3, g4, g5⟩, g6, g7, g8, g9⟩ := k_become e
      unfold f_HS_image_28 at h
      replace h := (xp_s (xp_f (by decide +kernel) h)).2
      obtain ⟨u1, u2, u3, e2, h⟩ := xz_d3 h
      cases h
      exact Or.inr (Or.inl ⟨c4, ⟨g3, g4, g5, g6, g7, g8, g9⟩, ⟨rfl, rfl, rfl, rfl, rfl, rfl, rfl⟩⟩)
  · rw [if_neg c2] at h
    exact Or.inr (Or.inr ⟨Or.inr (by omega), no h⟩)
set_option maxHeartbeats 4000000 in
theorem k_back {a1 : Int} {t0 : Nat → Int} {s50 : Int} {s51 : Int} {s52 : Int} {s53 : Int} {s55 : Int} {s56 : Int} {s57 : Int} {s58 : Int} {s62 : Int} {t65 : Nat → Int} {t66 : Nat → Int} {t67 : Nat → Int} {t68 : Nat → Int} {t69 : Nat → Int} {t70 : Nat → Int} {t71 : Nat → Int} {t72 : Nat → Int} {s63 : Int} {t73 : Nat → Int} {t74 : Nat → Int} {t75 : Nat → Int} {t76 : Nat → Int} {t77 : Nat → Int} {t78 : Nat → Int} {t79 : Nat → Int} {t80 : Nat → Int} {t85 : Nat → Int} {t86 : Nat → Int} {t87 : Nat → Int} {t88 : Nat → Int} {s3 : Int} {s26 : Int} {s27 : Int} {s28 : Int} {s29 : Int} {s30 : Int} {t2 : Nat → Int} {s49 : Int} {t34 : Nat → Int} {t35 : Nat → Int} {t36 : Nat → Int} {t37 : Nat → Int} {t38 : Nat → Int} {t39 : Nat → Int} {t40 : Nat → Int} {t41 : Nat → Int} {t63 : Nat → Int} {t64 : Nat → Int} {x_ans : Int} {n_s3 : Int} {n_s26 : Int} {n_s27 : Int} {n_s28 : Int} {n_s29 : Int} {n_s30 : Int} {n_t2 : Nat → Int} {n_s49 : Int} {n_t34 : Nat → Int} {n_t35 : Nat → Int} {n_t36 : Nat → Int} {n_t37 : Nat → Int} {n_t38 : Nat → Int} {n_t39 : Nat → Int} {n_t40 : Nat → Int} {n_t41 : Nat → Int} {n_t63 : Nat → Int} {n_t64 : Nat → Int} (b1 : -2147483648 ≤ a1 ∧ a1 ≤ 2147483647) (h : f_HS_back a1 t0 s50 s51 s52 s53 s55 s56 s57 s58 s62 t65 t66 t67 t68 t69 t70 t71 t72 s63 t73 t74 t75 t76 t77 t78 t79 t80 t85 t86 t87 t88 s3 s26 s27 s28 s29 s30 t2 s49 t34 t35 t36 t37 t38 t39 t40 t41 t63 t64 = some (x_ans, n_s3, n_s26, n_s27, n_s28, n_s29, n_s30, n_t2, n_s49, n_t34, n_t35, n_t36, n_t37, n_t38, n_t39, n_t40, n_t41, n_t63, n_t64)) : (a1 = 0 ∧ x_ans = 0 ∧ (n_s28 = s52 ∧ n_s29 = s53 ∧ n_s49 = s62 ∧ (∀ j : Nat, j < 2544 → n_t40 j = t71 j) ∧ (∀ j : Nat, j < 6 → n_t41 j = t72 j) ∧ (∀ j : Nat, j < 12 → n_t63 j = t85 j) ∧ (∀ j : Nat, j < 120 → n_t64 j = t86 j))) ∨ (a1 = 1 ∧ x_ans = 0 ∧ (n_s28 = s57 ∧ n_s29 = s58 ∧ n_s49 = s63 ∧ (∀ j : Nat, j < 2544 → n_t40 j = t79 j) ∧ (∀ j : Nat, j < 6 → n_t41 j = t80 j) ∧ (∀ j : Nat, j < 12 → n_t63 j = t87 j) ∧ (∀ j : Nat, j < 120 → n_t64 j = t88 j))) ∨ (x_ans < 0 ∧ (n_s28 = s28 ∧ n_s29 = s29 ∧ n_s49 = s49 ∧ n_t40 = t40 ∧ n_t41 = t41 ∧ n_t63 = t63 ∧ n_t64 = t64)) := by
  have no : ∀ {x : Int} {y z : Int} {w : Nat → Int}, (-7 < x ∧ x < 0) → f_HS_refuse x s3 t2 = some (y, z, w) → y = x := fun hx e => by
    have q := k_refuse hx e
    cases q
    rfl
  have no9 : f_HS_back_9 t0 s50 s51 s52 s53 s55 s56 s57 s58 s62 t65 t66 t67 t68 t69 t70 t71 t72 s63 t73 t74 t75 t76 t77 t78 t79 t80 t85 t86 t87 t88 s3 s26 s27 s28 s29 s30 t2 s49 t34 t35 t36 t37 t38 t39 t40 t41 t63 t64 = some (x_ans, n_s3, n_s26, n_s27, n_s28, n_s29, n_s30, n_t2, n_s49, n_t34, n_t35, n_t36, n_t37, n_t38, n_t39, n_t40, n_t41, n_t63, n_t64) → x_ans < 0 ∧ (n_s28 = s28 ∧ n_s29 = s29 ∧ n_s49 = s49 ∧ n_t40 = t40 ∧ n_t41 = t41 ∧ n_t63 = t63 ∧ n_t64 = t64) := fun h => by
    unfold f_HS_back_9 at h
    obtain ⟨u1, u2, u3, e, h⟩ := xz_d3 h
    have q := no (by decide) e
    cases h
    exact ⟨by omega, rfl, rfl, rfl, rfl, rfl, rfl, rfl⟩
  unfold f_HS_back at h
  rw [zwi b1, zwi (x := 2) (by decide)] at h
  by_cases c1 : a1 < 0
  · rw [if_pos c1] at h
    exact Or.inr (Or.inr (no9 h))
  rw [if_neg c1] at h
  by_cases c2 : a1 < 2
  · rw [if_pos c2] at h
    replace h := (xp_g h).2
    rcases xp_if h with ⟨_, h⟩ | ⟨_, h⟩
    · by_cases c3 : a1 = 0
      · rw [if_pos c3] at h
        obtain ⟨v1, v2, v3, v4, v5, d1, d2, d3, d4, d5, d6, d7, d8, d9, d10, e, h⟩ := xz_d15 h
        obtain ⟨⟨g1, g2, g3, g4, g5⟩, g6, g7, g8, g9⟩ := k_become e
        unfold f_HS_back_44 at h
        obtain ⟨u1, u2, u3, e2, h⟩ := xz_d3 h
        have ka := k_accept e2
        cases ka
        cases h
        exact Or.inl ⟨c3, rfl, g3, g4, g5, g6, g7, g8, g9⟩
      · have c4 : a1 = 1 := by omega
        rw [if_neg c3, if_pos c4] at h
        obtain ⟨v1, v2, v3, v4, v5, d1, d2, d3, d4, d5, d6, d7, d8, d9, d10, e, h⟩ := xz_d15 h
        obtain ⟨⟨g1, g2, g3, g4, g5⟩, g6, g7, g8, g9⟩ := k_become e
        unfold f_HS_back_44 at h
        obtain ⟨u1, u2, u3, e2, h⟩ := xz_d3 h
        have ka := k_accept e2
        cases ka
        cases h
        exact Or.inr (Or.inl ⟨c4, rfl, g3, g4, g5, g6, g7, g8, g9⟩)
    · obtain ⟨u1, u2, u3, e, h⟩ := xz_d3 h
      have q := no (by decide) e
      cases h
      exact Or.inr (Or.inr ⟨by omega, rfl, rfl, rfl, rfl, rfl, rfl, rfl⟩)
  · rw [if_neg c2] at h
    exact Or.inr (Or.inr (no9 h))
def SIM2 (σ : Nat → Int) (τ : Nat → Nat → Int) : Prop := τ 1 = τ 7 ∧ (∀ k : Nat, k < 8 → τ 13 k = zcd k) ∧ σ 1 = σ 12 ∧ HILL2 (σ 28) (σ 29) (τ 40) (τ 41) (τ 4) ∧ (τ 6 0 ≠ 0 → HILL2 (σ 52) (σ 53) (τ 71) (τ 72) (fun j => τ 5 (5580 * 0 + j))) ∧ (τ 6 1 ≠ 0 → HILL2 (σ 57) (σ 58) (τ 79) (τ 80) (fun j => τ 5 (5580 * 1 + j)))
def XX (σ : Nat → Int) (τ : Nat → Nat → Int) : Prop := (RI (τ 4)) ∧ (zR (τ 16) 0 10) ∧ (zR (τ 17) 0 30) ∧ (0 ≤ σ 0 ∧ σ 0 ≤ 400) ∧ (σ 0 = σ 7) ∧ (zR (τ 1) 0 255) ∧ (0 ≤ σ 28 ∧ σ 28 ≤ 6) ∧ (-1 ≤ σ 29 ∧ σ 29 ≤ 5) ∧ (zIM (τ 6) (τ 5)) ∧ (zR (τ 6) 0 1) ∧ (0 ≤ σ 52 ∧ σ 52 ≤ 6) ∧ (0 ≤ σ 57 ∧ σ 57 ≤ 6) ∧ (zR (τ 7) 0 255) ∧ (0 ≤ σ 7 ∧ σ 7 ≤ 400)
set_option maxHeartbeats 4000000 in
set_option maxRecDepth 10000 in
theorem INV_XX {N : Int} {σ : Nat → Int} {τ : Nat → Nat → Int} (h : INV N σ τ) : XX σ τ := by
  have zg1 := h.2
  have zg2 := zg1.2
  have zg3 := zg2.2
  have zg4 := zg3.2
  have zg5 := zg4.2
  have zg6 := zg5.2
  have zg7 := zg6.2
  have zg8 := zg7.2
  have zg9 := zg8.2
  have zg10 := zg9.2
  have zg11 := zg10.2
  have zg12 := zg11.2
  have zg13 := zg12.2
  have zg14 := zg13.2
  have zg15 := zg14.2
  have zg16 := zg15.2
  have zg17 := zg16.2
  have zg18 := zg17.2
  have zg19 := zg18.2
  have zg20 := zg19.2
  have zg21 := zg20.2
  have zg22 := zg21.2
  have zg23 := zg22.2
  have zg24 := zg23.2
  have zg25 := zg24.2
  have zg26 := zg25.2
  have zg27 := zg26.2
  have zg28 := zg27.2
  have zg29 := zg28.2
  have zg30 := zg29.2
  have zg31 := zg30.2
  have zg32 := zg31.2
  have zg33 := zg32.2
  have zg34 := zg33.2
  have zg35 := zg34.2
  have zg36 := zg35.2
  have zg37 := zg36.2
  have zg38 := zg37.2
  have zg39 := zg38.2
  have zg40 := zg39.2
  have zg41 := zg40.2
  have zg42 := zg41.2
  have zg43 := zg42.2
  have zg44 := zg43.2
  have zg45 := zg44.2
  have zg46 := zg45.2
  have zg47 := zg46.2
  have zg48 := zg47.2
  have zg49 := zg48.2
  have zg50 := zg49.2
  have zg51 := zg50.2
  have zg52 := zg51.2
  have zg53 := zg52.2
  have zg54 := zg53.2
  have zg55 := zg54.2
  have zg56 := zg55.2
  have zg57 := zg56.2
  have zg58 := zg57.2
  have zg59 := zg58.2
  have zg60 := zg59.2
  have zg61 := zg60.2
  have zg62 := zg61.2
  have zg63 := zg62.2
  have zg64 := zg63.2
  have zg65 := zg64.2
  have zg66 := zg65.2
  have zg67 := zg66.2
  have zg68 := zg67.2
  have zg69 := zg68.2
  have zg70 := zg69.2
  have zg71 := zg70.2
  have zg72 := zg71.2
  have zg73 := zg72.2
  have zg74 := zg73.2
  have zg75 := zg74.2
  have zg76 := zg75.2
  have zg77 := zg76.2
  have zg78 := zg77.2
  have zg79 := zg78.2
  have zg80 := zg79.2
  have zg81 := zg80.2
  have zg82 := zg81.2
  have zg83 := zg82.2
  have zg84 := zg83.2
  have zg85 := zg84.2
  have zg86 := zg85.2
  have zg87 := zg86.2
  have zg88 := zg87.2
  have zg89 := zg88.2
  have zg90 := zg89.2
  have zg91 := zg90.2
  have zg92 := zg91.2
  have zg93 := zg92.2
  have zg94 := zg93.2
  have zg95 := zg94.2
  have zg96 := zg95.2
  have zg97 := zg96.2
  have zg98 := zg97.2
  have zg99 := zg98.2
  have zg100 := zg99.2
  have zg101 := zg100.2
  have zg102 := zg101.2
  have zg103 := zg102.2
  have zg104 := zg103.2
  have zg105 := zg104.2
  have zg106 := zg105.2
  have zg107 := zg106.2
  have zg108 := zg107.2
  have zg109 := zg108.2
  have zg110 := zg109.2
  have zg111 := zg110.2
  have zg112 := zg111.2
  have zg113 := zg112.2
  have zg114 := zg113.2
  have zg115 := zg114.2
  have zg116 := zg115.2
  have zg117 := zg116.2
  have zg118 := zg117.2
  have zg119 := zg118.2
  have zg120 := zg119.2
  have zg121 := zg120.2
  have zg122 := zg121.2
  have zg123 := zg122.2
  have zg124 := zg123.2
  have zg125 := zg124.2
  have I_t4 := zg99.1
  have I_t16 := zg104.1
  have I_t17 := zg105.1
  have I_s0 := h.1
  have R_tp := zg122.1
  have I_t1 := zg44.1
  have I_s28 := zg5.1
  have I_s29 := zg6.1
  have I_im := zg112.1
  have I_t6 := zg103.1
  have I_s52 := zg24.1
  have I_s57 := zg29.1
  have I_t7 := zg102.1
  have I_s7 := zg100.1
  exact ⟨I_t4, I_t16, I_t17, I_s0, R_tp, I_t1, I_s28, I_s29, I_im, I_t6, I_s52, I_s57, I_t7, I_s7⟩
