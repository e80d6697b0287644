section
/-! what tier 3 keeps: stones, status, refusals, gravel, rain -/
noncomputable def SIM3 (σ : Nat → Int) (τ : Nat → Nat → Int) : Prop := CREL (σ 49) (τ 63) (τ 64) (fun c => (τ 4) (9 + c)) (fun j => (τ 4) (21 + j)) ∧ (τ 6 0 ≠ 0 → CREL (σ 62) (τ 85) (τ 86) (fun c => (fun j => τ 5 (5580 * 0 + j)) (9 + c)) (fun j => (fun j => τ 5 (5580 * 0 + j)) (21 + j))) ∧ (τ 6 1 ≠ 0 → CREL (σ 63) (τ 87) (τ 88) (fun c => (fun j => τ 5 (5580 * 1 + j)) (9 + c)) (fun j => (fun j => τ 5 (5580 * 1 + j)) (21 + j))) ∧ σ 3 = σ 5 ∧ (∀ k, k < 7 → τ 2 k = τ 3 k) ∧ σ 2 = σ 6 ∧ RREL (σ 61) (σ 25) (τ 83) (τ 84) (τ 33)
noncomputable def XX3 (σ : Nat → Int) (τ : Nat → Nat → Int) : Prop := (RI (τ 4)) ∧ (zR (τ 16) 0 10) ∧ (zR (τ 17) 0 30) ∧ (0 ≤ σ 0 ∧ σ 0 ≤ 400) ∧ (σ 0 = σ 7) ∧ (zR (τ 1) 0 255) ∧ (0 ≤ σ 49 ∧ σ 49 ≤ 12) ∧ (σ 49 = τ 4 0) ∧ (0 ≤ σ 26 ∧ σ 26 ≤ 6) ∧ (σ 26 = τ 4 1) ∧ (0 ≤ σ 27 ∧ σ 27 ≤ 6) ∧ (σ 27 = τ 4 2) ∧ (0 ≤ σ 28 ∧ σ 28 ≤ 6) ∧ (-1 ≤ σ 29 ∧ σ 29 ≤ 5) ∧ (zR (τ 63) 0 10) ∧ (zR (τ 64) 0 30) ∧ (zR (τ 34) 0 60) ∧ (zR (τ 35) 0 1) ∧ (zR (τ 37) 0 11) ∧ (zR (τ 38) 0 99) ∧ (RV 3 153 (σ 26) (τ 34) (τ 4)) ∧ (RV 3 154 (σ 26) (τ 35) (τ 4)) ∧ (RV 3 155 (σ 26) (τ 36) (τ 4)) ∧ (RV 1 171 (σ 27) (τ 37) (τ 4)) ∧ (RV 1 5 4 (τ 38) (τ 4)) ∧ (RV 1 141 (σ 49) (τ 39) (τ 4)) ∧ (zIM (τ 6) (τ 5)) ∧ (zR (τ 6) 0 1) ∧ (zR (τ 0) 0 1) ∧ (τ 0 0 = τ 6 0 ∧ τ 0 1 = τ 6 1) ∧ (0 ≤ σ 62 ∧ σ 62 ≤ 12) ∧ (0 ≤ σ 63 ∧ σ 63 ≤ 12) ∧ (zR (τ 85) 0 10) ∧ (zR (τ 87) 0 10) ∧ (0 ≤ σ 61 ∧ σ 61 ≤ 12) ∧ (zR (τ 83) 0 10)
set_option maxHeartbeats 4000000 in
set_option maxRecDepth 10000 in
theorem INV_XX3 {N : Int} {σ : Nat → Int} {τ : Nat → Nat → Int} (h : INV N σ τ) : XX3 σ τ := by
  have zg1 := h.2
  have zg2 := zg1.2
  have zg3 := zg2.2
  have zg4 := zg3.2
  have zg5 := zg4.2
  have zg6 := zg5.2
  have zg7 := zg6.2
  have zg8 := zg7.2
  have zg9 := zg8.2
  have zg10 := zg9.2
  have zg11 := zg10.2
  have zg12 := zg11.2
  have zg13 := zg12.2
  have zg14 := zg13.2
  have zg15 := zg14.2
  have zg16 := zg15.2
  have zg17 := zg16.2
  have zg18 := zg17.2
  have zg19 := zg18.2
  have zg20 := zg19.2
  have zg21 := zg20.2
  have zg22 := zg21.2
  have zg23 := zg22.2
  have zg24 := zg23.2
  have zg25 := zg24.2
  have zg26 := zg25.2
  have zg27 := zg26.2
  have zg28 := zg27.2
  have zg29 := zg28.2
  have zg30 := zg29.2
  have zg31 := zg30.2
  have zg32 := zg31.2
  have zg33 := zg32.2
  have zg34 := zg33.2
  have zg35 := zg34.2
  have zg36 := zg35.2
  have zg37 := zg36.2
  have zg38 := zg37.2
  have zg39 := zg38.2
  have zg40 := zg39.2
  have zg41 := zg40.2
  have zg42 := zg41.2
  have zg43 := zg42.2
  have zg44 := zg43.2
  have zg45 := zg44.2
  have zg46 := zg45.2
  have zg47 := zg46.2
  have zg48 := zg47.2
  have zg49 := zg48.2
  have zg50 := zg49.2
  have zg51 := zg50.2
  have zg52 := zg51.2
  have zg53 := zg52.2
  have zg54 := zg53.2
  have zg55 := zg54.2
  have zg56 := zg55.2
  have zg57 := zg56.2
  have zg58 := zg57.2
  have zg59 := zg58.2
  have zg60 := zg59.2
  have zg61 := zg60.2
  have zg62 := zg61.2
  have zg63 := zg62.2
  have zg64 := zg63.2
  have zg65 := zg64.2
  have zg66 := zg65.2
  have zg67 := zg66.2
  have zg68 := zg67.2
  have zg69 := zg68.2
  have zg70 := zg69.2
  have zg71 := zg70.2
  have zg72 := zg71.2
  have zg73 := zg72.2
  have zg74 := zg73.2
  have zg75 := zg74.2
  have zg76 := zg75.2
  have zg77 := zg76.2
  have zg78 := zg77.2
  have zg79 := zg78.2
  have zg80 := zg79.2
  have zg81 := zg80.2
  have zg82 := zg81.2
  have zg83 := zg82.2
  have zg84 := zg83.2
  have zg85 := zg84.2
  have zg86 := zg85.2
  have zg87 := zg86.2
  have zg88 := zg87.2
  have zg89 := zg88.2
  have zg90 := zg89.2
  have zg91 := zg90.2
  have zg92 := zg91.2
  have zg93 := zg92.2
  have zg94 := zg93.2
  have zg95 := zg94.2
  have zg96 := zg95.2
  have zg97 := zg96.2
  have zg98 := zg97.2
  have zg99 := zg98.2
  have zg100 := zg99.2
  have zg101 := zg100.2
  have zg102 := zg101.2
  have zg103 := zg102.2
  have zg104 := zg103.2
  have zg105 := zg104.2
  have zg106 := zg105.2
  have zg107 := zg106.2
  have zg108 := zg107.2
  have zg109 := zg108.2
  have zg110 := zg109.2
  have zg111 := zg110.2
  have zg112 := zg111.2
  have zg113 := zg112.2
  have zg114 := zg113.2
  have zg115 := zg114.2
  have zg116 := zg115.2
  have zg117 := zg116.2
  have zg118 := zg117.2
  have zg119 := zg118.2
  have zg120 := zg119.2
  have zg121 := zg120.2
  have zg122 := zg121.2
  have zg123 := zg122.2
  have zg124 := zg123.2
  have zg125 := zg124.2
  have I_t4 := zg99.1
  have I_t16 := zg104.1
  have I_t17 := zg105.1
  have I_s0 := h.1
  have R_tp := zg122.1
  have I_t1 := zg44.1
  have I_s49 := zg21.1
  have R_many := zg113.1
  have I_s26 := zg3.1
  have R_ch := zg114.1
  have I_s27 := zg4.1
  have R_pa := zg115.1
  have I_s28 := zg5.1
  have I_s29 := zg6.1
  have I_t63 := zg70.1
  have I_t64 := zg71.1
  have I_t34 := zg45.1
  have I_t35 := zg46.1
  have I_t37 := zg48.1
  have I_t38 := zg49.1
  have R_st := zg116.1
  have R_ex := zg117.1
  have R_tr := zg118.1
  have R_pl := zg119.1
  have R_te := zg120.1
  have R_go := zg121.1
  have I_im := zg112.1
  have I_t6 := zg103.1
  have I_t0 := zg43.1
  have R_kp := zg123.1
  have I_s62 := zg34.1
  have I_s63 := zg35.1
  have I_t85 := zg92.1
  have I_t87 := zg94.1
  have I_s61 := zg33.1
  have I_t83 := zg90.1
  exact ⟨I_t4, I_t16, I_t17, I_s0, R_tp, I_t1, I_s49, R_many, I_s26, R_ch, I_s27, R_pa, I_s28, I_s29, I_t63, I_t64, I_t34, I_t35, I_t37, I_t38, R_st, R_ex, R_tr, R_pl, R_te, R_go, I_im, I_t6, I_t0, R_kp, I_s62, I_s63, I_t85, I_t87, I_s61, I_t83⟩
theorem RV1 {b : Nat} {n : Int} {a r : Nat → Int} (h : RV 1 b n a r) : ∀ c : Nat, (c : Int) < n → a c = r (b + c) := fun c hc => by
  have := h c hc
  rw [Nat.one_mul] at this
  exact this
theorem x3_te {te row : Nat → Int} (h : RV 1 5 4 te row) : ∀ k, k < 4 → te k = row (5 + k) := fun k hk => RV1 h k (by omega)
theorem x3_J {ch la fo : Int} {st ex te ord od row : Nat → Int} (hR : RI row) (h1 : 0 ≤ ch ∧ ch ≤ 6) (h2 : ch = row 1) (h3 : RV 3 153 ch st row) (h4 : RV 3 154 ch ex row) (h5 : zR st 0 60) (h6 : zR ex 0 1) (h7 : RV 1 5 4 te row) (h8 : zR te 0 99) (h9 : 0 ≤ la ∧ la ≤ 6) (h10 : -1 ≤ fo ∧ fo ≤ 5) (hH : HILL2 la fo ord od row) : JREL ch la fo st ex te ord od row :=
  ⟨⟨h1.1, h1.2, h2⟩, fun c hc => ⟨h3 c hc, h4 c hc⟩, h5, h6, ⟨x3_te h7 0 (by decide), (h8 0).1, (h8 0).2⟩, ⟨hH.2.1, h10.1, by have := RI_4 hR; have := hH.1; have := hH.2.1; omega, h9.2⟩, hH.2.2⟩
theorem x3_P {pa : Int} {pl te row : Nat → Int} (hR : RI row) (h1 : 0 ≤ pa ∧ pa ≤ 6) (h2 : pa = row 2) (h3 : RV 1 171 pa pl row) (h4 : zR pl 0 11) (h7 : RV 1 5 4 te row) : PREL pa pl te row :=
  ⟨⟨h1.1, h1.2, h2⟩, RV1 h3, h4, by have e : te 1 = row 6 := x3_te h7 1 (by decide); have := RI_6 hR; exact ⟨e, by omega, by omega⟩⟩
theorem x3_t2 {te row : Nat → Int} (hR : RI row) (h7 : RV 1 5 4 te row) : te 2 = row 7 ∧ 1 ≤ te 2 ∧ te 2 ≤ 99 := by
  have e : te 2 = row 7 := x3_te h7 2 (by decide)
  have := RI_7 hR
  exact ⟨e, by omega, by omega⟩
theorem x3_t3 {te row : Nat → Int} (hR : RI row) (h7 : RV 1 5 4 te row) : te 3 = row 8 ∧ 0 ≤ te 3 ∧ te 3 ≤ 99 := by
  have e : te 3 = row 8 := x3_te h7 3 (by decide)
  have := RI_8 hR
  exact ⟨e, by omega, by omega⟩
theorem SR_tell {x st : Int} {f g : Nat → Int} {u : Int × Int × (Nat → Int)} {w1 w2 : Int} {w3 : Nat → Int} (hx : -7 < x ∧ x < 0) (hu : u = (x, x, zu f (-x).toNat (f (-x).toNat + 1))) (e2 : f_HM_tell x st g = some (w1, w2, w3)) : u.2.1 = w2 ∧ ((∀ k, k < 7 → f k = g k) → ∀ k, k < 7 → u.2.2 k = w3 k) := by
  rcases x_tell (by omega) e2 with ⟨k2, _⟩ | ⟨_, k2⟩
  · omega
  · cases k2
    rw [hu]
    exact ⟨rfl, fun h => zu_agr h⟩
theorem SR_tell0 {st : Int} {f g : Nat → Int} {w1 w2 : Int} {w3 : Nat → Int} (e2 : f_HM_tell 0 st g = some (w1, w2, w3)) : 0 = w2 ∧ ((∀ k, k < 7 → f k = g k) → ∀ k, k < 7 → f k = w3 k) := by
  rcases x_tell (by decide) e2 with ⟨_, k2⟩ | ⟨k2, _⟩
  · cases k2
    exact ⟨rfl, fun h => h⟩
  · omega
theorem tell_a {x st w1 w2 : Int} {g w3 : Nat → Int} (hx : -7 < x ∧ x ≤ 100000) (e2 : f_HM_tell x st g = some (w1, w2, w3)) : w1 = x := by
  rcases x_tell hx e2 with ⟨_, k2⟩ | ⟨_, k2⟩ <;> cases k2 <;> rfl
set_option maxHeartbeats 4000000 in
theorem k_image3 {a1 : Int} {s26 : Int} {s27 : Int} {s28 : Int} {s29 : Int} {s49 : Int} {t34 : Nat → Int} {t35 : Nat → Int} {t36 : Nat → Int} {t37 : Nat → Int} {t38 : Nat → Int} {t39 : Nat → Int} {t40 : Nat → Int} {t41 : Nat → Int} {t63 : Nat → Int} {t64 : Nat → Int} {s3 : Int} {s30 : Int} {t0 : Nat → Int} {t2 : Nat → Int} {s50 : Int} {s51 : Int} {s52 : Int} {s53 : Int} {s55 : Int} {s56 : Int} {s57 : Int} {s58 : Int} {s62 : Int} {t65 : Nat → Int} {t66 : Nat → Int} {t67 : Nat → Int} {t68 : Nat → Int} {t69 : Nat → Int} {t70 : Nat → Int} {t71 : Nat → Int} {t72 : Nat → Int} {s63 : Int} {t73 : Nat → Int} {t74 : Nat → Int} {t75 : Nat → Int} {t76 : Nat → Int} {t77 : Nat → Int} {t78 : Nat → Int} {t79 : Nat → Int} {t80 : Nat → Int} {t85 : Nat → Int} {t86 : Nat → Int} {t87 : Nat → Int} {t88 : Nat → Int} {x_ans : Int} {n_s3 : Int} {n_s30 : Int} {n_t0 : Nat → Int} {n_t2 : Nat → Int} {n_s50 : Int} {n_s51 : Int} {n_s52 : Int} {n_s53 : Int} {n_s55 : Int} {n_s56 : Int} {n_s57 : Int} {n_s58 : Int} {n_s62 : Int} {n_t65 : Nat → Int} {n_t66 : Nat → Int} {n_t67 : Nat → Int} {n_t68 : Nat → Int} {n_t69 : Nat → Int} {n_t70 : Nat → Int} {n_t71 : Nat → Int} {n_t72 : Nat → Int} {n_s63 : Int} {n_t73 : Nat → Int} {n_t74 : Nat → Int} {n_t75 : Nat → Int} {n_t76 : Nat → Int} {n_t77 : Nat → Int} {n_t78 : Nat → Int} {n_t79 : Nat → Int} {n_t80 : Nat → Int} {n_t85 : Nat → Int} {n_t86 : Nat → Int} {n_t87 : Nat → Int} {n_t88 : Nat → Int} (b1 : -2147483648 ≤ a1 ∧ a1 ≤ 2147483647) (h : f_HS_image a1 s26 s27 s28 s29 s49 t34 t35 t36 t37 t38 t39 t40 t41 t63 t64 s3 s30 t0 t2 s50 s51 s52 s53 s55 s56 s57 s58 s62 t65 t66 t67 t68 t69 t70 t71 t72 s63 t73 t74 t75 t76 t77 t78 t79 t80 t85 t86 t87 t88 = some (x_ans, n_s3, n_s30, n_t0, n_t2, n_s50, n_s51, n_s52, n_s53, n_s55, n_s56, n_s57, n_s58, n_s62, n_t65, n_t66, n_t67, n_t68, n_t69, n_t70, n_t71, n_t72, n_s63, n_t73, n_t74, n_t75, n_t76, n_t77, n_t78, n_t79, n_t80, n_t85, n_t86, n_t87, n_t88)) : ((0 ≤ a1 ∧ a1 ≤ 1) ∧ x_ans = 0 ∧ n_s3 = 0 ∧ n_t2 = t2) ∨ (¬ (0 ≤ a1 ∧ a1 ≤ 1) ∧ x_ans = -1 ∧ n_s3 = -1 ∧ n_t2 = zu t2 1 (t2 1 + 1)) := by
  have no : f_HS_image_9 s26 s27 s28 s29 s49 t34 t35 t36 t37 t38 t39 t40 t41 t63 t64 s3 s30 t0 t2 s50 s51 s52 s53 s55 s56 s57 s58 s62 t65 t66 t67 t68 t69 t70 t71 t72 s63 t73 t74 t75 t76 t77 t78 t79 t80 t85 t86 t87 t88 = some (x_ans, n_s3, n_s30, n_t0, n_t2, n_s50, n_s51, n_s52, n_s53, n_s55, n_s56, n_s57, n_s58, n_s62, n_t65, n_t66, n_t67, n_t68, n_t69, n_t70, n_t71, n_t72, n_s63, n_t73, n_t74, n_t75, n_t76, n_t77, n_t78, n_t79, n_t80, n_t85, n_t86, n_t87, n_t88) → x_ans = -1 ∧ n_s3 = -1 ∧ n_t2 = zu t2 1 (t2 1 + 1) := fun h => by
    unfold f_HS_image_9 at h
    obtain ⟨u1, u2, u3, e, h⟩ := xz_d3 h
    have q := k_refuse (by decide) e
    cases q
    cases h
    exact ⟨rfl, rfl, rfl⟩
  unfold f_HS_image at h
  rw [zwi b1, zwi (x := 2) (by decide)] at h
  by_cases c1 : a1 < 0
  · rw [if_pos c1] at h
    exact Or.inr ⟨by omega, no h⟩
  rw [if_neg c1] at h
  by_cases c2 : a1 < 2
  · rw [if_pos c2] at h
    by_cases c3 : a1 = 0
    · rw [if_pos c3] at h
      obtain ⟨v1, v2, v3, v4, v5, d1, d2, d3, d4, d5, d6, d7, d8, d9, d10, e, h⟩ := xz_d15 h
      unfold f_HS_image_28 at h
      replace h := (xp_s (xp_f (by decide +kernel) h)).2
      obtain ⟨u1, u2, u3, e2, h⟩ := xz_d3 h
      have q := k_accept e2
      cases q
      cases h
      exact Or.inl ⟨by omega, rfl, rfl, rfl⟩
    · have c4 : a1 = 1 := by omega
      rw [if_neg c3, if_pos c4] at h
      obtain ⟨v1, v2, v3, v4, v5, d1, d2, d3, d4, d5, d6, d7, d8, d9, d10, e, h⟩ := xz_d15 h
      unfold f_HS_image_28 at h
      replace h := (xp_s (xp_f (by decide +kernel) h)).2
      obtain ⟨u1, u2, u3, e2, h⟩ := xz_d3 h
      have q := k_accept e2
      cases q
      cases h
      exact Or.inl ⟨by omega, rfl, rfl, rfl⟩
  · rw [if_neg c2] at h
    exact Or.inr ⟨by omega, no h⟩
set_option maxHeartbeats 4000000 in
theorem k_back3 {a1 : Int} {t0 : Nat → Int} {s50 : Int} {s51 : Int} {s52 : Int} {s53 : Int} {s55 : Int} {s56 : Int} {s57 : Int} {s58 : Int} {s62 : Int} {t65 : Nat → Int} {t66 : Nat → Int} {t67 : Nat → Int} {t68 : Nat → Int} {t69 : Nat → Int} {t70 : Nat → Int} {t71 : Nat → Int} {t72 : Nat → Int} {s63 : Int} {t73 : Nat → Int} {t74 : Nat → Int} {t75 : Nat → Int} {t76 : Nat → Int} {t77 : Nat → Int} {t78 : Nat → Int} {t79 : Nat → Int} {t80 : Nat → Int} {t85 : Nat → Int} {t86 : Nat → Int} {t87 : Nat → Int} {t88 : Nat → Int} {s3 : Int} {s26 : Int} {s27 : Int} {s28 : Int} {s29 : Int} {s30 : Int} {t2 : Nat → Int} {s49 : Int} {t34 : Nat → Int} {t35 : Nat → Int} {t36 : Nat → Int} {t37 : Nat → Int} {t38 : Nat → Int} {t39 : Nat → Int} {t40 : Nat → Int} {t41 : Nat → Int} {t63 : Nat → Int} {t64 : Nat → Int} {x_ans : Int} {n_s3 : Int} {n_s26 : Int} {n_s27 : Int} {n_s28 : Int} {n_s29 : Int} {n_s30 : Int} {n_t2 : Nat → Int} {n_s49 : Int} {n_t34 : Nat → Int} {n_t35 : Nat → Int} {n_t36 : Nat → Int} {n_t37 : Nat → Int} {n_t38 : Nat → Int} {n_t39 : Nat → Int} {n_t40 : Nat → Int} {n_t41 : Nat → Int} {n_t63 : Nat → Int} {n_t64 : Nat → Int} (b1 : -2147483648 ≤ a1 ∧ a1 ≤ 2147483647) (hk : zR t0 0 1) (h : f_HS_back a1 t0 s50 s51 s52 s53 s55 s56 s57 s58 s62 t65 t66 t67 t68 t69 t70 t71 t72 s63 t73 t74 t75 t76 t77 t78 t79 t80 t85 t86 t87 t88 s3 s26 s27 s28 s29 s30 t2 s49 t34 t35 t36 t37 t38 t39 t40 t41 t63 t64 = some (x_ans, n_s3, n_s26, n_s27, n_s28, n_s29, n_s30, n_t2, n_s49, n_t34, n_t35, n_t36, n_t37, n_t38, n_t39, n_t40, n_t41, n_t63, n_t64)) : ((0 ≤ a1 ∧ a1 ≤ 1) ∧ t0 a1.toNat ≠ 0 ∧ x_ans = 0 ∧ n_s3 = 0 ∧ n_t2 = t2) ∨ ((0 ≤ a1 ∧ a1 ≤ 1) ∧ t0 a1.toNat = 0 ∧ x_ans = -2 ∧ n_s3 = -2 ∧ n_t2 = zu t2 2 (t2 2 + 1)) ∨ (¬ (0 ≤ a1 ∧ a1 ≤ 1) ∧ x_ans = -1 ∧ n_s3 = -1 ∧ n_t2 = zu t2 1 (t2 1 + 1)) := by
  have no : f_HS_back_9 t0 s50 s51 s52 s53 s55 s56 s57 s58 s62 t65 t66 t67 t68 t69 t70 t71 t72 s63 t73 t74 t75 t76 t77 t78 t79 t80 t85 t86 t87 t88 s3 s26 s27 s28 s29 s30 t2 s49 t34 t35 t36 t37 t38 t39 t40 t41 t63 t64 = some (x_ans, n_s3, n_s26, n_s27, n_s28, n_s29, n_s30, n_t2, n_s49, n_t34, n_t35, n_t36, n_t37, n_t38, n_t39, n_t40, n_t41, n_t63, n_t64) → x_ans = -1 ∧ n_s3 = -1 ∧ n_t2 = zu t2 1 (t2 1 + 1) := fun h => by
    unfold f_HS_back_9 at h
    obtain ⟨u1, u2, u3, e, h⟩ := xz_d3 h
    have q := k_refuse (by decide) e
    cases q
    cases h
    exact ⟨rfl, rfl, rfl⟩
  unfold f_HS_back at h
  rw [zwi b1, zwi (x := 2) (by decide)] at h
  by_cases c1 : a1 < 0
  · rw [if_pos c1] at h
    exact Or.inr (Or.inr ⟨by omega, no h⟩)
  rw [if_neg c1] at h
  by_cases c2 : a1 < 2
  · rw [if_pos c2] at h
    replace h := (xp_g h).2
    have bk := hk a1.toNat
    rw [zwi b1, zwi (x := t0 a1.toNat) (by omega)] at h
    by_cases d : t0 a1.toNat ≠ 0
    · rw [if_pos d] at h
      by_cases c3 : a1 = 0
      · rw [if_pos c3] at h
        obtain ⟨v1, v2, v3, v4, v5, d1, d2, d3, d4, d5, d6, d7, d8, d9, d10, e, h⟩ := xz_d15 h
        unfold f_HS_back_44 at h
        obtain ⟨u1, u2, u3, e2, h⟩ := xz_d3 h
        have ka := k_accept e2
        cases ka
        cases h
        exact Or.inl ⟨by omega, d, rfl, rfl, rfl⟩
      · have c4 : a1 = 1 := by omega
        rw [if_neg c3, if_pos c4] at h
        obtain ⟨v1, v2, v3, v4, v5, d1, d2, d3, d4, d5, d6, d7, d8, d9, d10, e, h⟩ := xz_d15 h
        unfold f_HS_back_44 at h
        obtain ⟨u1, u2, u3, e2, h⟩ := xz_d3 h
        have ka := k_accept e2
        cases ka
        cases h
        exact Or.inl ⟨by omega, d, rfl, rfl, rfl⟩
    · rw [if_neg d] at h
      obtain ⟨u1, u2, u3, e, h⟩ := xz_d3 h
      have q := k_refuse (by decide) e
      cases q
      cases h
      exact Or.inr (Or.inl ⟨by omega, by omega, rfl, rfl, rfl⟩)
  · rw [if_neg c2] at h
    exact Or.inr (Or.inr ⟨by omega, no h⟩)
end
section
set_option maxHeartbeats 4000000 in
set_option maxRecDepth 10000 in
theorem z_0 {N : Int} {σ : Nat → Int} {τ : Nat → Nat → Int} (hX : XX3 σ τ) (hS : SIM2 σ τ) (hT : SIM3 σ τ)  {o : Int × Int × Int × Int × Int × Int × Int × (Nat → Int) × (Nat → Int) × (Nat → Int) × (Nat → Int) × (Nat → Int)} (h : f_OP_0 N (σ 3) (σ 4) (σ 5) (σ 26) (σ 27) (σ 30) (σ 49) (τ 2) (τ 3) (τ 4) (τ 34) (τ 35) (τ 36) (τ 37) (τ 38) (τ 39) (τ 63) = some o) : (True) ∧ SIM3 (zst σ [(3, o.2.2.1), (4, o.2.2.2.1), (5, o.2.2.2.2.1), (30, o.2.2.2.2.2.1), (49, o.2.2.2.2.2.2.1)]) (zta τ [(2, o.2.2.2.2.2.2.2.1), (3, o.2.2.2.2.2.2.2.2.1), (4, o.2.2.2.2.2.2.2.2.2.1), (39, o.2.2.2.2.2.2.2.2.2.2.1), (63, o.2.2.2.2.2.2.2.2.2.2.2)]) := by
  obtain ⟨x_RI, x_h16, x_h17, x_b0, x_e0, x_t1, x_m, x_em, x_ch, x_ech, x_pa, x_epa, x_la, x_fo, x_h63, x_h64, x_st, x_ex, x_pl, x_te, x_Rst, x_Rex, x_Rtr, x_Rpl, x_Rte, x_Rgo, x_im, x_k6, x_k0, x_kp, x_m0, x_m1, x_h85, x_h87, x_m61, x_h83⟩ := hX
  obtain ⟨S1, S2, S3, S4, S5, S6⟩ := hS
  obtain ⟨T1, T2, T3, T4, T5, T6, T7⟩ := hT
  unfold f_OP_0 at h
  obtain ⟨x_ans, n_s3, n_s30, n_t2, n_s49, n_t39, n_t63, e1, h⟩ := xz_d7 h
  obtain ⟨y_ans, n_s4, n_s5, n_t3, n_t4, e2, h⟩ := xz_d5 h
  have q := x_column x_m x_em x_h63 ⟨S4, T1⟩ e1 e2
  cases h
  exact ⟨trivial, q.2.2, T2, T3, q.1.2.1, q.1.2.2 T5, T6, T7⟩
set_option maxHeartbeats 4000000 in
set_option maxRecDepth 10000 in
theorem z_1 {N : Int} {σ : Nat → Int} {τ : Nat → Nat → Int} (hX : XX3 σ τ) (hS : SIM2 σ τ) (hT : SIM3 σ τ) (a1 : Int) (a2 : Int) (b_a1 : (-2147483648) ≤ a1 ∧ a1 ≤ 2147483647) (b_a2 : (-2147483648) ≤ a2 ∧ a2 ≤ 2147483647) {o : Int × Int × Int × Int × Int × Int × (Nat → Int) × (Nat → Int) × (Nat → Int) × (Nat → Int) × (Nat → Int)} (h : f_OP_1 N a1 a2 (σ 3) (σ 4) (σ 5) (σ 26) (σ 27) (σ 30) (σ 49) (τ 2) (τ 3) (τ 4) (τ 34) (τ 35) (τ 36) (τ 37) (τ 38) (τ 39) (τ 63) (τ 64) = some o) : (o.1 = o.2.1) ∧ SIM3 (zst σ [(3, o.2.2.1), (4, o.2.2.2.1), (5, o.2.2.2.2.1), (30, o.2.2.2.2.2.1)]) (zta τ [(2, o.2.2.2.2.2.2.1), (3, o.2.2.2.2.2.2.2.1), (4, o.2.2.2.2.2.2.2.2.1), (63, o.2.2.2.2.2.2.2.2.2.1), (64, o.2.2.2.2.2.2.2.2.2.2)]) := by
  obtain ⟨x_RI, x_h16, x_h17, x_b0, x_e0, x_t1, x_m, x_em, x_ch, x_ech, x_pa, x_epa, x_la, x_fo, x_h63, x_h64, x_st, x_ex, x_pl, x_te, x_Rst, x_Rex, x_Rtr, x_Rpl, x_Rte, x_Rgo, x_im, x_k6, x_k0, x_kp, x_m0, x_m1, x_h85, x_h87, x_m61, x_h83⟩ := hX
  obtain ⟨S1, S2, S3, S4, S5, S6⟩ := hS
  obtain ⟨T1, T2, T3, T4, T5, T6, T7⟩ := hT
  unfold f_OP_1 at h
  obtain ⟨x_ans, n_s3, n_s30, n_t2, n_t63, n_t64, e1, h⟩ := xz_d6 h
  obtain ⟨y_ans, n_s4, n_s5, n_t3, n_t4, e2, h⟩ := xz_d5 h
  have q := x_stone b_a1 b_a2 x_m x_em x_h63 ⟨S4, T1⟩ e1 e2
  cases h
  exact ⟨q.1.1, q.2.2, T2, T3, q.1.2.1, q.1.2.2 T5, T6, T7⟩
set_option maxHeartbeats 4000000 in
set_option maxRecDepth 10000 in
theorem z_2 {N : Int} {σ : Nat → Int} {τ : Nat → Nat → Int} (hX : XX3 σ τ) (hS : SIM2 σ τ) (hT : SIM3 σ τ) (a1 : Int) (b_a1 : (-2147483648) ≤ a1 ∧ a1 ≤ 2147483647) {o : Int × Int × Int × Int × Int × Int × (Nat → Int) × (Nat → Int) × (Nat → Int) × (Nat → Int)} (h : f_OP_2 N a1 (σ 3) (σ 4) (σ 5) (σ 26) (σ 27) (σ 30) (σ 49) (τ 2) (τ 3) (τ 4) (τ 34) (τ 35) (τ 36) (τ 37) (τ 38) (τ 39) (τ 63) (τ 64) = some o) : (o.1 = o.2.1) ∧ SIM3 (zst σ [(3, o.2.2.1), (4, o.2.2.2.1), (5, o.2.2.2.2.1), (30, o.2.2.2.2.2.1)]) (zta τ [(2, o.2.2.2.2.2.2.1), (3, o.2.2.2.2.2.2.2.1), (4, o.2.2.2.2.2.2.2.2.1), (63, o.2.2.2.2.2.2.2.2.2)]) := by
  obtain ⟨x_RI, x_h16, x_h17, x_b0, x_e0, x_t1, x_m, x_em, x_ch, x_ech, x_pa, x_epa, x_la, x_fo, x_h63, x_h64, x_st, x_ex, x_pl, x_te, x_Rst, x_Rex, x_Rtr, x_Rpl, x_Rte, x_Rgo, x_im, x_k6, x_k0, x_kp, x_m0, x_m1, x_h85, x_h87, x_m61, x_h83⟩ := hX
  obtain ⟨S1, S2, S3, S4, S5, S6⟩ := hS
  obtain ⟨T1, T2, T3, T4, T5, T6, T7⟩ := hT
  unfold f_OP_2 at h
  obtain ⟨x_ans, n_s3, n_s30, n_t2, n_t63, e1, h⟩ := xz_d5 h
  obtain ⟨y_ans, n_s4, n_s5, n_t3, n_t4, e2, h⟩ := xz_d5 h
  have q := x_lift b_a1 x_m x_em x_h63 x_h64 ⟨S4, T1⟩ e1 e2
  cases h
  exact ⟨q.1.1, q.2.2, T2, T3, q.1.2.1, q.1.2.2 T5, T6, T7⟩
set_option maxHeartbeats 4000000 in
set_option maxRecDepth 10000 in
theorem z_3 {N : Int} {σ : Nat → Int} {τ : Nat → Nat → Int} (hX : XX3 σ τ) (hS : SIM2 σ τ) (hT : SIM3 σ τ) (a1 : Int) (a2 : Int) (b_a1 : (-2147483648) ≤ a1 ∧ a1 ≤ 2147483647) (b_a2 : (-2147483648) ≤ a2 ∧ a2 ≤ 2147483647) {o : Int × Int × Int} (h : f_OP_3 N a1 a2 (σ 4) (σ 49) (τ 4) (τ 63) (τ 64) = some o) : (o.1 = o.2.1) ∧ SIM3 (zst σ [(4, o.2.2)]) τ := by
  obtain ⟨x_RI, x_h16, x_h17, x_b0, x_e0, x_t1, x_m, x_em, x_ch, x_ech, x_pa, x_epa, x_la, x_fo, x_h63, x_h64, x_st, x_ex, x_pl, x_te, x_Rst, x_Rex, x_Rtr, x_Rpl, x_Rte, x_Rgo, x_im, x_k6, x_k0, x_kp, x_m0, x_m1, x_h85, x_h87, x_m61, x_h83⟩ := hX
  obtain ⟨S1, S2, S3, S4, S5, S6⟩ := hS
  obtain ⟨T1, T2, T3, T4, T5, T6, T7⟩ := hT
  unfold f_OP_3 at h
  obtain ⟨x_ans, e1, h⟩ := xz_d1 h
  obtain ⟨y_ans, n_s4, e2, h⟩ := xz_d2 h
  have q := x_of b_a1 b_a2 x_m x_em x_h63 T1 e1 e2
  cases h
  exact ⟨q, T1, T2, T3, T4, T5, T6, T7⟩
set_option maxHeartbeats 4000000 in
set_option maxRecDepth 10000 in
theorem z_4 {N : Int} {σ : Nat → Int} {τ : Nat → Nat → Int} (hX : XX3 σ τ) (hS : SIM2 σ τ) (hT : SIM3 σ τ) (a1 : Int) (b_a1 : (-2147483648) ≤ a1 ∧ a1 ≤ 2147483647) {o : Int × Int × Int} (h : f_OP_4 N a1 (σ 4) (σ 49) (τ 4) (τ 63) (τ 64) = some o) : (o.1 = o.2.1) ∧ SIM3 (zst σ [(4, o.2.2)]) τ := by
  obtain ⟨x_RI, x_h16, x_h17, x_b0, x_e0, x_t1, x_m, x_em, x_ch, x_ech, x_pa, x_epa, x_la, x_fo, x_h63, x_h64, x_st, x_ex, x_pl, x_te, x_Rst, x_Rex, x_Rtr, x_Rpl, x_Rte, x_Rgo, x_im, x_k6, x_k0, x_kp, x_m0, x_m1, x_h85, x_h87, x_m61, x_h83⟩ := hX
  obtain ⟨S1, S2, S3, S4, S5, S6⟩ := hS
  obtain ⟨T1, T2, T3, T4, T5, T6, T7⟩ := hT
  unfold f_OP_4 at h
  obtain ⟨x_ans, e1, h⟩ := xz_d1 h
  obtain ⟨y_ans, n_s4, e2, h⟩ := xz_d2 h
  have q := x_weight b_a1 x_m x_em x_h63 T1 e1 e2
  cases h
  exact ⟨q, T1, T2, T3, T4, T5, T6, T7⟩
set_option maxHeartbeats 4000000 in
set_option maxRecDepth 10000 in
theorem z_5 {N : Int} {σ : Nat → Int} {τ : Nat → Nat → Int} (hX : XX3 σ τ) (hS : SIM2 σ τ) (hT : SIM3 σ τ) (a1 : Int) (b_a1 : (-2147483648) ≤ a1 ∧ a1 ≤ 2147483647) {o : Int × Int × Int × Int × Int × Int × Int × (Nat → Int) × (Nat → Int) × (Nat → Int) × (Nat → Int) × (Nat → Int) × (Nat → Int)} (h : f_OP_5 N a1 (σ 3) (σ 4) (σ 5) (σ 26) (σ 27) (σ 30) (σ 49) (τ 2) (τ 3) (τ 4) (τ 34) (τ 35) (τ 36) (τ 37) (τ 38) (τ 39) = some o) : (True) ∧ SIM3 (zst σ [(3, o.2.2.1), (4, o.2.2.2.1), (5, o.2.2.2.2.1), (26, o.2.2.2.2.2.1), (30, o.2.2.2.2.2.2.1)]) (zta τ [(2, o.2.2.2.2.2.2.2.1), (3, o.2.2.2.2.2.2.2.2.1), (4, o.2.2.2.2.2.2.2.2.2.1), (34, o.2.2.2.2.2.2.2.2.2.2.1), (35, o.2.2.2.2.2.2.2.2.2.2.2.1), (36, o.2.2.2.2.2.2.2.2.2.2.2.2)]) := by
  obtain ⟨x_RI, x_h16, x_h17, x_b0, x_e0, x_t1, x_m, x_em, x_ch, x_ech, x_pa, x_epa, x_la, x_fo, x_h63, x_h64, x_st, x_ex, x_pl, x_te, x_Rst, x_Rex, x_Rtr, x_Rpl, x_Rte, x_Rgo, x_im, x_k6, x_k0, x_kp, x_m0, x_m1, x_h85, x_h87, x_m61, x_h83⟩ := hX
  obtain ⟨S1, S2, S3, S4, S5, S6⟩ := hS
  obtain ⟨T1, T2, T3, T4, T5, T6, T7⟩ := hT
  unfold f_OP_5 at h
  obtain ⟨x_ans, n_s3, n_s26, n_s30, n_t2, n_t34, n_t35, n_t36, e1, h⟩ := xz_d8 h
  obtain ⟨y_ans, n_s4, n_s5, n_t3, n_t4, e2, h⟩ := xz_d5 h
  have q := x_child b_a1 x_ch x_ech e1 e2
  have c := (HILL_f ⟨S4, T1⟩ x_m.2 x_h63 (fr_child (RI_1 x_RI) e2)).2
  cases h
  exact ⟨trivial, c, T2, T3, q.2.1, q.2.2 T5, T6, T7⟩
set_option maxHeartbeats 4000000 in
set_option maxRecDepth 10000 in
theorem z_6 {N : Int} {σ : Nat → Int} {τ : Nat → Nat → Int} (hX : XX3 σ τ) (hS : SIM2 σ τ) (hT : SIM3 σ τ) (a1 : Int) (a2 : Int) (b_a1 : (-2147483648) ≤ a1 ∧ a1 ≤ 2147483647) (b_a2 : (-2147483648) ≤ a2 ∧ a2 ≤ 2147483647) {o : Int × Int × Int × Int × Int × Int × (Nat → Int) × (Nat → Int) × (Nat → Int) × (Nat → Int)} (h : f_OP_6 N a1 a2 (σ 3) (σ 4) (σ 5) (σ 26) (σ 27) (σ 30) (σ 49) (τ 2) (τ 3) (τ 4) (τ 34) (τ 35) (τ 36) (τ 37) (τ 38) (τ 39) = some o) : (True) ∧ SIM3 (zst σ [(3, o.2.2.1), (4, o.2.2.2.1), (5, o.2.2.2.2.1), (30, o.2.2.2.2.2.1)]) (zta τ [(2, o.2.2.2.2.2.2.1), (3, o.2.2.2.2.2.2.2.1), (4, o.2.2.2.2.2.2.2.2.1), (35, o.2.2.2.2.2.2.2.2.2)]) := by
  obtain ⟨x_RI, x_h16, x_h17, x_b0, x_e0, x_t1, x_m, x_em, x_ch, x_ech, x_pa, x_epa, x_la, x_fo, x_h63, x_h64, x_st, x_ex, x_pl, x_te, x_Rst, x_Rex, x_Rtr, x_Rpl, x_Rte, x_Rgo, x_im, x_k6, x_k0, x_kp, x_m0, x_m1, x_h85, x_h87, x_m61, x_h83⟩ := hX
  obtain ⟨S1, S2, S3, S4, S5, S6⟩ := hS
  obtain ⟨T1, T2, T3, T4, T5, T6, T7⟩ := hT
  unfold f_OP_6 at h
  obtain ⟨x_ans, n_s3, n_s30, n_t2, n_t35, e1, h⟩ := xz_d5 h
  obtain ⟨y_ans, n_s4, n_s5, n_t3, n_t4, e2, h⟩ := xz_d5 h
  have q := x_expel b_a1 b_a2 x_ch x_ech x_Rex e1 e2
  have c := (HILL_f ⟨S4, T1⟩ x_m.2 x_h63 (fr_expel b_a1 (RI_1 x_RI) e2)).2
  cases h
  exact ⟨trivial, c, T2, T3, q.2.1, q.2.2 T5, T6, T7⟩
set_option maxHeartbeats 4000000 in
set_option maxRecDepth 10000 in
theorem z_7 {N : Int} {σ : Nat → Int} {τ : Nat → Nat → Int} (hX : XX3 σ τ) (hS : SIM2 σ τ) (hT : SIM3 σ τ) (a1 : Int) (a2 : Int) (b_a1 : (-2147483648) ≤ a1 ∧ a1 ≤ 2147483647) (b_a2 : (-2147483648) ≤ a2 ∧ a2 ≤ 2147483647) {o : Int × Int × Int} (h : f_OP_7 N a1 a2 (σ 4) (σ 26) (τ 4) (τ 34) (τ 35) (τ 36) = some o) : (True) ∧ SIM3 (zst σ [(4, o.2.2)]) τ := by
  obtain ⟨x_RI, x_h16, x_h17, x_b0, x_e0, x_t1, x_m, x_em, x_ch, x_ech, x_pa, x_epa, x_la, x_fo, x_h63, x_h64, x_st, x_ex, x_pl, x_te, x_Rst, x_Rex, x_Rtr, x_Rpl, x_Rte, x_Rgo, x_im, x_k6, x_k0, x_kp, x_m0, x_m1, x_h85, x_h87, x_m61, x_h83⟩ := hX
  obtain ⟨S1, S2, S3, S4, S5, S6⟩ := hS
  obtain ⟨T1, T2, T3, T4, T5, T6, T7⟩ := hT
  unfold f_OP_7 at h
  obtain ⟨x_ans, e1, h⟩ := xz_d1 h
  obtain ⟨y_ans, n_s4, e2, h⟩ := xz_d2 h
  cases h
  exact ⟨trivial, T1, T2, T3, T4, T5, T6, T7⟩
set_option maxHeartbeats 4000000 in
set_option maxRecDepth 10000 in
theorem z_8 {N : Int} {σ : Nat → Int} {τ : Nat → Nat → Int} (hX : XX3 σ τ) (hS : SIM2 σ τ) (hT : SIM3 σ τ) (a1 : Int) (b_a1 : (-2147483648) ≤ a1 ∧ a1 ≤ 2147483647) {o : Int × Int × Int × Int × Int × Int × Int × (Nat → Int) × (Nat → Int) × (Nat → Int) × (Nat → Int)} (h : f_OP_8 N a1 (σ 3) (σ 4) (σ 5) (σ 26) (σ 27) (σ 30) (σ 49) (τ 2) (τ 3) (τ 4) (τ 34) (τ 35) (τ 36) (τ 37) (τ 38) (τ 39) = some o) : (True) ∧ SIM3 (zst σ [(3, o.2.2.1), (4, o.2.2.2.1), (5, o.2.2.2.2.1), (27, o.2.2.2.2.2.1), (30, o.2.2.2.2.2.2.1)]) (zta τ [(2, o.2.2.2.2.2.2.2.1), (3, o.2.2.2.2.2.2.2.2.1), (4, o.2.2.2.2.2.2.2.2.2.1), (37, o.2.2.2.2.2.2.2.2.2.2)]) := by
  obtain ⟨x_RI, x_h16, x_h17, x_b0, x_e0, x_t1, x_m, x_em, x_ch, x_ech, x_pa, x_epa, x_la, x_fo, x_h63, x_h64, x_st, x_ex, x_pl, x_te, x_Rst, x_Rex, x_Rtr, x_Rpl, x_Rte, x_Rgo, x_im, x_k6, x_k0, x_kp, x_m0, x_m1, x_h85, x_h87, x_m61, x_h83⟩ := hX
  obtain ⟨S1, S2, S3, S4, S5, S6⟩ := hS
  obtain ⟨T1, T2, T3, T4, T5, T6, T7⟩ := hT
  unfold f_OP_8 at h
  obtain ⟨x_ans, n_s3, n_s27, n_s30, n_t2, n_t37, e1, h⟩ := xz_d6 h
  obtain ⟨y_ans, n_s4, n_s5, n_t3, n_t4, e2, h⟩ := xz_d5 h
  have q := x_parish b_a1 x_m x_em x_pa x_epa e1 e2
  have c := (HILL_f ⟨S4, T1⟩ x_m.2 x_h63 (fr_parish (RI_2 x_RI) e2)).2
  cases h
  exact ⟨trivial, c, T2, T3, q.2.1, q.2.2 T5, T6, T7⟩
set_option maxHeartbeats 4000000 in
set_option maxRecDepth 10000 in
theorem z_9 {N : Int} {σ : Nat → Int} {τ : Nat → Nat → Int} (hX : XX3 σ τ) (hS : SIM2 σ τ) (hT : SIM3 σ τ) (a1 : Int) (a2 : Int) (b_a1 : (-2147483648) ≤ a1 ∧ a1 ≤ 2147483647) (b_a2 : (-2147483648) ≤ a2 ∧ a2 ≤ 2147483647) {o : Int × Int × Int × Int × Int × Int × (Nat → Int) × (Nat → Int) × (Nat → Int) × (Nat → Int)} (h : f_OP_9 N a1 a2 (σ 3) (σ 4) (σ 5) (σ 26) (σ 27) (σ 30) (σ 49) (τ 2) (τ 3) (τ 4) (τ 34) (τ 35) (τ 36) (τ 37) (τ 38) (τ 39) = some o) : (True) ∧ SIM3 (zst σ [(3, o.2.2.1), (4, o.2.2.2.1), (5, o.2.2.2.2.1), (30, o.2.2.2.2.2.1)]) (zta τ [(2, o.2.2.2.2.2.2.1), (3, o.2.2.2.2.2.2.2.1), (4, o.2.2.2.2.2.2.2.2.1), (38, o.2.2.2.2.2.2.2.2.2)]) := by
  obtain ⟨x_RI, x_h16, x_h17, x_b0, x_e0, x_t1, x_m, x_em, x_ch, x_ech, x_pa, x_epa, x_la, x_fo, x_h63, x_h64, x_st, x_ex, x_pl, x_te, x_Rst, x_Rex, x_Rtr, x_Rpl, x_Rte, x_Rgo, x_im, x_k6, x_k0, x_kp, x_m0, x_m1, x_h85, x_h87, x_m61, x_h83⟩ := hX
  obtain ⟨S1, S2, S3, S4, S5, S6⟩ := hS
  obtain ⟨T1, T2, T3, T4, T5, T6, T7⟩ := hT
  unfold f_OP_9 at h
  obtain ⟨x_ans, n_s3, n_s30, n_t2, n_t38, e1, h⟩ := xz_d5 h
  obtain ⟨y_ans, n_s4, n_s5, n_t3, n_t4, e2, h⟩ := xz_d5 h
  have q := x_terms b_a1 b_a2 (x3_te x_Rte) e1 e2
  have c := (HILL_f ⟨S4, T1⟩ x_m.2 x_h63 (fr_terms b_a1 e2)).2
  cases h
  exact ⟨trivial, c, T2, T3, q.2.1, q.2.2 T5, T6, T7⟩
set_option maxHeartbeats 4000000 in
set_option maxRecDepth 10000 in
theorem z_10 {N : Int} {σ : Nat → Int} {τ : Nat → Nat → Int} (hX : XX3 σ τ) (hS : SIM2 σ τ) (hT : SIM3 σ τ) (a1 : Int) (a2 : Int) (a3 : Int) (a4 : Int) (a5 : Int) (b_a1 : (-2147483648) ≤ a1 ∧ a1 ≤ 2147483647) (b_a2 : (-2147483648) ≤ a2 ∧ a2 ≤ 2147483647) (b_a3 : (-2147483648) ≤ a3 ∧ a3 ≤ 2147483647) (b_a4 : (-2147483648) ≤ a4 ∧ a4 ≤ 2147483647) (b_a5 : (-2147483648) ≤ a5 ∧ a5 ≤ 2147483647) {o : Int × Int × Int × Int × Int × (Nat → Int) × (Nat → Int)} (h : f_OP_10 N a1 a2 a3 a4 a5 (σ 0) (σ 4) (σ 7) (τ 1) (τ 7) = some o) : (True) ∧ SIM3 (zst σ [(0, o.2.2.1), (4, o.2.2.2.1), (7, o.2.2.2.2.1)]) (zta τ [(1, o.2.2.2.2.2.1), (7, o.2.2.2.2.2.2)]) := by
  obtain ⟨x_RI, x_h16, x_h17, x_b0, x_e0, x_t1, x_m, x_em, x_ch, x_ech, x_pa, x_epa, x_la, x_fo, x_h63, x_h64, x_st, x_ex, x_pl, x_te, x_Rst, x_Rex, x_Rtr, x_Rpl, x_Rte, x_Rgo, x_im, x_k6, x_k0, x_kp, x_m0, x_m1, x_h85, x_h87, x_m61, x_h83⟩ := hX
  obtain ⟨S1, S2, S3, S4, S5, S6⟩ := hS
  obtain ⟨T1, T2, T3, T4, T5, T6, T7⟩ := hT
  unfold f_OP_10 at h
  obtain ⟨x_ans, n_s0, n_t1, e1, h⟩ := xz_d3 h
  obtain ⟨y_ans, n_s4, n_s7, n_t7, e2, h⟩ := xz_d4 h
  cases h
  exact ⟨trivial, T1, T2, T3, T4, T5, T6, T7⟩
set_option maxHeartbeats 4000000 in
set_option maxRecDepth 10000 in
theorem z_11 {N : Int} {σ : Nat → Int} {τ : Nat → Nat → Int} (hX : XX3 σ τ) (hS : SIM2 σ τ) (hT : SIM3 σ τ) (a1 : Int) (b_a1 : (-2147483648) ≤ a1 ∧ a1 ≤ 2147483647) {o : Int × Int × Int × Int × Int} (h : f_OP_11 N a1 (σ 0) (σ 4) (σ 7) = some o) : (True) ∧ SIM3 (zst σ [(0, o.2.2.1), (4, o.2.2.2.1), (7, o.2.2.2.2)]) τ := by
  obtain ⟨x_RI, x_h16, x_h17, x_b0, x_e0, x_t1, x_m, x_em, x_ch, x_ech, x_pa, x_epa, x_la, x_fo, x_h63, x_h64, x_st, x_ex, x_pl, x_te, x_Rst, x_Rex, x_Rtr, x_Rpl, x_Rte, x_Rgo, x_im, x_k6, x_k0, x_kp, x_m0, x_m1, x_h85, x_h87, x_m61, x_h83⟩ := hX
  obtain ⟨S1, S2, S3, S4, S5, S6⟩ := hS
  obtain ⟨T1, T2, T3, T4, T5, T6, T7⟩ := hT
  unfold f_OP_11 at h
  obtain ⟨x_ans, n_s0, e1, h⟩ := xz_d2 h
  obtain ⟨y_ans, n_s4, n_s7, e2, h⟩ := xz_d3 h
  cases h
  exact ⟨trivial, T1, T2, T3, T4, T5, T6, T7⟩
set_option maxHeartbeats 4000000 in
set_option maxRecDepth 10000 in
theorem z_12 {N : Int} {σ : Nat → Int} {τ : Nat → Nat → Int} (hX : XX3 σ τ) (hS : SIM2 σ τ) (hT : SIM3 σ τ)  {o : Int × Int × Int × Int × Int × Int × Int × Int × Int × Int × (Nat → Int) × (Nat → Int) × (Nat → Int) × (Nat → Int) × (Nat → Int)} (h : f_OP_12 N (σ 0) (σ 2) (σ 3) (σ 4) (σ 5) (σ 6) (σ 7) (σ 26) (σ 27) (σ 30) (σ 49) (τ 1) (τ 2) (τ 3) (τ 4) (τ 7) (τ 34) (τ 35) (τ 36) (τ 37) (τ 38) (τ 39) (τ 63) (τ 64) = some o) : (o.1 = o.2.1) ∧ SIM3 (zst σ [(0, o.2.2.1), (2, o.2.2.2.1), (3, o.2.2.2.2.1), (4, o.2.2.2.2.2.1), (5, o.2.2.2.2.2.2.1), (6, o.2.2.2.2.2.2.2.1), (7, o.2.2.2.2.2.2.2.2.1), (30, o.2.2.2.2.2.2.2.2.2.1)]) (zta τ [(2, o.2.2.2.2.2.2.2.2.2.2.1), (3, o.2.2.2.2.2.2.2.2.2.2.2.1), (4, o.2.2.2.2.2.2.2.2.2.2.2.2.1), (63, o.2.2.2.2.2.2.2.2.2.2.2.2.2.1), (64, o.2.2.2.2.2.2.2.2.2.2.2.2.2.2)]) := by
  obtain ⟨x_RI, x_h16, x_h17, x_b0, x_e0, x_t1, x_m, x_em, x_ch, x_ech, x_pa, x_epa, x_la, x_fo, x_h63, x_h64, x_st, x_ex, x_pl, x_te, x_Rst, x_Rex, x_Rtr, x_Rpl, x_Rte, x_Rgo, x_im, x_k6, x_k0, x_kp, x_m0, x_m1, x_h85, x_h87, x_m61, x_h83⟩ := hX
  obtain ⟨S1, S2, S3, S4, S5, S6⟩ := hS
  obtain ⟨T1, T2, T3, T4, T5, T6, T7⟩ := hT
  unfold f_OP_12 at h
  obtain ⟨x_ans, n_s0, n_s2, n_s3, n_s30, n_t2, n_t63, n_t64, e1, h⟩ := xz_d8 h
  obtain ⟨y_ans, n_s4, n_s5, n_s6, n_s7, n_t3, n_t4, e2, h⟩ := xz_d7 h
  rw [← S1, ← x_e0] at e2
  have q := x_row x_m x_em x_h63 x_t1 x_b0 ⟨S4, T1⟩ e1 e2
  cases h
  exact ⟨q.1.1, q.2.2.2, T2, T3, q.1.2.1, q.1.2.2 T5, q.2.1 T6, T7⟩
end
section
set_option maxHeartbeats 4000000 in
set_option maxRecDepth 10000 in
theorem z_13 {N : Int} {σ : Nat → Int} {τ : Nat → Nat → Int} (hX : XX3 σ τ) (hS : SIM2 σ τ) (hT : SIM3 σ τ)  {o : Int × Int × Int} (h : f_OP_13 N (σ 2) (σ 4) (σ 6) = some o) : (o.1 = o.2.1) ∧ SIM3 (zst σ [(4, o.2.2)]) τ := by
  obtain ⟨x_RI, x_h16, x_h17, x_b0, x_e0, x_t1, x_m, x_em, x_ch, x_ech, x_pa, x_epa, x_la, x_fo, x_h63, x_h64, x_st, x_ex, x_pl, x_te, x_Rst, x_Rex, x_Rtr, x_Rpl, x_Rte, x_Rgo, x_im, x_k6, x_k0, x_kp, x_m0, x_m1, x_h85, x_h87, x_m61, x_h83⟩ := hX
  obtain ⟨S1, S2, S3, S4, S5, S6⟩ := hS
  obtain ⟨T1, T2, T3, T4, T5, T6, T7⟩ := hT
  unfold f_OP_13 at h
  obtain ⟨x_ans, e1, h⟩ := xz_d1 h
  obtain ⟨y_ans, n_s4, e2, h⟩ := xz_d2 h
  unfold f_HS_gravel at e1
  unfold f_HM_gravel at e2
  cases e1
  cases e2
  cases h
  exact ⟨T6, T1, T2, T3, T4, T5, T6, T7⟩
set_option maxHeartbeats 4000000 in
set_option maxRecDepth 10000 in
theorem z_14 {N : Int} {σ : Nat → Int} {τ : Nat → Nat → Int} (hX : XX3 σ τ) (hS : SIM2 σ τ) (hT : SIM3 σ τ)  {o : Int × Int × Int × Int × Int × Int × Int × Int × Int × Int × Int × Int × Int × Int × Int × Int × Int × Int × Int × Int × Int × Int × Int × Int × (Nat → Int) × (Nat → Int) × (Nat → Int) × (Nat → Int) × (Nat → Int) × (Nat → Int) × (Nat → Int) × (Nat → Int) × (Nat → Int) × (Nat → Int) × (Nat → Int) × (Nat → Int) × (Nat → Int) × (Nat → Int)} (h : f_OP_14 N (σ 0) (σ 1) (σ 3) (σ 4) (σ 5) (σ 7) (σ 8) (σ 9) (σ 10) (σ 11) (σ 12) (σ 13) (σ 14) (σ 15) (σ 16) (σ 17) (σ 18) (σ 26) (σ 27) (σ 28) (σ 30) (σ 31) (σ 32) (σ 33) (σ 49) (τ 1) (τ 2) (τ 3) (τ 4) (τ 7) (τ 8) (τ 9) (τ 10) (τ 11) (τ 12) (τ 13) (τ 34) (τ 35) (τ 36) (τ 37) (τ 38) (τ 39) (τ 40) (τ 41) (τ 42) (τ 43) (τ 44) (τ 45) = some o) : (True) ∧ SIM3 (zst σ [(0, o.2.2.1), (1, o.2.2.2.1), (3, o.2.2.2.2.1), (4, o.2.2.2.2.2.1), (5, o.2.2.2.2.2.2.1), (7, o.2.2.2.2.2.2.2.1), (8, o.2.2.2.2.2.2.2.2.1), (9, o.2.2.2.2.2.2.2.2.2.1), (10, o.2.2.2.2.2.2.2.2.2.2.1), (11, o.2.2.2.2.2.2.2.2.2.2.2.1), (12, o.2.2.2.2.2.2.2.2.2.2.2.2.1), (13, o.2.2.2.2.2.2.2.2.2.2.2.2.2.1), (14, o.2.2.2.2.2.2.2.2.2.2.2.2.2.2.1), (15, o.2.2.2.2.2.2.2.2.2.2.2.2.2.2.2.1), (16, o.2.2.2.2.2.2.2.2.2.2.2.2.2.2.2.2.1), (17, o.2.2.2.2.2.2.2.2.2.2.2.2.2.2.2.2.2.1), (18, o.2.2.2.2.2.2.2.2.2.2.2.2.2.2.2.2.2.2.1), (28, o.2.2.2.2.2.2.2.2.2.2.2.2.2.2.2.2.2.2.2.1), (30, o.2.2.2.2.2.2.2.2.2.2.2.2.2.2.2.2.2.2.2.2.1), (31, o.2.2.2.2.2.2.2.2.2.2.2.2.2.2.2.2.2.2.2.2.2.1), (32, o.2.2.2.2.2.2.2.2.2.2.2.2.2.2.2.2.2.2.2.2.2.2.1), (33, o.2.2.2.2.2.2.2.2.2.2.2.2.2.2.2.2.2.2.2.2.2.2.2.1)]) (zta τ [(2, o.2.2.2.2.2.2.2.2.2.2.2.2.2.2.2.2.2.2.2.2.2.2.2.2.1), (3, o.2.2.2.2.2.2.2.2.2.2.2.2.2.2.2.2.2.2.2.2.2.2.2.2.2.1), (4, o.2.2.2.2.2.2.2.2.2.2.2.2.2.2.2.2.2.2.2.2.2.2.2.2.2.2.1), (8, o.2.2.2.2.2.2.2.2.2.2.2.2.2.2.2.2.2.2.2.2.2.2.2.2.2.2.2.1), (9, o.2.2.2.2.2.2.2.2.2.2.2.2.2.2.2.2.2.2.2.2.2.2.2.2.2.2.2.2.1), (10, o.2.2.2.2.2.2.2.2.2.2.2.2.2.2.2.2.2.2.2.2.2.2.2.2.2.2.2.2.2.1), (11, o.2.2.2.2.2.2.2.2.2.2.2.2.2.2.2.2.2.2.2.2.2.2.2.2.2.2.2.2.2.2.1), (12, o.2.2.2.2.2.2.2.2.2.2.2.2.2.2.2.2.2.2.2.2.2.2.2.2.2.2.2.2.2.2.2.1), (40, o.2.2.2.2.2.2.2.2.2.2.2.2.2.2.2.2.2.2.2.2.2.2.2.2.2.2.2.2.2.2.2.2.1), (41, o.2.2.2.2.2.2.2.2.2.2.2.2.2.2.2.2.2.2.2.2.2.2.2.2.2.2.2.2.2.2.2.2.2.1), (42, o.2.2.2.2.2.2.2.2.2.2.2.2.2.2.2.2.2.2.2.2.2.2.2.2.2.2.2.2.2.2.2.2.2.2.1), (43, o.2.2.2.2.2.2.2.2.2.2.2.2.2.2.2.2.2.2.2.2.2.2.2.2.2.2.2.2.2.2.2.2.2.2.2.1), (44, o.2.2.2.2.2.2.2.2.2.2.2.2.2.2.2.2.2.2.2.2.2.2.2.2.2.2.2.2.2.2.2.2.2.2.2.2.1), (45, o.2.2.2.2.2.2.2.2.2.2.2.2.2.2.2.2.2.2.2.2.2.2.2.2.2.2.2.2.2.2.2.2.2.2.2.2.2)]) := by
  obtain ⟨x_RI, x_h16, x_h17, x_b0, x_e0, x_t1, x_m, x_em, x_ch, x_ech, x_pa, x_epa, x_la, x_fo, x_h63, x_h64, x_st, x_ex, x_pl, x_te, x_Rst, x_Rex, x_Rtr, x_Rpl, x_Rte, x_Rgo, x_im, x_k6, x_k0, x_kp, x_m0, x_m1, x_h85, x_h87, x_m61, x_h83⟩ := hX
  obtain ⟨S1, S2, S3, S4, S5, S6⟩ := hS
  obtain ⟨T1, T2, T3, T4, T5, T6, T7⟩ := hT
  unfold f_OP_14 at h
  obtain ⟨x_ans, n_s0, n_s1, n_s3, n_s28, n_s30, n_t2, n_s31, n_s32, n_s33, n_t40, n_t41, n_t42, n_t43, n_t44, n_t45, e1, h⟩ := xz_d16 h
  obtain ⟨y_ans, n_s4, n_s5, n_s7, n_s8, n_s9, n_s10, n_s11, n_s12, n_s13, n_s14, n_s15, n_s16, n_s17, n_s18, n_t3, n_t4, n_t8, n_t9, n_t10, n_t11, n_t12, e2, h⟩ := xz_d22 h
  rw [← S1, ← x_e0, ← S3] at e2
  have q := law_eq x_t1 S2 x_b0 x_la S4.1 S4.2.2 e1 e2
  have c := CREL_c x_m.2 x_h63 T1 (fun _ _ => rfl) (fun _ _ => rfl) (fun j hj => q.2.2.2.2.2.1 (9 + j) (by omega) (by omega)) (fun j hj => q.2.2.2.2.2.1 (21 + j) (by omega) (by omega))
  cases h
  exact ⟨trivial, c, T2, T3, q.2.2.1, q.2.2.2.1 T5, T6, T7⟩
set_option maxHeartbeats 4000000 in
set_option maxRecDepth 10000 in
theorem z_15 {N : Int} {σ : Nat → Int} {τ : Nat → Nat → Int} (hX : XX3 σ τ) (hS : SIM2 σ τ) (hT : SIM3 σ τ)  {o : Int × Int × Int} (h : f_OP_15 N (σ 1) (σ 4) (σ 12) = some o) : (True) ∧ SIM3 (zst σ [(4, o.2.2)]) τ := by
  obtain ⟨x_RI, x_h16, x_h17, x_b0, x_e0, x_t1, x_m, x_em, x_ch, x_ech, x_pa, x_epa, x_la, x_fo, x_h63, x_h64, x_st, x_ex, x_pl, x_te, x_Rst, x_Rex, x_Rtr, x_Rpl, x_Rte, x_Rgo, x_im, x_k6, x_k0, x_kp, x_m0, x_m1, x_h85, x_h87, x_m61, x_h83⟩ := hX
  obtain ⟨S1, S2, S3, S4, S5, S6⟩ := hS
  obtain ⟨T1, T2, T3, T4, T5, T6, T7⟩ := hT
  unfold f_OP_15 at h
  obtain ⟨x_ans, e1, h⟩ := xz_d1 h
  obtain ⟨y_ans, n_s4, e2, h⟩ := xz_d2 h
  cases h
  exact ⟨trivial, T1, T2, T3, T4, T5, T6, T7⟩
set_option maxHeartbeats 4000000 in
set_option maxRecDepth 10000 in
theorem z_16 {N : Int} {σ : Nat → Int} {τ : Nat → Nat → Int} (hX : XX3 σ τ) (hS : SIM2 σ τ) (hT : SIM3 σ τ) (a1 : Int) (b_a1 : (-2147483648) ≤ a1 ∧ a1 ≤ 2147483647) {o : Int × Int × Int × Int × Int × Int × Int × (Nat → Int) × (Nat → Int) × (Nat → Int)} (h : f_OP_16 N a1 (σ 3) (σ 4) (σ 5) (σ 26) (σ 27) (σ 28) (σ 29) (σ 30) (σ 49) (τ 2) (τ 3) (τ 4) (τ 34) (τ 35) (τ 36) (τ 37) (τ 38) (τ 39) = some o) : (True) ∧ SIM3 (zst σ [(3, o.2.2.1), (4, o.2.2.2.1), (5, o.2.2.2.2.1), (29, o.2.2.2.2.2.1), (30, o.2.2.2.2.2.2.1)]) (zta τ [(2, o.2.2.2.2.2.2.2.1), (3, o.2.2.2.2.2.2.2.2.1), (4, o.2.2.2.2.2.2.2.2.2)]) := by
  obtain ⟨x_RI, x_h16, x_h17, x_b0, x_e0, x_t1, x_m, x_em, x_ch, x_ech, x_pa, x_epa, x_la, x_fo, x_h63, x_h64, x_st, x_ex, x_pl, x_te, x_Rst, x_Rex, x_Rtr, x_Rpl, x_Rte, x_Rgo, x_im, x_k6, x_k0, x_kp, x_m0, x_m1, x_h85, x_h87, x_m61, x_h83⟩ := hX
  obtain ⟨S1, S2, S3, S4, S5, S6⟩ := hS
  obtain ⟨T1, T2, T3, T4, T5, T6, T7⟩ := hT
  unfold f_OP_16 at h
  obtain ⟨x_ans, n_s3, n_s29, n_s30, n_t2, e1, h⟩ := xz_d5 h
  obtain ⟨y_ans, n_s4, n_s5, n_t3, n_t4, e2, h⟩ := xz_d5 h
  have q := x_force b_a1 x_la x_fo S4 e1 e2
  have c := CREL_c x_m.2 x_h63 T1 (fun _ _ => rfl) (fun _ _ => rfl) (fun j hj => q.2.2.2.2 (9 + j) (by omega)) (fun j hj => q.2.2.2.2 (21 + j) (by omega))
  cases h
  exact ⟨trivial, c, T2, T3, q.2.1, q.2.2.1 T5, T6, T7⟩
set_option maxHeartbeats 4000000 in
set_option maxRecDepth 10000 in
theorem z_17 {N : Int} {σ : Nat → Int} {τ : Nat → Nat → Int} (hX : XX3 σ τ) (hS : SIM2 σ τ) (hT : SIM3 σ τ) (a1 : Int) (a2 : Int) (a3 : Int) (b_a1 : (-2147483648) ≤ a1 ∧ a1 ≤ 2147483647) (b_a2 : (-2147483648) ≤ a2 ∧ a2 ≤ 2147483647) (b_a3 : (-2147483648) ≤ a3 ∧ a3 ≤ 2147483647) {o : Int × Int × Int × Int × Int × Int × Int × Int × Int × Int × (Nat → Int) × (Nat → Int) × (Nat → Int) × (Nat → Int) × (Nat → Int) × (Nat → Int)} (h : f_OP_17 N a1 a2 a3 (σ 4) (σ 19) (σ 20) (σ 21) (σ 22) (σ 26) (σ 28) (σ 29) (σ 34) (σ 35) (σ 36) (σ 49) (τ 4) (τ 14) (τ 15) (τ 16) (τ 17) (τ 34) (τ 35) (τ 38) (τ 40) (τ 41) (τ 46) (τ 47) (τ 63) (τ 64) = some o) : (o.1 = o.2.1) ∧ SIM3 (zst σ [(4, o.2.2.1), (19, o.2.2.2.1), (20, o.2.2.2.2.1), (21, o.2.2.2.2.2.1), (22, o.2.2.2.2.2.2.1), (34, o.2.2.2.2.2.2.2.1), (35, o.2.2.2.2.2.2.2.2.1), (36, o.2.2.2.2.2.2.2.2.2.1)]) (zta τ [(14, o.2.2.2.2.2.2.2.2.2.2.1), (15, o.2.2.2.2.2.2.2.2.2.2.2.1), (16, o.2.2.2.2.2.2.2.2.2.2.2.2.1), (17, o.2.2.2.2.2.2.2.2.2.2.2.2.2.1), (46, o.2.2.2.2.2.2.2.2.2.2.2.2.2.2.1), (47, o.2.2.2.2.2.2.2.2.2.2.2.2.2.2.2)]) := by
  obtain ⟨x_RI, x_h16, x_h17, x_b0, x_e0, x_t1, x_m, x_em, x_ch, x_ech, x_pa, x_epa, x_la, x_fo, x_h63, x_h64, x_st, x_ex, x_pl, x_te, x_Rst, x_Rex, x_Rtr, x_Rpl, x_Rte, x_Rgo, x_im, x_k6, x_k0, x_kp, x_m0, x_m1, x_h85, x_h87, x_m61, x_h83⟩ := hX
  obtain ⟨S1, S2, S3, S4, S5, S6⟩ := hS
  obtain ⟨T1, T2, T3, T4, T5, T6, T7⟩ := hT
  unfold f_OP_17 at h
  obtain ⟨x_ans, n_s34, n_s35, n_s36, n_t46, n_t47, e1, h⟩ := xz_d6 h
  obtain ⟨y_ans, n_s4, n_s19, n_s20, n_s21, n_s22, n_t14, n_t15, n_t16, n_t17, e2, h⟩ := xz_d10 h
  have q := x_can b_a1 b_a2 b_a3 (x3_J x_RI x_ch x_ech x_Rst x_Rex x_st x_ex x_Rte x_te x_la x_fo S4) x_m x_em x_h63 x_h64 ⟨S4, T1⟩ e1 e2
  cases h
  exact ⟨q, T1, T2, T3, T4, T5, T6, T7⟩
set_option maxHeartbeats 4000000 in
set_option maxRecDepth 10000 in
theorem z_18 {N : Int} {σ : Nat → Int} {τ : Nat → Nat → Int} (hX : XX3 σ τ) (hS : SIM2 σ τ) (hT : SIM3 σ τ) (a1 : Int) (a2 : Int) (a3 : Int) (b_a1 : (-2147483648) ≤ a1 ∧ a1 ≤ 2147483647) (b_a2 : (-2147483648) ≤ a2 ∧ a2 ≤ 2147483647) (b_a3 : (-2147483648) ≤ a3 ∧ a3 ≤ 2147483647) {o : Int × Int × Int × Int × Int × Int × Int × Int × Int × Int × (Nat → Int) × (Nat → Int) × (Nat → Int) × (Nat → Int) × (Nat → Int) × (Nat → Int)} (h : f_OP_18 N a1 a2 a3 (σ 4) (σ 19) (σ 20) (σ 21) (σ 22) (σ 26) (σ 28) (σ 29) (σ 34) (σ 35) (σ 36) (σ 49) (τ 4) (τ 14) (τ 15) (τ 16) (τ 17) (τ 34) (τ 35) (τ 38) (τ 40) (τ 41) (τ 46) (τ 47) (τ 63) (τ 64) = some o) : (o.1 = o.2.1) ∧ SIM3 (zst σ [(4, o.2.2.1), (19, o.2.2.2.1), (20, o.2.2.2.2.1), (21, o.2.2.2.2.2.1), (22, o.2.2.2.2.2.2.1), (34, o.2.2.2.2.2.2.2.1), (35, o.2.2.2.2.2.2.2.2.1), (36, o.2.2.2.2.2.2.2.2.2.1)]) (zta τ [(14, o.2.2.2.2.2.2.2.2.2.2.1), (15, o.2.2.2.2.2.2.2.2.2.2.2.1), (16, o.2.2.2.2.2.2.2.2.2.2.2.2.1), (17, o.2.2.2.2.2.2.2.2.2.2.2.2.2.1), (46, o.2.2.2.2.2.2.2.2.2.2.2.2.2.2.1), (47, o.2.2.2.2.2.2.2.2.2.2.2.2.2.2.2)]) := by
  obtain ⟨x_RI, x_h16, x_h17, x_b0, x_e0, x_t1, x_m, x_em, x_ch, x_ech, x_pa, x_epa, x_la, x_fo, x_h63, x_h64, x_st, x_ex, x_pl, x_te, x_Rst, x_Rex, x_Rtr, x_Rpl, x_Rte, x_Rgo, x_im, x_k6, x_k0, x_kp, x_m0, x_m1, x_h85, x_h87, x_m61, x_h83⟩ := hX
  obtain ⟨S1, S2, S3, S4, S5, S6⟩ := hS
  obtain ⟨T1, T2, T3, T4, T5, T6, T7⟩ := hT
  unfold f_OP_18 at h
  obtain ⟨x_ans, n_s34, n_s35, n_s36, n_t46, n_t47, e1, h⟩ := xz_d6 h
  obtain ⟨y_ans, n_s4, n_s19, n_s20, n_s21, n_s22, n_t14, n_t15, n_t16, n_t17, e2, h⟩ := xz_d10 h
  have q := x_tires b_a1 b_a2 b_a3 (x3_J x_RI x_ch x_ech x_Rst x_Rex x_st x_ex x_Rte x_te x_la x_fo S4) x_m x_em x_h63 x_h64 ⟨S4, T1⟩ e1 e2
  cases h
  exact ⟨q, T1, T2, T3, T4, T5, T6, T7⟩
set_option maxHeartbeats 4000000 in
set_option maxRecDepth 10000 in
theorem z_19 {N : Int} {σ : Nat → Int} {τ : Nat → Nat → Int} (hX : XX3 σ τ) (hS : SIM2 σ τ) (hT : SIM3 σ τ) (a1 : Int) (a2 : Int) (a3 : Int) (b_a1 : (-2147483648) ≤ a1 ∧ a1 ≤ 2147483647) (b_a2 : (-2147483648) ≤ a2 ∧ a2 ≤ 2147483647) (b_a3 : (-2147483648) ≤ a3 ∧ a3 ≤ 2147483647) {o : Int × Int × Int × Int × Int × Int × Int × Int × Int × Int × Int × Int × Int × (Nat → Int) × (Nat → Int) × (Nat → Int) × (Nat → Int) × (Nat → Int) × (Nat → Int) × (Nat → Int) × (Nat → Int) × (Nat → Int) × (Nat → Int) × (Nat → Int)} (h : f_OP_19 N a1 a2 a3 (σ 3) (σ 4) (σ 5) (σ 19) (σ 20) (σ 21) (σ 22) (σ 26) (σ 27) (σ 28) (σ 29) (σ 30) (σ 34) (σ 35) (σ 36) (σ 49) (τ 2) (τ 3) (τ 4) (τ 14) (τ 15) (τ 16) (τ 17) (τ 34) (τ 35) (τ 36) (τ 37) (τ 38) (τ 39) (τ 40) (τ 41) (τ 46) (τ 47) (τ 63) (τ 64) = some o) : (o.1 = o.2.1) ∧ SIM3 (zst σ [(3, o.2.2.1), (4, o.2.2.2.1), (5, o.2.2.2.2.1), (19, o.2.2.2.2.2.1), (20, o.2.2.2.2.2.2.1), (21, o.2.2.2.2.2.2.2.1), (22, o.2.2.2.2.2.2.2.2.1), (30, o.2.2.2.2.2.2.2.2.2.1), (34, o.2.2.2.2.2.2.2.2.2.2.1), (35, o.2.2.2.2.2.2.2.2.2.2.2.1), (36, o.2.2.2.2.2.2.2.2.2.2.2.2.1)]) (zta τ [(2, o.2.2.2.2.2.2.2.2.2.2.2.2.2.1), (3, o.2.2.2.2.2.2.2.2.2.2.2.2.2.2.1), (4, o.2.2.2.2.2.2.2.2.2.2.2.2.2.2.2.1), (14, o.2.2.2.2.2.2.2.2.2.2.2.2.2.2.2.2.1), (15, o.2.2.2.2.2.2.2.2.2.2.2.2.2.2.2.2.2.1), (16, o.2.2.2.2.2.2.2.2.2.2.2.2.2.2.2.2.2.2.1), (17, o.2.2.2.2.2.2.2.2.2.2.2.2.2.2.2.2.2.2.2.1), (46, o.2.2.2.2.2.2.2.2.2.2.2.2.2.2.2.2.2.2.2.2.1), (47, o.2.2.2.2.2.2.2.2.2.2.2.2.2.2.2.2.2.2.2.2.2.1), (63, o.2.2.2.2.2.2.2.2.2.2.2.2.2.2.2.2.2.2.2.2.2.2.1), (64, o.2.2.2.2.2.2.2.2.2.2.2.2.2.2.2.2.2.2.2.2.2.2.2)]) := by
  obtain ⟨x_RI, x_h16, x_h17, x_b0, x_e0, x_t1, x_m, x_em, x_ch, x_ech, x_pa, x_epa, x_la, x_fo, x_h63, x_h64, x_st, x_ex, x_pl, x_te, x_Rst, x_Rex, x_Rtr, x_Rpl, x_Rte, x_Rgo, x_im, x_k6, x_k0, x_kp, x_m0, x_m1, x_h85, x_h87, x_m61, x_h83⟩ := hX
  obtain ⟨S1, S2, S3, S4, S5, S6⟩ := hS
  obtain ⟨T1, T2, T3, T4, T5, T6, T7⟩ := hT
  unfold f_OP_19 at h
  obtain ⟨x_ans, n_s3, n_s30, n_t2, n_s34, n_s35, n_s36, n_t46, n_t47, n_t63, n_t64, e1, h⟩ := xz_d11 h
  obtain ⟨y_ans, n_s4, n_s5, n_s19, n_s20, n_s21, n_s22, n_t3, n_t4, n_t14, n_t15, n_t16, n_t17, e2, h⟩ := xz_d13 h
  have q := x_carry b_a1 b_a2 b_a3 (x3_J x_RI x_ch x_ech x_Rst x_Rex x_st x_ex x_Rte x_te x_la x_fo S4) x_m x_em x_h63 x_h64 ⟨S4, T1⟩ e1 e2
  cases h
  exact ⟨q.1.1, q.2.2, T2, T3, q.1.2.1, q.1.2.2 T5, T6, T7⟩
set_option maxHeartbeats 4000000 in
set_option maxRecDepth 10000 in
theorem z_20 {N : Int} {σ : Nat → Int} {τ : Nat → Nat → Int} (hX : XX3 σ τ) (hS : SIM2 σ τ) (hT : SIM3 σ τ) (a1 : Int) (a2 : Int) (a3 : Int) (a4 : Int) (b_a1 : (-2147483648) ≤ a1 ∧ a1 ≤ 2147483647) (b_a2 : (-2147483648) ≤ a2 ∧ a2 ≤ 2147483647) (b_a3 : (-2147483648) ≤ a3 ∧ a3 ≤ 2147483647) (b_a4 : (-2147483648) ≤ a4 ∧ a4 ≤ 2147483647) {o : Int × Int × Int × Int × Int × Int × Int × Int × Int × Int × Int × Int × Int × (Nat → Int) × (Nat → Int) × (Nat → Int) × (Nat → Int) × (Nat → Int) × (Nat → Int) × (Nat → Int) × (Nat → Int) × (Nat → Int) × (Nat → Int) × (Nat → Int)} (h : f_OP_20 N a1 a2 a3 a4 (σ 3) (σ 4) (σ 5) (σ 19) (σ 20) (σ 21) (σ 22) (σ 26) (σ 27) (σ 28) (σ 29) (σ 30) (σ 34) (σ 35) (σ 36) (σ 49) (τ 2) (τ 3) (τ 4) (τ 14) (τ 15) (τ 16) (τ 17) (τ 34) (τ 35) (τ 36) (τ 37) (τ 38) (τ 39) (τ 40) (τ 41) (τ 46) (τ 47) (τ 63) (τ 64) = some o) : (o.1 = o.2.1) ∧ SIM3 (zst σ [(3, o.2.2.1), (4, o.2.2.2.1), (5, o.2.2.2.2.1), (19, o.2.2.2.2.2.1), (20, o.2.2.2.2.2.2.1), (21, o.2.2.2.2.2.2.2.1), (22, o.2.2.2.2.2.2.2.2.1), (30, o.2.2.2.2.2.2.2.2.2.1), (34, o.2.2.2.2.2.2.2.2.2.2.1), (35, o.2.2.2.2.2.2.2.2.2.2.2.1), (36, o.2.2.2.2.2.2.2.2.2.2.2.2.1)]) (zta τ [(2, o.2.2.2.2.2.2.2.2.2.2.2.2.2.1), (3, o.2.2.2.2.2.2.2.2.2.2.2.2.2.2.1), (4, o.2.2.2.2.2.2.2.2.2.2.2.2.2.2.2.1), (14, o.2.2.2.2.2.2.2.2.2.2.2.2.2.2.2.2.1), (15, o.2.2.2.2.2.2.2.2.2.2.2.2.2.2.2.2.2.1), (16, o.2.2.2.2.2.2.2.2.2.2.2.2.2.2.2.2.2.2.1), (17, o.2.2.2.2.2.2.2.2.2.2.2.2.2.2.2.2.2.2.2.1), (46, o.2.2.2.2.2.2.2.2.2.2.2.2.2.2.2.2.2.2.2.2.1), (47, o.2.2.2.2.2.2.2.2.2.2.2.2.2.2.2.2.2.2.2.2.2.1), (63, o.2.2.2.2.2.2.2.2.2.2.2.2.2.2.2.2.2.2.2.2.2.2.1), (64, o.2.2.2.2.2.2.2.2.2.2.2.2.2.2.2.2.2.2.2.2.2.2.2)]) := by
  obtain ⟨x_RI, x_h16, x_h17, x_b0, x_e0, x_t1, x_m, x_em, x_ch, x_ech, x_pa, x_epa, x_la, x_fo, x_h63, x_h64, x_st, x_ex, x_pl, x_te, x_Rst, x_Rex, x_Rtr, x_Rpl, x_Rte, x_Rgo, x_im, x_k6, x_k0, x_kp, x_m0, x_m1, x_h85, x_h87, x_m61, x_h83⟩ := hX
  obtain ⟨S1, S2, S3, S4, S5, S6⟩ := hS
  obtain ⟨T1, T2, T3, T4, T5, T6, T7⟩ := hT
  unfold f_OP_20 at h
  obtain ⟨x_ans, n_s3, n_s30, n_t2, n_s34, n_s35, n_s36, n_t46, n_t47, n_t63, n_t64, e1, h⟩ := xz_d11 h
  obtain ⟨y_ans, n_s4, n_s5, n_s19, n_s20, n_s21, n_s22, n_t3, n_t4, n_t14, n_t15, n_t16, n_t17, e2, h⟩ := xz_d13 h
  have q := x_exchange b_a1 b_a2 b_a3 b_a4 (x3_J x_RI x_ch x_ech x_Rst x_Rex x_st x_ex x_Rte x_te x_la x_fo S4) x_m x_em x_h63 x_h64 ⟨S4, T1⟩ (x3_t3 x_RI x_Rte) e1 e2
  cases h
  exact ⟨q.1.1, q.2.2, T2, T3, q.1.2.1, q.1.2.2 T5, T6, T7⟩
set_option maxHeartbeats 4000000 in
set_option maxRecDepth 10000 in
theorem z_21 {N : Int} {σ : Nat → Int} {τ : Nat → Nat → Int} (hX : XX3 σ τ) (hS : SIM2 σ τ) (hT : SIM3 σ τ)  {o : Int × Int × Int × (Nat → Int) × (Nat → Int)} (h : f_OP_21 N (σ 4) (σ 49) (τ 4) (τ 16) (τ 17) (τ 38) (τ 63) = some o) : (o.1 = o.2.1) ∧ SIM3 (zst σ [(4, o.2.2.1)]) (zta τ [(16, o.2.2.2.1), (17, o.2.2.2.2)]) := by
  obtain ⟨x_RI, x_h16, x_h17, x_b0, x_e0, x_t1, x_m, x_em, x_ch, x_ech, x_pa, x_epa, x_la, x_fo, x_h63, x_h64, x_st, x_ex, x_pl, x_te, x_Rst, x_Rex, x_Rtr, x_Rpl, x_Rte, x_Rgo, x_im, x_k6, x_k0, x_kp, x_m0, x_m1, x_h85, x_h87, x_m61, x_h83⟩ := hX
  obtain ⟨S1, S2, S3, S4, S5, S6⟩ := hS
  obtain ⟨T1, T2, T3, T4, T5, T6, T7⟩ := hT
  unfold f_OP_21 at h
  obtain ⟨x_ans, e1, h⟩ := xz_d1 h
  obtain ⟨y_ans, n_s4, n_t16, n_t17, e2, h⟩ := xz_d4 h
  have q := x_steep x_m x_em x_h63 (x3_t2 x_RI x_Rte) T1 e1 e2
  cases h
  exact ⟨q, T1, T2, T3, T4, T5, T6, T7⟩
set_option maxHeartbeats 4000000 in
set_option maxRecDepth 10000 in
theorem z_22 {N : Int} {σ : Nat → Int} {τ : Nat → Nat → Int} (hX : XX3 σ τ) (hS : SIM2 σ τ) (hT : SIM3 σ τ)  {o : Int × Int × Int × Int × (Nat → Int) × (Nat → Int) × (Nat → Int) × (Nat → Int) × (Nat → Int)} (h : f_OP_22 N (σ 4) (σ 26) (σ 27) (σ 30) (σ 49) (τ 4) (τ 16) (τ 17) (τ 34) (τ 35) (τ 36) (τ 37) (τ 38) (τ 39) (τ 63) (τ 64) = some o) : (o.1 = o.2.1) ∧ SIM3 (zst σ [(4, o.2.2.1), (30, o.2.2.2.1)]) (zta τ [(4, o.2.2.2.2.1), (16, o.2.2.2.2.2.1), (17, o.2.2.2.2.2.2.1), (63, o.2.2.2.2.2.2.2.1), (64, o.2.2.2.2.2.2.2.2)]) := by
  obtain ⟨x_RI, x_h16, x_h17, x_b0, x_e0, x_t1, x_m, x_em, x_ch, x_ech, x_pa, x_epa, x_la, x_fo, x_h63, x_h64, x_st, x_ex, x_pl, x_te, x_Rst, x_Rex, x_Rtr, x_Rpl, x_Rte, x_Rgo, x_im, x_k6, x_k0, x_kp, x_m0, x_m1, x_h85, x_h87, x_m61, x_h83⟩ := hX
  obtain ⟨S1, S2, S3, S4, S5, S6⟩ := hS
  obtain ⟨T1, T2, T3, T4, T5, T6, T7⟩ := hT
  unfold f_OP_22 at h
  obtain ⟨x_ans, n_s30, n_t63, n_t64, e1, h⟩ := xz_d4 h
  obtain ⟨y_ans, n_s4, n_t4, n_t16, n_t17, e2, h⟩ := xz_d5 h
  have q := x_slide x_m x_em x_h63 (x3_t2 x_RI x_Rte) ⟨S4, T1⟩ e1 e2
  cases h
  exact ⟨q.1, q.2.2, T2, T3, T4, T5, T6, T7⟩
set_option maxHeartbeats 4000000 in
set_option maxRecDepth 10000 in
theorem z_23 {N : Int} {σ : Nat → Int} {τ : Nat → Nat → Int} (hX : XX3 σ τ) (hS : SIM2 σ τ) (hT : SIM3 σ τ) (a1 : Int) (b_a1 : (-2147483648) ≤ a1 ∧ a1 ≤ 2147483647) {o : Int × Int × Int × (Nat → Int) × (Nat → Int)} (h : f_OP_23 N a1 (σ 4) (σ 27) (σ 49) (τ 4) (τ 16) (τ 17) (τ 37) (τ 38) (τ 63) = some o) : (o.1 = o.2.1) ∧ SIM3 (zst σ [(4, o.2.2.1)]) (zta τ [(16, o.2.2.2.1), (17, o.2.2.2.2)]) := by
  obtain ⟨x_RI, x_h16, x_h17, x_b0, x_e0, x_t1, x_m, x_em, x_ch, x_ech, x_pa, x_epa, x_la, x_fo, x_h63, x_h64, x_st, x_ex, x_pl, x_te, x_Rst, x_Rex, x_Rtr, x_Rpl, x_Rte, x_Rgo, x_im, x_k6, x_k0, x_kp, x_m0, x_m1, x_h85, x_h87, x_m61, x_h83⟩ := hX
  obtain ⟨S1, S2, S3, S4, S5, S6⟩ := hS
  obtain ⟨T1, T2, T3, T4, T5, T6, T7⟩ := hT
  unfold f_OP_23 at h
  obtain ⟨x_ans, e1, h⟩ := xz_d1 h
  obtain ⟨y_ans, n_s4, n_t16, n_t17, e2, h⟩ := xz_d4 h
  have q := x_shade b_a1 x_m x_em x_h63 (x3_P x_RI x_pa x_epa x_Rpl x_pl x_Rte) T1 e1 e2
  cases h
  exact ⟨q, T1, T2, T3, T4, T5, T6, T7⟩
set_option maxHeartbeats 4000000 in
set_option maxRecDepth 10000 in
theorem z_24 {N : Int} {σ : Nat → Int} {τ : Nat → Nat → Int} (hX : XX3 σ τ) (hS : SIM2 σ τ) (hT : SIM3 σ τ) (a1 : Int) (a2 : Int) (a3 : Int) (a4 : Int) (b_a1 : (-2147483648) ≤ a1 ∧ a1 ≤ 2147483647) (b_a2 : (-2147483648) ≤ a2 ∧ a2 ≤ 2147483647) (b_a3 : (-2147483648) ≤ a3 ∧ a3 ≤ 2147483647) (b_a4 : (-2147483648) ≤ a4 ∧ a4 ≤ 2147483647) {o : Int × Int × Int × Int × Int × Int × Int × Int × Int × Int × (Nat → Int) × (Nat → Int) × (Nat → Int) × (Nat → Int) × (Nat → Int) × (Nat → Int) × (Nat → Int) × (Nat → Int)} (h : f_OP_24 N a1 a2 a3 a4 (σ 4) (σ 19) (σ 20) (σ 21) (σ 22) (σ 26) (σ 27) (σ 28) (σ 29) (σ 34) (σ 35) (σ 36) (σ 49) (τ 4) (τ 14) (τ 15) (τ 16) (τ 17) (τ 34) (τ 35) (τ 37) (τ 38) (τ 40) (τ 41) (τ 46) (τ 47) (τ 63) (τ 64) = some o) : (o.1 = o.2.1) ∧ SIM3 (zst σ [(4, o.2.2.1), (19, o.2.2.2.1), (20, o.2.2.2.2.1), (21, o.2.2.2.2.2.1), (22, o.2.2.2.2.2.2.1), (34, o.2.2.2.2.2.2.2.1), (35, o.2.2.2.2.2.2.2.2.1), (36, o.2.2.2.2.2.2.2.2.2.1)]) (zta τ [(14, o.2.2.2.2.2.2.2.2.2.2.1), (15, o.2.2.2.2.2.2.2.2.2.2.2.1), (16, o.2.2.2.2.2.2.2.2.2.2.2.2.1), (17, o.2.2.2.2.2.2.2.2.2.2.2.2.2.1), (46, o.2.2.2.2.2.2.2.2.2.2.2.2.2.2.1), (47, o.2.2.2.2.2.2.2.2.2.2.2.2.2.2.2.1), (63, o.2.2.2.2.2.2.2.2.2.2.2.2.2.2.2.2.1), (64, o.2.2.2.2.2.2.2.2.2.2.2.2.2.2.2.2.2)]) := by
  obtain ⟨x_RI, x_h16, x_h17, x_b0, x_e0, x_t1, x_m, x_em, x_ch, x_ech, x_pa, x_epa, x_la, x_fo, x_h63, x_h64, x_st, x_ex, x_pl, x_te, x_Rst, x_Rex, x_Rtr, x_Rpl, x_Rte, x_Rgo, x_im, x_k6, x_k0, x_kp, x_m0, x_m1, x_h85, x_h87, x_m61, x_h83⟩ := hX
  obtain ⟨S1, S2, S3, S4, S5, S6⟩ := hS
  obtain ⟨T1, T2, T3, T4, T5, T6, T7⟩ := hT
  unfold f_OP_24 at h
  obtain ⟨x_ans, n_s34, n_s35, n_s36, n_t46, n_t47, n_t63, n_t64, e1, h⟩ := xz_d8 h
  obtain ⟨y_ans, n_s4, n_s19, n_s20, n_s21, n_s22, n_t14, n_t15, n_t16, n_t17, e2, h⟩ := xz_d10 h
  have q := x_gains b_a1 b_a2 b_a3 b_a4 (x3_J x_RI x_ch x_ech x_Rst x_Rex x_st x_ex x_Rte x_te x_la x_fo S4) x_m x_em x_h63 x_h64 ⟨S4, T1⟩ (x3_P x_RI x_pa x_epa x_Rpl x_pl x_Rte) e1 e2
  cases h
  exact ⟨q.1, q.2.2, T2, T3, T4, T5, T6, T7⟩
set_option maxHeartbeats 4000000 in
set_option maxRecDepth 10000 in
theorem z_25 {N : Int} {σ : Nat → Int} {τ : Nat → Nat → Int} (hX : XX3 σ τ) (hS : SIM2 σ τ) (hT : SIM3 σ τ) (a1 : Int) (a2 : Int) (b_a1 : (-2147483648) ≤ a1 ∧ a1 ≤ 2147483647) (b_a2 : (-2147483648) ≤ a2 ∧ a2 ≤ 2147483647) {o : Int × Int × Int × Int × Int × Int × (Nat → Int) × (Nat → Int) × (Nat → Int) × (Nat → Int)} (h : f_OP_25 N a1 a2 (σ 3) (σ 4) (σ 5) (σ 26) (σ 27) (σ 30) (σ 49) (τ 2) (τ 3) (τ 4) (τ 34) (τ 35) (τ 36) (τ 37) (τ 38) (τ 39) = some o) : (True) ∧ SIM3 (zst σ [(3, o.2.2.1), (4, o.2.2.2.1), (5, o.2.2.2.2.1), (30, o.2.2.2.2.2.1)]) (zta τ [(2, o.2.2.2.2.2.2.1), (3, o.2.2.2.2.2.2.2.1), (4, o.2.2.2.2.2.2.2.2.1), (39, o.2.2.2.2.2.2.2.2.2)]) := by
  obtain ⟨x_RI, x_h16, x_h17, x_b0, x_e0, x_t1, x_m, x_em, x_ch, x_ech, x_pa, x_epa, x_la, x_fo, x_h63, x_h64, x_st, x_ex, x_pl, x_te, x_Rst, x_Rex, x_Rtr, x_Rpl, x_Rte, x_Rgo, x_im, x_k6, x_k0, x_kp, x_m0, x_m1, x_h85, x_h87, x_m61, x_h83⟩ := hX
  obtain ⟨S1, S2, S3, S4, S5, S6⟩ := hS
  obtain ⟨T1, T2, T3, T4, T5, T6, T7⟩ := hT
  unfold f_OP_25 at h
  obtain ⟨x_ans, n_s3, n_s30, n_t2, n_t39, e1, h⟩ := xz_d5 h
  obtain ⟨y_ans, n_s4, n_s5, n_t3, n_t4, e2, h⟩ := xz_d5 h
  have q := x_goal b_a1 b_a2 x_m x_em (RV1 x_Rgo) e1 e2
  have c := (HILL_f ⟨S4, T1⟩ x_m.2 x_h63 (fr_goal b_a1 (RI_0 x_RI) e2)).2
  cases h
  exact ⟨trivial, c, T2, T3, q.1, q.2 T5, T6, T7⟩
end
section
set_option maxHeartbeats 4000000 in
set_option maxRecDepth 10000 in
theorem z_26 {N : Int} {σ : Nat → Int} {τ : Nat → Nat → Int} (hX : XX3 σ τ) (hS : SIM2 σ τ) (hT : SIM3 σ τ) (a1 : Int) (a2 : Int) (a3 : Int) (b_a1 : (-2147483648) ≤ a1 ∧ a1 ≤ 2147483647) (b_a2 : (-2147483648) ≤ a2 ∧ a2 ≤ 2147483647) (b_a3 : (-2147483648) ≤ a3 ∧ a3 ≤ 2147483647) {o : Int × Int × Int × Int × Int × Int × Int × Int × Int × Int × Int × Int × Int × Int × Int × Int × Int × Int × Int × Int × Int × Int × Int × (Nat → Int) × (Nat → Int) × (Nat → Int) × (Nat → Int) × (Nat → Int) × (Nat → Int) × (Nat → Int) × (Nat → Int) × (Nat → Int) × (Nat → Int) × (Nat → Int) × (Nat → Int) × (Nat → Int) × (Nat → Int) × (Nat → Int) × (Nat → Int) × (Nat → Int) × (Nat → Int) × (Nat → Int) × (Nat → Int) × (Nat → Int) × (Nat → Int) × (Nat → Int) × (Nat → Int) × (Nat → Int) × (Nat → Int) × (Nat → Int) × (Nat → Int)} (h : f_OP_26 N a1 a2 a3 (σ 4) (σ 19) (σ 20) (σ 21) (σ 22) (σ 23) (σ 26) (σ 28) (σ 29) (σ 30) (σ 34) (σ 35) (σ 36) (σ 37) (σ 38) (σ 39) (σ 49) (σ 64) (σ 65) (σ 66) (σ 67) (σ 68) (σ 69) (σ 70) (σ 71) (σ 72) (τ 4) (τ 14) (τ 15) (τ 18) (τ 19) (τ 20) (τ 21) (τ 22) (τ 23) (τ 24) (τ 25) (τ 26) (τ 27) (τ 34) (τ 35) (τ 38) (τ 39) (τ 40) (τ 41) (τ 46) (τ 47) (τ 48) (τ 49) (τ 50) (τ 51) (τ 52) (τ 53) (τ 54) (τ 55) (τ 56) (τ 57) (τ 58) (τ 63) (τ 64) (τ 89) (τ 90) (τ 91) = some o) : (True) ∧ SIM3 (zst σ [(4, o.2.2.1), (19, o.2.2.2.1), (20, o.2.2.2.2.1), (21, o.2.2.2.2.2.1), (22, o.2.2.2.2.2.2.1), (23, o.2.2.2.2.2.2.2.1), (34, o.2.2.2.2.2.2.2.2.1), (35, o.2.2.2.2.2.2.2.2.2.1), (36, o.2.2.2.2.2.2.2.2.2.2.1), (37, o.2.2.2.2.2.2.2.2.2.2.2.1), (38, o.2.2.2.2.2.2.2.2.2.2.2.2.1), (39, o.2.2.2.2.2.2.2.2.2.2.2.2.2.1), (64, o.2.2.2.2.2.2.2.2.2.2.2.2.2.2.1), (65, o.2.2.2.2.2.2.2.2.2.2.2.2.2.2.2.1), (66, o.2.2.2.2.2.2.2.2.2.2.2.2.2.2.2.2.1), (67, o.2.2.2.2.2.2.2.2.2.2.2.2.2.2.2.2.2.1), (68, o.2.2.2.2.2.2.2.2.2.2.2.2.2.2.2.2.2.2.1), (69, o.2.2.2.2.2.2.2.2.2.2.2.2.2.2.2.2.2.2.2.1), (70, o.2.2.2.2.2.2.2.2.2.2.2.2.2.2.2.2.2.2.2.2.1), (71, o.2.2.2.2.2.2.2.2.2.2.2.2.2.2.2.2.2.2.2.2.2.1), (72, o.2.2.2.2.2.2.2.2.2.2.2.2.2.2.2.2.2.2.2.2.2.2.1)]) (zta τ [(14, o.2.2.2.2.2.2.2.2.2.2.2.2.2.2.2.2.2.2.2.2.2.2.2.1), (15, o.2.2.2.2.2.2.2.2.2.2.2.2.2.2.2.2.2.2.2.2.2.2.2.2.1), (18, o.2.2.2.2.2.2.2.2.2.2.2.2.2.2.2.2.2.2.2.2.2.2.2.2.2.1), (19, o.2.2.2.2.2.2.2.2.2.2.2.2.2.2.2.2.2.2.2.2.2.2.2.2.2.2.1), (20, o.2.2.2.2.2.2.2.2.2.2.2.2.2.2.2.2.2.2.2.2.2.2.2.2.2.2.2.1), (21, o.2.2.2.2.2.2.2.2.2.2.2.2.2.2.2.2.2.2.2.2.2.2.2.2.2.2.2.2.1), (22, o.2.2.2.2.2.2.2.2.2.2.2.2.2.2.2.2.2.2.2.2.2.2.2.2.2.2.2.2.2.1), (23, o.2.2.2.2.2.2.2.2.2.2.2.2.2.2.2.2.2.2.2.2.2.2.2.2.2.2.2.2.2.2.1), (24, o.2.2.2.2.2.2.2.2.2.2.2.2.2.2.2.2.2.2.2.2.2.2.2.2.2.2.2.2.2.2.2.1), (25, o.2.2.2.2.2.2.2.2.2.2.2.2.2.2.2.2.2.2.2.2.2.2.2.2.2.2.2.2.2.2.2.2.1), (26, o.2.2.2.2.2.2.2.2.2.2.2.2.2.2.2.2.2.2.2.2.2.2.2.2.2.2.2.2.2.2.2.2.2.1), (27, o.2.2.2.2.2.2.2.2.2.2.2.2.2.2.2.2.2.2.2.2.2.2.2.2.2.2.2.2.2.2.2.2.2.2.1), (46, o.2.2.2.2.2.2.2.2.2.2.2.2.2.2.2.2.2.2.2.2.2.2.2.2.2.2.2.2.2.2.2.2.2.2.2.1), (47, o.2.2.2.2.2.2.2.2.2.2.2.2.2.2.2.2.2.2.2.2.2.2.2.2.2.2.2.2.2.2.2.2.2.2.2.2.1), (48, o.2.2.2.2.2.2.2.2.2.2.2.2.2.2.2.2.2.2.2.2.2.2.2.2.2.2.2.2.2.2.2.2.2.2.2.2.2.1), (49, o.2.2.2.2.2.2.2.2.2.2.2.2.2.2.2.2.2.2.2.2.2.2.2.2.2.2.2.2.2.2.2.2.2.2.2.2.2.2.1), (50, o.2.2.2.2.2.2.2.2.2.2.2.2.2.2.2.2.2.2.2.2.2.2.2.2.2.2.2.2.2.2.2.2.2.2.2.2.2.2.2.1), (51, o.2.2.2.2.2.2.2.2.2.2.2.2.2.2.2.2.2.2.2.2.2.2.2.2.2.2.2.2.2.2.2.2.2.2.2.2.2.2.2.2.1), (52, o.2.2.2.2.2.2.2.2.2.2.2.2.2.2.2.2.2.2.2.2.2.2.2.2.2.2.2.2.2.2.2.2.2.2.2.2.2.2.2.2.2.1), (53, o.2.2.2.2.2.2.2.2.2.2.2.2.2.2.2.2.2.2.2.2.2.2.2.2.2.2.2.2.2.2.2.2.2.2.2.2.2.2.2.2.2.2.1), (54, o.2.2.2.2.2.2.2.2.2.2.2.2.2.2.2.2.2.2.2.2.2.2.2.2.2.2.2.2.2.2.2.2.2.2.2.2.2.2.2.2.2.2.2.1), (55, o.2.2.2.2.2.2.2.2.2.2.2.2.2.2.2.2.2.2.2.2.2.2.2.2.2.2.2.2.2.2.2.2.2.2.2.2.2.2.2.2.2.2.2.2.1), (56, o.2.2.2.2.2.2.2.2.2.2.2.2.2.2.2.2.2.2.2.2.2.2.2.2.2.2.2.2.2.2.2.2.2.2.2.2.2.2.2.2.2.2.2.2.2.1), (57, o.2.2.2.2.2.2.2.2.2.2.2.2.2.2.2.2.2.2.2.2.2.2.2.2.2.2.2.2.2.2.2.2.2.2.2.2.2.2.2.2.2.2.2.2.2.2.1), (58, o.2.2.2.2.2.2.2.2.2.2.2.2.2.2.2.2.2.2.2.2.2.2.2.2.2.2.2.2.2.2.2.2.2.2.2.2.2.2.2.2.2.2.2.2.2.2.2.1), (89, o.2.2.2.2.2.2.2.2.2.2.2.2.2.2.2.2.2.2.2.2.2.2.2.2.2.2.2.2.2.2.2.2.2.2.2.2.2.2.2.2.2.2.2.2.2.2.2.2.1), (90, o.2.2.2.2.2.2.2.2.2.2.2.2.2.2.2.2.2.2.2.2.2.2.2.2.2.2.2.2.2.2.2.2.2.2.2.2.2.2.2.2.2.2.2.2.2.2.2.2.2.1), (91, o.2.2.2.2.2.2.2.2.2.2.2.2.2.2.2.2.2.2.2.2.2.2.2.2.2.2.2.2.2.2.2.2.2.2.2.2.2.2.2.2.2.2.2.2.2.2.2.2.2.2)]) := by
  obtain ⟨x_RI, x_h16, x_h17, x_b0, x_e0, x_t1, x_m, x_em, x_ch, x_ech, x_pa, x_epa, x_la, x_fo, x_h63, x_h64, x_st, x_ex, x_pl, x_te, x_Rst, x_Rex, x_Rtr, x_Rpl, x_Rte, x_Rgo, x_im, x_k6, x_k0, x_kp, x_m0, x_m1, x_h85, x_h87, x_m61, x_h83⟩ := hX
  obtain ⟨S1, S2, S3, S4, S5, S6⟩ := hS
  obtain ⟨T1, T2, T3, T4, T5, T6, T7⟩ := hT
  unfold f_OP_26 at h
  obtain ⟨x_ans, n_s34, n_s35, n_s36, n_s37, n_s38, n_s39, n_t46, n_t47, n_t48, n_t49, n_t50, n_t51, n_t52, n_t53, n_t54, n_t55, n_t56, n_t57, n_t58, n_s64, n_s65, n_s66, n_s67, n_s68, n_s69, n_s70, n_s71, n_s72, n_t89, n_t90, n_t91, e1, h⟩ := xz_d32 h
  obtain ⟨y_ans, n_s4, n_s19, n_s20, n_s21, n_s22, n_s23, n_t14, n_t15, n_t18, n_t19, n_t20, n_t21, n_t22, n_t23, n_t24, n_t25, n_t26, n_t27, e2, h⟩ := xz_d19 h
  cases h
  exact ⟨trivial, T1, T2, T3, T4, T5, T6, T7⟩
set_option maxHeartbeats 4000000 in
set_option maxRecDepth 10000 in
theorem z_27 {N : Int} {σ : Nat → Int} {τ : Nat → Nat → Int} (hX : XX3 σ τ) (hS : SIM2 σ τ) (hT : SIM3 σ τ) (a1 : Int) (b_a1 : (-2147483648) ≤ a1 ∧ a1 ≤ 2147483647) {o : Int × Int × Int × Int × (Nat → Int) × (Nat → Int)} (h : f_OP_27 N a1 (σ 4) (σ 30) (σ 44) (σ 49) (τ 4) (τ 28) (τ 61) (τ 63) (τ 64) = some o) : (True) ∧ SIM3 (zst σ [(4, o.2.2.1), (44, o.2.2.2.1)]) (zta τ [(28, o.2.2.2.2.1), (61, o.2.2.2.2.2)]) := by
  obtain ⟨x_RI, x_h16, x_h17, x_b0, x_e0, x_t1, x_m, x_em, x_ch, x_ech, x_pa, x_epa, x_la, x_fo, x_h63, x_h64, x_st, x_ex, x_pl, x_te, x_Rst, x_Rex, x_Rtr, x_Rpl, x_Rte, x_Rgo, x_im, x_k6, x_k0, x_kp, x_m0, x_m1, x_h85, x_h87, x_m61, x_h83⟩ := hX
  obtain ⟨S1, S2, S3, S4, S5, S6⟩ := hS
  obtain ⟨T1, T2, T3, T4, T5, T6, T7⟩ := hT
  unfold f_OP_27 at h
  obtain ⟨x_ans, n_s44, n_t61, e1, h⟩ := xz_d3 h
  obtain ⟨y_ans, n_s4, n_t28, e2, h⟩ := xz_d3 h
  cases h
  exact ⟨trivial, T1, T2, T3, T4, T5, T6, T7⟩
set_option maxHeartbeats 4000000 in
set_option maxRecDepth 10000 in
theorem z_28 {N : Int} {σ : Nat → Int} {τ : Nat → Nat → Int} (hX : XX3 σ τ) (hS : SIM2 σ τ) (hT : SIM3 σ τ) (a1 : Int) (a2 : Int) (b_a1 : (-2147483648) ≤ a1 ∧ a1 ≤ 2147483647) (b_a2 : (-2147483648) ≤ a2 ∧ a2 ≤ 2147483647) {o : Int × Int × Int × Int × Int × Int × (Nat → Int) × (Nat → Int) × (Nat → Int) × (Nat → Int)} (h : f_OP_28 N a1 a2 (σ 3) (σ 4) (σ 5) (σ 26) (σ 27) (σ 30) (σ 49) (τ 2) (τ 3) (τ 4) (τ 34) (τ 35) (τ 36) (τ 37) (τ 38) (τ 39) = some o) : (True) ∧ SIM3 (zst σ [(3, o.2.2.1), (4, o.2.2.2.1), (5, o.2.2.2.2.1), (30, o.2.2.2.2.2.1)]) (zta τ [(2, o.2.2.2.2.2.2.1), (3, o.2.2.2.2.2.2.2.1), (4, o.2.2.2.2.2.2.2.2.1), (36, o.2.2.2.2.2.2.2.2.2)]) := by
  obtain ⟨x_RI, x_h16, x_h17, x_b0, x_e0, x_t1, x_m, x_em, x_ch, x_ech, x_pa, x_epa, x_la, x_fo, x_h63, x_h64, x_st, x_ex, x_pl, x_te, x_Rst, x_Rex, x_Rtr, x_Rpl, x_Rte, x_Rgo, x_im, x_k6, x_k0, x_kp, x_m0, x_m1, x_h85, x_h87, x_m61, x_h83⟩ := hX
  obtain ⟨S1, S2, S3, S4, S5, S6⟩ := hS
  obtain ⟨T1, T2, T3, T4, T5, T6, T7⟩ := hT
  unfold f_OP_28 at h
  obtain ⟨x_ans, n_s3, n_s30, n_t2, n_t36, e1, h⟩ := xz_d5 h
  obtain ⟨y_ans, n_s4, n_s5, n_t3, n_t4, e2, h⟩ := xz_d5 h
  have q := x_trips b_a1 b_a2 x_ch x_ech x_Rtr e1 e2
  have c := (HILL_f ⟨S4, T1⟩ x_m.2 x_h63 (fr_trips b_a1 (RI_1 x_RI) e2)).2
  cases h
  exact ⟨trivial, c, T2, T3, q.2.1, q.2.2 T5, T6, T7⟩
set_option maxHeartbeats 4000000 in
set_option maxRecDepth 10000 in
theorem z_29 {N : Int} {σ : Nat → Int} {τ : Nat → Nat → Int} (hX : XX3 σ τ) (hS : SIM2 σ τ) (hT : SIM3 σ τ) (a1 : Int) (a2 : Int) (a3 : Int) (b_a1 : (-2147483648) ≤ a1 ∧ a1 ≤ 2147483647) (b_a2 : (-2147483648) ≤ a2 ∧ a2 ≤ 2147483647) (b_a3 : (-2147483648) ≤ a3 ∧ a3 ≤ 2147483647) {o : Int × Int × Int × Int × Int × Int × Int × (Nat → Int) × (Nat → Int)} (h : f_OP_29 N a1 a2 a3 (σ 4) (σ 26) (σ 45) (σ 46) (σ 47) (σ 48) (τ 4) (τ 29) (τ 36) (τ 62) = some o) : (True) ∧ SIM3 (zst σ [(4, o.2.2.1), (45, o.2.2.2.1), (46, o.2.2.2.2.1), (47, o.2.2.2.2.2.1), (48, o.2.2.2.2.2.2.1)]) (zta τ [(29, o.2.2.2.2.2.2.2.1), (62, o.2.2.2.2.2.2.2.2)]) := by
  obtain ⟨x_RI, x_h16, x_h17, x_b0, x_e0, x_t1, x_m, x_em, x_ch, x_ech, x_pa, x_epa, x_la, x_fo, x_h63, x_h64, x_st, x_ex, x_pl, x_te, x_Rst, x_Rex, x_Rtr, x_Rpl, x_Rte, x_Rgo, x_im, x_k6, x_k0, x_kp, x_m0, x_m1, x_h85, x_h87, x_m61, x_h83⟩ := hX
  obtain ⟨S1, S2, S3, S4, S5, S6⟩ := hS
  obtain ⟨T1, T2, T3, T4, T5, T6, T7⟩ := hT
  unfold f_OP_29 at h
  obtain ⟨x_ans, n_s45, n_s46, n_s47, n_s48, n_t62, e1, h⟩ := xz_d6 h
  obtain ⟨y_ans, n_s4, n_t29, e2, h⟩ := xz_d3 h
  cases h
  exact ⟨trivial, T1, T2, T3, T4, T5, T6, T7⟩
set_option maxHeartbeats 4000000 in
set_option maxRecDepth 10000 in
theorem z_30 {N : Int} {σ : Nat → Int} {τ : Nat → Nat → Int} (hX : XX3 σ τ) (hS : SIM2 σ τ) (hT : SIM3 σ τ) (a1 : Int) (a2 : Int) (a3 : Int) (b_a1 : (-2147483648) ≤ a1 ∧ a1 ≤ 2147483647) (b_a2 : (-2147483648) ≤ a2 ∧ a2 ≤ 2147483647) (b_a3 : (-2147483648) ≤ a3 ∧ a3 ≤ 2147483647) {o : Int × Int × Int × Int × Int × Int × Int × Int × Int × Int × Int × Int × Int × Int × Int × (Nat → Int) × (Nat → Int) × (Nat → Int) × (Nat → Int) × (Nat → Int) × (Nat → Int) × (Nat → Int) × (Nat → Int) × (Nat → Int) × (Nat → Int) × (Nat → Int) × (Nat → Int) × (Nat → Int) × (Nat → Int)} (h : f_OP_30 N a1 a2 a3 (σ 4) (σ 19) (σ 20) (σ 21) (σ 22) (σ 26) (σ 27) (σ 28) (σ 29) (σ 30) (σ 34) (σ 35) (σ 36) (σ 40) (σ 41) (σ 42) (σ 43) (σ 49) (σ 60) (τ 4) (τ 14) (τ 15) (τ 16) (τ 17) (τ 30) (τ 31) (τ 32) (τ 34) (τ 35) (τ 37) (τ 38) (τ 40) (τ 41) (τ 46) (τ 47) (τ 48) (τ 59) (τ 60) (τ 63) (τ 64) (τ 81) (τ 82) = some o) : (True) ∧ SIM3 (zst σ [(4, o.2.2.1), (19, o.2.2.2.1), (20, o.2.2.2.2.1), (21, o.2.2.2.2.2.1), (22, o.2.2.2.2.2.2.1), (34, o.2.2.2.2.2.2.2.1), (35, o.2.2.2.2.2.2.2.2.1), (36, o.2.2.2.2.2.2.2.2.2.1), (40, o.2.2.2.2.2.2.2.2.2.2.1), (41, o.2.2.2.2.2.2.2.2.2.2.2.1), (42, o.2.2.2.2.2.2.2.2.2.2.2.2.1), (43, o.2.2.2.2.2.2.2.2.2.2.2.2.2.1), (60, o.2.2.2.2.2.2.2.2.2.2.2.2.2.2.1)]) (zta τ [(14, o.2.2.2.2.2.2.2.2.2.2.2.2.2.2.2.1), (15, o.2.2.2.2.2.2.2.2.2.2.2.2.2.2.2.2.1), (16, o.2.2.2.2.2.2.2.2.2.2.2.2.2.2.2.2.2.1), (17, o.2.2.2.2.2.2.2.2.2.2.2.2.2.2.2.2.2.2.1), (30, o.2.2.2.2.2.2.2.2.2.2.2.2.2.2.2.2.2.2.2.1), (31, o.2.2.2.2.2.2.2.2.2.2.2.2.2.2.2.2.2.2.2.2.1), (32, o.2.2.2.2.2.2.2.2.2.2.2.2.2.2.2.2.2.2.2.2.2.1), (46, o.2.2.2.2.2.2.2.2.2.2.2.2.2.2.2.2.2.2.2.2.2.2.1), (47, o.2.2.2.2.2.2.2.2.2.2.2.2.2.2.2.2.2.2.2.2.2.2.2.1), (48, o.2.2.2.2.2.2.2.2.2.2.2.2.2.2.2.2.2.2.2.2.2.2.2.2.1), (59, o.2.2.2.2.2.2.2.2.2.2.2.2.2.2.2.2.2.2.2.2.2.2.2.2.2.1), (60, o.2.2.2.2.2.2.2.2.2.2.2.2.2.2.2.2.2.2.2.2.2.2.2.2.2.2.1), (81, o.2.2.2.2.2.2.2.2.2.2.2.2.2.2.2.2.2.2.2.2.2.2.2.2.2.2.2.1), (82, o.2.2.2.2.2.2.2.2.2.2.2.2.2.2.2.2.2.2.2.2.2.2.2.2.2.2.2.2)]) := by
  obtain ⟨x_RI, x_h16, x_h17, x_b0, x_e0, x_t1, x_m, x_em, x_ch, x_ech, x_pa, x_epa, x_la, x_fo, x_h63, x_h64, x_st, x_ex, x_pl, x_te, x_Rst, x_Rex, x_Rtr, x_Rpl, x_Rte, x_Rgo, x_im, x_k6, x_k0, x_kp, x_m0, x_m1, x_h85, x_h87, x_m61, x_h83⟩ := hX
  obtain ⟨S1, S2, S3, S4, S5, S6⟩ := hS
  obtain ⟨T1, T2, T3, T4, T5, T6, T7⟩ := hT
  unfold f_OP_30 at h
  obtain ⟨x_ans, n_s34, n_s35, n_s36, n_s40, n_s41, n_s42, n_s43, n_t46, n_t47, n_t48, n_s60, n_t59, n_t60, n_t81, n_t82, e1, h⟩ := xz_d16 h
  obtain ⟨y_ans, n_s4, n_s19, n_s20, n_s21, n_s22, n_t14, n_t15, n_t16, n_t17, n_t30, n_t31, n_t32, e2, h⟩ := xz_d13 h
  cases h
  exact ⟨trivial, T1, T2, T3, T4, T5, T6, T7⟩
set_option maxHeartbeats 4000000 in
set_option maxRecDepth 10000 in
theorem z_31 {N : Int} {σ : Nat → Int} {τ : Nat → Nat → Int} (hX : XX3 σ τ) (hS : SIM2 σ τ) (hT : SIM3 σ τ) (a1 : Int) (b_a1 : (-2147483648) ≤ a1 ∧ a1 ≤ 2147483647) {o : Int × Int × Int} (h : f_OP_31 N a1 (σ 4) (σ 49) (τ 4) (τ 63) (τ 64) = some o) : (o.1 = o.2.1) ∧ SIM3 (zst σ [(4, o.2.2)]) τ := by
  obtain ⟨x_RI, x_h16, x_h17, x_b0, x_e0, x_t1, x_m, x_em, x_ch, x_ech, x_pa, x_epa, x_la, x_fo, x_h63, x_h64, x_st, x_ex, x_pl, x_te, x_Rst, x_Rex, x_Rtr, x_Rpl, x_Rte, x_Rgo, x_im, x_k6, x_k0, x_kp, x_m0, x_m1, x_h85, x_h87, x_m61, x_h83⟩ := hX
  obtain ⟨S1, S2, S3, S4, S5, S6⟩ := hS
  obtain ⟨T1, T2, T3, T4, T5, T6, T7⟩ := hT
  unfold f_OP_31 at h
  obtain ⟨x_ans, e1, h⟩ := xz_d1 h
  obtain ⟨y_ans, n_s4, e2, h⟩ := xz_d2 h
  have q := x_layers b_a1 x_m x_em x_h63 x_h64 T1 e1 e2
  cases h
  exact ⟨q, T1, T2, T3, T4, T5, T6, T7⟩
set_option maxHeartbeats 4000000 in
set_option maxRecDepth 10000 in
theorem z_32 {N : Int} {σ : Nat → Int} {τ : Nat → Nat → Int} (hX : XX3 σ τ) (hS : SIM2 σ τ) (hT : SIM3 σ τ) (a1 : Int) (a2 : Int) (b_a1 : (-2147483648) ≤ a1 ∧ a1 ≤ 2147483647) (b_a2 : (-2147483648) ≤ a2 ∧ a2 ≤ 2147483647) {o : Int × Int × Int × Int × Int × Int × Int × Int × Int × (Nat → Int) × (Nat → Int) × (Nat → Int) × (Nat → Int) × (Nat → Int) × (Nat → Int) × (Nat → Int)} (h : f_OP_32 N a1 a2 (σ 3) (σ 4) (σ 5) (σ 24) (σ 25) (σ 30) (σ 49) (σ 61) (τ 2) (τ 3) (τ 4) (τ 16) (τ 17) (τ 33) (τ 38) (τ 63) (τ 64) (τ 83) (τ 84) = some o) : (o.1 = o.2.1) ∧ SIM3 (zst σ [(3, o.2.2.1), (4, o.2.2.2.1), (5, o.2.2.2.2.1), (24, o.2.2.2.2.2.1), (25, o.2.2.2.2.2.2.1), (30, o.2.2.2.2.2.2.2.1), (61, o.2.2.2.2.2.2.2.2.1)]) (zta τ [(2, o.2.2.2.2.2.2.2.2.2.1), (3, o.2.2.2.2.2.2.2.2.2.2.1), (16, o.2.2.2.2.2.2.2.2.2.2.2.1), (17, o.2.2.2.2.2.2.2.2.2.2.2.2.1), (33, o.2.2.2.2.2.2.2.2.2.2.2.2.2.1), (83, o.2.2.2.2.2.2.2.2.2.2.2.2.2.2.1), (84, o.2.2.2.2.2.2.2.2.2.2.2.2.2.2.2)]) := by
  obtain ⟨x_RI, x_h16, x_h17, x_b0, x_e0, x_t1, x_m, x_em, x_ch, x_ech, x_pa, x_epa, x_la, x_fo, x_h63, x_h64, x_st, x_ex, x_pl, x_te, x_Rst, x_Rex, x_Rtr, x_Rpl, x_Rte, x_Rgo, x_im, x_k6, x_k0, x_kp, x_m0, x_m1, x_h85, x_h87, x_m61, x_h83⟩ := hX
  obtain ⟨S1, S2, S3, S4, S5, S6⟩ := hS
  obtain ⟨T1, T2, T3, T4, T5, T6, T7⟩ := hT
  unfold f_OP_32 at h
  obtain ⟨x_ans, n_s3, n_s30, n_t2, n_s61, n_t83, n_t84, e1, h⟩ := xz_d7 h
  obtain ⟨y_ans, n_s4, n_s5, n_s24, n_s25, n_t3, n_t16, n_t17, n_t33, e2, h⟩ := xz_d9 h
  have q := x_rain b_a1 b_a2 x_m x_em x_h63 x_h83 (x3_t2 x_RI x_Rte) T1 e1 e2
  cases h
  exact ⟨q.1.1, T1, T2, T3, q.1.2.1, q.1.2.2 T5, T6, q.2 T7⟩
set_option maxHeartbeats 4000000 in
set_option maxRecDepth 10000 in
theorem z_33 {N : Int} {σ : Nat → Int} {τ : Nat → Nat → Int} (hX : XX3 σ τ) (hS : SIM2 σ τ) (hT : SIM3 σ τ) (a1 : Int) (a2 : Int) (b_a1 : (-2147483648) ≤ a1 ∧ a1 ≤ 2147483647) (b_a2 : (-2147483648) ≤ a2 ∧ a2 ≤ 2147483647) {o : Int × Int × Int} (h : f_OP_33 N a1 a2 (σ 4) (σ 25) (σ 61) (τ 33) (τ 83) (τ 84) = some o) : (o.1 = o.2.1) ∧ SIM3 (zst σ [(4, o.2.2)]) τ := by
  obtain ⟨x_RI, x_h16, x_h17, x_b0, x_e0, x_t1, x_m, x_em, x_ch, x_ech, x_pa, x_epa, x_la, x_fo, x_h63, x_h64, x_st, x_ex, x_pl, x_te, x_Rst, x_Rex, x_Rtr, x_Rpl, x_Rte, x_Rgo, x_im, x_k6, x_k0, x_kp, x_m0, x_m1, x_h85, x_h87, x_m61, x_h83⟩ := hX
  obtain ⟨S1, S2, S3, S4, S5, S6⟩ := hS
  obtain ⟨T1, T2, T3, T4, T5, T6, T7⟩ := hT
  unfold f_OP_33 at h
  obtain ⟨x_ans, e1, h⟩ := xz_d1 h
  obtain ⟨y_ans, n_s4, e2, h⟩ := xz_d2 h
  have q := x_rained b_a1 b_a2 x_m61 x_h83 T7 e1 e2
  cases h
  exact ⟨q, T1, T2, T3, T4, T5, T6, T7⟩
set_option maxHeartbeats 4000000 in
set_option maxRecDepth 10000 in
theorem z_34 {N : Int} {σ : Nat → Int} {τ : Nat → Nat → Int} (hX : XX3 σ τ) (hS : SIM2 σ τ) (hT : SIM3 σ τ) (a1 : Int) (b_a1 : (-2147483648) ≤ a1 ∧ a1 ≤ 2147483647) {o : Int × Int × Int × Int × Int × Int × Int × Int × Int × Int × Int × Int × Int × Int × Int × Int × (Nat → Int) × (Nat → Int) × (Nat → Int) × (Nat → Int) × (Nat → Int) × (Nat → Int) × (Nat → Int) × (Nat → Int) × (Nat → Int) × (Nat → Int) × (Nat → Int) × (Nat → Int) × (Nat → Int) × (Nat → Int) × (Nat → Int) × (Nat → Int) × (Nat → Int) × (Nat → Int) × (Nat → Int) × (Nat → Int) × (Nat → Int) × (Nat → Int) × (Nat → Int) × (Nat → Int) × (Nat → Int)} (h : f_OP_34 N a1 (σ 3) (σ 4) (σ 5) (σ 26) (σ 27) (σ 28) (σ 29) (σ 30) (σ 49) (σ 50) (σ 51) (σ 52) (σ 53) (σ 55) (σ 56) (σ 57) (σ 58) (σ 62) (σ 63) (τ 0) (τ 2) (τ 3) (τ 4) (τ 5) (τ 6) (τ 34) (τ 35) (τ 36) (τ 37) (τ 38) (τ 39) (τ 40) (τ 41) (τ 63) (τ 64) (τ 65) (τ 66) (τ 67) (τ 68) (τ 69) (τ 70) (τ 71) (τ 72) (τ 73) (τ 74) (τ 75) (τ 76) (τ 77) (τ 78) (τ 79) (τ 80) (τ 85) (τ 86) (τ 87) (τ 88) = some o) : (True) ∧ SIM3 (zst σ [(3, o.2.2.1), (4, o.2.2.2.1), (5, o.2.2.2.2.1), (30, o.2.2.2.2.2.1), (50, o.2.2.2.2.2.2.1), (51, o.2.2.2.2.2.2.2.1), (52, o.2.2.2.2.2.2.2.2.1), (53, o.2.2.2.2.2.2.2.2.2.1), (55, o.2.2.2.2.2.2.2.2.2.2.1), (56, o.2.2.2.2.2.2.2.2.2.2.2.1), (57, o.2.2.2.2.2.2.2.2.2.2.2.2.1), (58, o.2.2.2.2.2.2.2.2.2.2.2.2.2.1), (62, o.2.2.2.2.2.2.2.2.2.2.2.2.2.2.1), (63, o.2.2.2.2.2.2.2.2.2.2.2.2.2.2.2.1)]) (zta τ [(0, o.2.2.2.2.2.2.2.2.2.2.2.2.2.2.2.2.1), (2, o.2.2.2.2.2.2.2.2.2.2.2.2.2.2.2.2.2.1), (3, o.2.2.2.2.2.2.2.2.2.2.2.2.2.2.2.2.2.2.1), (5, o.2.2.2.2.2.2.2.2.2.2.2.2.2.2.2.2.2.2.2.1), (6, o.2.2.2.2.2.2.2.2.2.2.2.2.2.2.2.2.2.2.2.2.1), (65, o.2.2.2.2.2.2.2.2.2.2.2.2.2.2.2.2.2.2.2.2.2.1), (66, o.2.2.2.2.2.2.2.2.2.2.2.2.2.2.2.2.2.2.2.2.2.2.1), (67, o.2.2.2.2.2.2.2.2.2.2.2.2.2.2.2.2.2.2.2.2.2.2.2.1), (68, o.2.2.2.2.2.2.2.2.2.2.2.2.2.2.2.2.2.2.2.2.2.2.2.2.1), (69, o.2.2.2.2.2.2.2.2.2.2.2.2.2.2.2.2.2.2.2.2.2.2.2.2.2.1), (70, o.2.2.2.2.2.2.2.2.2.2.2.2.2.2.2.2.2.2.2.2.2.2.2.2.2.2.1), (71, o.2.2.2.2.2.2.2.2.2.2.2.2.2.2.2.2.2.2.2.2.2.2.2.2.2.2.2.1), (72, o.2.2.2.2.2.2.2.2.2.2.2.2.2.2.2.2.2.2.2.2.2.2.2.2.2.2.2.2.1), (73, o.2.2.2.2.2.2.2.2.2.2.2.2.2.2.2.2.2.2.2.2.2.2.2.2.2.2.2.2.2.1), (74, o.2.2.2.2.2.2.2.2.2.2.2.2.2.2.2.2.2.2.2.2.2.2.2.2.2.2.2.2.2.2.1), (75, o.2.2.2.2.2.2.2.2.2.2.2.2.2.2.2.2.2.2.2.2.2.2.2.2.2.2.2.2.2.2.2.1), (76, o.2.2.2.2.2.2.2.2.2.2.2.2.2.2.2.2.2.2.2.2.2.2.2.2.2.2.2.2.2.2.2.2.1), (77, o.2.2.2.2.2.2.2.2.2.2.2.2.2.2.2.2.2.2.2.2.2.2.2.2.2.2.2.2.2.2.2.2.2.1), (78, o.2.2.2.2.2.2.2.2.2.2.2.2.2.2.2.2.2.2.2.2.2.2.2.2.2.2.2.2.2.2.2.2.2.2.1), (79, o.2.2.2.2.2.2.2.2.2.2.2.2.2.2.2.2.2.2.2.2.2.2.2.2.2.2.2.2.2.2.2.2.2.2.2.1), (80, o.2.2.2.2.2.2.2.2.2.2.2.2.2.2.2.2.2.2.2.2.2.2.2.2.2.2.2.2.2.2.2.2.2.2.2.2.1), (85, o.2.2.2.2.2.2.2.2.2.2.2.2.2.2.2.2.2.2.2.2.2.2.2.2.2.2.2.2.2.2.2.2.2.2.2.2.2.1), (86, o.2.2.2.2.2.2.2.2.2.2.2.2.2.2.2.2.2.2.2.2.2.2.2.2.2.2.2.2.2.2.2.2.2.2.2.2.2.2.1), (87, o.2.2.2.2.2.2.2.2.2.2.2.2.2.2.2.2.2.2.2.2.2.2.2.2.2.2.2.2.2.2.2.2.2.2.2.2.2.2.2.1), (88, o.2.2.2.2.2.2.2.2.2.2.2.2.2.2.2.2.2.2.2.2.2.2.2.2.2.2.2.2.2.2.2.2.2.2.2.2.2.2.2.2)]) := by
  obtain ⟨x_RI, x_h16, x_h17, x_b0, x_e0, x_t1, x_m, x_em, x_ch, x_ech, x_pa, x_epa, x_la, x_fo, x_h63, x_h64, x_st, x_ex, x_pl, x_te, x_Rst, x_Rex, x_Rtr, x_Rpl, x_Rte, x_Rgo, x_im, x_k6, x_k0, x_kp, x_m0, x_m1, x_h85, x_h87, x_m61, x_h83⟩ := hX
  obtain ⟨S1, S2, S3, S4, S5, S6⟩ := hS
  obtain ⟨T1, T2, T3, T4, T5, T6, T7⟩ := hT
  unfold f_OP_34 at h
  obtain ⟨x_ans, n_s3, n_s30, n_t0, n_t2, n_s50, n_s51, n_s52, n_s53, n_s55, n_s56, n_s57, n_s58, n_s62, n_t65, n_t66, n_t67, n_t68, n_t69, n_t70, n_t71, n_t72, n_s63, n_t73, n_t74, n_t75, n_t76, n_t77, n_t78, n_t79, n_t80, n_t85, n_t86, n_t87, n_t88, e1, h⟩ := xz_d35 h
  obtain ⟨y_ans, n_s4, n_s5, n_t3, n_t5, n_t6, e2, h⟩ := xz_d6 h
  have w := zok_x (ww_HM_image _ _ _ _ _ _ _ b_a1 x_RI x_k6 x_im) e2
  dsimp only at w
  obtain ⟨w1, w2, w3, w4, w5, w6⟩ := w
  have q := k_image b_a1 e1
  obtain ⟨x1, x2, x3, x4, x5, r1, r2⟩ := r_image b_a1 e2
  have sr : n_s3 = n_s5 ∧ ∀ k, k < 7 → n_t2 k = n_t3 k := by
    cases r2
    rcases k_image3 b_a1 e1 with ⟨g1, g2, g3, g4⟩ | ⟨g1, g2, g3, g4⟩
    · rw [if_pos g1] at r1
      have z := SR_tell0 (f := (τ 2)) r1
      rw [g3, g4]
      exact ⟨z.1, z.2 T5⟩
    · rw [if_neg g1] at r1
      have z := SR_tell (f := (τ 2)) (u := (-1, -1, zu (τ 2) 1 ((τ 2) 1 + 1))) (by decide) rfl r1
      rw [g3, g4]
      exact ⟨z.1, z.2 T5⟩
  cases h
  refine ⟨trivial, T1, ?_, ?_, sr.1, sr.2, T6, T7⟩
  · show n_t6 0 ≠ 0 → CREL n_s62 n_t85 n_t86 (fun c => (fun j => n_t5 (5580 * 0 + j)) (9 + c)) (fun j => (fun j => n_t5 (5580 * 0 + j)) (21 + j))
    intro hk
    have k6 := w6 0 (by decide)
    rcases q with ⟨q1, q2, q3⟩ | ⟨q1, q2, q3⟩ | ⟨q1, q2, q3⟩
    · have qq := q2
      rw [qq.2.2.1]
      exact CREL_c x_m.2 x_h63 T1 qq.2.2.2.2.2.1 qq.2.2.2.2.2.2 (fun j hj => by have z := w4 (by omega) (9 + j) (by omega); rw [q1] at z; exact z) (fun j hj => by have z := w4 (by omega) (21 + j) (by omega); rw [q1] at z; exact z)
    · have qq := q3
      rw [qq.2.2.1, qq.2.2.2.2.2.1, qq.2.2.2.2.2.2]
      rw [if_neg (by omega)] at k6
      exact CREL_c x_m0.2 x_h85 (T2 (by rw [← k6]; exact hk)) (fun _ _ => rfl) (fun _ _ => rfl) (fun j hj => w5 0 (by decide) (by omega) (9 + j) (by omega)) (fun j hj => w5 0 (by decide) (by omega) (21 + j) (by omega))
    · have qq := q2
      rw [qq.2.2.1, qq.2.2.2.2.2.1, qq.2.2.2.2.2.2]
      rw [if_neg (by omega)] at k6
      exact CREL_c x_m0.2 x_h85 (T2 (by rw [← k6]; exact hk)) (fun _ _ => rfl) (fun _ _ => rfl) (fun j hj => w5 0 (by decide) (by omega) (9 + j) (by omega)) (fun j hj => w5 0 (by decide) (by omega) (21 + j) (by omega))
  · show n_t6 1 ≠ 0 → CREL n_s63 n_t87 n_t88 (fun c => (fun j => n_t5 (5580 * 1 + j)) (9 + c)) (fun j => (fun j => n_t5 (5580 * 1 + j)) (21 + j))
    intro hk
    have k6 := w6 1 (by decide)
    rcases q with ⟨q1, q2, q3⟩ | ⟨q1, q2, q3⟩ | ⟨q1, q2, q3⟩
    · have qq := q3
      rw [qq.2.2.1, qq.2.2.2.2.2.1, qq.2.2.2.2.2.2]
      rw [if_neg (by omega)] at k6
      exact CREL_c x_m1.2 x_h87 (T3 (by rw [← k6]; exact hk)) (fun _ _ => rfl) (fun _ _ => rfl) (fun j hj => w5 1 (by decide) (by omega) (9 + j) (by omega)) (fun j hj => w5 1 (by decide) (by omega) (21 + j) (by omega))
    · have qq := q2
      rw [qq.2.2.1]
      exact CREL_c x_m.2 x_h63 T1 qq.2.2.2.2.2.1 qq.2.2.2.2.2.2 (fun j hj => by have z := w4 (by omega) (9 + j) (by omega); rw [q1] at z; exact z) (fun j hj => by have z := w4 (by omega) (21 + j) (by omega); rw [q1] at z; exact z)
    · have qq := q3
      rw [qq.2.2.1, qq.2.2.2.2.2.1, qq.2.2.2.2.2.2]
      rw [if_neg (by omega)] at k6
      exact CREL_c x_m1.2 x_h87 (T3 (by rw [← k6]; exact hk)) (fun _ _ => rfl) (fun _ _ => rfl) (fun j hj => w5 1 (by decide) (by omega) (9 + j) (by omega)) (fun j hj => w5 1 (by decide) (by omega) (21 + j) (by omega))
set_option maxHeartbeats 4000000 in
set_option maxRecDepth 10000 in
theorem z_35 {N : Int} {σ : Nat → Int} {τ : Nat → Nat → Int} (hX : XX3 σ τ) (hS : SIM2 σ τ) (hT : SIM3 σ τ) (a1 : Int) (b_a1 : (-2147483648) ≤ a1 ∧ a1 ≤ 2147483647) {o : Int × Int × Int × Int × Int × Int × Int × Int × Int × Int × Int × (Nat → Int) × (Nat → Int) × (Nat → Int) × (Nat → Int) × (Nat → Int) × (Nat → Int) × (Nat → Int) × (Nat → Int) × (Nat → Int) × (Nat → Int) × (Nat → Int) × (Nat → Int) × (Nat → Int)} (h : f_OP_35 N a1 (σ 3) (σ 4) (σ 5) (σ 26) (σ 27) (σ 28) (σ 29) (σ 30) (σ 49) (σ 50) (σ 51) (σ 52) (σ 53) (σ 55) (σ 56) (σ 57) (σ 58) (σ 62) (σ 63) (τ 0) (τ 2) (τ 3) (τ 4) (τ 5) (τ 6) (τ 34) (τ 35) (τ 36) (τ 37) (τ 38) (τ 39) (τ 40) (τ 41) (τ 63) (τ 64) (τ 65) (τ 66) (τ 67) (τ 68) (τ 69) (τ 70) (τ 71) (τ 72) (τ 73) (τ 74) (τ 75) (τ 76) (τ 77) (τ 78) (τ 79) (τ 80) (τ 85) (τ 86) (τ 87) (τ 88) = some o) : (True) ∧ SIM3 (zst σ [(3, o.2.2.1), (4, o.2.2.2.1), (5, o.2.2.2.2.1), (26, o.2.2.2.2.2.1), (27, o.2.2.2.2.2.2.1), (28, o.2.2.2.2.2.2.2.1), (29, o.2.2.2.2.2.2.2.2.1), (30, o.2.2.2.2.2.2.2.2.2.1), (49, o.2.2.2.2.2.2.2.2.2.2.1)]) (zta τ [(2, o.2.2.2.2.2.2.2.2.2.2.2.1), (3, o.2.2.2.2.2.2.2.2.2.2.2.2.1), (4, o.2.2.2.2.2.2.2.2.2.2.2.2.2.1), (34, o.2.2.2.2.2.2.2.2.2.2.2.2.2.2.1), (35, o.2.2.2.2.2.2.2.2.2.2.2.2.2.2.2.1), (36, o.2.2.2.2.2.2.2.2.2.2.2.2.2.2.2.2.1), (37, o.2.2.2.2.2.2.2.2.2.2.2.2.2.2.2.2.2.1), (38, o.2.2.2.2.2.2.2.2.2.2.2.2.2.2.2.2.2.2.1), (39, o.2.2.2.2.2.2.2.2.2.2.2.2.2.2.2.2.2.2.2.1), (40, o.2.2.2.2.2.2.2.2.2.2.2.2.2.2.2.2.2.2.2.2.1), (41, o.2.2.2.2.2.2.2.2.2.2.2.2.2.2.2.2.2.2.2.2.2.1), (63, o.2.2.2.2.2.2.2.2.2.2.2.2.2.2.2.2.2.2.2.2.2.2.1), (64, o.2.2.2.2.2.2.2.2.2.2.2.2.2.2.2.2.2.2.2.2.2.2.2)]) := by
  obtain ⟨x_RI, x_h16, x_h17, x_b0, x_e0, x_t1, x_m, x_em, x_ch, x_ech, x_pa, x_epa, x_la, x_fo, x_h63, x_h64, x_st, x_ex, x_pl, x_te, x_Rst, x_Rex, x_Rtr, x_Rpl, x_Rte, x_Rgo, x_im, x_k6, x_k0, x_kp, x_m0, x_m1, x_h85, x_h87, x_m61, x_h83⟩ := hX
  obtain ⟨S1, S2, S3, S4, S5, S6⟩ := hS
  obtain ⟨T1, T2, T3, T4, T5, T6, T7⟩ := hT
  unfold f_OP_35 at h
  obtain ⟨x_ans, n_s3, n_s26, n_s27, n_s28, n_s29, n_s30, n_t2, n_s49, n_t34, n_t35, n_t36, n_t37, n_t38, n_t39, n_t40, n_t41, n_t63, n_t64, e1, h⟩ := xz_d19 h
  obtain ⟨y_ans, n_s4, n_s5, n_t3, n_t4, e2, h⟩ := xz_d5 h
  have w := zok_x (ww_HM_back _ _ _ _ _ _ _ b_a1 x_k6 x_RI x_im) e2
  dsimp only at w
  obtain ⟨w1, w2, w3, w4, w5⟩ := w
  have q := k_back b_a1 e1
  obtain ⟨x1, x2, x3, x4, r1, r2⟩ := r_back b_a1 x_k6 e2
  have ek : ∀ k, k < 2 → (τ 0) k = (τ 6) k := fun k hk => by
    rcases (show k = 0 ∨ k = 1 by omega) with e | e <;> subst e
    · exact x_kp.1
    · exact x_kp.2
  have sr : (n_s3 = n_s5 ∧ ∀ k, k < 7 → n_t2 k = n_t3 k) ∧ x_ans = y_ans := by
    cases r2
    unfold BKX at r1
    rcases k_back3 b_a1 x_k0 e1 with ⟨g1, g0, g2, g3, g4⟩ | ⟨g1, g0, g2, g3, g4⟩ | ⟨g1, g2, g3, g4⟩
    · rw [if_pos g1, if_pos (by rw [← ek _ (by omega)]; exact g0)] at r1
      have z := SR_tell0 (f := (τ 2)) r1
      rw [g2, g3, g4]
      exact ⟨⟨z.1, z.2 T5⟩, (tell_a (by decide) r1).symm⟩
    · rw [if_pos g1, if_neg (by rw [← ek _ (by omega)]; exact fun z => z g0)] at r1
      have z := SR_tell (f := (τ 2)) (u := (-2, -2, zu (τ 2) 2 ((τ 2) 2 + 1))) (by decide) rfl r1
      rw [g2, g3, g4]
      exact ⟨⟨z.1, z.2 T5⟩, (tell_a (by decide) r1).symm⟩
    · rw [if_neg g1] at r1
      have z := SR_tell (f := (τ 2)) (u := (-1, -1, zu (τ 2) 1 ((τ 2) 1 + 1))) (by decide) rfl r1
      rw [g2, g3, g4]
      exact ⟨⟨z.1, z.2 T5⟩, (tell_a (by decide) r1).symm⟩
  have ea := sr.2
  cases h
  refine ⟨trivial, ?_, T2, T3, sr.1.1, sr.1.2, T6, T7⟩
  show CREL n_s49 n_t63 n_t64 (fun c => n_t4 (9 + c)) (fun j => n_t4 (21 + j))
  rcases q with ⟨q1, q2, q3⟩ | ⟨q1, q2, q3⟩ | ⟨q1, q2⟩
  · have z := w3 (by omega)
    have zk := w5 (by omega)
    rw [q1] at z zk
    rw [q3.2.2.1]
    exact CREL_c x_m0.2 x_h85 (T2 zk) q3.2.2.2.2.2.1 q3.2.2.2.2.2.2 (fun j hj => z (9 + j) (by omega)) (fun j hj => z (21 + j) (by omega))
  · have z := w3 (by omega)
    have zk := w5 (by omega)
    rw [q1] at z zk
    rw [q3.2.2.1]
    exact CREL_c x_m1.2 x_h87 (T3 zk) q3.2.2.2.2.2.1 q3.2.2.2.2.2.2 (fun j hj => z (9 + j) (by omega)) (fun j hj => z (21 + j) (by omega))
  · have z := w4 (by omega)
    rw [q2.2.2.1, q2.2.2.2.2.2.1, q2.2.2.2.2.2.2, z]
    exact T1
set_option maxHeartbeats 4000000 in
set_option maxRecDepth 10000 in
theorem z_36 {N : Int} {σ : Nat → Int} {τ : Nat → Nat → Int} (hX : XX3 σ τ) (hS : SIM2 σ τ) (hT : SIM3 σ τ) (a1 : Int) (b_a1 : (-2147483648) ≤ a1 ∧ a1 ≤ 2147483647) {o : Int × Int × Int} (h : f_OP_36 N a1 (σ 0) (σ 4) (σ 7) (σ 26) (σ 27) (σ 28) (σ 29) (σ 49) (τ 2) (τ 3) (τ 4) (τ 38) (τ 63) = some o) : (o.1 = o.2.1) ∧ SIM3 (zst σ [(4, o.2.2)]) τ := by
  obtain ⟨x_RI, x_h16, x_h17, x_b0, x_e0, x_t1, x_m, x_em, x_ch, x_ech, x_pa, x_epa, x_la, x_fo, x_h63, x_h64, x_st, x_ex, x_pl, x_te, x_Rst, x_Rex, x_Rtr, x_Rpl, x_Rte, x_Rgo, x_im, x_k6, x_k0, x_kp, x_m0, x_m1, x_h85, x_h87, x_m61, x_h83⟩ := hX
  obtain ⟨S1, S2, S3, S4, S5, S6⟩ := hS
  obtain ⟨T1, T2, T3, T4, T5, T6, T7⟩ := hT
  unfold f_OP_36 at h
  obtain ⟨x_ans, e1, h⟩ := xz_d1 h
  obtain ⟨y_ans, n_s4, e2, h⟩ := xz_d2 h
  rw [← x_e0] at e2
  have q := x_count b_a1 x_m x_em T1.1 x_ech x_epa S4.1 S4.2.1 (x3_te x_Rte) T5 e1 e2
  cases h
  exact ⟨q, T1, T2, T3, T4, T5, T6, T7⟩
set_option maxHeartbeats 4000000 in
set_option maxRecDepth 10000 in
theorem z_37 {N : Int} {σ : Nat → Int} {τ : Nat → Nat → Int} (hX : XX3 σ τ) (hS : SIM2 σ τ) (hT : SIM3 σ τ)  {o : Int × Int × Int} (h : f_OP_37 N (σ 3) (σ 4) (σ 5) = some o) : (o.1 = o.2.1) ∧ SIM3 (zst σ [(4, o.2.2)]) τ := by
  obtain ⟨x_RI, x_h16, x_h17, x_b0, x_e0, x_t1, x_m, x_em, x_ch, x_ech, x_pa, x_epa, x_la, x_fo, x_h63, x_h64, x_st, x_ex, x_pl, x_te, x_Rst, x_Rex, x_Rtr, x_Rpl, x_Rte, x_Rgo, x_im, x_k6, x_k0, x_kp, x_m0, x_m1, x_h85, x_h87, x_m61, x_h83⟩ := hX
  obtain ⟨S1, S2, S3, S4, S5, S6⟩ := hS
  obtain ⟨T1, T2, T3, T4, T5, T6, T7⟩ := hT
  unfold f_OP_37 at h
  obtain ⟨x_ans, e1, h⟩ := xz_d1 h
  obtain ⟨y_ans, n_s4, e2, h⟩ := xz_d2 h
  unfold f_HS_status at e1
  unfold f_HM_status at e2
  cases e1
  cases e2
  cases h
  exact ⟨T4, T1, T2, T3, T4, T5, T6, T7⟩
end
