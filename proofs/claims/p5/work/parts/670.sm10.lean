/-! what tier 3 keeps: stones, status, refusals, gravel, rain -/
def SIM3 (σ : Nat → Int) (τ : Nat → Nat → Int) : Prop := CREL (σ 49) (τ 63) (τ 64) (fun c => (τ 4) (9 + c)) (fun j => (τ 4) (21 + j)) ∧ (τ 6 0 ≠ 0 → CREL (σ 62) (τ 85) (τ 86) (fun c => (fun j => τ 5 (5580 * 0 + j)) (9 + c)) (fun j => (fun j => τ 5 (5580 * 0 + j)) (21 + j))) ∧ (τ 6 1 ≠ 0 → CREL (σ 63) (τ 87) (τ 88) (fun c => (fun j => τ 5 (5580 * 1 + j)) (9 + c)) (fun j => (fun j => τ 5 (5580 * 1 + j)) (21 + j))) ∧ σ 3 = σ 5 ∧ (∀ k, k < 7 → τ 2 k = τ 3 k) ∧ σ 2 = σ 6 ∧ RREL (σ 61) (σ 25) (τ 83) (τ 84) (τ 33)
def XX3 (σ : Nat → Int) (τ : Nat → Nat → Int) : Prop := (RI (τ 4)) ∧ (zR (τ 16) 0 10) ∧ (zR (τ 17) 0 30) ∧ (0 ≤ σ 0 ∧ σ 0 ≤ 400) ∧ (σ 0 = σ 7) ∧ (zR (τ 1) 0 255) ∧ (0 ≤ σ 49 ∧ σ 49 ≤ 12) ∧ (σ 49 = τ 4 0) ∧ (0 ≤ σ 26 ∧ σ 26 ≤ 6) ∧ (σ 26 = τ 4 1) ∧ (0 ≤ σ 27 ∧ σ 27 ≤ 6) ∧ (σ 27 = τ 4 2) ∧ (0 ≤ σ 28 ∧ σ 28 ≤ 6) ∧ (-1 ≤ σ 29 ∧ σ 29 ≤ 5) ∧ (zR (τ 63) 0 10) ∧ (zR (τ 64) 0 30) ∧ (zR (τ 34) 0 60) ∧ (zR (τ 35) 0 1) ∧ (zR (τ 37) 0 11) ∧ (zR (τ 38) 0 99) ∧ (RV 3 153 (σ 26) (τ 34) (τ 4)) ∧ (RV 3 154 (σ 26) (τ 35) (τ 4)) ∧ (RV 3 155 (σ 26) (τ 36) (τ 4)) ∧ (RV 1 171 (σ 27) (τ 37) (τ 4)) ∧ (RV 1 5 4 (τ 38) (τ 4)) ∧ (RV 1 141 (σ 49) (τ 39) (τ 4)) ∧ (zIM (τ 6) (τ 5)) ∧ (zR (τ 6) 0 1) ∧ (zR (τ 0) 0 1) ∧ (τ 0 0 = τ 6 0 ∧ τ 0 1 = τ 6 1) ∧ (0 ≤ σ 62 ∧ σ 62 ≤ 12) ∧ (0 ≤ σ 63 ∧ σ 63 ≤ 12) ∧ (zR (τ 85) 0 10) ∧ (zR (τ 87) 0 10) ∧ (0 ≤ σ 61 ∧ σ 61 ≤ 12) ∧ (zR (τ 83) 0 10)
set_option maxHeartbeats 4000000 in
set_option maxRecDepth 10000 in
theorem INV_XX3 {N : Int} {σ : Nat → Int} {τ : Nat → Nat → Int} (h : INV N σ τ) : XX3 σ τ := by
  have zg1 := h.2
  have zg2 := zg1.2
  have zg3 := zg2.2
  have zg4 := zg3.2
  have zg5 := zg4.2
  have zg6 := zg5.2
  have zg7 := zg6.2
  have zg8 := zg7.2
  have zg9 := zg8.2
  have zg10 := zg9.2
  have zg11 := zg10.2
  have zg12 := zg11.2
  have zg13 := zg12.2
  have zg14 := zg13.2
  have zg15 := zg14.2
  have zg16 := zg15.2
  have zg17 := zg16.2
  have zg18 := zg17.2
  have zg19 := zg18.2
  have zg20 := zg19.2
  have zg21 := zg20.2
  have zg22 := zg21.2
  have zg23 := zg22.2
  have zg24 := zg23.2
  have zg25 := zg24.2
  have zg26 := zg25.2
  have zg27 := zg26.2
  have zg28 := zg27.2
  have zg29 := zg28.2
  have zg30 := zg29.2
  have zg31 := zg30.2
  have zg32 := zg31.2
  have zg33 := zg32.2
  have zg34 := zg33.2
  have zg35 := zg34.2
  have zg36 := zg35.2
  have zg37 := zg36.2
  have zg38 := zg37.2
  have zg39 := zg38.2
  have zg40 := zg39.2
  have zg41 := zg40.2
  have zg42 := zg41.2
  have zg43 := zg42.2
  have zg44 := zg43.2
  have zg45 := zg44.2
  have zg46 := zg45.2
  have zg47 := zg46.2
  have zg48 := zg47.2
  have zg49 := zg48.2
  have zg50 := zg49.2
  have zg51 := zg50.2
  have zg52 := zg51.2
  have zg53 := zg52.2
  have zg54 := zg53.2
  have zg55 := zg54.2
  have zg56 := zg55.2
  have zg57 := zg56.2
  have zg58 := zg57.2
  have zg59 := zg58.2
  have zg60 := zg59.2
  have zg61 := zg60.2
  have zg62 := zg61.2
  have zg63 := zg62.2
  have zg64 := zg63.2
  have zg65 := zg64.2
  have zg66 := zg65.2
  have zg67 := zg66.2
  have zg68 := zg67.2
  have zg69 := zg68.2
  have zg70 := zg69.2
  have zg71 := zg70.2
  have zg72 := zg71.2
  have zg73 := zg72.2
  have zg74 := zg73.2
  have zg75 := zg74.2
  have zg76 := zg75.2
  have zg77 := zg76.2
  have zg78 := zg77.2
  have zg79 := zg78.2
  have zg80 := zg79.2
  have zg81 := zg80.2
  have zg82 := zg81.2
  have zg83 := zg82.2
  have zg84 := zg83.2
  have zg85 := zg84.2
  have zg86 := zg85.2
  have zg87 := zg86.2
  have zg88 := zg87.2
  have zg89 := zg88.2
  have zg90 := zg89.2
  have zg91 := zg90.2
  have zg92 := zg91.2
  have zg93 := zg92.2
  have zg94 := zg93.2
  have zg95 := zg94.2
  have zg96 := zg95.2
  have zg97 := zg96.2
  have zg98 := zg97.2
  have zg99 := zg98.2
  have zg100 := zg99.2
  have zg101 := zg100.2
  have zg102 := zg101.2
  have zg103 := zg102.2
  have zg104 := zg103.2
  have zg105 := zg104.2
  have zg106 := zg105.2
  have zg107 := zg106.2
  have zg108 := zg107.2
  have zg109 := zg108.2
  have zg110 := zg109.2
  have zg111 := zg110.2
  have zg112 := zg111.2
  have zg113 := zg112.2
  have zg114 := zg113.2
  have zg115 := zg114.2
  have zg116 := zg115.2
  have zg117 := zg116.2
  have zg118 := zg117.2
  have zg119 := zg118.2
  have zg120 := zg119.2
  have zg121 := zg120.2
  have zg122 := zg121.2
  have zg123 := zg122.2
  have zg124 := zg123.2
  have zg125 := zg124.2
  have I_t4 := zg99.1
  have I_t16 := zg104.1
  have I_t17 := zg105.1
  have I_s0 := h.1
  have R_tp := zg122.1
  have I_t1 := zg44.1
  have I_s49 := zg21.1
  have R_many := zg113.1
  have I_s26 := zg3.1
  have R_ch := zg114.1
  have I_s27 := zg4.1
  have R_pa := zg115.1
  have I_s28 := zg5.1
  have I_s29 := zg6.1
  have I_t63 := zg70.1
  have I_t64 := zg71.1
  have I_t34 := zg45.1
  have I_t35 := zg46.1
  have I_t37 := zg48.1
  have I_t38 := zg49.1
  have R_st := zg116.1
  have R_ex := zg117.1
  have R_tr := zg118.1
  have R_pl := zg119.1
  have R_te := zg120.1
  have R_go := zg121.1
  have I_im := zg112.1
  have I_t6 := zg103.1
  have I_t0 := zg43.1
  have R_kp := zg123.1
  have I_s62 := zg34.1
  have I_s63 := zg35.1
  have I_t85 := zg92.1
  have I_t87 := zg94.1
  have I_s61 := zg33.1
  have I_t83 := zg90.1
  exact ⟨I_t4, I_t16, I_t17, I_s0, R_tp, I_t1, I_s49, R_many, I_s26, R_ch, I_s27, R_pa, I_s28, I_s29, I_t63, I_t64, I_t34, I_t35, I_t37, I_t38, R_st, R_ex, R_tr, R_pl, R_te, R_go, I_im, I_t6, I_t0, R_kp, I_s62, I_s63, I_t85, I_t87, I_s61, I_t83⟩
theorem RV1 {b : Nat} {n : Int} {a r : Nat → Int} (h : RV 1 b n a r) : ∀ c : Nat, (c : Int) < n → a c = r (b + c) := fun c hc => by
  have := h c hc
  rw [Nat.one_mul] at this
  exact this
theorem x3_te {te row : Nat → Int} (h : RV 1 5 4 te row) : ∀ k, k < 4 → te k = row (5 + k) := fun k hk => RV1 h k (by omega)
theorem x3_J {ch la fo : Int} {st ex te ord od row : Nat → Int} (hR : RI row) (h1 : 0 ≤ ch ∧ ch ≤ 6) (h2 : ch = row 1) (h3 : RV 3 153 ch st row) (h4 : RV 3 154 ch ex row) (h5 : zR st 0 60) (h6 : zR ex 0 1) (h7 : RV 1 5 4 te row) (h8 : zR te 0 99) (h9 : 0 ≤ la ∧ la ≤ 6) (h10 : -1 ≤ fo ∧ fo ≤ 5) (hH : HILL2 la fo ord od row) : JREL ch la fo st ex te ord od row :=
  ⟨⟨h1.1, h1.2, h2⟩, fun c hc => ⟨h3 c hc, h4 c hc⟩, h5, h6, ⟨x3_te h7 0 (by decide), (h8 0).1, (h8 0).2⟩, ⟨hH.2.1, h10.1, by have := RI_4 hR; have := hH.1; have := hH.2.1; omega, h9.2⟩, hH.2.2⟩
theorem x3_P {pa : Int} {pl te row : Nat → Int} (hR : RI row) (h1 : 0 ≤ pa ∧ pa ≤ 6) (h2 : pa = row 2) (h3 : RV 1 171 pa pl row) (h4 : zR pl 0 11) (h7 : RV 1 5 4 te row) : PREL pa pl te row :=
  ⟨⟨h1.1, h1.2, h2⟩, RV1 h3, h4, by have e : te 1 = row 6 := x3_te h7 1 (by decide); have := RI_6 hR; exact ⟨e, by omega, by omega⟩⟩
theorem x3_t2 {te row : Nat → Int} (hR : RI row) (h7 : RV 1 5 4 te row) : te 2 = row 7 ∧ 1 ≤ te 2 ∧ te 2 ≤ 99 := by
  have e : te 2 = row 7 := x3_te h7 2 (by decide)
  have := RI_7 hR
  exact ⟨e, by omega, by omega⟩
theorem x3_t3 {te row : Nat → Int} (hR : RI row) (h7 : RV 1 5 4 te row) : te 3 = row 8 ∧ 0 ≤ te 3 ∧ te 3 ≤ 99 := by
  have e : te 3 = row 8 := x3_te h7 3 (by decide)
  have := RI_8 hR
  exact ⟨e, by omega, by omega⟩
theorem SR_tell {x st : Int} {f g : Nat → Int} {u : Int × Int × (Nat → Int)} {w1 w2 : Int} {w3 : Nat → Int} (hx : -7 < x ∧ x < 0) (hu : u = (x, x, zu f (-x).toNat (f (-x).toNat + 1))) (e2 : f_HM_tell x st g = some (w1, w2, w3)) : u.2.1 = w2 ∧ ((∀ k, k < 7 → f k = g k) → ∀ k, k < 7 → u.2.2 k = w3 k) := by
  rcases x_tell (by omega) e2 with ⟨k2, _⟩ | ⟨_, k2⟩
  · omega
  · cases k2
    rw [hu]
    exact ⟨rfl, fun h => zu_agr h⟩
theorem SR_tell0 {st : Int} {f g : Nat → Int} {w1 w2 : Int} {w3 : Nat → Int} (e2 : f_HM_tell 0 st g = some (w1, w2, w3)) : 0 = w2 ∧ ((∀ k, k < 7 → f k = g k) → ∀ k, k < 7 → f k = w3 k) := by
  rcases x_tell (by decide) e2 with ⟨_, k2⟩ | ⟨k2, _⟩
  · cases k2
    exact ⟨rfl, fun h => h⟩
  · omega
theorem tell_a {x st w1 w2 : Int} {g w3 : Nat → Int} (hx : -7 < x ∧ x ≤ 100000) (e2 : f_HM_tell x st g = some (w1, w2, w3)) : w1 = x := by
  rcases x_tell hx e2 with ⟨_, k2⟩ | ⟨_, k2⟩ <;> cases k2 <;> rfl
set_option maxHeartbeats 4000000 in
theorem k_image3 {a1 : Int} {s26 : Int} {s27 : Int} {s28 : Int} {s29 : Int} {s49 : Int} {t34 : Nat → Int} {t35 : Nat → Int} {t36 : Nat → Int} {t37 : Nat → Int} {t38 : Nat → Int} {t39 : Nat → Int} {t40 : Nat → Int} {t41 : Nat → Int} {t63 : Nat → Int} {t64 : Nat → Int} {s3 : Int} {s30 : Int} {t0 : Nat → Int} {t2 : Nat → Int} {s50 : Int} {s51 : Int} {s52 : Int} {s53 : Int} {s55 : Int} {s56 : Int} {s57 : Int} {s58 : Int} {s62 : Int} {t65 : Nat → Int} {t66 : Nat → Int} {t67 : Nat → Int} {t68 : Nat → Int} {t69 : Nat → Int} {t70 : Nat → Int} {t71 : Nat → Int} {t72 : Nat → Int} {s63 : Int} {t73 : Nat → Int} {t74 : Nat → Int} {t75 : Nat → Int} {t76 : Nat → Int} {t77 : Nat → Int} {t78 : Nat → Int} {t79 : Nat → Int} {t80 : Nat → Int} {t85 : Nat → Int} {t86 : Nat → Int} {t87 : Nat → Int} {t88 : Nat → Int} {x_ans : Int} {n_s3 : Int} {n_s30 : Int} {n_t0 : Nat → Int} {n_t2 : Nat → Int} {n_s50 : Int} {n_s51 : Int} {n_s52 : Int} {n_s53 : Int} {n_s55 : Int} {n_s56 : Int} {n_s57 : Int} {n_s58 : Int} {n_s62 : Int} {n_t65 : Nat → Int} {n_t66 : Nat → Int} {n_t67 : Nat → Int} {n_t68 : Nat → Int} {n_t69 : Nat → Int} {n_t70 : Nat → Int} {n_t71 : Nat → Int} {n_t72 : Nat → Int} {n_s63 : Int} {n_t73 : Nat → Int} {n_t74 : Nat → Int} {n_t75 : Nat → Int} {n_t76 : Nat → Int} {n_t77 : Nat → Int} {n_t78 : Nat → Int} {n_t79 : Nat → Int} {n_t80 : Nat → Int} {n_t85 : Nat → Int} {n_t86 : Nat → Int} {n_t87 : Nat → Int} {n_t88 : Nat → Int} (b1 : -2147483648 ≤ a1 ∧ a1 ≤ 2147483647) (h : f_HS_image a1 s26 s27 s28 s29 s49 t34 t35 t36 t37 t38 t39 t40 t41 t63 t64 s3 s30 t0 t2 s50 s51 s52 s53 s55 s56 s57 s58 s62 t65 t66 t67 t68 t69 t70 t71 t72 s63 t73 t74 t75 t76 t77 t78 t79 t80 t85 t86 t87 t88 = some (x_ans, n_s3, n_s30, n_t0, n_t2, n_s50, n_s51, n_s52, n_s53, n_s55, n_s56, n_s57, n_s58, n_s62, n_t65, n_t66, n_t67, n_t68, n_t69, n_t70, n_t71, n_t72, n_s63, n_t73, n_t74, n_t75, n_t76, n_t77, n_t78, n_t79, n_t80, n_t85, n_t86, n_t87, n_t88)) : ((0 ≤ a1 ∧ a1 ≤ 1) ∧ x_ans = 0 ∧ n_s3 = 0 ∧ n_t2 = t2) ∨ (¬ (0 ≤ a1 ∧ a1 ≤ 1) ∧ x_ans = -1 ∧ n_s3 = -1 ∧ n_t2 = zu t2 1 (t2 1 + 1)) := by
  have no : f_HS_image_9 s26 s27 s28 s29 s49 t34 t35 t36 t37 t38 t39 t40 t41 t63 t64 s3 s30 t0 t2 s50 s51 s52 s53 s55 s56 s57 s58 s62 t65 t66 t67 t68 t69 t70 t71 t72 s63 t73 t74 t75 t76 t77 t78 t79 t80 t85 t86 t87 t88 = some (x_ans, n_s3, n_s30, n_t0, n_t2, n_s50, n_s51, n_s52, n_s53, n_s55, n_s56, n_s57, n_s58, n_s62, n_t65, n_t66, n_t67, n_t68, n_t69, n_t70, n_t71, n_t72, n_s63, n_t73, n_t74, n_t75, n_t76, n_t77, n_t78, n_t79, n_t80, n_t85, n_t86, n_t87, n_t88) → x_ans = -1 ∧ n_s3 = -1 ∧ n_t2 = zu t2 1 (t2 1 + 1) := fun h => by
    unfold f_HS_image_9 at h
    obtain ⟨u1, u2, u3, e, h⟩ := xz_d3 h
    have q := k_refuse (by decide) e
    cases q
    cases h
    exact ⟨rfl, rfl, rfl⟩
  unfold f_HS_image at h
  rw [zwi b1, zwi (x := 2) (by decide)] at h
  by_cases c1 : a1 < 0
  · rw [if_pos c1] at h
    exact Or.inr ⟨by omega, no h⟩
  rw [if_neg c1] at h
  by_cases c2 : a1 < 2
  · rw [if_pos c2] at h
    by_cases c3 : a1 = 0
    · rw [if_pos c3] at h
      obtain ⟨v1, v2, v3, v4, v5, d1, d2, d3, d4, d5, d6, d7, d8, d9, d10, e, h⟩ := xz_d15 h
      unfold f_HS_image_28 at h
      replace h := (xp_s (xp_f (by decide +kernel) h)).2
      obtain ⟨u1, u2, u3, e2, h⟩ := xz_d3 h
      have q := k_accept e2
      cases q
      cases h
      exact Or.inl ⟨by omega, rfl, rfl, rfl⟩
    · have c4 : a1 = 1 := by omega
      rw [if_neg c3, if_pos c4] at h
      obtain ⟨v1, v2, v3, v4, v5, d1, d2, d3, d4, d5, d6, d7, d8, d9, d10, e, h⟩ := xz_d15 h
      unfold f_HS_image_28 at h
      replace h := (xp_s (xp_f (by decide +kernel) h)).2
      obtain ⟨u1, u2, u3, e2, h⟩ := xz_d3 h
      have q := k_accept e2
      cases q
      cases h
      exact Or.inl ⟨by omega, rfl, rfl, rfl⟩
  · rw [if_neg c2] at h
    exact Or.inr ⟨by omega, no h⟩
set_option maxHeartbeats 4000000 in
theorem k_back3 {a1 : Int} {t0 : Nat → Int} {s50 : Int} {s51 : Int} {s52 : Int} {s53 : Int} {s55 : Int} {s56 : Int} {s57 : Int} {s58 : Int} {s62 : Int} {t65 : Nat → Int} {t66 : Nat → Int} {t67 : Nat → Int} {t68 : Nat → Int} {t69 : Nat → Int} {t70 : Nat → Int} {t71 : Nat → Int} {t72 : Nat → Int} {s63 : Int} {t73 : Nat → Int} {t74 : Nat → Int} {t75 : Nat → Int} {t76 : Nat → Int} {t77 : Nat → Int} {t78 : Nat → Int} {t79 : Nat → Int} {t80 : Nat → Int} {t85 : Nat → Int} {t86 : Nat → Int} {t87 : Nat → Int} {t88 : Nat → Int} {s3 : Int} {s26 : Int} {s27 : Int} {s28 : Int} {s29 : Int} {s30 : Int} {t2 : Nat → Int} {s49 : Int} {t34 : Nat → Int} {t35 : Nat → Int} {t36 : Nat → Int} {t37 : Nat → Int} {t38 : Nat → Int} {t39 : Nat → Int} {t40 : Nat → Int} {t41 : Nat → Int} {t63 : Nat → Int} {t64 : Nat → Int} {x_ans : Int} {n_s3 : Int} {n_s26 : Int} {n_s27 : Int} {n_s28 : Int} {n_s29 : Int} {n_s30 : Int} {n_t2 : Nat → Int} {n_s49 : Int} {n_t34 : Nat → Int} {n_t35 : Nat → Int} {n_t36 : Nat → Int} {n_t37 : Nat → Int} {n_t38 : Nat → Int} {n_t39 : Nat → Int} {n_t40 : Nat → Int} {n_t41 : Nat → Int} {n_t63 : Nat → Int} {n_t64 : Nat → Int} (b1 : -2147483648 ≤ a1 ∧ a1 ≤ 2147483647) (hk : zR t0 0 1) (h : f_HS_back a1 t0 s50 s51 s52 s53 s55 s56 s57 s58 s62 t65 t66 t67 t68 t69 t70 t71 t72 s63 t73 t74 t75 t76 t77 t78 t79 t80 t85 t86 t87 t88 s3 s26 s27 s28 s29 s30 t2 s49 t34 t35 t36 t37 t38 t39 t40 t41 t63 t64 = some (x_ans, n_s3, n_s26, n_s27, n_s28, n_s29, n_s30, n_t2, n_s49, n_t34, n_t35, n_t36, n_t37, n_t38, n_t39, n_t40, n_t41, n_t63, n_t64)) : ((0 ≤ a1 ∧ a1 ≤ 1) ∧ t0 a1.toNat ≠ 0 ∧ x_ans = 0 ∧ n_s3 = 0 ∧ n_t2 = t2) ∨ ((0 ≤ a1 ∧ a1 ≤ 1) ∧ t0 a1.toNat = 0 ∧ x_ans = -2 ∧ n_s3 = -2 ∧ n_t2 = zu t2 2 (t2 2 + 1)) ∨ (¬ (0 ≤ a1 ∧ a1 ≤ 1) ∧ x_ans = -1 ∧ n_s3 = -1 ∧ n_t2 = zu t2 1 (t2 1 + 1)) := by
  have no : f_HS_back_9 t0 s50 s51 s52 s53 s55 s56 s57 s58 s62 t65 t66 t67 t68 t69 t70 t71 t72 s63 t73 t74 t75 t76 t77 t78 t79 t80 t85 t86 t87 t88 s3 s26 s27 s28 s29 s30 t2 s49 t34 t35 t36 t37 t38 t39 t40 t41 t63 t64 = some (x_ans, n_s3, n_s26, n_s27, n_s28, n_s29, n_s30, n_t2, n_s49, n_t34, n_t35, n_t36, n_t37, n_t38, n_t39, n_t40, n_t41, n_t63, n_t64) → x_ans = -1 ∧ n_s3 = -1 ∧ n_t2 = zu t2 1 (t2 1 + 1) := fun h => by
    unfold f_HS_back_9 at h
    obtain ⟨u1, u2, u3, e, h⟩ := xz_d3 h
    have q := k_refuse (by decide) e
    cases q
    cases h
    exact ⟨rfl, rfl, rfl⟩
  unfold f_HS_back at h
  rw [zwi b1, zwi (x := 2) (by decide)] at h
  by_cases c1 : a1 < 0
  · rw [if_pos c1] at h
    exact Or.inr (Or.inr ⟨by omega, no h⟩)
  rw [if_neg c1] at h
  by_cases c2 : a1 < 2
  · rw [if_pos c2] at h
    replace h := (xp_g h).2
    have bk := hk a1.toNat
    rw [zwi b1, zwi (x := t0 a1.toNat) (by omega)] at h
    by_cases d : t0 a1.toNat ≠ 0
    · rw [if_pos d] at h
      by_cases c3 : a1 = 0
      · rw [if_pos c3] at h
        obtain ⟨v1, v2, v3, v4, v5, d1, d2, d3, d4, d5, d6, d7, d8, d9, d10, e, h⟩ := xz_d15 h
        unfold f_HS_back_44 at h
        obtain ⟨u1, u2, u3, e2, h⟩ := xz_d3 h
        have ka := k_accept e2
        cases ka
        cases h
        exact Or.inl ⟨by omega, d, rfl, rfl, rfl⟩
      · have c4 : a1 = 1 := by omega
        rw [if_neg c3, if_pos c4] at h
        obtain ⟨v1, v2, v3, v4, v5, d1, d2, d3, d4, d5, d6, d7, d8, d9, d10, e, h⟩ := xz_d15 h
        unfold f_HS_back_44 at h
        obtain ⟨u1, u2, u3, e2, h⟩ := xz_d3 h
        have ka := k_accept e2
        cases ka
        cases h
        exact Or.inl ⟨by omega, d, rfl, rfl, rfl⟩
    · rw [if_neg d] at h
      obtain ⟨u1, u2, u3, e, h⟩ := xz_d3 h
      have q := k_refuse (by decide) e
      cases q
      cases h
      exact Or.inr (Or.inl ⟨by omega, by omega, rfl, rfl, rfl⟩)
  · rw [if_neg c2] at h
    exact Or.inr (Or.inr ⟨by omega, no h⟩)
