/-! what tier 3 keeps: stones, status, refusals, gravel, rain -/
def SIM3 (σ : Nat → Int) (τ : Nat → Nat → Int) : Prop := CREL (σ 49) (τ 63) (τ 64) (fun c => (τ 4) (9 + c)) (fun j => (τ 4) (21 + j)) ∧ (τ 6 0 ≠ 0 → CREL (σ 62) (τ 85) (τ 86) (fun c => (fun j => τ 5 (5580 * 0 + j)) (9 + c)) (fun j => (fun j => τ 5 (5580 * 0 + j)) (21 + j))) ∧ (τ 6 1 ≠ 0 → CREL (σ 63) (τ 87) (τ 88) (fun c => (fun j => τ 5 (5580 * 1 + j)) (9 + c)) (fun j => (fun j => τ 5 (5580 * 1 + j)) (21 + j))) ∧ σ 3 = σ 5 ∧ (∀ k, k < 7 → τ 2 k = τ 3 k) ∧ σ 2 = σ 6 ∧ RREL (σ 61) (σ 25) (τ 83) (τ 84) (τ 33)
def XX3 (σ : Nat → Int) (τ : Nat → Nat → Int) : Prop := (RI (τ 4)) ∧ (zR (τ 16) 0 10) ∧ (zR (τ 17) 0 30) ∧ (0 ≤ σ 0 ∧ σ 0 ≤ 400) ∧ (σ 0 = σ 7) ∧ (zR (τ 1) 0 255) ∧ (0 ≤ σ 49 ∧ σ 49 ≤ 12) ∧ (σ 49 = τ 4 0) ∧ (0 ≤ σ 26 ∧ σ 26 ≤ 6) ∧ (σ 26 = τ 4 1) ∧ (0 ≤ σ 27 ∧ σ 27 ≤ 6) ∧ (σ 27 = τ 4 2) ∧ (0 ≤ σ 28 ∧ σ 28 ≤ 6) ∧ (-1 ≤ σ 29 ∧ σ 29 ≤ 5) ∧ (zR (τ 63) 0 10) ∧ (zR (τ 64) 0 30) ∧ (zR (τ 34) 0 60) ∧ (zR (τ 35) 0 1) ∧ (zR (τ 37) 0 11) ∧ (zR (τ 38) 0 99) ∧ (RV 3 153 (σ 26) (τ 34) (τ 4)) ∧ (RV 3 154 (σ 26) (τ 35) (τ 4)) ∧ (RV 3 155 (σ 26) (τ 36) (τ 4)) ∧ (RV 1 171 (σ 27) (τ 37) (τ 4)) ∧ (RV 1 5 4 (τ 38) (τ 4)) ∧ (RV 1 141 (σ 49) (τ 39) (τ 4)) ∧ (zIM (τ 6) (τ 5)) ∧ (zR (τ 6) 0 1) ∧ (zR (τ 0) 0 1) ∧ (τ 0 0 = τ 6 0 ∧ τ 0 1 = τ 6 1) ∧ (0 ≤ σ 62 ∧ σ 62 ≤ 12) ∧ (0 ≤ σ 63 ∧ σ 63 ≤ 12) ∧ (zR (τ 85) 0 10) ∧ (zR (τ 87) 0 10) ∧ (0 ≤ σ 61 ∧ σ 61 ≤ 12) ∧ (zR (τ 83) 0 10)
set_option maxHeartbeats 4000000 in
set_option maxRecDepth 10000 in
theorem INV_XX3 {N : Int} {σ : Nat → Int} {τ : Nat → Nat → Int} (h : INV N σ τ) : XX3 σ τ := by
  obtain ⟨I_s0, I_s1, I_s3, I_s26, I_s27, I_s28, I_s29, I_s31, I_s32, I_s33, I_s34, I_s35, I_s36, I_s37, I_s38, I_s39, I_s41, I_s42, I_s46, I_s47, I_s48, I_s49, I_s50, I_s51, I_s52, I_s53, I_s54, I_s55, I_s56, I_s57, I_s58, I_s59, I_s60, I_s61, I_s62, I_s63, I_s65, I_s66, I_s68, I_s69, I_s71, I_s72, I_s30, I_t0, I_t1, I_t34, I_t35, I_t36, I_t37, I_t38, I_t39, I_t40, I_t41, I_t42, I_t43, I_t44, I_t46, I_t48, I_t49, I_t50, I_t52, I_t53, I_t54, I_t55, I_t56, I_t57, I_t58, I_t59, I_t60, I_t61, I_t63, I_t64, I_t65, I_t66, I_t67, I_t68, I_t69, I_t70, I_t71, I_t72, I_t73, I_t74, I_t75, I_t76, I_t77, I_t78, I_t79, I_t80, I_t81, I_t82, I_t83, I_t84, I_t85, I_t86, I_t87, I_t88, I_t89, I_t90, I_t91, I_t4, I_s7, I_s25, I_t7, I_t6, I_t16, I_t17, I_t28, I_t30, I_t31, I_t32, I_t18, I_t23, I_im, R_many, R_ch, R_pa, R_st, R_ex, R_tr, R_pl, R_te, R_go, R_tp, R_kp, R_i0, R_i1⟩ := h
  exact ⟨I_t4, I_t16, I_t17, I_s0, R_tp, I_t1, I_s49, R_many, I_s26, R_ch, I_s27, R_pa, I_s28, I_s29, I_t63, I_t64, I_t34, I_t35, I_t37, I_t38, R_st, R_ex, R_tr, R_pl, R_te, R_go, I_im, I_t6, I_t0, R_kp, I_s62, I_s63, I_t85, I_t87, I_s61, I_t83⟩
theorem RV1 {b : Nat} {n : Int} {a r : Nat → Int} (h : RV 1 b n a r) : ∀ c : Nat, (c : Int) < n → a c = r (b + c) := fun c hc => by
  have := h c hc
  rw [Nat.one_mul] at this
  exact this
theorem x3_te {te row : Nat → Int} (h : RV 1 5 4 te row) : ∀ k, k < 4 → te k = row (5 + k) := fun k hk => RV1 h k (by omega)
theorem x3_J {ch la fo : Int} {st ex te ord od row : Nat → Int} (hR : RI row) (h1 : 0 ≤ ch ∧ ch ≤ 6) (h2 : ch = row 1) (h3 : RV 3 153 ch st row) (h4 : RV 3 154 ch ex row) (h5 : zR st 0 60) (h6 : zR ex 0 1) (h7 : RV 1 5 4 te row) (h8 : zR te 0 99) (h9 : 0 ≤ la ∧ la ≤ 6) (h10 : -1 ≤ fo ∧ fo ≤ 5) (hH : HILL2 la fo ord od row) : JREL ch la fo st ex te ord od row :=
  ⟨⟨h1.1, h1.2, h2⟩, fun c hc => ⟨h3 c hc, h4 c hc⟩, h5, h6, ⟨x3_te h7 0 (by decide), (h8 0).1, (h8 0).2⟩, ⟨hH.2.1, h10.1, by have := RI_4 hR; have := hH.1; have := hH.2.1; omega, h9.2⟩, hH.2.2⟩
theorem x3_P {pa : Int} {pl te row : Nat → Int} (hR : RI row) (h1 : 0 ≤ pa ∧ pa ≤ 6) (h2 : pa = row 2) (h3 : RV 1 171 pa pl row) (h4 : zR pl 0 11) (h7 : RV 1 5 4 te row) : PREL pa pl te row :=
  ⟨⟨h1.1, h1.2, h2⟩, RV1 h3, h4, by have e : te 1 = row 6 := x3_te h7 1 (by decide); have := RI_6 hR; exact ⟨e, by omega, by omega⟩⟩
theorem x3_t2 {te row : Nat → Int} (hR : RI row) (h7 : RV 1 5 4 te row) : te 2 = row 7 ∧ 1 ≤ te 2 ∧ te 2 ≤ 99 := by
  have e : te 2 = row 7 := x3_te h7 2 (by decide)
  have := RI_7 hR
  exact ⟨e, by omega, by omega⟩
theorem x3_t3 {te row : Nat → Int} (hR : RI row) (h7 : RV 1 5 4 te row) : te 3 = row 8 ∧ 0 ≤ te 3 ∧ te 3 ≤ 99 := by
  have e : te 3 = row 8 := x3_te h7 3 (by decide)
  have := RI_8 hR
  exact ⟨e, by omega, by omega⟩
theorem SR_tell {x st : Int} {f g : Nat → Int} {u : Int × Int × (Nat → Int)} {w1 w2 : Int} {w3 : Nat → Int} (hx : -7 < x ∧ x < 0) (hu : u = (x, x, zu f (-x).toNat (f (-x).toNat + 1))) (e2 : f_HM_tell x st g = some (w1, w2, w3)) : u.2.1 = w2 ∧ ((∀ k, k < 7 → f k = g k) → ∀ k, k < 7 → u.2.2 k = w3 k) := by
  rcases x_tell (by omega) e2 with ⟨k2, _⟩ | ⟨_, k2⟩
  · omega
  · cases k2
    rw [hu]
    exact ⟨rfl, fun h => zu_agr h⟩
theorem SR_tell0 {st : Int} {f g : Nat → Int} {w1 w2 : Int} {w3 : Nat → Int} (e2 : f_HM_tell 0 st g = some (w1, w2, w3)) : 0 = w2 ∧ ((∀ k, k < 7 → f k = g k) → ∀ k, k < 7 → f k = w3 k) := by
  rcases x_tell (by decide) e2 with ⟨_, k2⟩ | ⟨k2, _⟩
  · cases k2
    exact ⟨rfl, fun h => h⟩
  · omega
theorem tell_a {x st w1 w2 : Int} {g w3 : Nat → Int} (hx : -7 < x ∧ x ≤ 100000) (e2 : f_HM_tell x st g = some (w1, w2, w3)) : w1 = x := by
  rcases x_tell hx e2 with ⟨_, k2⟩ | ⟨_, k2⟩ <;> cases k2 <;> rfl
set_option maxHeartbeats 4000000 in
theorem k_image3 {a1 : Int} {s26 : Int} {s27 : Int} {s28 : Int} {s29 : Int} {s49 : Int} {t34 : Nat → Int} {t35 : Nat → Int} {t36 : Nat → Int} {t37 : Nat → Int} {t38 : Nat → Int} {t39 : Nat → Int} {t40 : Nat → Int} {t41 : Nat → Int} {t63 : Nat → Int} {t64 : Nat → Int} {s3 : Int} {s30 : Int} {t0 : Nat → Int} {t2 : Nat → Int} {s50 : Int} {s51 : Int} {s52 : Int} {s53 : Int} {s55 : Int} {s56 : Int} {s57 : Int} {s58 : Int} {s62 : Int} {t65 : Nat → Int} {t66 : Nat → Int} {t67 : Nat → Int} {t68 : Nat → Int} {t69 : Nat → Int} {t70 : Nat → Int} {t71 : Nat → Int} {t72 : Nat → Int} {s63 : Int} {t73 : Nat → Int} {t74 : Nat → Int} {t75 : Nat → Int} {t76 : Nat → Int} {t77 : Nat → Int} {t78 : Nat → Int} {t79 : Nat → Int} {t80 : Nat → Int} {t85 : Nat → Int} {t86 : Nat → Int} {t87 : Nat → Int} {t88 : Nat → Int} {x_ans : Int} {n_s3 : Int} {n_s30 : Int} {n_t0 : Nat → Int} {n_t2 : Nat → Int} {n_s50 : Int} {n_s51 : Int} {n_s52 : Int} {n_s53 : Int} {n_s55 : Int} {n_s56 : Int} {n_s57 : Int} {n_s58 : Int} {n_s62 : Int} {n_t65 : Nat → Int} {n_t66 : Nat → Int} {n_t67 : Nat → Int} {n_t68 : Nat → Int} {n_t69 : Nat → Int} {n_t70 : Nat → Int} {n_t71 : Nat → Int} {n_t72 : Nat → Int} {n_s63 : Int} {n_t73 : Nat → Int} {n_t74 : Nat → Int} {n_t75 : Nat → Int} {n_t76 : Nat → Int} {n_t77 : Nat → Int} {n_t78 : Nat → Int} {n_t79 : Nat → Int} {n_t80 : Nat → Int} {n_t85 : Nat → Int} {n_t86 : Nat → Int} {n_t87 : Nat → Int} {n_t88 : Nat → Int} (b1 : -2147483648 ≤ a1 ∧ a1 ≤ 2147483647) (h : f_HS_image a1 s26 s27 s28 s29 s49 t34 t35 t36 t37 t38 t39 t40 t41 t63 t64 s3 s30 t0 t2 s50 s51 s52 s53 s55 s56 s57 s58 s62 t65 t66 t67 t68 t69 t70 t71 t72 s63 t73 t74 t75 t76 t77 t78 t79 t80 t85 t86 t87 t88 = some (x_ans, n_s3, n_s30, n_t0, n_t2, n_s50, n_s51, n_s52, n_s53, n_s55, n_s56, n_s57, n_s58, n_s62, n_t65, n_t66, n_t67, n_t68, n_t69, n_t70, n_t71, n_t72, n_s63, n_t73, n_t74, n_t75, n_t76, n_t77, n_t78, n_t79, n_t80, n_t85, n_t86, n_t87, n_t88)) : ((0 ≤ a1 ∧ a1 ≤ 1) ∧ x_ans = 0 ∧ n_s3 = 0 ∧ n_t2 = t2) ∨ (¬ (0 ≤ a1 ∧ a1 ≤ 1) ∧ x_ans = -1 ∧ n_s3 = -1 ∧ n_t2 = zu t2 1 (t2 1 + 1)) := by
  have no : f_HS_image_9 s26 s27 s28 s29 s49 t34 t35 t36 t37 t38 t39 t40 t41 t63 t64 s3 s30 t0 t2 s50 s51 s52 s53 s55 s56 s57 s58 s62 t65 t66 t67 t68 t69 t70 t71 t72 s63 t73 t74 t75 t76 t77 t78 t79 t80 t85 t86 t87 t88 = some (x_ans, n_s3, n_s30, n_t0, n_t2, n_s50, n_s51, n_s52, n_s53, n_s55, n_s56, n_s57, n_s58, n_s62, n_t65, n_t66, n_t67, n_t68, n_t69, n_t70, n_t71, n_t72, n_s63, n_t73, n_t74, n_t75, n_t76, n_t77, n_t78, n_t79, n_t80, n_t85, n_t86, n_t87, n_t88) → x_ans = -1 ∧ n_s3 = -1 ∧ n_t2 = zu t2 1 (t2 1 + 1) := fun h => by
    unfold f_HS_image_9 at h
    obtain ⟨u1, u2, u3, e, h⟩ := xz_d3 h
    have q := k_refuse (by decide) e
    cases q
    cases h
    exact ⟨rfl, rfl, rfl⟩
  unfold f_HS_image at h
  rw [zwi b1, zwi (x := 2) (by decide)] at h
  by_cases c1 : a1 < 0
  · rw [if_pos c1] at h
    exact Or.inr ⟨by omega, no h⟩
  rw [if_neg c1] at h
  by_cases c2 : a1 < 2
  · rw [if_pos c2] at h
    by_cases c3 : a1 = 0
    · rw [if_pos c3] at h
      obtain ⟨v1, v2, v3, v4, v5, d1, d2, d3, d4, d5, d6, d7, d8, d9, d10, e, h⟩ := xz_d15 h
      unfold f_HS_image_28 at h
      replace h := (xp_s (xp_f (by decide +kernel) h)).2
      obtain ⟨u1, u2, u3, e2, h⟩ := xz_d3 h
      have q := k_accept e2
      cases q
      cases h
      exact Or.inl ⟨by omega, rfl, rfl, rfl⟩
    · have c4 : a1 = 1 := by omega
      rw [if_neg c3, if_pos c4] at h
      obtain ⟨v1, v2, v3, v4, v5, d1, d2, d3, d4, d5, d6, d7, d8, d9, d10, e, h⟩ := xz_d15 h
      unfold f_HS_image_28 at h
      replace h := (xp_s (xp_f (by decide +kernel) h)).2
      obtain ⟨u1, u2, u3, e2, h⟩ := xz_d3 h
      have q := k_accept e2
      cases q
      cases h
      exact Or.inl ⟨by omega, rfl, rfl, rfl⟩
  · rw [if_neg c2] at h
    exact Or.inr ⟨by omega, no h⟩
set_option maxHeartbeats 4000000 in
theorem k_back3 {a1 : Int} {t0 : Nat → Int} {s50 : Int} {s51 : Int} {s52 : Int} {s53 : Int} {s55 : Int} {s56 : Int} {s57 : Int} {s58 : Int} {s62 : Int} {t65 : Nat → Int} {t66 : Nat → Int} {t67 : Nat → Int} {t68 : Nat → Int} {t69 : Nat → Int} {t70 : Nat → Int} {t71 : Nat → Int} {t72 : Nat → Int} {s63 : Int} {t73 : Nat → Int} {t74 : Nat → Int} {t75 : Nat → Int} {t76 : Nat → Int} {t77 : Nat → Int} {t78 : Nat → Int} {t79 : Nat → Int} {t80 : Nat → Int} {t85 : Nat → Int} {t86 : Nat → Int} {t87 : Nat → Int} {t88 : Nat → Int} {s3 : Int} {s26 : Int} {s27 : Int} {s28 : Int} {s29 : Int} {s30 : Int} {t2 : Nat → Int} {s49 : Int} {t34 : Nat → Int} {t35 : Nat → Int} {t36 : Nat → Int} {t37 : Nat → Int} {t38 : Nat → Int} {t39 : Nat → Int} {t40 : Nat → Int} {t41 : Nat → Int} {t63 : Nat → Int} {t64 : Nat → Int} {x_ans : Int} {n_s3 : Int} {n_s26 : Int} {n_s27 : Int} {n_s28 : Int} {n_s29 : Int} {n_s30 : Int} {n_t2 : Nat → Int} {n_s49 : Int} {n_t34 : Nat → Int} {n_t35 : Nat → Int} {n_t36 : Nat → Int} {n_t37 : Nat → Int} {n_t38 : Nat → Int} {n_t39 : Nat → Int} {n_t40 : Nat → Int} {n_t41 : Nat → Int} {n_t63 : Nat → Int} {n_t64 : Nat → Int} (b1 : -2147483648 ≤ a1 ∧ a1 ≤ 2147483647) (hk : zR t0 0 1) (h : f_HS_back a1 t0 s50 s51 s52 s53 s55 s56 s57 s58 s62 t65 t66 t67 t68 t69 t70 t71 t72 s63 t73 t74 t75 t76 t77 t78 t79 t80 t85 t86 t87 t88 s3 s26 s27 s28 s29 s30 t2 s49 t34 t35 t36 t37 t38 t39 t40 t41 t63 t64 = some (x_ans, n_s3, n_s26, n_s27, n_s28, n_s29, n_s30, n_t2, n_s49, n_t34, n_t35, n_t36, n_t37, n_t38, n_t39, n_t40, n_t41, n_t63, n_t64)) : ((0 ≤ a1 ∧ a1 ≤ 1) ∧ t0 a1.toNat ≠ 0 ∧ x_ans = 0 ∧ n_s3 = 0 ∧ n_t2 = t2) ∨ ((0 ≤ a1 ∧ a1 ≤ 1) ∧ t0 a1.toNat = 0 ∧ x_ans = -2 ∧ n_s3 = -2 ∧ n_t2 = zu t2 2 (t2 2 + 1)) ∨ (¬ (0 ≤ a1 ∧ a1 ≤ 1) ∧ x_ans = -1 ∧ n_s3 = -1 ∧ n_t2 = zu t2 1 (t2 1 + 1)) := by
  have no : f_HS_back_9 t0 s50 s51 s52 s53 s55 s56 s57 s58 s62 t65 t66 t67 t68 t69 t70 t71 t72 s63 t73 t74 t75 t76 t77 t78 t79 t80 t85 t86 t87 t88 s3 s26 s27 s28 s29 s30 t2 s49 t34 t35 t36 t37 t38 t39 t40 t41 t63 t64 = some (x_ans, n_s3, n_s26, n_s27, n_s28, n_s29, n_s30, n_t2, n_s49, n_t34, n_t35, n_t36, n_t37, n_t38, n_t39, n_t40, n_t41, n_t63, n_t64) → x_ans = -1 ∧ n_s3 = -1 ∧ n_t2 = zu t2 1 (t2 1 + 1) := fun h => by
    unfold f_HS_back_9 at h
    obtain ⟨u1, u2, u3, e, h⟩ := xz_d3 h
    have q := k_refuse (by decide) e
    cases q
    cases h
    exact ⟨rfl, rfl, rfl⟩
  unfold f_HS_back at h
  rw [zwi b1, zwi (x := 2) (by decide)] at h
  by_cases c1 : a1 < 0
  · rw [if_pos c1] at h
    exact Or.inr (Or.inr ⟨by omega, no h⟩)
  rw [if_neg c1] at h
  by_cases c2 : a1 < 2
  · rw [if_pos c2] at h
    replace h := (xp_g h).2
    have bk := hk a1.toNat
    rw [zwi b1, zwi (x := t0 a1.toNat) (by omega)] at h
    by_cases d : t0 a1.toNat ≠ 0
    · rw [if_pos d] at h
      by_cases c3 : a1 = 0
      · rw [if_pos c3] at h
        obtain ⟨v1, v2, v3, v4, v5, d1, d2, d3, d4, d5, d6, d7, d8, d9, d10, e, h⟩ := xz_d15 h
        unfold f_HS_back_44 at h
        obtain ⟨u1, u2, u3, e2, h⟩ := xz_d3 h
        have ka := k_accept e2
        cases ka
        cases h
        exact Or.inl ⟨by omega, d, rfl, rfl, rfl⟩
      · have c4 : a1 = 1 := by omega
        rw [if_neg c3, if_pos c4] at h
        obtain ⟨v1, v2, v3, v4, v5, d1, d2, d3, d4, d5, d6, d7, d8, d9, d10, e, h⟩ := xz_d15 h
        unfold f_HS_back_44 at h
        obtain ⟨u1, u2, u3, e2, h⟩ := xz_d3 h
        have ka := k_accept e2
        cases ka
        cases h
        exact Or.inl ⟨by omega, d, rfl, rfl, rfl⟩
    · rw [if_neg d] at h
      obtain ⟨u1, u2, u3, e, h⟩ := xz_d3 h
      have q := k_refuse (by decide) e
      cases q
      cases h
      exact Or.inr (Or.inl ⟨by omega, by omega, rfl, rfl, rfl⟩)
  · rw [if_neg c2] at h
    exact Or.inr (Or.inr ⟨by omega, no h⟩)
