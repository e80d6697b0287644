section
/-! what both have of a hill -/
noncomputable def HILL (la fo many : Int) (ord od hts wts row : Nat → Int) : Prop := HILL2 la fo ord od row ∧ CREL many hts wts (fun c => row (9 + c)) (fun j => row (21 + j))
theorem HILL_f {la fo many : Int} {ord od hts wts row row' : Nat → Int} (h : HILL la fo many ord od hts wts row) (hm : many ≤ 12) (hh : zR hts 0 10) (f : FRM3 row row') : HILL la fo many ord od hts wts row' :=
  ⟨HILL2_f h.1 (FRM_3 f), fun c hc => (f _ (by omega)).trans (h.2.1 c hc), fun c i hc hi => (f _ (by have := hh c; omega)).trans (h.2.2 c i hc hi)⟩
theorem CREL_c {many : Int} {hts wts hts' wts' H W H' W' : Nat → Int} (hm : many ≤ 12) (hh : zR hts 0 10) (h : CREL many hts wts H W) (h1 : ∀ j, j < 12 → hts' j = hts j) (h2 : ∀ j, j < 120 → wts' j = wts j) (h3 : ∀ j, j < 12 → H' j = H j) (h4 : ∀ j, j < 120 → W' j = W j) : CREL many hts' wts' H' W' := by
  refine ⟨fun c hc => by rw [h1 c (by omega), h3 c (by omega)]; exact h.1 c hc, fun c i hc hi => ?_⟩
  rw [h1 c (by omega)] at hi
  have := hh c
  rw [h2 _ (by omega), h4 _ (by omega)]
  exact h.2 c i hc hi
/-- answers, status, refusals -/
noncomputable def SR (a b sa sb : Int) (f g f' g' : Nat → Int) : Prop := a = b ∧ sa = sb ∧ ((∀ k, k < 7 → f k = g k) → ∀ k, k < 7 → f' k = g' k)
theorem SR_ref {x st st' : Int} {f g : Nat → Int} {u w : Int × Int × (Nat → Int)} (hx : -7 < x ∧ x < 0) (e1 : f_HS_refuse x st f = some u) (e2 : f_HM_tell x st' g = some w) : SR u.1 w.1 u.2.1 w.2.1 f g u.2.2 w.2.2 := by
  have k1 := k_refuse hx e1
  rcases x_tell (by omega) e2 with ⟨k2, _⟩ | ⟨_, k2⟩
  · omega
  · rw [k1, k2]
    exact ⟨rfl, rfl, fun h => zu_agr h⟩
theorem SR_acc {x x' st st' ch : Int} {f g : Nat → Int} {u : Int × Int × Int} {w : Int × Int × (Nat → Int)} (hx : 0 ≤ x ∧ x ≤ 100000) (ex : x' = x) (e1 : f_HS_accept x st ch = some u) (e2 : f_HM_tell x' st' g = some w) : SR u.1 w.1 u.2.1 w.2.1 f g f w.2.2 := by
  subst ex
  have k1 := k_accept e1
  rcases x_tell (by omega) e2 with ⟨_, k2⟩ | ⟨k2, _⟩
  · rw [k1, k2]
    exact ⟨rfl, rfl, fun h => h⟩
  · omega
theorem x_column {many s3 s30 s4 s5 la fo : Int} {t2 t3 go hts wts ord od row : Nat → Int} {v : Int × Int × Int × (Nat → Int) × Int × (Nat → Int) × (Nat → Int)} {w : Int × Int × Int × (Nat → Int) × (Nat → Int)} (hm : 0 ≤ many ∧ many ≤ 12) (em : many = row 0) (hh : zR hts 0 10) (hH : HILL la fo many ord od hts wts row) (h : f_HS_column s3 s30 t2 many go hts = some v) (g : f_HM_column s4 s5 t3 row = some w) : SR v.1 w.1 v.2.1 w.2.2.1 t2 t3 v.2.2.2.1 w.2.2.2.1 ∧ HILL la fo v.2.2.2.2.1 ord od v.2.2.2.2.2.2 wts w.2.2.2.2 := by
  have fr := fr_column (by omega) g
  obtain ⟨M, eM⟩ : ∃ M : Nat, many = (M : Int) := ⟨many.toNat, by omega⟩
  subst eM
  unfold f_HS_column at h
  unfold f_HM_column at g
  obtain ⟨c1, e2, g⟩ := xz_d1 g
  have g2 := r_columns e2
  subst g2
  obtain ⟨v1, v2, a3, e1, h⟩ := xz_d3 h
  unfold f_Columns_grow at e1
  rw [← em, zwi (x := (M : Int)) (by omega), zwi (x := 12) (by decide)] at g
  rw [zwi (x := (M : Int)) (by omega), zwi (x := 12) (by decide)] at e1
  by_cases c : (M : Int) < 12
  · rw [if_pos c] at e1
    replace e1 := xp_n (xp_s e1).2
    rw [zwi (x := (M : Int)) (by omega), Int.toNat_natCast] at e1
    cases e1
    replace h := (xp_s (xp_n (xp_t (by decide +kernel) h))).2
    obtain ⟨u1, u2, u3, e3, h⟩ := xz_d3 h
    rw [if_pos (by omega)] at g
    replace g := (xp_s (xp_n g)).2
    replace g := (xp_s (xp_n g)).2
    replace g := xp_n (xp_g g).2
    replace g := (xp_s g).2
    obtain ⟨b1, b2, b3, e4, g⟩ := xz_d3 g
    have z1 : (zi_w (9 + (M : Int))).toNat = 9 + M := by rw [zwi (by omega)]; omega
    have z2 : (zi_w (141 + (M : Int))).toNat = 141 + M := by rw [zwi (by omega)]; omega
    have z3 : (zi_w 0).toNat = 0 := rfl
    rw [z1, z2, z3] at g
    have sr := SR_acc (f := t2) (by omega) (show (M : Int) = (M : Int) + 1 - 1 by omega) e3 e4
    cases h
    cases g
    refine ⟨sr, HILL2_f hH.1 fr, fun k hk => ?_, fun k i hk hi => ?_⟩
    · replace hk : (k : Int) < (M : Int) + 1 := hk
      show zu (zu (zu row (9 + M) 0) (141 + M) (-1)) 0 _ (9 + k) = zu hts M 0 k
      rw [zu_ne _ _ (by omega), zu_ne _ _ (by omega)]
      by_cases e : k = M
      · subst e; rw [zu_eq, zu_eq]
      · rw [zu_ne _ _ (by omega), zu_ne _ _ e]; exact hH.2.1 k (by omega)
    · show zu (zu (zu row (9 + M) 0) (141 + M) (-1)) 0 _ (21 + (10 * k + i)) = wts (10 * k + i)
      replace hk : (k : Int) < (M : Int) + 1 := hk
      replace hi : (i : Int) < zu hts M 0 k := hi
      by_cases e : k = M
      · subst e; rw [zu_eq] at hi; omega
      · rw [zu_ne _ _ e] at hi
        have := hh k
        rw [zu_ne _ _ (by omega), zu_ne _ _ (by omega), zu_ne _ _ (by omega)]
        exact hH.2.2 k i (by omega) hi
  · rw [if_neg c] at e1
    cases e1
    replace h := xp_f (by decide +kernel) h
    obtain ⟨u1, u2, u3, e3, h⟩ := xz_d3 h
    rw [if_neg (by omega)] at g
    obtain ⟨b1, b2, b3, e4, g⟩ := xz_d3 g
    have sr := SR_ref (by decide) e3 e4
    cases h
    cases g
    exact ⟨sr, hH⟩
theorem x_isWeight {a v : Int} (b : -2147483648 ≤ a ∧ a ≤ 2147483647) (h : f_HM_isWeight a = some v) : (v = 1 ∧ 1 ≤ a ∧ a ≤ 30) ∨ (v = 0 ∧ (a < 1 ∨ 30 < a)) := by
  unfold f_HM_isWeight at h
  obtain ⟨v1, e1, h⟩ := xz_d1 (xp_n h)
  rw [zwi b] at e1
  have g := x_in (by omega) (by decide) (by decide) e1
  by_cases c : 1 ≤ a ∧ a ≤ 30
  · rw [if_pos c] at g; subst g
    exact Or.inl ⟨x_bool (Or.inr rfl) h, c⟩
  · rw [if_neg c] at g; subst g
    exact Or.inr ⟨x_bool (Or.inl rfl) h, by omega⟩
/-- a stone more on both -/
theorem CREL_put {many x : Int} {hts wts H W : Nat → Int} (hh : zR hts 0 10) (h : CREL many hts wts H W) {c : Nat} (hc : (c : Int) < many) (h10 : hts c < 10) : CREL many (zu hts c (hts c + 1)) (zu wts (10 * c + (hts c).toNat) x) (zu H c (H c + 1)) (zu W (10 * c + (H c).toNat) x) := by
  have ec := h.1 c hc
  rw [ec]
  refine ⟨fun k hk => ?_, fun k i hk hi => ?_⟩
  · by_cases e : k = c
    · subst e; rw [zu_eq, zu_eq]
    · rw [zu_ne _ _ e, zu_ne _ _ e]; exact h.1 k hk
  · have bk := hh k
    have bc := hh c
    by_cases e : k = c
    · subst e
      rw [zu_eq] at hi
      by_cases e3 : (i : Int) = hts k
      · rw [show 10 * k + i = 10 * k + (hts k).toNat from by omega, zu_eq, zu_eq]
      · rw [zu_ne _ _ (by omega), zu_ne _ _ (by omega)]; exact h.2 k i hk (by omega)
    · rw [zu_ne _ _ e] at hi
      rw [zu_ne _ _ (by omega), zu_ne _ _ (by omega)]; exact h.2 k i hk hi
theorem HILL_put {la fo many x : Int} {ord od hts wts row : Nat → Int} (hm : many ≤ 12) (hh : zR hts 0 10) (h : HILL la fo many ord od hts wts row) {c : Nat} (hc : (c : Int) < many) (h10 : hts c < 10) : HILL la fo many ord od (zu hts c (hts c + 1)) (zu wts (10 * c + (hts c).toNat) x) (zu (zu row (21 + (10 * c + (hts c).toNat)) x) (9 + c) (hts c + 1)) := by
  have bc := hh c
  have ec : row (9 + c) = hts c := h.2.1 c hc
  have q := CREL_put (x := x) hh h.2 hc h10
  refine ⟨HILL2_f h.1 (FRM_u (FRM_u FRM_0 (by omega)) (by omega)), fun k hk => ?_, fun k i hk hi => ?_⟩
  · rw [← q.1 k hk]
    show zu (zu row (21 + (10 * c + (hts c).toNat)) x) (9 + c) (hts c + 1) (9 + k) = zu (fun c => row (9 + c)) c (row (9 + c) + 1) k
    by_cases e : k = c
    · subst e; rw [zu_eq, zu_eq, ec]
    · rw [zu_ne _ _ (by omega), zu_ne _ _ (by omega), zu_ne _ _ e]
  · rw [← q.2 k i hk hi]
    have bk := hh k
    have hi10 : i < 10 := by
      by_cases e : k = c
      · subst e; rw [zu_eq] at hi; omega
      · rw [zu_ne _ _ e] at hi; omega
    show zu (zu row (21 + (10 * c + (hts c).toNat)) x) (9 + c) (hts c + 1) (21 + (10 * k + i)) = zu (fun j => row (21 + j)) (10 * c + (row (9 + c)).toNat) x (10 * k + i)
    rw [zu_ne _ _ (by omega), ec]
    by_cases e : 10 * k + i = 10 * c + (hts c).toNat
    · rw [e, zu_eq, zu_eq]
    · rw [zu_ne _ _ (by omega), zu_ne _ _ e]
theorem x_stone {a1 a2 many s3 s30 s4 s5 la fo : Int} {t2 t3 hts wts ord od row : Nat → Int} {v : Int × Int × Int × (Nat → Int) × (Nat → Int) × (Nat → Int)} {w : Int × Int × Int × (Nat → Int) × (Nat → Int)} (b1 : -2147483648 ≤ a1 ∧ a1 ≤ 2147483647) (b2 : -2147483648 ≤ a2 ∧ a2 ≤ 2147483647) (hm : 0 ≤ many ∧ many ≤ 12) (em : many = row 0) (hh : zR hts 0 10) (hH : HILL la fo many ord od hts wts row) (h : f_HS_stone a1 a2 many s3 s30 t2 hts wts = some v) (g : f_HM_stone a1 a2 s4 s5 t3 row = some w) : SR v.1 w.1 v.2.1 w.2.2.1 t2 t3 v.2.2.2.1 w.2.2.2.1 ∧ HILL la fo many ord od v.2.2.2.2.1 v.2.2.2.2.2 w.2.2.2.2 := by
  have n1 : f_HS_stone_11 many s3 s30 t2 hts wts = some v → (∃ x y z, f_HM_tell (-1) s5 t3 = some (x, y, z) ∧ w = (x, 0, y, z, row)) → SR v.1 w.1 v.2.1 w.2.2.1 t2 t3 v.2.2.2.1 w.2.2.2.1 ∧ HILL la fo many ord od v.2.2.2.2.1 v.2.2.2.2.2 w.2.2.2.2 := fun h ⟨x, y, z, e4, hw⟩ => by
    unfold f_HS_stone_11 at h
    obtain ⟨u1, u2, u3, e3, h⟩ := xz_d3 h
    have sr := SR_ref (by decide) e3 e4
    cases h
    subst hw
    exact ⟨sr, hH⟩
  unfold f_HS_stone at h
  unfold f_HM_stone at g
  obtain ⟨w1, e1, g⟩ := xz_d1 g
  rw [zwi b2, zwi (x := 1) (by decide), zwi (x := 30) (by decide)] at h
  rcases x_isWeight b2 e1 with ⟨q1, q2⟩ | ⟨q1, q2⟩ <;> subst q1
  · replace g := xp_t (by decide +kernel) g
    rw [if_neg (by omega), if_pos (by omega)] at h
    obtain ⟨w2, e2, g⟩ := xz_d1 g
    obtain ⟨u1, e3, h⟩ := xz_d1 h
    rcases r_isColumn b1 (by omega) e2 with ⟨q3, q4⟩ | ⟨q3, q4⟩ <;> subst q4
    · rcases k_has b1 hm e3 with ⟨_, q6⟩ | ⟨q5, _⟩
      · subst q6
        replace g := xp_t (by decide +kernel) g
        replace h := xp_t (by decide +kernel) h
        obtain ⟨C, eC⟩ : ∃ C : Nat, a1 = (C : Int) := ⟨a1.toNat, by omega⟩
        subst eC
        obtain ⟨u2, u3, u4, e4, h⟩ := xz_d3 h
        replace g := (xp_g (xp_n g)).2
        have z1 : (zi_w (9 + (C : Int))).toNat = 9 + C := by rw [zwi (by omega)]; omega
        have ec : row (9 + C) = hts C := hH.2.1 C (by omega)
        have bc := hh C
        rw [z1, ec, zwi (x := hts C) (by omega), zwi (x := 10) (by decide)] at g
        rcases k_put hm hh (by omega) e4 with ⟨q7, q8⟩ | ⟨q7, q8⟩ <;> cases q8
        · replace h := xp_t (by decide +kernel) h
          obtain ⟨u5, e5, h⟩ := xz_d1 h
          have q9 := k_high hm (by omega) e5
          subst q9
          obtain ⟨u6, u7, u8, e6, h⟩ := xz_d3 h
          rw [if_pos (by omega)] at g
          replace g := (xp_s (xp_n (xp_n (xp_n g)))).2
          replace g := xp_n (xp_g (xp_n g)).2
          replace g := xp_n (xp_s g).2
          obtain ⟨w3, w4, w5, e7, g⟩ := xz_d3 g
          have z2 : (zi_w (21 + 10 * (C : Int) + hts C)).toNat = 21 + (10 * C + (hts C).toNat) := by rw [zwi (by omega)]; omega
          rw [z1, z2, zu_ne _ _ (by omega), ec] at g
          have sr := SR_acc (f := t2) (by rw [zu_eq]; omega) (show hts C + 1 = zu hts C (hts C + 1) C by rw [zu_eq]) e6 e7
          have hp := HILL_put (x := a2) hm.2 hh hH (c := C) (by omega) q7
          cases h
          cases g
          exact ⟨sr, hp⟩
        · replace h := xp_f (by decide +kernel) h
          obtain ⟨u6, u7, u8, e6, h⟩ := xz_d3 h
          rw [if_neg (by omega)] at g
          obtain ⟨w3, w4, w5, e7, g⟩ := xz_d3 g
          have sr := SR_ref (by decide) e6 e7
          cases h
          cases g
          exact ⟨sr, hH⟩
      · omega
    · rcases k_has b1 hm e3 with ⟨q5, _⟩ | ⟨_, q6⟩
      · omega
      · subst q6
        replace g := xp_f (by decide +kernel) g
        replace h := xp_f (by decide +kernel) h
        obtain ⟨u6, u7, u8, e6, h⟩ := xz_d3 h
        obtain ⟨w3, w4, w5, e7, g⟩ := xz_d3 g
        have sr := SR_ref (by decide) e6 e7
        cases h
        cases g
        exact ⟨sr, hH⟩
  · replace g := xp_f (by decide +kernel) g
    obtain ⟨w3, w4, w5, e7, g⟩ := xz_d3 g
    have hw : w = (w3, 0, w4, w5, row) := by cases g; rfl
    by_cases c : a2 < 1
    · rw [if_pos c] at h
      exact n1 h ⟨_, _, _, e7, hw⟩
    · rw [if_neg c, if_neg (by omega)] at h
      exact n1 h ⟨_, _, _, e7, hw⟩
theorem x_lift {a1 many s3 s30 s4 s5 la fo : Int} {t2 t3 hts wts ord od row : Nat → Int} {v : Int × Int × Int × (Nat → Int) × (Nat → Int)} {w : Int × Int × Int × (Nat → Int) × (Nat → Int)} (b1 : -2147483648 ≤ a1 ∧ a1 ≤ 2147483647) (hm : 0 ≤ many ∧ many ≤ 12) (em : many = row 0) (hh : zR hts 0 10) (hw : zR wts 0 30) (hH : HILL la fo many ord od hts wts row) (h : f_HS_lift a1 many wts s3 s30 t2 hts = some v) (g : f_HM_lift a1 s4 s5 t3 row = some w) : SR v.1 w.1 v.2.1 w.2.2.1 t2 t3 v.2.2.2.1 w.2.2.2.1 ∧ HILL la fo many ord od v.2.2.2.2 wts w.2.2.2.2 := by
  unfold f_HS_lift at h
  unfold f_HM_lift at g
  obtain ⟨w2, e2, g⟩ := xz_d1 g
  obtain ⟨u1, e3, h⟩ := xz_d1 h
  rcases r_isColumn b1 (by omega) e2 with ⟨q3, q4⟩ | ⟨q3, q4⟩ <;> subst q4
  · rcases k_has b1 hm e3 with ⟨_, q6⟩ | ⟨q5, _⟩
    · subst q6
      replace g := xp_t (by decide +kernel) g
      replace h := xp_t (by decide +kernel) h
      obtain ⟨C, eC⟩ : ∃ C : Nat, a1 = (C : Int) := ⟨a1.toNat, by omega⟩
      subst eC
      obtain ⟨u2, e4, h⟩ := xz_d1 h
      have k1 := k_high hm (by omega) e4
      subst k1
      replace g := (xp_g (xp_n g)).2
      have z1 : (zi_w (9 + (C : Int))).toNat = 9 + C := by rw [zwi (by omega)]; omega
      have ec : row (9 + C) = hts C := hH.2.1 C (by omega)
      have bc := hh C
      rw [z1, ec, zwi (x := hts C) (by omega)] at g
      rw [zwi (x := hts C) (by omega)] at h
      by_cases c0 : hts C = 0
      · rw [if_neg (fun z => z c0)] at h g
        obtain ⟨u6, u7, u8, e6, h⟩ := xz_d3 h
        obtain ⟨w3, w4, w5, e7, g⟩ := xz_d3 g
        have sr := SR_ref (by decide) e6 e7
        cases h
        cases g
        exact ⟨sr, hH⟩
      · rw [if_pos c0] at h g
        obtain ⟨u3, u4, e5, h⟩ := xz_d2 h
        unfold f_Columns_take at e5
        obtain ⟨m1, e8, e5⟩ := xz_d1 e5
        have k2 := k_top hm hh (by omega) e8
        subst k2
        obtain ⟨m2, e9, e5⟩ := xz_d1 e5
        have k3 := k_high hm (by omega) e9
        subst k3
        rw [zwi (x := hts C) (by omega), if_neg (by omega)] at e5
        replace e5 := (xp_s (xp_n (xp_g e5).2)).2
        rw [zwi (x := (C : Int)) (by omega), Int.toNat_natCast] at e5
        cases e5
        obtain ⟨u6, u7, u8, e6, h⟩ := xz_d3 h
        replace g := xp_n (xp_g (xp_n g)).2
        replace g := (xp_g (xp_n (xp_n (xp_n (xp_n (xp_s g).2))))).2
        obtain ⟨w3, w4, w5, e7, g⟩ := xz_d3 g
        have z2 : (zi_w (21 + 10 * (C : Int) + hts C - 1)).toNat = 21 + (10 * C + (hts C - 1).toNat) := by rw [zwi (by omega)]; omega
        rw [z1, ec] at g
        rw [z1, z2, zu_ne _ _ (by omega)] at e7
        have ew : row (21 + (10 * C + (hts C - 1).toNat)) = wts (10 * C + (hts C - 1).toNat) := hH.2.2 C _ (by omega) (by omega)
        have bw := hw (10 * C + (hts C - 1).toNat)
        have et : TOPV hts wts C = wts (10 * C + (hts C - 1).toNat) := by unfold TOPV; rw [if_neg c0]
        have sr := SR_acc (f := t2) (by rw [et]; omega) (ew.trans et.symm) e6 e7
        cases h
        cases g
        refine ⟨sr, HILL2_f hH.1 (FRM_u FRM_0 (by omega)), fun k hk => ?_, fun k i hk hi => ?_⟩
        · show zu row (9 + C) (hts C - 1) (9 + k) = zu hts C (hts C - 1) k
          by_cases e : k = C
          · subst e; rw [zu_eq, zu_eq]
          · rw [zu_ne _ _ (by omega), zu_ne _ _ e]; exact hH.2.1 k hk
        · replace hi : (i : Int) < zu hts C (hts C - 1) k := hi
          have bk := hh k
          show zu row (9 + C) (hts C - 1) (21 + (10 * k + i)) = wts (10 * k + i)
          have hi2 : (i : Int) < hts k := by
            by_cases e : k = C
            · subst e; rw [zu_eq] at hi; omega
            · rw [zu_ne _ _ e] at hi; exact hi
          rw [zu_ne _ _ (by omega)]; exact hH.2.2 k i hk hi2
    · omega
  · rcases k_has b1 hm e3 with ⟨q5, _⟩ | ⟨_, q6⟩
    · omega
    · subst q6
      replace g := xp_f (by decide +kernel) g
      replace h := xp_f (by decide +kernel) h
      obtain ⟨u6, u7, u8, e6, h⟩ := xz_d3 h
      obtain ⟨w3, w4, w5, e7, g⟩ := xz_d3 g
      have sr := SR_ref (by decide) e6 e7
      cases h
      cases g
      exact ⟨sr, hH⟩
end
section
/-! a hill of which a carrying is asked -/
/-- what both have, for the judges: children, terms, laws -/
noncomputable def JREL (ch la fo : Int) (st ex te ord od row : Nat → Int) : Prop := (0 ≤ ch ∧ ch ≤ 6 ∧ ch = row 1) ∧ (∀ c : Nat, (c : Int) < ch → st c = row (153 + 3 * c) ∧ ex c = row (154 + 3 * c)) ∧ zR st 0 60 ∧ zR ex 0 1 ∧ (te 0 = row 5 ∧ 0 ≤ te 0 ∧ te 0 ≤ 99) ∧ (fo = row 4 ∧ -1 ≤ fo ∧ fo < la ∧ la ≤ 6) ∧ ∀ k : Nat, (k : Int) < la → LW2 ord od row k
theorem TOPV_r {h w : Nat → Int} (hw : zR w 0 30) (c : Nat) : 0 ≤ TOPV h w c ∧ TOPV h w c ≤ 30 := by
  unfold TOPV
  by_cases e : h c = 0
  · rw [if_pos e]; decide
  · rw [if_neg e]; exact hw _
/-- the class's judge over columns, the reference's over its heaps -/
theorem eff_eq {ch la fo many : Int} {st ex te ord od hts wts row : Nat → Int} {a b c pi ti ba lw br va su : Int} {H W wo pl set rest : Nat → Int} {u : Int × Int × Int × Int × (Nat → Int) × (Nat → Int)} {w : Int × Int × Int × Int × Int × (Nat → Int) × (Nat → Int)} (hJ : JREL ch la fo st ex te ord od row) (hm : 0 ≤ many ∧ many ≤ 12) (hh : zR hts 0 10) (hw : zR wts 0 30) (hC : CREL many hts wts H W) (ha : 0 ≤ a ∧ a < ch) (hb : 0 ≤ b ∧ b < many) (hc : 0 ≤ c ∧ c < many)
    (h : f_Judge_effortOn a b c many ch la fo hts wts st ex te ord od pi ti ba wo pl = some u) (g : f_HM_carrying a b c row H W lw br va su set rest = some w) : u.1 = w.1 := by
  obtain ⟨B, eB⟩ : ∃ B : Nat, b = (B : Int) := ⟨b.toNat, by omega⟩
  subst eB
  obtain ⟨C, eC⟩ : ∃ C : Nat, c = (C : Int) := ⟨c.toNat, by omega⟩
  subst eC
  obtain ⟨j1, j2, j3, j4, j5, j6, j7⟩ := hJ
  have bB := hh B
  have bC := hh C
  have tB := TOPV_r (h := hts) hw B
  unfold f_Judge_effortOn at h
  obtain ⟨v1, e1, h⟩ := xz_d1 h
  have q1 := k_top hm hh hb.2 e1
  subst q1
  obtain ⟨v2, e2, h⟩ := xz_d1 h
  have q2 := k_high hm hb.2 e2
  subst q2
  obtain ⟨v3, e3, h⟩ := xz_d1 h
  have q3 := k_high hm hc.2 e3
  subst q3
  obtain ⟨v4, v5, v6, v7, a8, a9, e4, h⟩ := xz_d6 h
  unfold f_HM_carrying at g
  obtain ⟨w1, d1, g⟩ := xz_d1 g
  have HB := hC.1 B hb.2
  have HC := hC.1 C hc.2
  have p1 := r_top (by omega) (by rw [HB]; exact bB) d1
  rw [CREL_top hC hb.2 bB.1] at p1
  subst p1
  replace g := (xp_g g).2
  replace g := (xp_g g).2
  rw [zwi (x := (B : Int)) (by omega), zwi (x := (C : Int)) (by omega), Int.toNat_natCast, Int.toNat_natCast, HB, HC] at g
  obtain ⟨w4, w5, w6, w7, w8, b9, b10, d4, g⟩ := xz_d7 g
  have ja := j2 a.toNat (by omega)
  have r := eff_tir (ch := ch) (la := la) (fo := fo) (by omega) ⟨ja.1, (j3 _).1, (j3 _).2⟩ ⟨ja.2, (j4 _).1, (j4 _).2⟩ j5 j6 (fun hf => j7 fo.toNat (by omega)) e4 d4
  cases h
  cases g
  exact r
theorem k_hasChild {a ch v : Int} (b : -2147483648 ≤ a ∧ a ≤ 2147483647) (hc : 0 ≤ ch ∧ ch ≤ 6) (h : f_Hill_hasChild a ch = some v) : ((0 ≤ a ∧ a < ch) ∧ v = 1) ∨ ((a < 0 ∨ ch ≤ a) ∧ v = 0) := by
  unfold f_Hill_hasChild at h
  rw [zwi b, zwi (x := ch) (by omega)] at h
  by_cases c : a < 0
  · rw [if_pos c] at h; cases h; exact Or.inr ⟨Or.inl c, rfl⟩
  · rw [if_neg c] at h
    by_cases d : ch ≤ a
    · rw [if_pos d] at h; cases h; exact Or.inr ⟨Or.inr d, rfl⟩
    · rw [if_neg d] at h; cases h; exact Or.inl ⟨by omega, rfl⟩
noncomputable def KN (a b c ch many : Int) : Prop := (0 ≤ a ∧ a < ch) ∧ (0 ≤ b ∧ b < many) ∧ (0 ≤ c ∧ c < many)
theorem k_knows {a b c ch many v : Int} (b1 : -2147483648 ≤ a ∧ a ≤ 2147483647) (b2 : -2147483648 ≤ b ∧ b ≤ 2147483647) (b3 : -2147483648 ≤ c ∧ c ≤ 2147483647) (hc : 0 ≤ ch ∧ ch ≤ 6) (hm : 0 ≤ many ∧ many ≤ 12) (h : f_HS_knows a b c ch many = some v) : (KN a b c ch many ∧ v = 1) ∨ (¬ KN a b c ch many ∧ v = 0) := by
  unfold f_HS_knows at h
  obtain ⟨v1, e1, h⟩ := xz_d1 h
  rcases k_hasChild b1 hc e1 with ⟨q1, q2⟩ | ⟨q1, q2⟩ <;> subst q2
  · obtain ⟨v2, e2, h⟩ := xz_d1 (xp_f (by decide +kernel) h)
    rcases k_has b2 hm e2 with ⟨q3, q4⟩ | ⟨q3, q4⟩ <;> subst q4
    · obtain ⟨v3, e3, h⟩ := xz_d1 (xp_f (by decide +kernel) h)
      rcases k_has b3 hm e3 with ⟨q5, q6⟩ | ⟨q5, q6⟩ <;> subst q6
      · replace h := xp_f (by decide +kernel) h
        cases h
        exact Or.inl ⟨⟨q1, q3, q5⟩, rfl⟩
      · replace h := xp_t (by decide +kernel) h
        cases h
        exact Or.inr ⟨fun z => by have := z.2.2; omega, rfl⟩
    · replace h := xp_t (by decide +kernel) h
      cases h
      exact Or.inr ⟨fun z => by have := z.2.1; omega, rfl⟩
  · replace h := xp_t (by decide +kernel) h
    cases h
    exact Or.inr ⟨fun z => by have := z.1; omega, rfl⟩
theorem r_are {a b c v : Int} {row : Nat → Int} (b1 : -2147483648 ≤ a ∧ a ≤ 2147483647) (b2 : -2147483648 ≤ b ∧ b ≤ 2147483647) (b3 : -2147483648 ≤ c ∧ c ≤ 2147483647) (hc : 0 ≤ row 1 ∧ row 1 ≤ 6) (hm : 0 ≤ row 0 ∧ row 0 ≤ 12) (h : f_HM_are a b c row = some v) : (KN a b c (row 1) (row 0) ∧ v = 1) ∨ (¬ KN a b c (row 1) (row 0) ∧ v = 0) := by
  unfold f_HM_are at h
  obtain ⟨v1, e1, h⟩ := xz_d1 h
  rcases r_isChild b1 hc e1 with ⟨q1, q2⟩ | ⟨q1, q2⟩ <;> subst q2
  · obtain ⟨v2, e2, h⟩ := xz_d1 (xp_f (by decide +kernel) h)
    rcases r_isColumn b2 hm e2 with ⟨q3, q4⟩ | ⟨q3, q4⟩ <;> subst q4
    · obtain ⟨v3, e3, h⟩ := xz_d1 (xp_f (by decide +kernel) h)
      rcases r_isColumn b3 hm e3 with ⟨q5, q6⟩ | ⟨q5, q6⟩ <;> subst q6
      · replace h := xp_f (by decide +kernel) h
        cases h
        exact Or.inl ⟨⟨q1, q3, q5⟩, rfl⟩
      · replace h := xp_t (by decide +kernel) h
        cases h
        exact Or.inr ⟨fun z => by have := z.2.2; omega, rfl⟩
    · replace h := xp_t (by decide +kernel) h
      cases h
      exact Or.inr ⟨fun z => by have := z.2.1; omega, rfl⟩
  · replace h := xp_t (by decide +kernel) h
    cases h
    exact Or.inr ⟨fun z => by have := z.1; omega, rfl⟩
/-- what load lays bare -/
theorem CREL_load {many : Int} {hts wts row H W : Nat → Int} (hm : many ≤ 12) (hh : zR hts 0 10) (hC : CREL many hts wts (fun c => row (9 + c)) (fun j => row (21 + j))) (h1 : ∀ j, j < 12 → H j = row (9 + j)) (h2 : ∀ j, j < 120 → W j = row (21 + j)) : CREL many hts wts H W :=
  CREL_c hm hh hC (fun _ _ => rfl) (fun _ _ => rfl) (fun j hj => h1 j hj) (fun j hj => h2 j hj)
theorem HILL_store {la fo many : Int} {ord od hts wts hts' wts' row row' H W : Nat → Int} (hm : many ≤ 12) (em : many = row 0) (hh' : zR hts' 0 10) (hH : HILL la fo many ord od hts wts row) (hC : CREL many hts' wts' H W) (h1 : ∀ j : Nat, (j : Int) < row 0 → row' (9 + j) = H j) (h2 : ∀ j, j < 120 → row' (21 + j) = W j) (h3 : ∀ y : Nat, (y < 9 ∨ 141 ≤ y) → row' y = row y) : HILL la fo many ord od hts' wts' row' := by
  refine ⟨HILL2_f hH.1 (FRM_g h3), fun c hc => ?_, fun c i hc hi => ?_⟩
  · show row' (9 + c) = hts' c
    rw [h1 c (by omega)]; exact hC.1 c hc
  · show row' (21 + (10 * c + i)) = wts' (10 * c + i)
    have := hh' c
    rw [h2 _ (by omega)]; exact hC.2 c i hc hi
theorem x_can {ch la fo many : Int} {st ex te ord od hts wts row : Nat → Int} {a b c : Int} {pi ti ba : Int} {wo pl : Nat → Int} {lw br va su th : Int} {set rest hi he : Nat → Int} {v : Int × Int × Int × Int × (Nat → Int) × (Nat → Int)} {w : Int × Int × Int × Int × Int × Int × (Nat → Int) × (Nat → Int) × (Nat → Int) × (Nat → Int)} (b1 : -2147483648 ≤ a ∧ a ≤ 2147483647) (b2 : -2147483648 ≤ b ∧ b ≤ 2147483647) (b3 : -2147483648 ≤ c ∧ c ≤ 2147483647) (hJ : JREL ch la fo st ex te ord od row) (hm : 0 ≤ many ∧ many ≤ 12) (em : many = row 0) (hh : zR hts 0 10) (hw : zR wts 0 30) (hH : HILL la fo many ord od hts wts row) (h : f_HS_can a b c ch la fo many st ex te ord od hts wts pi ti ba wo pl = some v) (g : f_HM_can a b c row th lw br va su set rest hi he = some w) : v.1 = w.1 := by
  have hc6 : 0 ≤ ch ∧ ch ≤ 6 := ⟨hJ.1.1, hJ.1.2.1⟩
  have ec := hJ.1.2.2
  unfold f_HS_can at h
  unfold f_HM_can at g
  obtain ⟨v1, e1, h⟩ := xz_d1 h
  obtain ⟨w1, d1, g⟩ := xz_d1 g
  have k1 := k_knows b1 b2 b3 hc6 hm e1
  have r1 := r_are b1 b2 b3 (by omega) (by omega) d1
  rw [← ec, ← em] at r1
  rcases k1 with ⟨q1, q2⟩ | ⟨q1, q2⟩ <;> rcases r1 with ⟨p1, p2⟩ | ⟨p1, p2⟩ <;> subst q2 <;> subst p2
  · replace h := xp_t (by decide +kernel) h
    replace g := xp_t (by decide +kernel) g
    obtain ⟨v2, v3, v4, v5, a6, a7, e2, h⟩ := xz_d6 h
    obtain ⟨m1, m2, d2, g⟩ := xz_d2 g
    have ld := r_load d2
    obtain ⟨w4, w5, w6, w7, w8, b9, b10, d3, g⟩ := xz_d7 g
    have q := eff_eq hJ hm hh hw (CREL_load hm.2 hh hH.2 ld.1 ld.2) q1.1 q1.2.1 q1.2.2 e2 d3
    replace q : v2 = w4 := q
    subst q
    by_cases c : zi_w v2 = zi_w (-1)
    · rw [if_neg (fun z => z c)] at h g
      cases h; cases g; rfl
    · rw [if_pos c] at h g
      cases h; cases g; rfl
  · exact absurd q1 p1
  · exact absurd p1 q1
  · replace h := xp_f (by decide +kernel) h
    replace g := xp_f (by decide +kernel) g
    cases h; cases g; rfl
theorem x_tires {ch la fo many : Int} {st ex te ord od hts wts row : Nat → Int} {a b c : Int} {pi ti ba : Int} {wo pl : Nat → Int} {lw br va su th : Int} {set rest hi he : Nat → Int} {v : Int × Int × Int × Int × (Nat → Int) × (Nat → Int)} {w : Int × Int × Int × Int × Int × Int × (Nat → Int) × (Nat → Int) × (Nat → Int) × (Nat → Int)} (b1 : -2147483648 ≤ a ∧ a ≤ 2147483647) (b2 : -2147483648 ≤ b ∧ b ≤ 2147483647) (b3 : -2147483648 ≤ c ∧ c ≤ 2147483647) (hJ : JREL ch la fo st ex te ord od row) (hm : 0 ≤ many ∧ many ≤ 12) (em : many = row 0) (hh : zR hts 0 10) (hw : zR wts 0 30) (hH : HILL la fo many ord od hts wts row) (h : f_HS_tires a b c ch la fo many st ex te ord od hts wts pi ti ba wo pl = some v) (g : f_HM_tires a b c row th lw br va su set rest hi he = some w) : v.1 = w.1 := by
  have hc6 : 0 ≤ ch ∧ ch ≤ 6 := ⟨hJ.1.1, hJ.1.2.1⟩
  have ec := hJ.1.2.2
  unfold f_HS_tires at h
  unfold f_HM_tires at g
  obtain ⟨v1, e1, h⟩ := xz_d1 h
  obtain ⟨w1, d1, g⟩ := xz_d1 g
  have k1 := k_knows b1 b2 b3 hc6 hm e1
  have r1 := r_are b1 b2 b3 (by omega) (by omega) d1
  rw [← ec, ← em] at r1
  rcases k1 with ⟨q1, q2⟩ | ⟨q1, q2⟩ <;> rcases r1 with ⟨p1, p2⟩ | ⟨p1, p2⟩ <;> subst q2 <;> subst p2
  · replace h := xp_f (by decide +kernel) h
    replace g := xp_t (by decide +kernel) g
    obtain ⟨v2, v3, v4, v5, a6, a7, e2, h⟩ := xz_d6 h
    obtain ⟨m1, m2, d2, g⟩ := xz_d2 g
    have ld := r_load d2
    obtain ⟨w4, w5, w6, w7, w8, b9, b10, d3, g⟩ := xz_d7 g
    have q := eff_eq hJ hm hh hw (CREL_load hm.2 hh hH.2 ld.1 ld.2) q1.1 q1.2.1 q1.2.2 e2 d3
    cases h; cases g; exact q
  · exact absurd q1 p1
  · exact absurd p1 q1
  · replace h := xp_t (by decide +kernel) h
    replace g := xp_f (by decide +kernel) g
    cases h; cases g; rfl
theorem eff_can {a b c pi ti ba ch la fo many : Int} {hts wts st ex te ord od wo pl : Nat → Int} {u : Int × Int × Int × Int × (Nat → Int) × (Nat → Int)} (hm : 0 ≤ many ∧ many ≤ 12) (hh : zR hts 0 10) (hb : 0 ≤ b ∧ b < many) (hc : 0 ≤ c ∧ c < many) (h : f_Judge_effortOn a b c many ch la fo hts wts st ex te ord od pi ti ba wo pl = some u) (hn : u.1 ≠ -1) : 0 < hts b.toNat ∧ hts c.toNat < 10 ∧ b ≠ c := by
  obtain ⟨B, eB⟩ : ∃ B : Nat, b = (B : Int) := ⟨b.toNat, by omega⟩
  subst eB
  obtain ⟨C, eC⟩ : ∃ C : Nat, c = (C : Int) := ⟨c.toNat, by omega⟩
  subst eC
  have bB := hh B
  have bC := hh C
  rw [Int.toNat_natCast, Int.toNat_natCast]
  unfold f_Judge_effortOn at h
  obtain ⟨v1, e1, h⟩ := xz_d1 h
  obtain ⟨v2, e2, h⟩ := xz_d1 h
  have q2 := k_high hm hb.2 e2
  subst q2
  obtain ⟨v3, e3, h⟩ := xz_d1 h
  have q3 := k_high hm hc.2 e3
  subst q3
  obtain ⟨v4, v5, v6, v7, a8, a9, e4, h⟩ := xz_d6 h
  cases h
  unfold f_Judge_effort at e4
  rw [zwi (x := hts B) (by omega), zwi (x := 1) (by decide), zwi (x := hts C) (by omega), zwi (x := 10) (by decide), zwi (x := (B : Int)) (by omega), zwi (x := (C : Int)) (by omega)] at e4
  by_cases c1 : hts B < 1
  · rw [if_pos c1] at e4; cases e4; exact absurd rfl hn
  rw [if_neg c1] at e4
  by_cases c2 : 10 ≤ hts C
  · rw [if_pos c2] at e4; cases e4; exact absurd rfl hn
  rw [if_neg c2] at e4
  by_cases c3 : (B : Int) = (C : Int)
  · rw [if_pos c3] at e4; cases e4; exact absurd rfl hn
  exact ⟨by omega, by omega, c3⟩
theorem x_carry {ch la fo many : Int} {st ex te ord od hts wts row : Nat → Int} {a b c s3 s30 s5 : Int} {t2 t3 : Nat → Int} {pi ti ba : Int} {wo pl : Nat → Int} {lw br va su th : Int} {set rest hi he : Nat → Int} {v : Int × Int × Int × (Nat → Int) × Int × Int × Int × (Nat → Int) × (Nat → Int) × (Nat → Int) × (Nat → Int)} {w : Int × Int × Int × Int × Int × Int × Int × (Nat → Int) × (Nat → Int) × (Nat → Int) × (Nat → Int) × (Nat → Int) × (Nat → Int)} (b1 : -2147483648 ≤ a ∧ a ≤ 2147483647) (b2 : -2147483648 ≤ b ∧ b ≤ 2147483647) (b3 : -2147483648 ≤ c ∧ c ≤ 2147483647) (hJ : JREL ch la fo st ex te ord od row) (hm : 0 ≤ many ∧ many ≤ 12) (em : many = row 0) (hh : zR hts 0 10) (hw : zR wts 0 30) (hH : HILL la fo many ord od hts wts row) (h : f_HS_carry a b c ch la fo many st ex te ord od s3 s30 t2 pi ti ba wo pl hts wts = some v) (g : f_HM_carry a b c th s5 lw br va su t3 row set rest hi he = some w) : SR v.1 w.1 v.2.1 w.2.2.1 t2 t3 v.2.2.2.1 w.2.2.2.2.2.2.2.1 ∧ HILL la fo many ord od v.2.2.2.2.2.2.2.2.2.1 v.2.2.2.2.2.2.2.2.2.2 w.2.2.2.2.2.2.2.2.1 := by
  have hc6 : 0 ≤ ch ∧ ch ≤ 6 := ⟨hJ.1.1, hJ.1.2.1⟩
  have ec := hJ.1.2.2
  unfold f_HS_carry at h
  unfold f_HM_carry at g
  obtain ⟨v1, e1, h⟩ := xz_d1 h
  obtain ⟨w1, d1, g⟩ := xz_d1 g
  have k1 := k_knows b1 b2 b3 hc6 hm e1
  have r1 := r_are b1 b2 b3 (by omega) (by omega) d1
  rw [← ec, ← em] at r1
  rcases k1 with ⟨q1, q2⟩ | ⟨q1, q2⟩ <;> rcases r1 with ⟨p1, p2⟩ | ⟨p1, p2⟩ <;> subst q2 <;> subst p2
  · replace h := xp_t (by decide +kernel) h
    replace g := xp_t (by decide +kernel) g
    obtain ⟨v2, v3, v4, v5, a6, a7, e2, h⟩ := xz_d6 h
    obtain ⟨m1, m2, d2, g⟩ := xz_d2 g
    have ld := r_load d2
    obtain ⟨w4, w5, w6, w7, w8, b9, b10, d3, g⟩ := xz_d7 g
    have hC : CREL many hts wts m1 m2 := CREL_load hm.2 hh hH.2 ld.1 ld.2
    have q := eff_eq hJ hm hh hw hC q1.1 q1.2.1 q1.2.2 e2 d3
    replace q : v2 = w4 := q
    subst q
    by_cases cz : zi_w v2 = zi_w (-1)
    · rw [if_neg (fun z => z cz)] at h g
      obtain ⟨u6, u7, u8, e6, h⟩ := xz_d3 h
      obtain ⟨y3, y4, y5, e7, g⟩ := xz_d3 g
      have sr := SR_ref (by decide) e6 e7
      cases h; cases g
      exact ⟨sr, hH⟩
    · rw [if_pos cz] at h g
      have ef := eff_can hm hh q1.2.1 q1.2.2 e2 (fun z => cz (by show zi_w v2 = zi_w (-1); rw [show v2 = -1 from z]))
      obtain ⟨B, eB⟩ : ∃ B : Nat, b = (B : Int) := ⟨b.toNat, by have := q1.2.1; omega⟩
      subst eB
      obtain ⟨C, eC⟩ : ∃ C : Nat, c = (C : Int) := ⟨c.toNat, by have := q1.2.2; omega⟩
      subst eC
      rw [Int.toNat_natCast, Int.toNat_natCast] at ef
      have hbm := q1.2.1.2
      have hcm := q1.2.2.2
      have hne : B ≠ C := fun z => ef.2.2 (by rw [z])
      have bB := hh B
      have bC := hh C
      have HB := hC.1 B hbm
      have HC := hC.1 C hcm
      obtain ⟨u1, x1, h⟩ := xz_d1 h
      have y1 := k_top hm hh hbm x1
      subst y1
      obtain ⟨u2, u3, x2, h⟩ := xz_d2 h
      have y2 := k_move hm hh hbm hcm hne ef.1 ef.2.1 x2
      cases y2
      obtain ⟨u6, u7, u8, e6, h⟩ := xz_d3 h
      obtain ⟨z1, x3, g⟩ := xz_d1 g
      have y3 := r_top (by omega) (by rw [HB]; exact bB) x3
      rw [CREL_top hC hbm bB.1] at y3
      subst y3
      obtain ⟨z2, z3, x4, g⟩ := xz_d2 g
      have y4 := r_shift (by omega) (by omega) hne (by rw [HB]; exact bB) (by rw [HC]; exact bC) x4
      cases y4
      obtain ⟨z4, x5, g⟩ := xz_d1 g
      have st := r_store (by omega) x5
      obtain ⟨z5, z6, z7, e7, g⟩ := xz_d3 g
      have tb := TOPV_r (h := hts) hw B
      have sr := SR_acc (f := t2) (by omega) rfl e6 e7
      have C2 := CREL_move hC hh hbm hcm hne ef.1 ef.2.1
      have R2 := move_r hh hne ef.1 ef.2.1
      have HS := HILL_store hm.2 em R2 hH C2 st.1 st.2.1 st.2.2
      cases h; cases g
      exact ⟨sr, HS⟩
  · exact absurd q1 p1
  · exact absurd p1 q1
  · replace h := xp_f (by decide +kernel) h
    replace g := xp_f (by decide +kernel) g
    obtain ⟨u6, u7, u8, e6, h⟩ := xz_d3 h
    obtain ⟨y3, y4, y5, e7, g⟩ := xz_d3 g
    have sr := SR_ref (by decide) e6 e7
    cases h; cases g
    exact ⟨sr, hH⟩
theorem x_steep {many s4 : Int} {te hts wts row hi he : Nat → Int} {v : Int} {w : Int × Int × (Nat → Int) × (Nat → Int)} (hm : 0 ≤ many ∧ many ≤ 12) (em : many = row 0) (hh : zR hts 0 10) (et : te 2 = row 7 ∧ 1 ≤ te 2 ∧ te 2 ≤ 99) (hC : CREL many hts wts (fun c => row (9 + c)) (fun j => row (21 + j))) (h : f_HS_steep many te hts = some v) (g : f_HM_steep row s4 hi he = some w) : v = w.1 := by
  unfold f_HS_steep at h
  unfold f_HM_steep at g
  replace h := (xp_g h).2
  have z : te (zi_w 2).toNat = te 2 := rfl
  rw [z] at h
  obtain ⟨u, e1, h⟩ := xz_d1 h
  obtain ⟨m1, m2, d1, g⟩ := xz_d2 g
  have ld := r_load d1
  obtain ⟨u2, d2, g⟩ := xz_d1 g
  have C2 : CREL many hts wts m1 m2 := CREL_load hm.2 hh hC ld.1 ld.2
  have k1 := k_lowest hm (by omega) hh e1
  have r1 := r_steepest (by omega) (by omega) (fun c hc => by rw [C2.1 c (by omega)]; exact hh c) d2
  rw [← em, ← et.1] at r1
  have := LSP_u k1 (LSP_agr (fun c hc => (C2.1 c hc).symm) r1)
  cases h; cases g
  exact this
theorem x_slide {many la fo s4 s30 : Int} {te ord od hts wts row hi he : Nat → Int} {v : Int × Int × (Nat → Int) × (Nat → Int)} {w : Int × Int × (Nat → Int) × (Nat → Int) × (Nat → Int)} (hm : 0 ≤ many ∧ many ≤ 12) (em : many = row 0) (hh : zR hts 0 10) (et : te 2 = row 7 ∧ 1 ≤ te 2 ∧ te 2 ≤ 99) (hH : HILL la fo many ord od hts wts row) (h : f_HS_slide many te s30 hts wts = some v) (g : f_HM_slide s4 row hi he = some w) : v.1 = w.1 ∧ HILL la fo many ord od v.2.2.1 v.2.2.2 w.2.2.1 := by
  unfold f_HS_slide at h
  unfold f_HM_slide at g
  replace h := (xp_g (xp_n h)).2
  have z : te (zi_w 2).toNat = row 7 := et.1
  rw [z] at h
  obtain ⟨u1, u2, u3, e1, h⟩ := xz_d3 h
  obtain ⟨m1, m2, d1, g⟩ := xz_d2 g
  have ld := r_load d1
  have C2 : CREL many hts wts m1 m2 := CREL_load hm.2 hh hH.2 ld.1 ld.2
  obtain ⟨w1, w2, w3, d2, g⟩ := xz_d3 g
  obtain ⟨w4, d3, g⟩ := xz_d1 g
  unfold f_Columns_settle at e1
  unfold f_HM_slideAll at d2
  obtain ⟨q1, d4, d2⟩ := xz_d1 d2
  have r1 := r_steepest (by omega) (by omega) (fun c hc => by rw [C2.1 c (by omega)]; exact hh c) d4
  have sq := (SQ_r hh 12).2
  have r := slide_eq hm em (by omega) zfu zfu 0 hts wts m1 m2 q1 hh C2 (by omega) r1 e1 d2
  have st := r_store (by omega) d3
  have HS := HILL_store hm.2 em r.2.1 hH r.2.2 st.1 st.2.1 st.2.2
  cases h; cases g
  exact ⟨r.1, HS⟩
end
section
/-! stones one by one -/
theorem k_heft {C : Nat} {i many v : Int} {hts wts : Nat → Int} (hm : 0 ≤ many ∧ many ≤ 12) (hh : zR hts 0 10) (hc : (C : Int) < many) (hi : 0 ≤ i ∧ i ≤ 2147483647) (h : f_Columns_heft (C : Int) i many hts wts = some v) : v = if i < hts C then wts (10 * C + i.toNat) else 0 := by
  have b := hh C
  unfold f_Columns_heft at h
  rw [zwi (x := i) (by omega), if_neg (by omega)] at h
  obtain ⟨v1, e1, h⟩ := xz_d1 h
  have g := k_high hm hc e1
  subst g
  rw [zwi (x := hts C) (by omega)] at h
  by_cases c : hts C ≤ i
  · rw [if_pos c] at h; cases h; rw [if_neg (by omega)]
  · rw [if_neg c] at h
    replace h := (xp_g (xp_n (xp_n h))).2
    rw [show (zi_w ((C : Int) * 10 + i)).toNat = 10 * C + i.toNat from by rw [zwi (by omega)]; omega] at h
    cases h
    rw [if_pos (by omega)]
noncomputable def LSUM (w : Nat → Int) (c : Nat) : Nat → Int
  | 0 => 0
  | k + 1 => LSUM w c k + w (10 * c + k)
theorem LSUM_agr {w w' : Nat → Int} {c : Nat} : ∀ k, (∀ i, i < k → w' (10 * c + i) = w (10 * c + i)) → LSUM w' c k = LSUM w c k := by
  intro k
  induction k with
  | zero => intro _; rfl
  | succ k ih =>
    intro h
    show LSUM w' c k + w' (10 * c + k) = LSUM w c k + w (10 * c + k)
    rw [ih (fun i hi => h i (by omega)), h k (by omega)]
theorem k_load_4 {C : Nat} {many : Int} {hts wts : Nat → Int} (hm : 0 ≤ many ∧ many ≤ 12) (hh : zR hts 0 10) (hc : (C : Int) < many) : ∀ (N k : Nat) (v : Int), (k : Int) ≤ hts C → f_Columns_load_4 many hts wts N (C : Int) (LSUM wts C k) (k : Int) = some v → v = LSUM wts C (hts C).toNat := by
  have b := hh C
  intro N
  induction N with
  | zero => intro k v _ h; exact nomatch h
  | succ N ih =>
    intro k v hk h
    replace h : f_Columns_load_4_b many hts wts (f_Columns_load_4 many hts wts N) (C : Int) (LSUM wts C k) (k : Int) = some v := h
    unfold f_Columns_load_4_b at h
    obtain ⟨v1, e1, h⟩ := xz_d1 h
    have g := k_high hm hc e1
    subst g
    rw [zwi (x := hts C) (by omega), zwi (x := (k : Int)) (by omega)] at h
    by_cases c : hts C ≤ (k : Int)
    · rw [if_pos c] at h; cases h
      rw [show (hts C).toNat = k from by omega]
    · rw [if_neg c] at h
      obtain ⟨v2, e2, h⟩ := xz_d1 h
      have g2 := k_heft hm hh hc (by omega) e2
      rw [if_pos (by omega), Int.toNat_natCast] at g2
      subst g2
      exact ih (k + 1) v (by omega) (xp_n (xp_n h))
theorem k_load {C : Nat} {many v : Int} {hts wts : Nat → Int} (hm : 0 ≤ many ∧ many ≤ 12) (hh : zR hts 0 10) (hc : (C : Int) < many) (h : f_Columns_load (C : Int) many hts wts = some v) : v = LSUM wts C (hts C).toNat := by
  unfold f_Columns_load at h
  exact k_load_4 hm hh hc zfu 0 v (hh C).1 h
theorem r_weight_19 {C : Nat} {row : Nat → Int} (hC : C < 12) (hh : 0 ≤ row (9 + C) ∧ row (9 + C) ≤ 10) : ∀ (N k : Nat) (th : Int) (w : Int × Int), (k : Int) ≤ row (9 + C) → f_HM_weight_19 row N (C : Int) (LSUM (fun j => row (21 + j)) C k) (k : Int) th = some w → w.1 = LSUM (fun j => row (21 + j)) C (row (9 + C)).toNat := by
  intro N
  induction N with
  | zero => intro k th w _ h; exact nomatch h
  | succ N ih =>
    intro k th w hk h
    replace h : f_HM_weight_19_b row (f_HM_weight_19 row N) (C : Int) (LSUM (fun j => row (21 + j)) C k) (k : Int) th = some w := h
    unfold f_HM_weight_19_b at h
    replace h := (xp_g (xp_n h)).2
    have z1 : (zi_w (9 + (C : Int))).toNat = 9 + C := by rw [zwi (by omega)]; omega
    rw [z1, zwi (x := row (9 + C)) (by omega), zwi (x := (k : Int)) (by omega)] at h
    by_cases c : row (9 + C) ≤ (k : Int)
    · rw [if_pos c] at h; cases h
      rw [show (row (9 + C)).toNat = k from by omega]
    · rw [if_neg c] at h
      replace h := xp_n (xp_n (xp_g (xp_n (xp_n (xp_n h)))).2)
      have z2 : (zi_w (21 + 10 * (C : Int) + (k : Int))).toNat = 21 + (10 * C + k) := by rw [zwi (by omega)]; omega
      rw [z2] at h
      exact ih (k + 1) th w (by omega) h
theorem x_weight {a many s4 : Int} {hts wts row : Nat → Int} {v : Int} {w : Int × Int} (b1 : -2147483648 ≤ a ∧ a ≤ 2147483647) (hm : 0 ≤ many ∧ many ≤ 12) (em : many = row 0) (hh : zR hts 0 10) (hC : CREL many hts wts (fun c => row (9 + c)) (fun j => row (21 + j))) (h : f_HS_weight a many hts wts = some v) (g : f_HM_weight a row s4 = some w) : v = w.1 := by
  unfold f_HS_weight at h
  unfold f_HM_weight at g
  obtain ⟨u1, e1, h⟩ := xz_d1 h
  obtain ⟨w1, d1, g⟩ := xz_d1 g
  rcases k_has b1 hm e1 with ⟨q1, q2⟩ | ⟨q1, q2⟩ <;> rcases r_isColumn b1 (by omega) d1 with ⟨p1, p2⟩ | ⟨p1, p2⟩ <;> subst q2 <;> subst p2
  · obtain ⟨C, eC⟩ : ∃ C : Nat, a = (C : Int) := ⟨a.toNat, by omega⟩
    subst eC
    replace h := xp_f (by decide +kernel) h
    replace g := xp_t (by decide +kernel) g
    obtain ⟨u2, e2, h⟩ := xz_d1 h
    have k2 := k_load hm hh q1.2 e2
    have hr : row (9 + C) = hts C := hC.1 C q1.2
    have bC := hh C
    have r2 := r_weight_19 (C := C) (by omega) (by omega) zfu 0 0 w (by omega) g
    cases h
    rw [k2, r2, hr]
    exact (LSUM_agr _ (fun i hi => hC.2 C i q1.2 (by omega))).symm
  · omega
  · omega
  · replace h := xp_t (by decide +kernel) h
    replace g := xp_f (by decide +kernel) g
    cases h; cases g; rfl
theorem x_of {a i many s4 : Int} {hts wts row : Nat → Int} {v : Int} {w : Int × Int} (b1 : -2147483648 ≤ a ∧ a ≤ 2147483647) (b2 : -2147483648 ≤ i ∧ i ≤ 2147483647) (hm : 0 ≤ many ∧ many ≤ 12) (em : many = row 0) (hh : zR hts 0 10) (hC : CREL many hts wts (fun c => row (9 + c)) (fun j => row (21 + j))) (h : f_HS_of a i many hts wts = some v) (g : f_HM_of a i row s4 = some w) : v = w.1 := by
  unfold f_HS_of at h
  unfold f_HM_of at g
  obtain ⟨u1, e1, h⟩ := xz_d1 h
  obtain ⟨w1, d1, g⟩ := xz_d1 g
  rcases k_has b1 hm e1 with ⟨q1, q2⟩ | ⟨q1, q2⟩ <;> rcases r_isColumn b1 (by omega) d1 with ⟨p1, p2⟩ | ⟨p1, p2⟩ <;> subst q2 <;> subst p2
  · obtain ⟨C, eC⟩ : ∃ C : Nat, a = (C : Int) := ⟨a.toNat, by omega⟩
    subst eC
    replace h := xp_t (by decide +kernel) h
    replace g := xp_t (by decide +kernel) g
    have hr : row (9 + C) = hts C := hC.1 C q1.2
    have bC := hh C
    have z1 : (zi_w (9 + (C : Int))).toNat = 9 + C := by rw [zwi (by omega)]; omega
    rw [zwi (x := i) b2, zwi (x := -1) (by decide)] at h g
    by_cases c1 : i = -1
    · rw [if_neg (fun z => z c1)] at h g
      obtain ⟨u2, e2, h⟩ := xz_d1 h
      have k2 := k_high hm q1.2 e2
      subst k2
      replace g := (xp_g (xp_n g)).2
      rw [z1, hr] at g
      cases h; cases g; rfl
    · rw [if_pos c1] at h g
      replace g := xp_n (xp_n (xp_g (xp_n (xp_n g))).2)
      rw [z1, hr, zwi (x := hts C) (by omega)] at g
      obtain ⟨w2, d2, g⟩ := xz_d1 g
      have g2 := x_in (by omega) (by decide) (by omega) d2
      by_cases c2 : i < 0
      · rw [if_pos c2] at h
        rw [if_neg (by omega)] at g2
        subst g2
        replace g := xp_t (by decide +kernel) g
        cases h; cases g; rfl
      · rw [if_neg c2] at h
        obtain ⟨u2, e2, h⟩ := xz_d1 h
        have k2 := k_high hm q1.2 e2
        subst k2
        rw [zwi (x := hts C) (by omega)] at h
        by_cases c3 : i < hts C
        · rw [if_pos c3] at h
          rw [if_pos (by omega)] at g2
          subst g2
          obtain ⟨u3, e3, h⟩ := xz_d1 h
          have k3 := k_heft hm hh q1.2 (by omega) e3
          rw [if_pos c3] at k3
          replace g := (xp_g (xp_n (xp_n (xp_n (xp_f (by decide +kernel) g))))).2
          have z2 : (zi_w (21 + 10 * (C : Int) + i)).toNat = 21 + (10 * C + i.toNat) := by rw [zwi (by omega)]; omega
          rw [z2] at g
          have := hC.2 C i.toNat q1.2 (by omega)
          cases h; cases g
          rw [k3]
          exact this.symm
        · rw [if_neg c3] at h
          rw [if_neg (by omega)] at g2
          subst g2
          replace g := xp_t (by decide +kernel) g
          cases h; cases g; rfl
  · omega
  · omega
  · replace h := xp_f (by decide +kernel) h
    replace g := xp_f (by decide +kernel) g
    cases h; cases g; rfl
theorem lay_eq {C : Nat} {many : Int} {hts wts row : Nat → Int} (hm : 0 ≤ many ∧ many ≤ 12) (hh : zR hts 0 10) (hw : zR wts 0 30) (hc : (C : Int) < many) (hC : CREL many hts wts (fun c => row (9 + c)) (fun j => row (21 + j))) : ∀ (N M k : Nat) (x th v : Int) (w : Int × Int), 1 ≤ k → k ≤ 11 → f_Scales_layersOf_18 many hts wts N (C : Int) x (k : Int) = some v → f_HM_layers_35 row M (C : Int) x (k : Int) th = some w → v = w.1 := by
  have b := hh C
  have hr : row (9 + C) = hts C := hC.1 C hc
  intro N
  induction N with
  | zero => intro M k x th v w _ _ h; exact nomatch h
  | succ N ih =>
    intro M k x th v w hk1 hk h g
    cases M with
    | zero => exact nomatch g
    | succ M =>
      replace h : f_Scales_layersOf_18_b many hts wts (f_Scales_layersOf_18 many hts wts N) (C : Int) x (k : Int) = some v := h
      replace g : f_HM_layers_35_b row (f_HM_layers_35 row M) (C : Int) x (k : Int) th = some w := g
      unfold f_Scales_layersOf_18_b at h
      unfold f_HM_layers_35_b at g
      obtain ⟨v1, e1, h⟩ := xz_d1 h
      have g1 := k_high hm hc e1
      subst g1
      replace g := (xp_g (xp_n g)).2
      have z1 : (zi_w (9 + (C : Int))).toNat = 9 + C := by rw [zwi (by omega)]; omega
      rw [z1, hr, zwi (x := hts C) (by omega), zwi (x := (k : Int)) (by omega)] at g
      rw [zwi (x := hts C) (by omega), zwi (x := (k : Int)) (by omega)] at h
      by_cases c : hts C ≤ (k : Int)
      · rw [if_pos c] at h g
        cases h; cases g; rfl
      · rw [if_neg c] at h g
        obtain ⟨v2, e2, h⟩ := xz_d1 h
        have g2 := k_heft hm hh hc (by omega) e2
        rw [if_pos (by omega), Int.toNat_natCast] at g2
        subst g2
        obtain ⟨v3, e3, h⟩ := xz_d1 (xp_n h)
        have g3 := k_heft hm hh hc (by omega) e3
        rw [if_pos (by omega), show ((k : Int) - 1).toNat = k - 1 from by omega] at g3
        subst g3
        replace g := (xp_g (xp_n (xp_n (xp_n g)))).2
        replace g := (xp_g (xp_n (xp_n (xp_n (xp_n g))))).2
        have z2 : (zi_w (21 + 10 * (C : Int) + (k : Int))).toNat = 21 + (10 * C + k) := by rw [zwi (by omega)]; omega
        have z3 : (zi_w (21 + 10 * (C : Int) + (k : Int) - 1)).toNat = 21 + (10 * C + (k - 1)) := by rw [zwi (by omega)]; omega
        have r1 : row (21 + (10 * C + k)) = wts (10 * C + k) := hC.2 C k hc (by omega)
        have r2 : row (21 + (10 * C + (k - 1))) = wts (10 * C + (k - 1)) := hC.2 C (k - 1) hc (by omega)
        have w1 := hw (10 * C + k)
        have w2 := hw (10 * C + (k - 1))
        rw [z2, z3, r1, r2, zwi (x := wts (10 * C + k)) (by omega), zwi (x := wts (10 * C + (k - 1))) (by omega)] at g
        rw [zwi (x := wts (10 * C + k)) (by omega), zwi (x := wts (10 * C + (k - 1))) (by omega)] at h
        by_cases d : wts (10 * C + k) ≤ wts (10 * C + (k - 1))
        · rw [if_pos d] at h g
          unfold f_Scales_layersOf_68 at h
          unfold f_HM_layers_87 at g
          exact ih M (k + 1) _ th v w (by omega) (by omega) (xp_n (xp_n h)) (xp_n (xp_n g))
        · rw [if_neg d] at h g
          unfold f_Scales_layersOf_68 at h
          unfold f_HM_layers_87 at g
          exact ih M (k + 1) _ th v w (by omega) (by omega) (xp_n (xp_n h)) (xp_n (xp_n g))
theorem x_layers {a many s4 : Int} {hts wts row : Nat → Int} {v : Int} {w : Int × Int} (b1 : -2147483648 ≤ a ∧ a ≤ 2147483647) (hm : 0 ≤ many ∧ many ≤ 12) (em : many = row 0) (hh : zR hts 0 10) (hw : zR wts 0 30) (hC : CREL many hts wts (fun c => row (9 + c)) (fun j => row (21 + j))) (h : f_HS_layers a many hts wts = some v) (g : f_HM_layers a row s4 = some w) : v = w.1 := by
  unfold f_HS_layers at h
  unfold f_HM_layers at g
  obtain ⟨u1, e1, h⟩ := xz_d1 h
  obtain ⟨w1, d1, g⟩ := xz_d1 g
  rcases k_has b1 hm e1 with ⟨q1, q2⟩ | ⟨q1, q2⟩ <;> rcases r_isColumn b1 (by omega) d1 with ⟨p1, p2⟩ | ⟨p1, p2⟩ <;> subst q2 <;> subst p2
  · obtain ⟨C, eC⟩ : ∃ C : Nat, a = (C : Int) := ⟨a.toNat, by omega⟩
    subst eC
    replace h := xp_f (by decide +kernel) h
    replace g := xp_t (by decide +kernel) g
    obtain ⟨u2, e2, h⟩ := xz_d1 h
    cases h
    unfold f_Scales_layersOf at e2
    obtain ⟨u3, e3, e2⟩ := xz_d1 e2
    have k3 := k_high hm q1.2 e3
    subst k3
    replace e2 := xp_n e2
    have hr : row (9 + C) = hts C := hC.1 C q1.2
    have bC := hh C
    replace g := (xp_g (xp_n g)).2
    have z1 : (zi_w (9 + (C : Int))).toNat = 9 + C := by rw [zwi (by omega)]; omega
    rw [z1, hr, zwi (x := hts C) (by omega)] at g
    have mn := zi_min_f 1 (by decide) (hts C) (by omega)
    by_cases c : hts C ≤ 0
    · rw [if_pos c] at g
      have m2 : zi_min 1 (hts C) = 0 := by omega
      rw [m2] at e2
      unfold f_HM_layers_32 at g
      exact lay_eq hm hh hw q1.2 hC zfu zfu 1 0 0 _ w (by decide) (by decide) e2 g
    · rw [if_neg c] at g
      have m2 : zi_min 1 (hts C) = 1 := by omega
      rw [m2] at e2
      unfold f_HM_layers_32 at g
      exact lay_eq hm hh hw q1.2 hC zfu zfu 1 1 0 _ w (by decide) (by decide) e2 g
  · omega
  · omega
  · replace h := xp_t (by decide +kernel) h
    replace g := xp_f (by decide +kernel) g
    cases h; cases g; rfl
/-! parishes and shades -/
noncomputable def PREL (pa : Int) (pl te row : Nat → Int) : Prop := (0 ≤ pa ∧ pa ≤ 6 ∧ pa = row 2) ∧ (∀ c : Nat, (c : Int) < pa → pl c = row (171 + c)) ∧ zR pl 0 11 ∧ (te 1 = row 6 ∧ 1 ≤ te 1 ∧ te 1 ≤ 9)
theorem k_hasParish {a pa v : Int} (b : -2147483648 ≤ a ∧ a ≤ 2147483647) (hc : 0 ≤ pa ∧ pa ≤ 6) (h : f_Hill_hasParish a pa = some v) : ((0 ≤ a ∧ a < pa) ∧ v = 1) ∨ ((a < 0 ∨ pa ≤ a) ∧ v = 0) := by
  unfold f_Hill_hasParish at h
  rw [zwi b, zwi (x := pa) (by omega)] at h
  by_cases c : a < 0
  · rw [if_pos c] at h; cases h; exact Or.inr ⟨Or.inl c, rfl⟩
  · rw [if_neg c] at h
    by_cases d : pa ≤ a
    · rw [if_pos d] at h; cases h; exact Or.inr ⟨Or.inr d, rfl⟩
    · rw [if_neg d] at h; cases h; exact Or.inl ⟨by omega, rfl⟩
theorem r_isParish {x v : Int} {row : Nat → Int} (hx : -2147483648 ≤ x ∧ x ≤ 2147483647) (hm : 0 ≤ row 2 ∧ row 2 ≤ 6) (h : f_HM_isParish x row = some v) : ((0 ≤ x ∧ x < row 2) ∧ v = 1) ∨ ((x < 0 ∨ row 2 ≤ x) ∧ v = 0) := by
  unfold f_HM_isParish at h
  replace h := xp_n h
  replace h := xp_n (xp_n (xp_g h).2)
  obtain ⟨v2, e2, h⟩ := xz_d1 h
  have e0 : row (zi_w 2).toNat = row 2 := rfl
  rw [zwi hx, e0, zwi (x := row 2) (by omega)] at e2
  have g2 := x_in (by omega) (by decide) (by omega) e2
  by_cases c : 0 ≤ x ∧ x ≤ row 2 - 1
  · rw [if_pos c] at g2
    subst g2
    exact Or.inl ⟨by omega, x_bool (Or.inr rfl) h⟩
  · rw [if_neg c] at g2
    subst g2
    exact Or.inr ⟨by omega, x_bool (Or.inl rfl) h⟩
/-- the shade at one parish on both sides -/
theorem shade1 {pa many v w : Int} {pl te hts H row : Nat → Int} {P : Nat} (hm : 0 ≤ many ∧ many ≤ 12) (em : many = row 0) (hh : zR hts 0 10) (hP : PREL pa pl te row) (hp : (P : Int) < pa) (hH : ∀ c : Nat, (c : Int) < many → H c = hts c) (h : f_Hill_shadeOf (P : Int) pa many pl te hts = some v) (g : f_HM_shadeAt (row (171 + P)) row H = some w) : v = w ∧ 0 ≤ v ∧ v ≤ 10 := by
  obtain ⟨⟨p0, p6, p2⟩, p3, p4, p5⟩ := hP
  unfold f_Hill_shadeOf at h
  obtain ⟨u1, e1, h⟩ := xz_d1 h
  rcases k_hasParish (by omega) ⟨p0, p6⟩ e1 with ⟨_, q2⟩ | ⟨q1, _⟩
  · subst q2
    replace h := xp_f (by decide +kernel) h
    replace h := (xp_g h).2
    replace h := (xp_g h).2
    rw [zwi (x := (P : Int)) (by omega), Int.toNat_natCast, p3 P hp] at h
    obtain ⟨u2, e2, h⟩ := xz_d1 h
    cases h
    have b4 := p4 P
    rw [p3 P hp] at b4
    have et : te (zi_w 1).toNat = te 1 := rfl
    rw [et] at e2
    unfold f_Columns_shadeAt at e2
    unfold f_HM_shadeAt at g
    exact shade_eq hm em b4 p5.2 p5.1 hh hH zfu zfu 0 0 _ _ (by decide) (by decide) e2 g
  · omega
theorem shades_eq {pa many : Int} {pl te hts H row : Nat → Int} (hm : 0 ≤ many ∧ many ≤ 12) (em : many = row 0) (hh : zR hts 0 10) (hP : PREL pa pl te row) (hH : ∀ c : Nat, (c : Int) < many → H c = hts c) : ∀ (N M k : Nat) (x v w : Int), k ≤ 6 → (0 ≤ x ∧ x ≤ 10 * (k : Int)) → f_Hill_shades_4 pa many pl te hts N x (k : Int) = some v → f_HM_allShades_4 row H M x (k : Int) = some w → v = w ∧ 0 ≤ v ∧ v ≤ 60 := by
  have hP' := hP
  obtain ⟨⟨p0, p6, p2⟩, p3, p4, p5⟩ := hP'
  intro N
  induction N with
  | zero => intro M k x v w _ _ h; exact nomatch h
  | succ N ih =>
    intro M k x v w hk hx h g
    cases M with
    | zero => exact nomatch g
    | succ M =>
      replace h : f_Hill_shades_4_b pa many pl te hts (f_Hill_shades_4 pa many pl te hts N) x (k : Int) = some v := h
      replace g : f_HM_allShades_4_b row H (f_HM_allShades_4 row H M) x (k : Int) = some w := g
      unfold f_Hill_shades_4_b at h
      unfold f_HM_allShades_4_b at g
      replace g := (xp_g g).2
      have e2 : row (zi_w 2).toNat = pa := p2.symm
      rw [e2, zwi (x := pa) (by omega), zwi (x := (k : Int)) (by omega)] at g
      rw [zwi (x := pa) (by omega), zwi (x := (k : Int)) (by omega)] at h
      by_cases e : pa ≤ (k : Int)
      · rw [if_pos e] at h g
        cases h; cases g
        exact ⟨rfl, by omega⟩
      · rw [if_neg e] at h g
        obtain ⟨u1, e1, h⟩ := xz_d1 h
        replace g := (xp_g (xp_n g)).2
        have z : (zi_w (171 + (k : Int))).toNat = 171 + k := by rw [zwi (by omega)]; omega
        rw [z] at g
        obtain ⟨w1, d1, g⟩ := xz_d1 g
        have s := shade1 hm em hh hP (by omega) hH e1 d1
        have s1 := s.1
        subst s1
        exact ih M (k + 1) _ v w (by omega) (by omega) (xp_n (xp_n h)) (xp_n (xp_n g))
theorem x_shade {a pa many s4 : Int} {pl te hts wts row hi he : Nat → Int} {v : Int} {w : Int × Int × (Nat → Int) × (Nat → Int)} (b1 : -2147483648 ≤ a ∧ a ≤ 2147483647) (hm : 0 ≤ many ∧ many ≤ 12) (em : many = row 0) (hh : zR hts 0 10) (hP : PREL pa pl te row) (hC : CREL many hts wts (fun c => row (9 + c)) (fun j => row (21 + j))) (h : f_HS_shade a pa many pl te hts = some v) (g : f_HM_shade a row s4 hi he = some w) : v = w.1 := by
  have hP' := hP
  obtain ⟨⟨p0, p6, p2⟩, p3, p4, p5⟩ := hP'
  unfold f_HS_shade at h
  unfold f_HM_shade at g
  obtain ⟨m1, m2, d1, g⟩ := xz_d2 g
  have ld := r_load d1
  have C2 : CREL many hts wts m1 m2 := CREL_load hm.2 hh hC ld.1 ld.2
  rw [zwi b1, zwi (x := -1) (by decide)] at h g
  by_cases c : a = -1
  · rw [if_neg (fun z => z c)] at h g
    obtain ⟨u1, e1, h⟩ := xz_d1 h
    obtain ⟨w1, d2, g⟩ := xz_d1 g
    unfold f_Hill_shades at e1
    unfold f_HM_allShades at d2
    have q := shades_eq hm em hh hP C2.1 zfu zfu 0 0 u1 w1 (by decide) (by decide) e1 d2
    cases h; cases g
    exact q.1
  · rw [if_pos c] at h g
    obtain ⟨u1, e1, h⟩ := xz_d1 h
    obtain ⟨w1, d2, g⟩ := xz_d1 g
    rcases k_hasParish b1 ⟨p0, p6⟩ e1 with ⟨q1, q2⟩ | ⟨q1, q2⟩ <;> rcases r_isParish b1 (by omega) d2 with ⟨o1, o2⟩ | ⟨o1, o2⟩ <;> subst q2 <;> subst o2
    · obtain ⟨P, eP⟩ : ∃ P : Nat, a = (P : Int) := ⟨a.toNat, by omega⟩
      subst eP
      obtain ⟨u2, e2, h⟩ := xz_d1 (xp_f (by decide +kernel) h)
      replace g := (xp_g (xp_n (xp_f (by decide +kernel) g))).2
      have z : (zi_w (171 + (P : Int))).toNat = 171 + P := by rw [zwi (by omega)]; omega
      rw [z] at g
      obtain ⟨w2, d3, g⟩ := xz_d1 g
      have q := shade1 hm em hh hP q1.2 C2.1 e2 d3
      cases h; cases g
      exact q.1
    · omega
    · omega
    · replace h := xp_t (by decide +kernel) h
      replace g := xp_t (by decide +kernel) g
      cases h; cases g; rfl
/-- carried there and back -/
theorem back_same {hts wts : Nat → Int} (hh : zR hts 0 10) {a b : Nat} (hab : a ≠ b) (h1 : 0 < hts a) (h2 : hts b < 10) {h1' w1' h2' w2' : Nat → Int} (e1 : h1' = zu (zu hts b (hts b + 1)) a (hts a - 1)) (e2 : w1' = zu wts (10 * b + (hts b).toNat) (TOPV hts wts a)) (e3 : h2' = zu (zu h1' a (h1' a + 1)) b (h1' b - 1)) (e4 : w2' = zu w1' (10 * a + (h1' a).toNat) (TOPV h1' w1' b)) : (∀ c, h2' c = hts c) ∧ ∀ c i : Nat, (i : Int) < hts c → w2' (10 * c + i) = wts (10 * c + i) := by
  have ba := hh a
  have bb := hh b
  have v1 : h1' a = hts a - 1 := by rw [e1, zu_eq]
  have v2 : h1' b = hts b + 1 := by rw [e1, zu_ne _ _ (Ne.symm hab), zu_eq]
  have v3 : TOPV h1' w1' b = TOPV hts wts a := by
    unfold TOPV
    rw [v2, if_neg (by omega), e2, show 10 * b + (hts b + 1 - 1).toNat = 10 * b + (hts b).toNat from by omega, zu_eq]
    rfl
  refine ⟨fun c => ?_, fun c i hi => ?_⟩
  · rw [e3]
    by_cases eb : c = b
    · subst eb; rw [zu_eq, v2]; omega
    · rw [zu_ne _ _ eb]
      by_cases ea : c = a
      · subst ea; rw [zu_eq, v1]; omega
      · rw [zu_ne _ _ ea, e1, zu_ne _ _ ea, zu_ne _ _ eb]
  · have bc := hh c
    rw [e4, v1, v3]
    by_cases ea : 10 * c + i = 10 * a + (hts a - 1).toNat
    · rw [ea, zu_eq]
      unfold TOPV
      rw [if_neg (by omega)]
    · rw [zu_ne _ _ ea, e2, zu_ne _ _ (by
        by_cases eb : c = b
        · subst eb; omega
        · omega)]
end
section
theorem HILL_same {la fo many : Int} {ord od hts wts hts' wts' row : Nat → Int} (h : HILL la fo many ord od hts wts row) (h1 : ∀ c, hts' c = hts c) (h2 : ∀ c i : Nat, (i : Int) < hts c → wts' (10 * c + i) = wts (10 * c + i)) : HILL la fo many ord od hts' wts' row :=
  ⟨h.1, fun c hc => by rw [h1 c]; exact h.2.1 c hc, fun c i hc hi => by rw [h1 c] at hi; rw [h2 c i hi]; exact h.2.2 c i hc hi⟩
theorem x_gains {a p b c : Int} {pa : Int} {pls : Nat → Int} {ch la fo many : Int} {st ex te ord od hts wts row : Nat → Int} {pi ti ba : Int} {wo pl : Nat → Int} {lw br va su th : Int} {set rest hi he : Nat → Int} {v : Int × Int × Int × Int × (Nat → Int) × (Nat → Int) × (Nat → Int) × (Nat → Int)} {w : Int × Int × Int × Int × Int × Int × (Nat → Int) × (Nat → Int) × (Nat → Int) × (Nat → Int)} (b0 : -2147483648 ≤ p ∧ p ≤ 2147483647) (b1 : -2147483648 ≤ a ∧ a ≤ 2147483647) (b2 : -2147483648 ≤ b ∧ b ≤ 2147483647) (b3 : -2147483648 ≤ c ∧ c ≤ 2147483647) (hJ : JREL ch la fo st ex te ord od row) (hm : 0 ≤ many ∧ many ≤ 12) (em : many = row 0) (hh : zR hts 0 10) (hw : zR wts 0 30) (hH : HILL la fo many ord od hts wts row) (hP : PREL pa pls te row) (h : f_HS_gains p a b c ch pa la fo many st ex pls te ord od pi ti ba wo pl hts wts = some v) (g : f_HM_gains p a b c row th lw br va su set rest hi he = some w) : v.1 = w.1 ∧ HILL la fo many ord od v.2.2.2.2.2.2.1 v.2.2.2.2.2.2.2 row := by
  have hc6 : 0 ≤ ch ∧ ch ≤ 6 := ⟨hJ.1.1, hJ.1.2.1⟩
  have ec := hJ.1.2.2
  have hP' := hP
  obtain ⟨⟨p0, p6, p2⟩, _⟩ := hP'
  unfold f_HS_gains at h
  unfold f_HM_gains at g
  obtain ⟨v0, e0, h⟩ := xz_d1 h
  obtain ⟨w0, d0, g⟩ := xz_d1 g
  rcases k_hasParish b0 ⟨p0, p6⟩ e0 with ⟨q1, q2⟩ | ⟨q1, q2⟩ <;> rcases r_isParish b0 (by omega) d0 with ⟨o1, o2⟩ | ⟨o1, o2⟩ <;> subst q2 <;> subst o2
  · replace h := xp_f (by decide +kernel) h
    replace g := xp_f (by decide +kernel) g
    obtain ⟨P, eP⟩ : ∃ P : Nat, p = (P : Int) := ⟨p.toNat, by omega⟩
    subst eP
    obtain ⟨v1, e1, h⟩ := xz_d1 h
    obtain ⟨w1, d1, g⟩ := xz_d1 g
    have k1 := k_knows b1 b2 b3 hc6 hm e1
    have r1 := r_are b1 b2 b3 (by omega) (by omega) d1
    rw [← ec, ← em] at r1
    rcases k1 with ⟨q3, q4⟩ | ⟨q3, q4⟩ <;> rcases r1 with ⟨o3, o4⟩ | ⟨o3, o4⟩ <;> subst q4 <;> subst o4
    · replace h := xp_f (by decide +kernel) h
      replace g := xp_t (by decide +kernel) g
      obtain ⟨v2, v3, v4, v5, a6, a7, e2, h⟩ := xz_d6 h
      obtain ⟨m1, m2, d2, g⟩ := xz_d2 g
      have ld := r_load d2
      obtain ⟨w4, w5, w6, w7, w8, b9, b10, d3, g⟩ := xz_d7 g
      have hC : CREL many hts wts m1 m2 := CREL_load hm.2 hh hH.2 ld.1 ld.2
      have q := eff_eq hJ hm hh hw hC q3.1 q3.2.1 q3.2.2 e2 d3
      replace q : v2 = w4 := q
      subst q
      by_cases cz : zi_w v2 = zi_w (-1)
      · rw [if_neg (fun z => z cz)] at h g
        cases h; cases g
        exact ⟨rfl, hH⟩
      · rw [if_pos cz] at h g
        have ef := eff_can hm hh q3.2.1 q3.2.2 e2 (fun z => cz (by show zi_w v2 = zi_w (-1); rw [show v2 = -1 from z]))
        obtain ⟨B, eB⟩ : ∃ B : Nat, b = (B : Int) := ⟨b.toNat, by have := q3.2.1; omega⟩
        subst eB
        obtain ⟨C, eC⟩ : ∃ C : Nat, c = (C : Int) := ⟨c.toNat, by have := q3.2.2; omega⟩
        subst eC
        rw [Int.toNat_natCast, Int.toNat_natCast] at ef
        have hbm := q3.2.1.2
        have hcm := q3.2.2.2
        have hne : B ≠ C := fun z => ef.2.2 (by rw [z])
        have bB := hh B
        have bC := hh C
        have HB := hC.1 B hbm
        have HC := hC.1 C hcm
        obtain ⟨u1, x1, h⟩ := xz_d1 h
        obtain ⟨u2, u3, x2, h⟩ := xz_d2 h
        have y2 := k_move hm hh hbm hcm hne ef.1 ef.2.1 x2
        obtain ⟨u4, x3, h⟩ := xz_d1 h
        obtain ⟨u5, u6, x4, h⟩ := xz_d2 h
        have z : (zi_w (171 + (P : Int))).toNat = 171 + P := by rw [zwi (by omega)]; omega
        replace g := (xp_g (xp_n g)).2
        rw [z] at g
        obtain ⟨z1, x5, g⟩ := xz_d1 g
        obtain ⟨z2, z3, x6, g⟩ := xz_d2 g
        have y4 := r_shift (by omega) (by omega) hne (by rw [HB]; exact bB) (by rw [HC]; exact bC) x6
        replace g := (xp_g (xp_n g)).2
        rw [z] at g
        obtain ⟨z4, x7, g⟩ := xz_d1 g
        have C2 := CREL_move hC hh hbm hcm hne ef.1 ef.2.1
        have R2 := move_r hh hne ef.1 ef.2.1
        have s1 := shade1 hm em hh hP q1.2 hC.1 x1 x5
        have yy2 : u2 = zu (zu hts C (hts C + 1)) B (hts B - 1) := congrArg Prod.fst y2
        have yy3 : u3 = zu wts (10 * C + (hts C).toNat) (TOPV hts wts B) := congrArg Prod.snd y2
        have yy4 : z2 = zu (zu m1 B (m1 B - 1)) C (m1 C + 1) := congrArg Prod.fst y4
        rw [← yy2] at R2
        have s2 := shade1 hm em R2 hP q1.2 (fun c hc => by rw [yy4, yy2]; exact C2.1 c hc) x3 x7
        have hc1 : 0 < u2 C := by rw [yy2, zu_ne _ _ (Ne.symm hne), zu_eq]; omega
        have hb1 : u2 B < 10 := by rw [yy2, zu_eq]; omega
        have y6 := k_move hm R2 hcm hbm (Ne.symm hne) hc1 hb1 x4
        have bs := back_same hh hne ef.1 ef.2.1 yy2 yy3 (congrArg Prod.fst y6) (congrArg Prod.snd y6)
        replace h := xp_n h
        replace g := xp_n g
        cases h; cases g
        refine ⟨?_, HILL_same hH bs.1 bs.2⟩
        show u1 - u4 = z1 - z4
        rw [s1.1, s2.1]
    · exact absurd q3 o3
    · exact absurd o3 q3
    · replace h := xp_t (by decide +kernel) h
      replace g := xp_f (by decide +kernel) g
      cases h; cases g
      exact ⟨rfl, hH⟩
  · omega
  · omega
  · replace h := xp_t (by decide +kernel) h
    replace g := xp_t (by decide +kernel) g
    cases h; cases g
    exact ⟨rfl, hH⟩
theorem x_exchange {ch la fo many : Int} {st ex te ord od hts wts row : Nat → Int} {a b c d s3 s30 s5 : Int} {t2 t3 : Nat → Int} {pi ti ba : Int} {wo pl : Nat → Int} {lw br va su th : Int} {set rest hi he : Nat → Int} {v : Int × Int × Int × (Nat → Int) × Int × Int × Int × (Nat → Int) × (Nat → Int) × (Nat → Int) × (Nat → Int)} {w : Int × Int × Int × Int × Int × Int × Int × (Nat → Int) × (Nat → Int) × (Nat → Int) × (Nat → Int) × (Nat → Int) × (Nat → Int)} (b1 : -2147483648 ≤ a ∧ a ≤ 2147483647) (b2 : -2147483648 ≤ b ∧ b ≤ 2147483647) (b3 : -2147483648 ≤ c ∧ c ≤ 2147483647) (b4 : -2147483648 ≤ d ∧ d ≤ 2147483647) (hJ : JREL ch la fo st ex te ord od row) (hm : 0 ≤ many ∧ many ≤ 12) (em : many = row 0) (hh : zR hts 0 10) (hw : zR wts 0 30) (hH : HILL la fo many ord od hts wts row) (eo : te 3 = row 8 ∧ 0 ≤ te 3 ∧ te 3 ≤ 99) (h : f_HS_exchange a b c d ch la fo many st ex te ord od s3 s30 t2 pi ti ba wo pl hts wts = some v) (g : f_HM_exchange a b c d th s5 lw br va su t3 row set rest hi he = some w) : SR v.1 w.1 v.2.1 w.2.2.1 t2 t3 v.2.2.2.1 w.2.2.2.2.2.2.2.1 ∧ HILL la fo many ord od v.2.2.2.2.2.2.2.2.2.1 v.2.2.2.2.2.2.2.2.2.2 w.2.2.2.2.2.2.2.2.1 := by
  have hc6 : 0 ≤ ch ∧ ch ≤ 6 := ⟨hJ.1.1, hJ.1.2.1⟩
  have ec := hJ.1.2.2
  have no2 : f_HS_exchange_25 ch la fo many st ex te ord od s3 s30 t2 pi ti ba wo pl hts wts = some v → f_HM_exchange_24 0 s5 lw br va su t3 row set rest hi he = some w → SR v.1 w.1 v.2.1 w.2.2.1 t2 t3 v.2.2.2.1 w.2.2.2.2.2.2.2.1 ∧ HILL la fo many ord od v.2.2.2.2.2.2.2.2.2.1 v.2.2.2.2.2.2.2.2.2.2 w.2.2.2.2.2.2.2.2.1 := fun h g => by
    unfold f_HS_exchange_25 at h
    unfold f_HM_exchange_24 at g
    obtain ⟨u6, u7, u8, e6, h⟩ := xz_d3 h
    obtain ⟨y3, y4, y5, e7, g⟩ := xz_d3 g
    have sr := SR_ref (by decide) e6 e7
    cases h; cases g
    exact ⟨sr, hH⟩
  unfold f_HS_exchange at h
  unfold f_HM_exchange at g
  obtain ⟨v1, e1, h⟩ := xz_d1 h
  obtain ⟨w1, d1, g⟩ := xz_d1 g
  have k1 := k_knows b1 b2 b3 hc6 hm e1
  have r1 := r_are b1 b2 b3 (by omega) (by omega) d1
  rw [← ec, ← em] at r1
  rcases k1 with ⟨q3, q4⟩ | ⟨q3, q4⟩ <;> rcases r1 with ⟨o3, o4⟩ | ⟨o3, o4⟩ <;> subst q4 <;> subst o4
  · replace h := xp_f (by decide +kernel) h
    replace g := xp_f (by decide +kernel) g
    obtain ⟨v0, e0, h⟩ := xz_d1 h
    obtain ⟨w0, d0, g⟩ := xz_d1 g
    rcases k_has b4 hm e0 with ⟨q1, q2⟩ | ⟨q1, q2⟩ <;> rcases r_isColumn b4 (by omega) d0 with ⟨o1, o2⟩ | ⟨o1, o2⟩ <;> subst q2 <;> subst o2
    · replace h := xp_t (by decide +kernel) h
      replace g := xp_t (by decide +kernel) g
      obtain ⟨v2, v3, v4, v5, a6, a7, e2, h⟩ := xz_d6 h
      obtain ⟨m1, m2, d2, g⟩ := xz_d2 g
      have ld := r_load d2
      obtain ⟨w4, w5, w6, w7, w8, b9, b10, d3, g⟩ := xz_d7 g
      have hC : CREL many hts wts m1 m2 := CREL_load hm.2 hh hH.2 ld.1 ld.2
      have q := eff_eq hJ hm hh hw hC q3.1 q3.2.1 q3.2.2 e2 d3
      replace q : v2 = w4 := q
      subst q
      by_cases cz : zi_w v2 = zi_w (-1)
      · rw [if_neg (fun z => z cz)] at h g
        obtain ⟨u6, u7, u8, e6, h⟩ := xz_d3 h
        obtain ⟨y3, y4, y5, e7, g⟩ := xz_d3 g
        have sr := SR_ref (by decide) e6 e7
        cases h; cases g
        exact ⟨sr, hH⟩
      · rw [if_pos cz] at h g
        have ef := eff_can hm hh q3.2.1 q3.2.2 e2 (fun z => cz (by show zi_w v2 = zi_w (-1); rw [show v2 = -1 from z]))
        obtain ⟨B, eB⟩ : ∃ B : Nat, b = (B : Int) := ⟨b.toNat, by have := q3.2.1; omega⟩
        subst eB
        obtain ⟨C, eC⟩ : ∃ C : Nat, c = (C : Int) := ⟨c.toNat, by have := q3.2.2; omega⟩
        subst eC
        obtain ⟨D, eD⟩ : ∃ D : Nat, d = (D : Int) := ⟨d.toNat, by omega⟩
        subst eD
        rw [Int.toNat_natCast, Int.toNat_natCast] at ef
        have hbm := q3.2.1.2
        have hcm := q3.2.2.2
        have hdm := q1.2
        have hne : B ≠ C := fun z => ef.2.2 (by rw [z])
        have bB := hh B
        have bC := hh C
        have HB := hC.1 B hbm
        have HC := hC.1 C hcm
        obtain ⟨u1, x1, h⟩ := xz_d1 h
        have y1 := k_top hm hh hbm x1
        subst y1
        obtain ⟨h1, n1, x2, h⟩ := xz_d2 h
        have y2 := k_move hm hh hbm hcm hne ef.1 ef.2.1 x2
        have yy2 : h1 = zu (zu hts C (hts C + 1)) B (hts B - 1) := congrArg Prod.fst y2
        have yy3 : n1 = zu wts (10 * C + (hts C).toNat) (TOPV hts wts B) := congrArg Prod.snd y2
        obtain ⟨z1, x3, g⟩ := xz_d1 g
        have y3 := r_top (by omega) (by rw [HB]; exact bB) x3
        rw [CREL_top hC hbm bB.1] at y3
        subst y3
        obtain ⟨m3, m4, x4, g⟩ := xz_d2 g
        have y4 := r_shift (by omega) (by omega) hne (by rw [HB]; exact bB) (by rw [HC]; exact bC) x4
        have C2 := CREL_move hC hh hbm hcm hne ef.1 ef.2.1
        have R2 := move_r hh hne ef.1 ef.2.1
        rw [← yy2] at R2
        have C3 : CREL many h1 n1 m3 m4 := by
          rw [yy2, yy3, show m3 = _ from congrArg Prod.fst y4, show m4 = _ from congrArg Prod.snd y4]
          exact C2
        have hw1 : zR n1 0 30 := by
          rw [yy3]
          exact zR_zu hw (by decide) (by decide) (TOPV_r hw B)
        have bD := R2 D
        have hc1 : 0 < h1 C := by rw [yy2, zu_ne _ _ (Ne.symm hne), zu_eq]; omega
        have hb1 : h1 B < 10 := by rw [yy2, zu_eq]; omega
        -- refused behind the first carrying
        have no3 : ∀ {p' t' q' : Int} {wo' pl' : Nat → Int}, f_HS_exchange_141 ch la fo many st ex te ord od (B : Int) (C : Int) s3 s30 t2 p' t' q' wo' pl' h1 n1 = some v → (∃ x y z, f_HM_tell (-3) s5 t3 = some (x, y, z) ∧ w.1 = x ∧ w.2.2.1 = y ∧ w.2.2.2.2.2.2.2.1 = z ∧ w.2.2.2.2.2.2.2.2.1 = row) → SR v.1 w.1 v.2.1 w.2.2.1 t2 t3 v.2.2.2.1 w.2.2.2.2.2.2.2.1 ∧ HILL la fo many ord od v.2.2.2.2.2.2.2.2.2.1 v.2.2.2.2.2.2.2.2.2.2 w.2.2.2.2.2.2.2.2.1 := fun h ⟨x, y, z, e7, hw1, hw2, hw3, hw4⟩ => by
          unfold f_HS_exchange_141 at h
          obtain ⟨u5, u6, x6, h⟩ := xz_d2 h
          have y6 := k_move hm R2 hcm hbm (Ne.symm hne) hc1 hb1 x6
          have bs := back_same hh hne ef.1 ef.2.1 yy2 yy3 (congrArg Prod.fst y6) (congrArg Prod.snd y6)
          obtain ⟨u7, u8, u9, e6, h⟩ := xz_d3 h
          have sr := SR_ref (by decide) e6 e7
          cases h
          rw [hw1, hw2, hw3, hw4]
          exact ⟨sr, HILL_same hH bs.1 bs.2⟩
        obtain ⟨u2, x5, h⟩ := xz_d1 h
        have y5 := k_top hm R2 hdm x5
        subst y5
        obtain ⟨k2, k3, k4, k5, k6, k7, e8, h⟩ := xz_d6 (xp_n (xp_n h))
        obtain ⟨l4, l5, l6, l7, l8, l9, l10, d8, g⟩ := xz_d7 g
        have qq := eff_eq hJ hm R2 hw1 C3 q3.1 q1 q3.2.1 e8 d8
        replace qq : k2 = l4 := qq
        subst qq
        by_cases cy : zi_w k2 = zi_w (-1)
        · rw [if_pos cy] at h
          rw [if_neg (fun z => z cy)] at g
          obtain ⟨y7, y8, y9, e9, g⟩ := xz_d3 g
          refine no3 h ⟨y7, y8, y9, e9, ?_⟩
          cases g
          exact ⟨rfl, rfl, rfl, rfl⟩
        · rw [if_neg cy] at h
          rw [if_pos cy] at g
          have ef2 := eff_can hm R2 q1 q3.2.1 e8 (fun z => cy (by show zi_w k2 = zi_w (-1); rw [show k2 = -1 from z]))
          rw [Int.toNat_natCast, Int.toNat_natCast] at ef2
          have hnd : D ≠ B := fun z => ef2.2.2 (by rw [z])
          replace h := (xp_g h).2
          obtain ⟨z5, x6, g⟩ := xz_d1 g
          have HD := C3.1 D hdm
          have y6 := r_top (by omega) (by rw [HD]; exact bD) x6
          rw [CREL_top C3 hdm bD.1] at y6
          subst y6
          obtain ⟨z6, x7, g⟩ := xz_d1 (xp_n g)
          have t1 := TOPV_r (h := hts) hw B
          have t2' := TOPV_r (h := h1) hw1 D
          have y7 := x_size (by omega) x7
          rw [x_abs (by omega), ← y7] at h
          replace g := (xp_g g).2
          have z3 : te (zi_w 3).toNat = te 3 := rfl
          have z8 : row (zi_w 8).toNat = te 3 := eo.1.symm
          have bz : 0 ≤ z6 ∧ z6 ≤ 30 := by rw [y7]; split <;> omega
          rw [z3, zwi (x := te 3) (by omega), zwi (x := z6) (by omega)] at h
          rw [z8, zwi (x := te 3) (by omega), zwi (x := z6) (by omega)] at g
          by_cases cu : te 3 ≤ z6
          · rw [if_pos cu] at h g
            obtain ⟨u5, u6, x8, h⟩ := xz_d2 h
            have y8 := k_move hm R2 hdm hbm hnd ef2.1 ef2.2.1 x8
            obtain ⟨u7, u8, u9, e6, h⟩ := xz_d3 h
            obtain ⟨m5, m6, x9, g⟩ := xz_d2 g
            have HB3 := C3.1 B hbm
            have y9 := r_shift (by omega) (by omega) hnd (by rw [HD]; exact bD) (by rw [HB3]; exact R2 B) x9
            obtain ⟨m7, x10, g⟩ := xz_d1 g
            have sto := r_store (by omega) x10
            obtain ⟨c1, c2, c3, e7, g⟩ := xz_d3 g
            have sr := SR_acc (f := t2) (by omega) rfl e6 e7
            have C4 := CREL_move C3 R2 hdm hbm hnd ef2.1 ef2.2.1
            have R4 := move_r R2 hnd ef2.1 ef2.2.1
            cases y8
            cases y9
            have HS := HILL_store hm.2 em R4 hH C4 sto.1 sto.2.1 sto.2.2
            cases h; cases g
            exact ⟨sr, HS⟩
          · rw [if_neg cu] at h g
            obtain ⟨y7', y8, y9, e9, g⟩ := xz_d3 g
            refine no3 h ⟨y7', y8, y9, e9, ?_⟩
            cases g
            exact ⟨rfl, rfl, rfl, rfl⟩
    · omega
    · omega
    · replace h := xp_f (by decide +kernel) h
      replace g := xp_f (by decide +kernel) g
      exact no2 h g
  · exact absurd q3 o3
  · exact absurd o3 q3
  · replace h := xp_t (by decide +kernel) h
    replace g := xp_t (by decide +kernel) g
    exact no2 h g
end
section
/-! a row of stones from the tape -/
theorem zR_put {hts : Nat → Int} (hh : zR hts 0 10) {C : Nat} (h : hts C < 10) : zR (zu hts C (hts C + 1)) 0 10 := zR_zu hh (by decide) (by decide) (by have := hh C; omega)
theorem row_eq {C : Nat} {many la fo T s3 s30 s5 : Int} {tape t2 t3 ord od : Nat → Int} {V : Int × Int × Int × Int × Int × (Nat → Int) × (Nat → Int) × (Nat → Int)} {U : Int × Int × Int × Int × Int × (Nat → Int) × (Nat → Int)} (hm : 0 ≤ many ∧ many ≤ 12) (hc : (C : Int) < many) (e0 : tape 0 = (C : Int)) (ht : zR tape 0 255) (hT : 1 ≤ T ∧ T ≤ 400) : ∀ (N M k : Nat) (p q s2 : Int) (hts wts row : Nat → Int), 1 ≤ k → (k : Int) ≤ T → 0 ≤ p → 0 ≤ q → p + q = (k : Int) - 1 → zR hts 0 10 → HILL la fo many ord od hts wts row → f_HS_row_44 tape many N T p (k : Int) 0 s2 s3 s30 t2 hts wts = some V → f_HM_row_56 tape M T (C : Int) p (k : Int) 0 s5 q 0 t3 row = some U → SR V.1 U.1 V.2.2.2.1 U.2.2.1 t2 t3 V.2.2.2.2.2.1 U.2.2.2.2.2.1 ∧ V.2.2.1 = U.2.2.2.1 ∧ HILL la fo many ord od V.2.2.2.2.2.2.1 V.2.2.2.2.2.2.2 U.2.2.2.2.2.2 := by
  intro N
  induction N with
  | zero => intro M k p q s2 hts wts row _ _ _ _ _ _ _ h; exact nomatch h
  | succ N ih =>
    intro M k p q s2 hts wts row hk1 hk hp hq hpq hh hH h g
    cases M with
    | zero => exact nomatch g
    | succ M =>
      replace h : f_HS_row_44_b tape many (f_HS_row_44 tape many N) T p (k : Int) 0 s2 s3 s30 t2 hts wts = some V := h
      replace g : f_HM_row_56_b tape (f_HM_row_56 tape M) T (C : Int) p (k : Int) 0 s5 q 0 t3 row = some U := g
      unfold f_HS_row_44_b at h
      unfold f_HM_row_56_b at g
      rw [zwi (x := T) (by omega), zwi (x := (k : Int)) (by omega)] at h g
      by_cases c : T ≤ (k : Int)
      · rw [if_pos c] at h g
        obtain ⟨u1, u2, u3, e3, h⟩ := xz_d3 (xp_n (xp_n h))
        obtain ⟨w1, w2, w3, e4, g⟩ := xz_d3 g
        have sr := SR_acc (f := t2) (by omega) rfl e3 e4
        cases h; cases g
        exact ⟨sr, by show T - 1 - p = q; omega, hH⟩
      · rw [if_neg c] at h g
        have bt := ht k
        have bC := hh C
        have ec : row (9 + C) = hts C := hH.2.1 C hc
        have z1 : (zi_w (9 + (C : Int))).toNat = 9 + C := by rw [zwi (by omega)]; omega
        have zk : (zi_w (k : Int)).toNat = k := by rw [zwi (by omega)]; omega
        replace h := (xp_g h).2
        replace g := (xp_g g).2
        rw [zk] at h g
        -- a stone that stays out
        have no : f_HS_row_94 tape many (f_HS_row_44 tape many N) T p (k : Int) 0 s2 s3 s30 t2 hts wts = some V → f_HM_row_137 tape (f_HM_row_56 tape M) T (C : Int) p (k : Int) 0 s5 q 0 t3 row = some U → SR V.1 U.1 V.2.2.2.1 U.2.2.1 t2 t3 V.2.2.2.2.2.1 U.2.2.2.2.2.1 ∧ V.2.2.1 = U.2.2.2.1 ∧ HILL la fo many ord od V.2.2.2.2.2.2.1 V.2.2.2.2.2.2.2 U.2.2.2.2.2.2 := fun h g => by
          unfold f_HS_row_94 at h
          unfold f_HM_row_137 at g
          replace g := xp_n g
          unfold f_HM_row_147 at g
          exact ih M (k + 1) p (q + 1) s2 _ _ row (by omega) (by omega) hp (by omega) (by omega) hh hH (xp_n h) (xp_n g)
        obtain ⟨w1, e1, g⟩ := xz_d1 g
        rw [zwi (x := tape k) (by omega), zwi (x := 1) (by decide), zwi (x := 30) (by decide)] at h
        rcases x_isWeight (by omega) e1 with ⟨q1, q2⟩ | ⟨q1, q2⟩ <;> subst q1
        · replace g := xp_f (by decide +kernel) g
          rw [if_neg (by omega), if_neg (by omega)] at h
          replace h := (xp_g h).2
          have z0 : tape (zi_w 0).toNat = (C : Int) := e0
          rw [z0] at h
          obtain ⟨v1, a2, a3, e2, h⟩ := xz_d3 h
          replace g := (xp_g (xp_n g)).2
          rw [z1, ec, zwi (x := hts C) (by omega), zwi (x := 10) (by decide)] at g
          rcases k_put hm hh hc e2 with ⟨q3, q4⟩ | ⟨q3, q4⟩ <;> cases q4
          · replace h := xp_n (xp_f (by decide +kernel) h)
            rw [if_neg (by omega)] at g
            replace g := xp_n (xp_g (xp_n (xp_n (xp_n g)))).2
            replace g := (xp_g g).2
            replace g := xp_n (xp_s g).2
            replace g := xp_n (xp_g g).2
            replace g := xp_n (xp_s g).2
            rw [z1, ec, zk] at g
            have z2 : (zi_w (21 + 10 * (C : Int) + hts C)).toNat = 21 + (10 * C + (hts C).toNat) := by rw [zwi (by omega)]; omega
            rw [z2, zu_ne _ _ (by omega), ec] at g
            unfold f_HS_row_94 at h
            unfold f_HM_row_147 at g
            have hp2 := HILL_put (x := tape k) hm.2 hh hH hc q3
            exact ih M (k + 1) (p + 1) q s2 _ _ _ (by omega) (by omega) (by omega) hq (by omega) (zR_put hh q3) hp2 (xp_n h) (xp_n g)
          · replace h := xp_t (by decide +kernel) h
            rw [if_pos (by omega)] at g
            exact no h g
        · replace g := xp_t (by decide +kernel) g
          by_cases c1 : tape k < 1
          · rw [if_pos c1] at h
            exact no h g
          · rw [if_neg c1, if_pos (by omega)] at h
            exact no h g
theorem x_row {many s0 s2 s3 s30 s4 s5 s6 la fo : Int} {tape t2 t3 hts wts ord od row : Nat → Int} {v : Int × Int × Int × Int × Int × (Nat → Int) × (Nat → Int) × (Nat → Int)} {w : Int × Int × Int × Int × Int × (Nat → Int) × (Nat → Int)} (hm : 0 ≤ many ∧ many ≤ 12) (em : many = row 0) (hh : zR hts 0 10) (ht : zR tape 0 255) (hT : 0 ≤ s0 ∧ s0 ≤ 400) (hH : HILL la fo many ord od hts wts row) (h : f_HS_row tape many s0 s2 s3 s30 t2 hts wts = some v) (g : f_HM_row tape s4 s5 s6 s0 t3 row = some w) : SR v.1 w.1 v.2.2.2.1 w.2.2.1 t2 t3 v.2.2.2.2.2.1 w.2.2.2.2.2.1 ∧ (s2 = s6 → v.2.2.1 = w.2.2.2.1) ∧ HILL la fo many ord od v.2.2.2.2.2.2.1 v.2.2.2.2.2.2.2 w.2.2.2.2.2.2 := by
  have no : f_HS_row_33 tape many 0 s2 s3 s30 t2 hts wts = some v → f_HM_row_32 tape 0 s5 s6 0 t3 row = some w → SR v.1 w.1 v.2.2.2.1 w.2.2.1 t2 t3 v.2.2.2.2.2.1 w.2.2.2.2.2.1 ∧ (s2 = s6 → v.2.2.1 = w.2.2.2.1) ∧ HILL la fo many ord od v.2.2.2.2.2.2.1 v.2.2.2.2.2.2.2 w.2.2.2.2.2.2 := fun h g => by
    unfold f_HS_row_33 at h
    unfold f_HM_row_32 at g
    obtain ⟨u1, u2, u3, e3, h⟩ := xz_d3 h
    obtain ⟨w1, w2, w3, e4, g⟩ := xz_d3 g
    have sr := SR_ref (by decide) e3 e4
    cases h; cases g
    exact ⟨sr, fun e => e, hH⟩
  unfold f_HS_row at h
  unfold f_HM_row at g
  rw [zwi (x := s0) (by omega)] at h g
  by_cases c : s0 = 0
  · rw [if_pos c] at h g
    exact no h g
  · rw [if_neg c] at h g
    replace h := (xp_g h).2
    replace g := (xp_g g).2
    have b0 := ht 0
    have z0 : tape (zi_w 0).toNat = tape 0 := rfl
    rw [z0] at h g
    obtain ⟨v1, e1, h⟩ := xz_d1 h
    obtain ⟨w1, d1, g⟩ := xz_d1 g
    rcases k_has (by omega) hm e1 with ⟨q1, q2⟩ | ⟨q1, q2⟩ <;> rcases r_isColumn (by omega) (by omega) d1 with ⟨p1, p2⟩ | ⟨p1, p2⟩ <;> subst q2 <;> subst p2
    · replace h := xp_t (by decide +kernel) h
      replace g := (xp_g (xp_t (by decide +kernel) g)).2
      rw [z0] at g
      obtain ⟨C, eC⟩ : ∃ C : Nat, tape 0 = (C : Int) := ⟨(tape 0).toNat, by omega⟩
      rw [eC] at g
      have r := row_eq (C := C) hm (by omega) eC ht (by omega) zfu zfu 1 0 0 s2 hts wts row (by decide) (by omega) (by decide) (by decide) (by decide) hh hH h g
      exact ⟨r.1, fun _ => r.2.1, r.2.2⟩
    · omega
    · omega
    · replace h := xp_f (by decide +kernel) h
      replace g := xp_f (by decide +kernel) g
      exact no h g
/-! rain -/
noncomputable def RREL (pm wet : Int) (ph pw rd : Nat → Int) : Prop := pm = wet ∧ ∀ c : Nat, (c : Int) < pm → ph c = rd (2 * c) ∧ LSUM pw c (ph c).toNat = rd (2 * c + 1)
theorem zu_comm {f : Nat → Int} {a b : Nat} {x y : Int} (h : a ≠ b) : zu (zu f a x) b y = zu (zu f b y) a x := by
  funext k
  by_cases e : k = b
  · subst e; rw [zu_eq, zu_ne _ _ (Ne.symm h), zu_eq]
  · by_cases e2 : k = a
    · subst e2; rw [zu_ne _ _ e, zu_eq, zu_eq]
    · rw [zu_ne _ _ e, zu_ne _ _ e2, zu_ne _ _ e2, zu_ne _ _ e]
theorem k_take {C : Nat} {many : Int} {hts wts : Nat → Int} {v : Int × (Nat → Int)} (hm : 0 ≤ many ∧ many ≤ 12) (hh : zR hts 0 10) (hc : (C : Int) < many) (h0 : 0 < hts C) (h : f_Columns_take (C : Int) many wts hts = some v) : v = (TOPV hts wts C, zu hts C (hts C - 1)) := by
  have bC := hh C
  unfold f_Columns_take at h
  obtain ⟨m1, e8, h⟩ := xz_d1 h
  have k2 := k_top hm hh hc e8
  subst k2
  obtain ⟨m2, e9, h⟩ := xz_d1 h
  have k3 := k_high hm hc e9
  subst k3
  rw [zwi (x := hts C) (by omega), if_neg (by omega)] at h
  replace h := (xp_s (xp_n (xp_g h).2)).2
  rw [zwi (x := (C : Int)) (by omega), Int.toNat_natCast] at h
  cases h
  rfl
theorem k_put_no {x a many : Int} {hts wts : Nat → Int} {v : Int × (Nat → Int) × (Nat → Int)} (hm : 0 ≤ many ∧ many ≤ 12) (hx : x = many) (h : f_Columns_put x a many hts wts = some v) : v = (0, hts, wts) := by
  unfold f_Columns_put at h
  obtain ⟨v1, e1, h⟩ := xz_d1 h
  rcases k_has (by omega) hm e1 with ⟨q1, _⟩ | ⟨_, q2⟩
  · omega
  · subst q2
    replace h := xp_t (by decide +kernel) h
    cases h
    rfl
theorem CREL_lift {many : Int} {hts wts H W : Nat → Int} (h : CREL many hts wts H W) {C : Nat} (hc : (C : Int) < many) : CREL many (zu hts C (hts C - 1)) wts (zu H C (H C - 1)) W := by
  have ec := h.1 C hc
  refine ⟨fun k hk => ?_, fun k i hk hi => ?_⟩
  · by_cases e : k = C
    · subst e; rw [zu_eq, zu_eq, ec]
    · rw [zu_ne _ _ e, zu_ne _ _ e]; exact h.1 k hk
  · by_cases e : k = C
    · subst e; rw [zu_eq] at hi; exact h.2 k i hk (by omega)
    · rw [zu_ne _ _ e] at hi; exact h.2 k i hk hi
theorem zR_take {hts : Nat → Int} (hh : zR hts 0 10) {C : Nat} (h : 0 < hts C) : zR (zu hts C (hts C - 1)) 0 10 := zR_zu hh (by decide) (by decide) (by have := hh C; omega)
theorem k_wash {C : Nat} {many : Int} {hts wts : Nat → Int} {v : Int × (Nat → Int) × (Nat → Int)} (hm : 0 ≤ many ∧ many ≤ 12) (hh : zR hts 0 10) (hc : (C : Int) < many) (h : f_Paper_wash (C : Int) many hts wts = some v) : (hts C = 0 ∧ v = (0, hts, wts)) ∨ (0 < hts C ∧ (C : Int) + 1 < many ∧ hts (C + 1) < 10 ∧ v = (0, zu (zu hts (C + 1) (hts (C + 1) + 1)) C (hts C - 1), zu wts (10 * (C + 1) + (hts (C + 1)).toNat) (TOPV hts wts C))) ∨ (0 < hts C ∧ (many ≤ (C : Int) + 1 ∨ 10 ≤ hts (C + 1)) ∧ v = (1, zu hts C (hts C - 1), wts)) := by
  have bC := hh C
  unfold f_Paper_wash at h
  obtain ⟨v1, e1, h⟩ := xz_d1 h
  have k1 := k_high hm hc e1
  subst k1
  rw [zwi (x := hts C) (by omega)] at h
  by_cases c : hts C = 0
  · rw [if_neg (fun z => z c)] at h
    cases h
    exact Or.inl ⟨c, rfl⟩
  · rw [if_pos c] at h
    obtain ⟨v2, a3, e2, h⟩ := xz_d2 h
    have k2 := k_take hm hh hc (by omega) e2
    cases k2
    obtain ⟨v5, a6, a7, e3, h⟩ := xz_d3 (xp_n h)
    by_cases d : (C : Int) + 1 < many
    · rw [show (C : Int) + 1 = ((C + 1 : Nat) : Int) from by omega] at e3
      have hr := zR_take hh (C := C) (by omega)
      rcases k_put hm hr (by omega) e3 with ⟨q1, q2⟩ | ⟨q1, q2⟩
      · rw [zu_ne _ _ (by omega)] at q1 q2
        cases q2
        replace h := xp_f (by decide +kernel) h
        cases h
        rw [zu_comm (show C ≠ C + 1 from by omega)]
        exact Or.inr (Or.inl ⟨by omega, d, q1, rfl⟩)
      · rw [zu_ne _ _ (by omega)] at q1
        cases q2
        replace h := xp_t (by decide +kernel) h
        cases h
        exact Or.inr (Or.inr ⟨by omega, Or.inr (by omega), rfl⟩)
    · have q := k_put_no hm (by omega) e3
      cases q
      replace h := xp_t (by decide +kernel) h
      cases h
      exact Or.inr (Or.inr ⟨by omega, Or.inl (by omega), rfl⟩)
theorem settle_eq {many : Int} {row hts wts H W : Nat → Int} {V U : Int × (Nat → Int) × (Nat → Int)} (hm : 0 ≤ many ∧ many ≤ 12) (em : many = row 0) (hs : 1 ≤ row 7 ∧ row 7 ≤ 99) (hh : zR hts 0 10) (hC : CREL many hts wts H W) (h : f_Columns_settle (row 7) many hts wts = some V) (g : f_HM_slideAll row H W = some U) : V.1 = U.1 ∧ zR V.2.1 0 10 ∧ CREL many V.2.1 V.2.2 U.2.1 U.2.2 := by
  unfold f_Columns_settle at h
  unfold f_HM_slideAll at g
  obtain ⟨q1, d4, g⟩ := xz_d1 g
  have r1 := r_steepest (by omega) (by omega) (fun c hc => by rw [hC.1 c (by omega)]; exact hh c) d4
  have sq := (SQ_r hh 12).2
  exact slide_eq hm em (by omega) zfu zfu 0 hts wts H W q1 hh hC (by omega) r1 h g
theorem pour_eq {many D s5 m1 : Int} {h1 w1 t3 rd row : Nat → Int} {V : Int × Int × (Nat → Int) × (Nat → Int)} {U : Int × Int × Int × Int × Int × (Nat → Int) × (Nat → Int) × (Nat → Int) × (Nat → Int)} (hm : 1 ≤ many ∧ many ≤ 12) (em : many = row 0) (hs : 1 ≤ row 7 ∧ row 7 ≤ 99) (hD : 1 ≤ D ∧ D ≤ 40) : ∀ (N M k : Nat) (p s : Int) (hts wts H W : Nat → Int), (k : Int) ≤ D → 0 ≤ p → p ≤ (k : Int) → 0 ≤ s ∧ s ≤ 1000003 → zR hts 0 10 → CREL many hts wts H W → f_Paper_pour_29 m1 h1 w1 N (row 7) D p s (k : Int) many hts wts = some V → f_HM_rain_58 row M D p (k : Int) 0 s5 s many t3 H W rd = some U → (0 ≤ V.1 ∧ V.1 ≤ D) ∧ V.2.1 = many ∧ zR V.2.2.1 0 10 ∧ ∃ (H' W' : Nat → Int) (s' : Int), CREL many V.2.2.1 V.2.2.2 H' W' ∧ f_HM_rain_177 row V.1 0 s5 s' many t3 H' W' rd = some U := by
  intro N
  induction N with
  | zero => intro M k p s hts wts H W _ _ _ _ _ _ h; exact nomatch h
  | succ N ih =>
    intro M k p s hts wts H W hk hp1 hp2 hss hh hC h g
    cases M with
    | zero => exact nomatch g
    | succ M =>
      replace h : f_Paper_pour_29_b m1 h1 w1 (f_Paper_pour_29 m1 h1 w1 N) (row 7) D p s (k : Int) many hts wts = some V := h
      replace g : f_HM_rain_58_b row (f_HM_rain_58 row M) D p (k : Int) 0 s5 s many t3 H W rd = some U := g
      unfold f_Paper_pour_29_b at h
      unfold f_HM_rain_58_b at g
      rw [zwi (x := D) (by omega), zwi (x := (k : Int)) (by omega)] at h g
      by_cases c : D ≤ (k : Int)
      · rw [if_pos c] at h g
        cases h
        exact ⟨⟨hp1, by show p ≤ D; omega⟩, rfl, hh, H, W, s, hC, g⟩
      · rw [if_neg c] at h g
        rw [zwi (x := many) (by omega), if_neg (by omega)] at g
        replace h := xp_n (xp_f (by decide +kernel) (xp_n (xp_n h)))
        replace g := xp_n (xp_n (xp_f (by decide +kernel) (xp_n (xp_n g))))
        have er1 := zi_rem_n (x := s * 1103 + 12345) (y := 1000003) (by omega) (by decide)
        have er2 := zl_rem_n (x := s * 1103 + 12345) (y := 1000003) (by omega) (by decide)
        rw [er1] at h
        rw [er2] at g
        have bs := zemod (s * 1103 + 12345) (w := 1000003) (by decide)
        generalize (s * 1103 + 12345) % 1000003 = s' at h g bs
        rw [zwi (x := many) (by omega), if_neg (by omega)] at h
        rw [zwl (x := many) (by omega), if_neg (by omega)] at g
        replace h := xp_n h
        replace g := xp_n g
        rw [zi_rem_n (x := s') (y := many) (by omega) (by omega)] at h
        rw [zl_rem_n (x := s') (y := many) (by omega) (by omega)] at g
        have bc := zemod s' (w := many) (by omega)
        generalize s' % many = cc at h g bc
        obtain ⟨C, eC⟩ : ∃ C : Nat, cc = (C : Int) := ⟨cc.toNat, by omega⟩
        subst eC
        obtain ⟨v5, a6, a7, e1, h⟩ := xz_d3 h
        have zc : (zi_w (C : Int)).toNat = C := by rw [zwi (by omega)]; omega
        have zc1 : (zi_w ((C : Int) + 1)).toNat = C + 1 := by rw [zwi (by omega)]; omega
        have bC := hh C
        have bC1 := hh (C + 1)
        have HC := hC.1 C bc.2
        have key : ∃ (H' W' : Nat → Int), (v5 = 0 ∨ v5 = 1) ∧ zR a6 0 10 ∧ CREL many a6 a7 H' W' ∧ f_HM_rain_166 row (f_HM_rain_58 row M) D (p + v5) (k : Int) 0 s5 s' many t3 H' W' rd = some U := by
          replace g := (xp_g g).2
          rw [zc, HC, zwi (x := hts C) (by omega)] at g
          rcases k_wash (by omega) hh bc.2 e1 with ⟨q1, q2⟩ | ⟨q1, q2, q3, q4⟩ | ⟨q1, q2, q3⟩
          · cases q2
            rw [if_pos (by omega)] at g
            exact ⟨H, W, Or.inl rfl, hh, hC, by rw [Int.add_zero]; exact g⟩
          · cases q4
            rw [if_neg (by omega)] at g
            replace g := xp_n g
            rw [zwi (x := (C : Int) + 1) (by omega), if_neg (by omega)] at g
            replace g := (xp_g (xp_n g)).2
            have HC1 := hC.1 (C + 1) (by omega)
            rw [zc1, HC1, zwi (x := hts (C + 1)) (by omega), zwi (x := 10) (by decide), if_neg (by omega)] at g
            obtain ⟨m1, m2, e2, g⟩ := xz_d2 (xp_n g)
            rw [show (C : Int) + 1 = ((C + 1 : Nat) : Int) from by omega] at e2
            have y := r_shift (by omega) (by omega) (show C ≠ C + 1 from by omega) (by rw [HC]; exact bC) (by rw [HC1]; exact bC1) e2
            cases y
            exact ⟨_, _, Or.inl rfl, move_r hh (show C ≠ C + 1 from by omega) q1 q3, CREL_move hC hh bc.2 (by omega) (show C ≠ C + 1 from by omega) q1 q3, by rw [Int.add_zero]; exact g⟩
          · cases q3
            rw [if_neg (by omega)] at g
            replace g := xp_n g
            rw [zwi (x := (C : Int) + 1) (by omega)] at g
            have off : f_HM_rain_152 row (f_HM_rain_58 row M) D p (k : Int) (C : Int) 0 s5 s' many t3 H W rd = some U := by
              by_cases d : many ≤ (C : Int) + 1
              · rw [if_pos d] at g; exact g
              · rw [if_neg d] at g
                replace g := (xp_g (xp_n g)).2
                have HC1 := hC.1 (C + 1) (by omega)
                rw [zc1, HC1, zwi (x := hts (C + 1)) (by omega), zwi (x := 10) (by decide), if_pos (by omega)] at g
                exact g
            unfold f_HM_rain_152 at off
            replace off := xp_n (xp_g off).2
            replace off := xp_n (xp_s off).2
            rw [zc] at off
            exact ⟨_, _, Or.inr rfl, zR_take hh q1, CREL_lift hC bc.2, off⟩
        obtain ⟨H', W', y1, y2, y3, y4⟩ := key
        unfold f_HM_rain_166 at y4
        obtain ⟨v9, a10, a11, e4, h⟩ := xz_d3 (xp_n h)
        obtain ⟨w1, w2, w3, e5, y4⟩ := xz_d3 y4
        have st := settle_eq (by omega) em hs y2 y3 e4 e5
        exact ih M (k + 1) (p + v5) s' _ _ _ _ (by omega) (by omega) (by omega) (by omega) st.2.1 st.2.2 (xp_n h) (xp_n y4)
theorem r_58_0 {b s5 s' many : Int} {t3 H W rd row : Nat → Int} {U : Int × Int × Int × Int × Int × (Nat → Int) × (Nat → Int) × (Nat → Int) × (Nat → Int)} (hb : 1 ≤ b ∧ b ≤ 40) (hm : many = 0) : ∀ N : Nat, f_HM_rain_58 row N b 0 0 0 s5 s' many t3 H W rd = some U → f_HM_rain_177 row 0 0 s5 s' many t3 H W rd = some U := by
  intro N g
  cases N with
  | zero => exact nomatch g
  | succ N =>
    replace g : f_HM_rain_58_b row (f_HM_rain_58 row N) b 0 0 0 s5 s' many t3 H W rd = some U := g
    unfold f_HM_rain_58_b at g
    rw [zwi (x := b) (by omega), zwi (x := 0) (by decide), if_neg (by omega), zwi (x := many) (by omega), if_pos (by omega)] at g
    exact g
theorem r_220 {C : Nat} {p s5 s' many : Int} {t3 H W row : Nat → Int} {K : Int → Int → Int → Int → Int → Int → (Nat → Int) → (Nat → Int) → (Nat → Int) → (Nat → Int) → Option (Int × Int × Int × Int × Int × (Nat → Int) × (Nat → Int) × (Nat → Int) × (Nat → Int))} {U : Int × Int × Int × Int × Int × (Nat → Int) × (Nat → Int) × (Nat → Int) × (Nat → Int)} (hC : C < 12) (hh : 0 ≤ H C ∧ H C ≤ 10) : ∀ (N i : Nat) (rd : Nat → Int), (i : Int) ≤ H C → rd (2 * C + 1) = LSUM W C i → f_HM_rain_220 row K N p (C : Int) (i : Int) 0 s5 s' many t3 H W rd = some U → ∃ rd' : Nat → Int, K p ((C : Int) + 1) 0 s5 s' many t3 H W rd' = some U ∧ rd' (2 * C + 1) = LSUM W C (H C).toNat ∧ ∀ y, y ≠ 2 * C + 1 → rd' y = rd y := by
  intro N
  induction N with
  | zero => intro i rd _ _ g; exact nomatch g
  | succ N ih =>
    intro i rd hi hr g
    replace g : f_HM_rain_220_b row K (f_HM_rain_220 row K N) p (C : Int) (i : Int) 0 s5 s' many t3 H W rd = some U := g
    unfold f_HM_rain_220_b at g
    replace g := (xp_g g).2
    have zc : (zi_w (C : Int)).toNat = C := by rw [zwi (by omega)]; omega
    rw [zc, zwi (x := H C) (by omega), zwi (x := (i : Int)) (by omega)] at g
    by_cases c : H C ≤ (i : Int)
    · rw [if_pos c] at g
      exact ⟨rd, xp_n g, by rw [hr, show (H C).toNat = i from by omega], fun _ _ => rfl⟩
    · rw [if_neg c] at g
      replace g := (xp_g (xp_n (xp_n g))).2
      replace g := (xp_g (xp_n (xp_n g))).2
      replace g := xp_n (xp_s (xp_n g)).2
      have z1 : (zi_w (2 * (C : Int) + 1)).toNat = 2 * C + 1 := by rw [zwi (by omega)]; omega
      have z2 : (zi_w (10 * (C : Int) + (i : Int))).toNat = 10 * C + i := by rw [zwi (by omega)]; omega
      rw [z1, z2, hr] at g
      obtain ⟨rd', r1, r2, r3⟩ := ih (i + 1) _ (by omega) (by rw [zu_eq]; rfl) g
      exact ⟨rd', r1, r2, fun y hy => by rw [r3 y hy, zu_ne _ _ hy]⟩
theorem r_180 {p s5 s' many : Int} {t3 H W row : Nat → Int} {U : Int × Int × Int × Int × Int × (Nat → Int) × (Nat → Int) × (Nat → Int) × (Nat → Int)} (hm : 0 ≤ many ∧ many ≤ 12) (hh : ∀ c : Nat, (c : Int) < many → 0 ≤ H c ∧ H c ≤ 10) : ∀ (N k : Nat) (rd : Nat → Int), k ≤ 12 → (∀ c : Nat, c < k → H c = rd (2 * c) ∧ LSUM W c (H c).toNat = rd (2 * c + 1)) → f_HM_rain_180 row N p (k : Int) 0 s5 s' many t3 H W rd = some U → ∃ x y z rd', f_HM_tell p s5 t3 = some (x, y, z) ∧ U = (x, 0, y, s', many, z, H, W, rd') ∧ ∀ c : Nat, (c : Int) < many → H c = rd' (2 * c) ∧ LSUM W c (H c).toNat = rd' (2 * c + 1) := by
  intro N
  induction N with
  | zero => intro k rd _ _ g; exact nomatch g
  | succ N ih =>
    intro k rd hk hr g
    replace g : f_HM_rain_180_b row (f_HM_rain_180 row N) p (k : Int) 0 s5 s' many t3 H W rd = some U := g
    unfold f_HM_rain_180_b at g
    rw [zwi (x := many) (by omega), zwi (x := (k : Int)) (by omega)] at g
    by_cases c : many ≤ (k : Int)
    · rw [if_pos c] at g
      obtain ⟨x, y, z, e, g⟩ := xz_d3 g
      cases g
      exact ⟨x, y, z, rd, e, rfl, fun c hc => hr c (by omega)⟩
    · rw [if_neg c] at g
      replace g := (xp_g (xp_n g)).2
      replace g := xp_n (xp_n (xp_s g).2)
      replace g := (xp_s g).2
      have zk : (zi_w (k : Int)).toNat = k := by rw [zwi (by omega)]; omega
      have z1 : (zi_w (2 * (k : Int))).toNat = 2 * k := by rw [zwi (by omega)]; omega
      have z2 : (zi_w (2 * (k : Int) + 1)).toNat = 2 * k + 1 := by rw [zwi (by omega)]; omega
      rw [zk, z1, z2] at g
      obtain ⟨rd', r1, r2, r3⟩ := r_220 (C := k) (by omega) (hh k (by omega)) zfu 0 _ (by have := (hh k (by omega)).1; omega) (by rw [zu_eq]; rfl) g
      refine ih (k + 1) rd' (by omega) (fun c hc => ?_) r1
      by_cases e : c = k
      · subst e
        exact ⟨by rw [r3 _ (by omega), zu_ne _ _ (by omega), zu_eq], r2.symm⟩
      · rw [r3 _ (by omega), r3 _ (by omega), zu_ne _ _ (by omega), zu_ne _ _ (by omega), zu_ne _ _ (by omega), zu_ne _ _ (by omega)]
        exact hr c (by omega)
theorem x_rain {a b many s3 s30 s4 s5 st wet pm : Int} {t2 t3 te hts wts ph pw hi he rd row : Nat → Int} {v : Int × Int × Int × (Nat → Int) × Int × (Nat → Int) × (Nat → Int)} {w : Int × Int × Int × Int × Int × (Nat → Int) × (Nat → Int) × (Nat → Int) × (Nat → Int)} (b1 : -2147483648 ≤ a ∧ a ≤ 2147483647) (b2 : -2147483648 ≤ b ∧ b ≤ 2147483647) (hm : 0 ≤ many ∧ many ≤ 12) (em : many = row 0) (hh : zR hts 0 10) (hph : zR ph 0 10) (et : te 2 = row 7 ∧ 1 ≤ te 2 ∧ te 2 ≤ 99) (hC : CREL many hts wts (fun c => row (9 + c)) (fun j => row (21 + j))) (h : f_HS_rain a b many te hts wts s3 s30 t2 pm ph pw = some v) (g : f_HM_rain a b row s4 s5 st wet t3 hi he rd = some w) : SR v.1 w.1 v.2.1 w.2.2.1 t2 t3 v.2.2.2.1 w.2.2.2.2.2.1 ∧ (RREL pm wet ph pw rd → RREL v.2.2.2.2.1 w.2.2.2.2.1 v.2.2.2.2.2.1 v.2.2.2.2.2.2 w.2.2.2.2.2.2.2.2) := by
  have no : f_HS_rain_22 many te hts wts s3 s30 t2 pm ph pw = some v → f_HM_rain_29 row 0 s5 st wet t3 hi he rd = some w → SR v.1 w.1 v.2.1 w.2.2.1 t2 t3 v.2.2.2.1 w.2.2.2.2.2.1 ∧ (RREL pm wet ph pw rd → RREL v.2.2.2.2.1 w.2.2.2.2.1 v.2.2.2.2.2.1 v.2.2.2.2.2.2 w.2.2.2.2.2.2.2.2) := fun h g => by
    unfold f_HS_rain_22 at h
    unfold f_HM_rain_29 at g
    obtain ⟨u1, u2, u3, e3, h⟩ := xz_d3 h
    obtain ⟨w1, w2, w3, e4, g⟩ := xz_d3 g
    have sr := SR_ref (by decide) e3 e4
    cases h; cases g
    exact ⟨sr, fun e => e⟩
  unfold f_HS_rain at h
  unfold f_HM_rain at g
  rw [zwi b1, zwi b2, zwi (x := 1000000) (by decide), zwi (x := 1) (by decide), zwi (x := 40) (by decide)] at h
  obtain ⟨w1, d1, g⟩ := xz_d1 (xp_n g)
  rw [zwi b1] at d1 g
  have g1 := x_in (by omega) (by decide) (by decide) d1
  by_cases c1 : 0 ≤ a ∧ a ≤ 1000000
  · rw [if_pos c1] at g1
    subst g1
    replace g := xp_f (by decide +kernel) g
    rw [if_neg (by omega), if_neg (by omega)] at h
    obtain ⟨w2, d2, g⟩ := xz_d1 (xp_n g)
    rw [zwi b2] at d2
    have g2 := x_in (by omega) (by decide) (by decide) d2
    by_cases c2 : 1 ≤ b ∧ b ≤ 40
    · rw [if_pos c2] at g2
      subst g2
      replace g := xp_t (by decide +kernel) g
      rw [if_neg (by omega), if_pos (by omega)] at h
      obtain ⟨m1, m2, d3, g⟩ := xz_d2 g
      have ld := r_load d3
      obtain ⟨w4, d4, g⟩ := xz_d1 (xp_n g)
      have g4 := r_columns d4
      rw [g4, ← em] at g
      replace h := (xp_g h).2
      have z2 : te (zi_w 2).toNat = row 7 := et.1
      rw [z2] at h
      obtain ⟨v2, v3, a4, a5, e1, h⟩ := xz_d4 h
      obtain ⟨v6, v7, v8, e2, h⟩ := xz_d3 h
      unfold f_Paper_pour at e1
      obtain ⟨p1, p2, p3, e3, e1⟩ := xz_d3 e1
      unfold f_Columns_become at e3
      replace e3 := xp_cp (xp_cp e3)
      cases e3
      have hh2 : zR (va_cpy hts ph (Int.toNat (zi_w 0)) (Int.toNat (zi_w 0)) (Int.toNat (zi_w 12))) 0 10 := zR_cp hh hph
      have c12 : ∀ j, j < 12 → va_cpy hts ph (Int.toNat (zi_w 0)) (Int.toNat (zi_w 0)) (Int.toNat (zi_w 12)) j = hts j := fun j hj => cpy_lt (n := 12) hj
      have c120 : ∀ j, j < 120 → va_cpy wts pw (Int.toNat (zi_w 0)) (Int.toNat (zi_w 0)) (Int.toNat (zi_w 120)) j = wts j := fun j hj => cpy_lt (n := 120) hj
      have C2 := CREL_c hm.2 hh hC c12 c120 (fun j hj => ld.1 j hj) (fun j hj => ld.2 j hj)
      generalize va_cpy hts ph (Int.toNat (zi_w 0)) (Int.toNat (zi_w 0)) (Int.toNat (zi_w 12)) = X1 at e1 hh2 C2
      generalize va_cpy wts pw (Int.toNat (zi_w 0)) (Int.toNat (zi_w 0)) (Int.toNat (zi_w 120)) = X2 at e1 C2
      rw [zwi (x := many) (by omega)] at e1
      have fin : (0 ≤ v2 ∧ v2 ≤ 40) ∧ v3 = many ∧ zR a4 0 10 ∧ ∃ (H' W' : Nat → Int) (s' : Int), CREL many a4 a5 H' W' ∧ f_HM_rain_177 row v2 0 s5 s' many t3 H' W' rd = some w := by
        by_cases c3 : many = 0
        · rw [if_neg (fun z => z c3)] at e1
          cases e1
          exact ⟨by decide, rfl, hh2, m1, m2, a, C2, r_58_0 c2 (by omega) zfu g⟩
        · rw [if_pos c3] at e1
          have r := pour_eq (by omega) em (by omega) c2 zfu zfu 0 0 a _ _ m1 m2 (by omega) (by decide) (by decide) (by omega) hh2 C2 e1 g
          exact ⟨⟨r.1.1, by have := r.1.2; omega⟩, r.2⟩
      obtain ⟨f1, f2, f3, H', W', s', f4, f5⟩ := fin
      unfold f_HM_rain_177 at f5
      obtain ⟨x, y, z, rd', q1, q2, q3⟩ := r_180 hm (fun c hc => by rw [f4.1 c hc]; exact f3 c) zfu 0 rd (by decide) (fun c hc => absurd hc (by omega)) f5
      have sr := SR_acc (f := t2) (by omega) rfl e2 q1
      subst q2
      cases h
      refine ⟨sr, fun _ => ⟨f2, fun c hc => ?_⟩⟩
      have hc' : (c : Int) < many := by rw [← f2]; exact hc
      have hcc := f4.1 c hc'
      have b3 := f3 c
      have q4 := q3 c hc'
      rw [hcc] at q4
      refine ⟨q4.1, ?_⟩
      show LSUM a5 c (a4 c).toNat = rd' (2 * c + 1)
      rw [← q4.2]
      exact (LSUM_agr _ (fun i hi => f4.2 c i hc' (by omega))).symm
    · rw [if_neg c2] at g2
      subst g2
      replace g := xp_f (by decide +kernel) g
      by_cases c3 : b < 1
      · rw [if_pos c3] at h; exact no h g
      · rw [if_neg c3, if_neg (by omega)] at h; exact no h g
  · rw [if_neg c1] at g1
    subst g1
    replace g := xp_t (by decide +kernel) g
    by_cases c3 : a < 0
    · rw [if_pos c3] at h; exact no h g
    · rw [if_neg c3, if_pos (by omega)] at h; exact no h g
theorem x_rained {a b pm wet s4 : Int} {ph pw rd : Nat → Int} {v : Int} {w : Int × Int} (b1 : -2147483648 ≤ a ∧ a ≤ 2147483647) (b2 : -2147483648 ≤ b ∧ b ≤ 2147483647) (hm : 0 ≤ pm ∧ pm ≤ 12) (hh : zR ph 0 10) (hR : RREL pm wet ph pw rd) (h : f_HS_rained a b pm ph pw = some v) (g : f_HM_rained a b wet rd s4 = some w) : v = w.1 := by
  obtain ⟨r1, r2⟩ := hR
  rw [← r1] at g
  unfold f_HS_rained at h
  unfold f_HM_rained at g
  obtain ⟨u1, e1, h⟩ := xz_d1 h
  obtain ⟨w1, d1, g⟩ := xz_d1 (xp_n (xp_n (xp_n g)))
  rw [zwi b1, zwi (x := pm) (by omega)] at d1
  have g1 := x_in (by omega) (by decide) (by omega) d1
  rw [zwi b2, zwi (x := 1) (by decide)] at h
  rw [zwi b2] at g
  rcases k_has b1 hm e1 with ⟨q1, q2⟩ | ⟨q1, q2⟩ <;> subst q2
  · rw [if_pos (by omega)] at g1
    subst g1
    replace h := xp_f (by decide +kernel) h
    replace g := xp_f (by decide +kernel) g
    obtain ⟨w2, d2, g⟩ := xz_d1 (xp_n g)
    have g2 := x_in (by omega) (by decide) (by decide) d2
    obtain ⟨C, eC⟩ : ∃ C : Nat, a = (C : Int) := ⟨a.toNat, by omega⟩
    subst eC
    by_cases c1 : 0 ≤ b ∧ b ≤ 1
    · rw [if_pos c1] at g2
      subst g2
      replace g := (xp_g (xp_n (xp_n (xp_f (by decide +kernel) g)))).2
      rw [if_neg (by omega), if_pos c1.2] at h
      have rr := r2 C q1.2
      have z : (zi_w (2 * (C : Int) + b)).toNat = 2 * C + b.toNat := by rw [zwi (by omega)]; omega
      rw [z] at g
      by_cases c2 : b = 0
      · rw [if_neg (fun z => z c2)] at h
        obtain ⟨u2, e2, h⟩ := xz_d1 h
        have k2 := k_high hm q1.2 e2
        subst k2
        cases h; cases g
        show ph C = rd (2 * C + b.toNat)
        rw [c2]
        exact rr.1
      · rw [if_pos c2] at h
        obtain ⟨u2, e2, h⟩ := xz_d1 h
        have k2 := k_load hm hh q1.2 e2
        subst k2
        cases h; cases g
        show LSUM pw C (ph C).toNat = rd (2 * C + b.toNat)
        rw [show b = 1 from by omega]
        exact rr.2
    · rw [if_neg c1] at g2
      subst g2
      replace g := xp_t (by decide +kernel) g
      cases g
      by_cases c2 : b < 0
      · rw [if_pos c2] at h; cases h; rfl
      · rw [if_neg c2, if_neg (by omega)] at h; cases h; rfl
  · rw [if_neg (by omega)] at g1
    subst g1
    replace h := xp_t (by decide +kernel) h
    replace g := xp_t (by decide +kernel) g
    cases h; cases g; rfl
theorem x_stones {many : Int} {hts row : Nat → Int} (hm : 0 ≤ many ∧ many ≤ 12) (em : many = row 0) (hH : ∀ c : Nat, (c : Int) < many → row (9 + c) = hts c) : ∀ (N M k : Nat) (x v w : Int), k ≤ 12 → f_Columns_stones_4 many hts N x (k : Int) = some v → f_HM_stones_4 row M x (k : Int) = some w → v = w := by
  intro N
  induction N with
  | zero => intro M k x v w _ h; exact nomatch h
  | succ N ih =>
    intro M k x v w hk h g
    cases M with
    | zero => exact nomatch g
    | succ M =>
      replace h : f_Columns_stones_4_b many hts (f_Columns_stones_4 many hts N) x (k : Int) = some v := h
      replace g : f_HM_stones_4_b row (f_HM_stones_4 row M) x (k : Int) = some w := g
      unfold f_Columns_stones_4_b at h
      unfold f_HM_stones_4_b at g
      obtain ⟨w1, d1, g⟩ := xz_d1 g
      have g1 := r_columns d1
      rw [g1, ← em] at g
      rw [zwi (x := many) (by omega), zwi (x := (k : Int)) (by omega)] at h g
      by_cases c : many ≤ (k : Int)
      · rw [if_pos c] at h g
        cases h; cases g; rfl
      · rw [if_neg c] at h g
        replace h := xp_n (xp_n (xp_g h).2)
        replace g := xp_n (xp_n (xp_g (xp_n g)).2)
        have z1 : (zi_w (k : Int)).toNat = k := by rw [zwi (by omega)]; omega
        have z2 : (zi_w (9 + (k : Int))).toNat = 9 + k := by rw [zwi (by omega)]; omega
        rw [z1] at h
        rw [z2, hH k (by omega)] at g
        exact ih M (k + 1) _ v w (by omega) h g
theorem x_count {a tp ch pa la fo many s4 : Int} {t2 t3 te hts row : Nat → Int} {v : Int} {w : Int × Int} (b1 : -2147483648 ≤ a ∧ a ≤ 2147483647) (hm : 0 ≤ many ∧ many ≤ 12) (em : many = row 0) (hH : ∀ c : Nat, (c : Int) < many → row (9 + c) = hts c) (e1 : ch = row 1) (e2 : pa = row 2) (e3 : la = row 3) (e4 : fo = row 4) (et : ∀ k, k < 4 → te k = row (5 + k)) (hr : ∀ k, k < 7 → t2 k = t3 k) (h : f_HS_count a tp ch pa la fo t2 many te hts = some v) (g : f_HM_count a tp t3 row s4 = some w) : v = w.1 := by
  unfold f_HS_count at h
  unfold f_HM_count at g
  rw [zwi b1] at h g
  by_cases c0 : a = 0
  · rw [if_pos c0] at h g
    obtain ⟨u, d, g⟩ := xz_d1 g
    have q := r_columns d
    cases h; cases g
    rw [em, q]
  rw [if_neg c0] at h g
  by_cases c1 : a = 1
  · rw [if_pos c1] at h g
    obtain ⟨u, e, h⟩ := xz_d1 h
    obtain ⟨u2, d, g⟩ := xz_d1 g
    unfold f_Columns_stones at e
    unfold f_HM_stones at d
    have q := x_stones hm em hH zfu zfu 0 0 _ _ (by decide) e d
    cases h; cases g
    exact q
  rw [if_neg c1] at h g
  by_cases c2 : a = 2
  · rw [if_pos c2] at h g
    replace g := (xp_g g).2
    cases h; cases g
    exact e1
  rw [if_neg c2] at h g
  by_cases c3 : a = 3
  · rw [if_pos c3] at h g
    replace g := (xp_g g).2
    cases h; cases g
    exact e2
  rw [if_neg c3] at h g
  by_cases c4 : a = 4
  · rw [if_pos c4] at h g
    replace g := (xp_g g).2
    cases h; cases g
    exact e3
  rw [if_neg c4] at h g
  by_cases c5 : a = 5
  · rw [if_pos c5] at h g
    cases h; cases g; rfl
  rw [if_neg c5] at h g
  by_cases c6 : a = 6
  · rw [if_pos c6] at h g
    replace h := (xp_g h).2
    replace g := (xp_g g).2
    cases h; cases g
    exact hr 1 (by decide)
  rw [if_neg c6] at h g
  by_cases c7 : a = 7
  · rw [if_pos c7] at h g
    replace h := (xp_g h).2
    replace g := (xp_g g).2
    cases h; cases g
    exact hr 2 (by decide)
  rw [if_neg c7] at h g
  by_cases c8 : a = 8
  · rw [if_pos c8] at h g
    replace h := (xp_g h).2
    replace g := (xp_g g).2
    cases h; cases g
    exact hr 3 (by decide)
  rw [if_neg c8] at h g
  by_cases c9 : a = 9
  · rw [if_pos c9] at h g
    replace h := (xp_g h).2
    replace g := (xp_g g).2
    cases h; cases g
    exact hr 5 (by decide)
  rw [if_neg c9] at h g
  by_cases c10 : a = 10
  · rw [if_pos c10] at h g
    replace h := (xp_g h).2
    replace g := (xp_g g).2
    cases h; cases g
    exact hr 6 (by decide)
  rw [if_neg c10] at h g
  by_cases c11 : a = 11
  · rw [if_pos c11] at h g
    replace g := (xp_g g).2
    cases h; cases g
    exact e4
  rw [if_neg c11] at h g
  obtain ⟨w1, d1, g⟩ := xz_d1 (xp_n g)
  have g1 := x_in (by omega) (by decide) (by decide) d1
  by_cases cr : 12 ≤ a ∧ a ≤ 15
  · rw [if_pos cr] at g1
    subst g1
    replace g := (xp_g (xp_n (xp_n (xp_f (by decide +kernel) g)))).2
    have z : (zi_w (5 + a - 12)).toNat = 5 + (a - 12).toNat := by rw [zwi (by omega)]; omega
    rw [z] at g
    by_cases c12 : a = 12
    · rw [if_pos c12] at h
      replace h := (xp_g h).2
      subst c12
      cases h; cases g
      exact et 0 (by decide)
    rw [if_neg c12] at h
    by_cases c13 : a = 13
    · rw [if_pos c13] at h
      replace h := (xp_g h).2
      subst c13
      cases h; cases g
      exact et 1 (by decide)
    rw [if_neg c13] at h
    by_cases c14 : a = 14
    · rw [if_pos c14] at h
      replace h := (xp_g h).2
      subst c14
      cases h; cases g
      exact et 2 (by decide)
    rw [if_neg c14] at h
    have c15 : a = 15 := by omega
    rw [if_pos c15] at h
    replace h := (xp_g h).2
    subst c15
    cases h; cases g
    exact et 3 (by decide)
  · rw [if_neg cr] at g1
    subst g1
    replace g := xp_t (by decide +kernel) g
    rw [if_neg (by omega), if_neg (by omega), if_neg (by omega), if_neg (by omega)] at h
    cases h; cases g; rfl
end
section
/-! status and refusals of the ops that change a fact -/
theorem r_change {i x st : Int} {row : Nat → Int} {w : Int × Int × (Nat → Int)} (h : f_HM_change i x st row = some w) : w = (row (zi_w i).toNat, 0, zu row (zi_w i).toNat x) := by
  unfold f_HM_change at h
  replace h := (xp_s (xp_g h).2).2
  cases h
  rfl
theorem SR_chg {x i b st st' ch : Int} {row f g : Nat → Int} {u : Int × Int × Int} {w : Int × Int × (Nat → Int)} (ex : row (zi_w i).toNat = x) (e1 : f_HS_accept x st ch = some u) (e2 : f_HM_change i b st' row = some w) : SR u.1 w.1 u.2.1 w.2.1 f g f g := by
  have k1 := k_accept e1
  have k2 := r_change e2
  rw [k1, k2, ex]
  exact ⟨rfl, rfl, fun h => h⟩
theorem x_child {a ch s3 s30 s4 s5 : Int} {t2 t3 stt exx trp row : Nat → Int} {v : Int × Int × Int × Int × (Nat → Int) × (Nat → Int) × (Nat → Int) × (Nat → Int)} {w : Int × Int × Int × (Nat → Int) × (Nat → Int)} (b1 : -2147483648 ≤ a ∧ a ≤ 2147483647) (hc : 0 ≤ ch ∧ ch ≤ 6) (ec : ch = row 1) (h : f_HS_child a s3 ch s30 t2 stt exx trp = some v) (g : f_HM_child a s4 s5 t3 row = some w) : SR v.1 w.1 v.2.1 w.2.2.1 t2 t3 v.2.2.2.2.1 w.2.2.2.1 := by
  have no : f_HS_child_11 s3 ch s30 t2 stt exx trp = some v → (∃ x y z, f_HM_tell (-1) s5 t3 = some (x, y, z) ∧ w = (x, 0, y, z, row)) → SR v.1 w.1 v.2.1 w.2.2.1 t2 t3 v.2.2.2.2.1 w.2.2.2.1 := fun h ⟨x, y, z, e4, hw⟩ => by
    unfold f_HS_child_11 at h
    obtain ⟨u1, u2, u3, e3, h⟩ := xz_d3 h
    have sr := SR_ref (by decide) e3 e4
    cases h
    subst hw
    exact sr
  unfold f_HS_child at h
  unfold f_HM_child at g
  obtain ⟨w1, e1, g⟩ := xz_d1 (xp_n g)
  rw [zwi b1] at e1
  rw [zwi b1, zwi (x := 1) (by decide), zwi (x := 60) (by decide)] at h
  have g1 := x_in (by omega) (by decide) (by decide) e1
  by_cases c : 1 ≤ a ∧ a ≤ 60
  · rw [if_pos c] at g1
    subst g1
    replace g := (xp_g (xp_t (by decide +kernel) g)).2
    have z : row (zi_w 1).toNat = ch := ec.symm
    rw [z] at g
    rw [if_neg (by omega), if_pos (by omega)] at h
    rw [zwi (x := ch) (by omega), zwi (x := 6) (by decide)] at h g
    by_cases d : ch < 6
    · rw [if_pos d] at h
      rw [if_pos (by omega)] at g
      obtain ⟨u1, u2, u3, u4, u5, e2, h⟩ := xz_d5 h
      unfold f_Hill_enroll at e2
      rw [zwi (x := ch) (by omega), zwi (x := 6) (by decide), if_pos d] at e2
      replace e2 := xp_n (xp_s (xp_s (xp_s e2).2).2).2
      cases e2
      obtain ⟨u6, u7, u8, e3, h⟩ := xz_d3 h
      replace g := (xp_s (xp_n (xp_n g))).2
      replace g := (xp_s (xp_n (xp_n (xp_n g)))).2
      replace g := (xp_s (xp_n (xp_n (xp_n g)))).2
      replace g := (xp_g g).2
      replace g := (xp_s (xp_n g)).2
      obtain ⟨w3, w4, w5, e4, g⟩ := xz_d3 g
      have sr := SR_acc (f := t2) (by omega) rfl e3 e4
      cases h; cases g
      exact sr
    · rw [if_neg d] at h
      rw [if_neg (by omega)] at g
      obtain ⟨u6, u7, u8, e3, h⟩ := xz_d3 h
      obtain ⟨w3, w4, w5, e4, g⟩ := xz_d3 g
      have sr := SR_ref (by decide) e3 e4
      cases h; cases g
      exact sr
  · rw [if_neg c] at g1
    subst g1
    replace g := xp_f (by decide +kernel) g
    obtain ⟨w3, w4, w5, e4, g⟩ := xz_d3 g
    have hw : w = (w3, 0, w4, w5, row) := by cases g; rfl
    by_cases d : a < 1
    · rw [if_pos d] at h; exact no h ⟨_, _, _, e4, hw⟩
    · rw [if_neg d, if_neg (by omega)] at h; exact no h ⟨_, _, _, e4, hw⟩
theorem x_expel {a b ch s3 s30 s4 s5 : Int} {t2 t3 ex row : Nat → Int} {v : Int × Int × Int × (Nat → Int) × (Nat → Int)} {w : Int × Int × Int × (Nat → Int) × (Nat → Int)} (b1 : -2147483648 ≤ a ∧ a ≤ 2147483647) (b2 : -2147483648 ≤ b ∧ b ≤ 2147483647) (hc : 0 ≤ ch ∧ ch ≤ 6) (ec : ch = row 1) (hv : ∀ c : Nat, (c : Int) < ch → ex c = row (154 + 3 * c)) (h : f_HS_expel a b ch s3 s30 t2 ex = some v) (g : f_HM_expel a b s4 s5 t3 row = some w) : SR v.1 w.1 v.2.1 w.2.2.1 t2 t3 v.2.2.2.1 w.2.2.2.1 := by
  have no : f_HS_expel_9 ch s3 s30 t2 ex = some v → (∃ x y z, f_HM_tell (-1) s5 t3 = some (x, y, z) ∧ w = (x, 0, y, z, row)) → SR v.1 w.1 v.2.1 w.2.2.1 t2 t3 v.2.2.2.1 w.2.2.2.1 := fun h ⟨x, y, z, e4, hw⟩ => by
    unfold f_HS_expel_9 at h
    obtain ⟨u1, u2, u3, e3, h⟩ := xz_d3 h
    have sr := SR_ref (by decide) e3 e4
    cases h
    subst hw
    exact sr
  unfold f_HS_expel at h
  unfold f_HM_expel at g
  obtain ⟨w1, e1, g⟩ := xz_d1 (xp_n g)
  rw [zwi b2] at e1
  rw [zwi b2, zwi (x := 1) (by decide)] at h
  have g1 := x_in (by omega) (by decide) (by decide) e1
  by_cases c : 0 ≤ b ∧ b ≤ 1
  · rw [if_pos c] at g1
    subst g1
    replace g := xp_t (by decide +kernel) g
    rw [if_neg (by omega), if_pos (by omega)] at h
    obtain ⟨u1, e2, h⟩ := xz_d1 h
    obtain ⟨w2, d2, g⟩ := xz_d1 g
    rcases k_hasChild b1 hc e2 with ⟨q1, q2⟩ | ⟨q1, q2⟩ <;> rcases r_isChild b1 (by omega) d2 with ⟨p1, p2⟩ | ⟨p1, p2⟩ <;> subst q2 <;> subst p2
    · obtain ⟨C, eC⟩ : ∃ C : Nat, a = (C : Int) := ⟨a.toNat, by omega⟩
      subst eC
      replace h := xp_t (by decide +kernel) h
      replace g := xp_n (xp_n (xp_n (xp_f (by decide +kernel) g)))
      replace h := (xp_s (xp_g h).2).2
      obtain ⟨u6, u7, u8, e3, h⟩ := xz_d3 h
      obtain ⟨w3, w4, w5, e4, g⟩ := xz_d3 g
      have z1 : (zi_w (C : Int)).toNat = C := by rw [zwi (by omega)]; omega
      have z2 : (zi_w (153 + 3 * (C : Int) + 1)).toNat = 154 + 3 * C := by rw [zwi (by omega)]; omega
      have sr := SR_chg (f := t2) (g := t3) (by rw [z2, z1]; exact (hv C (by omega)).symm) e3 e4
      cases h; cases g
      exact sr
    · omega
    · omega
    · replace h := xp_f (by decide +kernel) h
      replace g := xp_t (by decide +kernel) g
      obtain ⟨u6, u7, u8, e3, h⟩ := xz_d3 h
      obtain ⟨w3, w4, w5, e4, g⟩ := xz_d3 g
      have sr := SR_ref (by decide) e3 e4
      cases h; cases g
      exact sr
  · rw [if_neg c] at g1
    subst g1
    replace g := xp_f (by decide +kernel) g
    obtain ⟨w3, w4, w5, e4, g⟩ := xz_d3 g
    have hw : w = (w3, 0, w4, w5, row) := by cases g; rfl
    by_cases d : b < 0
    · rw [if_pos d] at h; exact no h ⟨_, _, _, e4, hw⟩
    · rw [if_neg d, if_neg (by omega)] at h; exact no h ⟨_, _, _, e4, hw⟩
theorem x_trips {a b ch s3 s30 s4 s5 : Int} {t2 t3 ex row : Nat → Int} {v : Int × Int × Int × (Nat → Int) × (Nat → Int)} {w : Int × Int × Int × (Nat → Int) × (Nat → Int)} (b1 : -2147483648 ≤ a ∧ a ≤ 2147483647) (b2 : -2147483648 ≤ b ∧ b ≤ 2147483647) (hc : 0 ≤ ch ∧ ch ≤ 6) (ec : ch = row 1) (hv : ∀ c : Nat, (c : Int) < ch → ex c = row (155 + 3 * c)) (h : f_HS_trips a b ch s3 s30 t2 ex = some v) (g : f_HM_trips a b s4 s5 t3 row = some w) : SR v.1 w.1 v.2.1 w.2.2.1 t2 t3 v.2.2.2.1 w.2.2.2.1 := by
  have no : f_HS_trips_10 ch s3 s30 t2 ex = some v → (∃ x y z, f_HM_tell (-1) s5 t3 = some (x, y, z) ∧ w = (x, 0, y, z, row)) → SR v.1 w.1 v.2.1 w.2.2.1 t2 t3 v.2.2.2.1 w.2.2.2.1 := fun h ⟨x, y, z, e4, hw⟩ => by
    unfold f_HS_trips_10 at h
    obtain ⟨u1, u2, u3, e3, h⟩ := xz_d3 h
    have sr := SR_ref (by decide) e3 e4
    cases h
    subst hw
    exact sr
  unfold f_HS_trips at h
  unfold f_HM_trips at g
  obtain ⟨w1, e1, g⟩ := xz_d1 (xp_n g)
  rw [zwi b2] at e1
  rw [zwi b2, zwi (x := 20) (by decide)] at h
  have g1 := x_in (by omega) (by decide) (by decide) e1
  by_cases c : 0 ≤ b ∧ b ≤ 20
  · rw [if_pos c] at g1
    subst g1
    replace g := xp_t (by decide +kernel) g
    rw [if_neg (by omega), if_pos (by omega)] at h
    obtain ⟨u1, e2, h⟩ := xz_d1 h
    obtain ⟨w2, d2, g⟩ := xz_d1 g
    rcases k_hasChild b1 hc e2 with ⟨q1, q2⟩ | ⟨q1, q2⟩ <;> rcases r_isChild b1 (by omega) d2 with ⟨p1, p2⟩ | ⟨p1, p2⟩ <;> subst q2 <;> subst p2
    · obtain ⟨C, eC⟩ : ∃ C : Nat, a = (C : Int) := ⟨a.toNat, by omega⟩
      subst eC
      replace h := xp_t (by decide +kernel) h
      replace g := xp_n (xp_n (xp_n (xp_f (by decide +kernel) g)))
      replace h := (xp_s (xp_g h).2).2
      obtain ⟨u6, u7, u8, e3, h⟩ := xz_d3 h
      obtain ⟨w3, w4, w5, e4, g⟩ := xz_d3 g
      have z1 : (zi_w (C : Int)).toNat = C := by rw [zwi (by omega)]; omega
      have z2 : (zi_w (153 + 3 * (C : Int) + 2)).toNat = 155 + 3 * C := by rw [zwi (by omega)]; omega
      have sr := SR_chg (f := t2) (g := t3) (by rw [z2, z1]; exact (hv C (by omega)).symm) e3 e4
      cases h; cases g
      exact sr
    · omega
    · omega
    · replace h := xp_f (by decide +kernel) h
      replace g := xp_t (by decide +kernel) g
      obtain ⟨u6, u7, u8, e3, h⟩ := xz_d3 h
      obtain ⟨w3, w4, w5, e4, g⟩ := xz_d3 g
      have sr := SR_ref (by decide) e3 e4
      cases h; cases g
      exact sr
  · rw [if_neg c] at g1
    subst g1
    replace g := xp_f (by decide +kernel) g
    obtain ⟨w3, w4, w5, e4, g⟩ := xz_d3 g
    have hw : w = (w3, 0, w4, w5, row) := by cases g; rfl
    by_cases d : b < 0
    · rw [if_pos d] at h; exact no h ⟨_, _, _, e4, hw⟩
    · rw [if_neg d, if_neg (by omega)] at h; exact no h ⟨_, _, _, e4, hw⟩
theorem x_parish {a many pa s3 s30 s4 s5 : Int} {t2 t3 pls row : Nat → Int} {v : Int × Int × Int × Int × (Nat → Int) × (Nat → Int)} {w : Int × Int × Int × (Nat → Int) × (Nat → Int)} (b1 : -2147483648 ≤ a ∧ a ≤ 2147483647) (hm : 0 ≤ many ∧ many ≤ 12) (em : many = row 0) (hp : 0 ≤ pa ∧ pa ≤ 6) (ep : pa = row 2) (h : f_HS_parish a many s3 pa s30 t2 pls = some v) (g : f_HM_parish a s4 s5 t3 row = some w) : SR v.1 w.1 v.2.1 w.2.2.1 t2 t3 v.2.2.2.2.1 w.2.2.2.1 := by
  unfold f_HS_parish at h
  unfold f_HM_parish at g
  obtain ⟨u1, e2, h⟩ := xz_d1 h
  obtain ⟨w2, d2, g⟩ := xz_d1 g
  rcases k_has b1 hm e2 with ⟨q1, q2⟩ | ⟨q1, q2⟩ <;> rcases r_isColumn b1 (by omega) d2 with ⟨p1, p2⟩ | ⟨p1, p2⟩ <;> subst q2 <;> subst p2
  · replace h := xp_t (by decide +kernel) h
    replace g := (xp_g (xp_t (by decide +kernel) g)).2
    have z : row (zi_w 2).toNat = pa := ep.symm
    rw [z] at g
    rw [zwi (x := pa) (by omega), zwi (x := 6) (by decide)] at h g
    by_cases d : pa < 6
    · rw [if_pos d] at h
      rw [if_pos (by omega)] at g
      replace h := xp_n (xp_s h).2
      obtain ⟨u6, u7, u8, e3, h⟩ := xz_d3 h
      replace g := (xp_g (xp_s (xp_n g)).2).2
      replace g := (xp_s (xp_n g)).2
      obtain ⟨w3, w4, w5, e4, g⟩ := xz_d3 g
      have sr := SR_acc (f := t2) (by omega) rfl e3 e4
      cases h; cases g
      exact sr
    · rw [if_neg d] at h
      rw [if_neg (by omega)] at g
      obtain ⟨u6, u7, u8, e3, h⟩ := xz_d3 h
      obtain ⟨w3, w4, w5, e4, g⟩ := xz_d3 g
      have sr := SR_ref (by decide) e3 e4
      cases h; cases g
      exact sr
  · omega
  · omega
  · replace h := xp_f (by decide +kernel) h
    replace g := xp_f (by decide +kernel) g
    obtain ⟨u6, u7, u8, e3, h⟩ := xz_d3 h
    obtain ⟨w3, w4, w5, e4, g⟩ := xz_d3 g
    have sr := SR_ref (by decide) e3 e4
    cases h; cases g
    exact sr
theorem x_goal {a b many s3 s30 s4 s5 : Int} {t2 t3 go row : Nat → Int} {v : Int × Int × Int × (Nat → Int) × (Nat → Int)} {w : Int × Int × Int × (Nat → Int) × (Nat → Int)} (b1 : -2147483648 ≤ a ∧ a ≤ 2147483647) (b2 : -2147483648 ≤ b ∧ b ≤ 2147483647) (hm : 0 ≤ many ∧ many ≤ 12) (em : many = row 0) (hv : ∀ c : Nat, (c : Int) < many → go c = row (141 + c)) (h : f_HS_goal a b many s3 s30 t2 go = some v) (g : f_HM_goal a b s4 s5 t3 row = some w) : v.2.1 = w.2.2.1 ∧ ((∀ k, k < 7 → t2 k = t3 k) → ∀ k, k < 7 → v.2.2.2.1 k = w.2.2.2.1 k) := by
  have no : f_HS_goal_11 many s3 s30 t2 go = some v → (∃ x y z q, f_HM_tell (-1) s5 t3 = some (x, y, z) ∧ w = (q, 0, y, z, row)) → v.2.1 = w.2.2.1 ∧ ((∀ k, k < 7 → t2 k = t3 k) → ∀ k, k < 7 → v.2.2.2.1 k = w.2.2.2.1 k) := fun h ⟨x, y, z, q, e4, hw⟩ => by
    unfold f_HS_goal_11 at h
    obtain ⟨u1, u2, u3, e3, h⟩ := xz_d3 h
    have sr := SR_ref (by decide) e3 e4
    cases h
    subst hw
    exact sr.2
  unfold f_HS_goal at h
  unfold f_HM_goal at g
  obtain ⟨w1, e1, g⟩ := xz_d1 (xp_n g)
  rw [zwi b2] at e1
  rw [zwi b2, zwi (x := -1) (by decide), zwi (x := 10) (by decide)] at h
  have g1 := x_in (by omega) (by decide) (by decide) e1
  by_cases c : -1 ≤ b ∧ b ≤ 10
  · rw [if_pos c] at g1
    subst g1
    replace g := xp_t (by decide +kernel) g
    rw [if_neg (by omega), if_pos (by omega)] at h
    obtain ⟨u1, e2, h⟩ := xz_d1 h
    obtain ⟨w2, d2, g⟩ := xz_d1 g
    rcases k_has b1 hm e2 with ⟨q1, q2⟩ | ⟨q1, q2⟩ <;> rcases r_isColumn b1 (by omega) d2 with ⟨p1, p2⟩ | ⟨p1, p2⟩ <;> subst q2 <;> subst p2
    · obtain ⟨C, eC⟩ : ∃ C : Nat, a = (C : Int) := ⟨a.toNat, by omega⟩
      subst eC
      replace h := xp_t (by decide +kernel) h
      replace g := xp_n (xp_t (by decide +kernel) g)
      replace h := (xp_s (xp_g h).2).2
      obtain ⟨u6, u7, u8, e3, h⟩ := xz_d3 h
      obtain ⟨w3, w4, w5, e4, g⟩ := xz_d3 g
      have z1 : (zi_w (C : Int)).toNat = C := by rw [zwi (by omega)]; omega
      have z2 : (zi_w (141 + (C : Int))).toNat = 141 + C := by rw [zwi (by omega)]; omega
      have sr := SR_chg (f := t2) (g := t3) (by rw [z2, z1]; exact (hv C (by omega)).symm) e3 e4
      cases h; cases g
      exact sr.2
    · omega
    · omega
    · replace h := xp_f (by decide +kernel) h
      replace g := xp_f (by decide +kernel) g
      obtain ⟨u6, u7, u8, e3, h⟩ := xz_d3 h
      obtain ⟨w3, w4, w5, e4, g⟩ := xz_d3 g
      have sr := SR_ref (by decide) e3 e4
      rcases xp_if g with ⟨_, g⟩ | ⟨_, g⟩ <;> cases h <;> cases g <;> exact sr.2
  · rw [if_neg c] at g1
    subst g1
    replace g := xp_f (by decide +kernel) g
    obtain ⟨w3, w4, w5, e4, g⟩ := xz_d3 g
    have hw : ∃ q, w = (q, 0, w4, w5, row) := by
      rcases xp_if g with ⟨_, g⟩ | ⟨_, g⟩ <;> cases g <;> exact ⟨_, rfl⟩
    obtain ⟨q, hw⟩ := hw
    by_cases d : b < -1
    · rw [if_pos d] at h; exact no h ⟨_, _, _, _, e4, hw⟩
    · rw [if_neg d, if_neg (by omega)] at h; exact no h ⟨_, _, _, _, e4, hw⟩
noncomputable def TLM (a b : Int) : Prop := (a = 0 ∧ 0 ≤ b ∧ b ≤ 99) ∨ (a = 1 ∧ 1 ≤ b ∧ b ≤ 9) ∨ (a = 2 ∧ 1 ≤ b ∧ b ≤ 9) ∨ (a = 3 ∧ 0 ≤ b ∧ b ≤ 30)
theorem r_isTerm {a b v : Int} (b1 : -2147483648 ≤ a ∧ a ≤ 2147483647) (b2 : -2147483648 ≤ b ∧ b ≤ 2147483647) (h : f_HM_isTerm a b = some v) : (TLM a b ∧ v = 1) ∨ (¬ TLM a b ∧ v = 0) := by
  unfold f_HM_isTerm at h
  rw [zwi b1] at h
  by_cases c0 : a = 0
  · rw [if_pos c0] at h
    obtain ⟨v1, e1, h⟩ := xz_d1 (xp_n h)
    rw [zwi b2] at e1
    have g := x_in (by omega) (by decide) (by decide) e1
    by_cases d : 0 ≤ b ∧ b ≤ 99
    · rw [if_pos d] at g; subst g
      exact Or.inl ⟨by unfold TLM; omega, x_bool (Or.inr rfl) h⟩
    · rw [if_neg d] at g; subst g
      exact Or.inr ⟨by unfold TLM; omega, x_bool (Or.inl rfl) h⟩
  rw [if_neg c0] at h
  by_cases c1 : a = 1
  · rw [if_pos c1] at h
    obtain ⟨v1, e1, h⟩ := xz_d1 (xp_n h)
    rw [zwi b2] at e1
    have g := x_in (by omega) (by decide) (by decide) e1
    by_cases d : 1 ≤ b ∧ b ≤ 9
    · rw [if_pos d] at g; subst g
      exact Or.inl ⟨by unfold TLM; omega, x_bool (Or.inr rfl) h⟩
    · rw [if_neg d] at g; subst g
      exact Or.inr ⟨by unfold TLM; omega, x_bool (Or.inl rfl) h⟩
  rw [if_neg c1] at h
  by_cases c2 : a = 2
  · rw [if_pos c2] at h
    obtain ⟨v1, e1, h⟩ := xz_d1 (xp_n h)
    rw [zwi b2] at e1
    have g := x_in (by omega) (by decide) (by decide) e1
    by_cases d : 1 ≤ b ∧ b ≤ 9
    · rw [if_pos d] at g; subst g
      exact Or.inl ⟨by unfold TLM; omega, x_bool (Or.inr rfl) h⟩
    · rw [if_neg d] at g; subst g
      exact Or.inr ⟨by unfold TLM; omega, x_bool (Or.inl rfl) h⟩
  rw [if_neg c2] at h
  by_cases c3 : a = 3
  · rw [if_pos c3] at h
    obtain ⟨v1, e1, h⟩ := xz_d1 (xp_n h)
    rw [zwi b2] at e1
    have g := x_in (by omega) (by decide) (by decide) e1
    by_cases d : 0 ≤ b ∧ b ≤ 30
    · rw [if_pos d] at g; subst g
      exact Or.inl ⟨by unfold TLM; omega, x_bool (Or.inr rfl) h⟩
    · rw [if_neg d] at g; subst g
      exact Or.inr ⟨by unfold TLM; omega, x_bool (Or.inl rfl) h⟩
  rw [if_neg c3] at h
  cases h
  exact Or.inr ⟨by unfold TLM; omega, rfl⟩
theorem k_terms {a b s3 s30 : Int} {t2 te : Nat → Int} {v : Int × Int × Int × (Nat → Int) × (Nat → Int)} (b1 : -2147483648 ≤ a ∧ a ≤ 2147483647) (b2 : -2147483648 ≤ b ∧ b ≤ 2147483647) (h : f_HS_terms a b s3 s30 t2 te = some v) : (TLM a b ∧ ∃ x y z r, f_HS_accept (te a.toNat) s3 s30 = some (x, y, z) ∧ v = (x, y, z, t2, r)) ∨ (¬ TLM a b ∧ f_HS_terms_30 s3 s30 t2 te = some v) := by
  unfold f_HS_terms at h
  rw [zwi b1, zwi b2, zwi (x := 4) (by decide)] at h
  by_cases c1 : a < 0
  · rw [if_pos c1] at h; exact Or.inr ⟨by unfold TLM; omega, h⟩
  rw [if_neg c1] at h
  by_cases c2 : 4 ≤ a
  · rw [if_pos c2] at h; exact Or.inr ⟨by unfold TLM; omega, h⟩
  rw [if_neg c2] at h
  replace h := (xp_g h).2
  have za : (zi_w a).toNat = a.toNat := by rw [zwi (by omega)]
  rw [za] at h
  rcases (show a = 0 ∨ a = 1 ∨ a = 2 ∨ a = 3 by omega) with e | e | e | e <;> subst e
  · have z0 : zk 0 (Int.toNat 0) = 0 := by decide +kernel
    have z1 : zk 1 (Int.toNat 0) = 99 := by decide +kernel
    rw [z0, zwi (x := 0) (by decide)] at h
    by_cases d1 : b < 0
    · rw [if_pos d1] at h; exact Or.inr ⟨by unfold TLM; omega, h⟩
    rw [if_neg d1] at h
    replace h := (xp_g h).2
    rw [za, z1, zwi (x := 99) (by decide)] at h
    by_cases d2 : b ≤ 99
    · rw [if_pos d2] at h
      replace h := (xp_s (xp_g h).2).2
      obtain ⟨u6, u7, u8, e3, h⟩ := xz_d3 h
      rw [za] at e3
      cases h
      exact Or.inl ⟨by unfold TLM; omega, _, _, _, _, e3, rfl⟩
    · rw [if_neg d2] at h; exact Or.inr ⟨by unfold TLM; omega, h⟩
  · have z0 : zk 0 (Int.toNat 1) = 1 := by decide +kernel
    have z1 : zk 1 (Int.toNat 1) = 9 := by decide +kernel
    rw [z0, zwi (x := 1) (by decide)] at h
    by_cases d1 : b < 1
    · rw [if_pos d1] at h; exact Or.inr ⟨by unfold TLM; omega, h⟩
    rw [if_neg d1] at h
    replace h := (xp_g h).2
    rw [za, z1, zwi (x := 9) (by decide)] at h
    by_cases d2 : b ≤ 9
    · rw [if_pos d2] at h
      replace h := (xp_s (xp_g h).2).2
      obtain ⟨u6, u7, u8, e3, h⟩ := xz_d3 h
      rw [za] at e3
      cases h
      exact Or.inl ⟨by unfold TLM; omega, _, _, _, _, e3, rfl⟩
    · rw [if_neg d2] at h; exact Or.inr ⟨by unfold TLM; omega, h⟩
  · have z0 : zk 0 (Int.toNat 2) = 1 := by decide +kernel
    have z1 : zk 1 (Int.toNat 2) = 9 := by decide +kernel
    rw [z0, zwi (x := 1) (by decide)] at h
    by_cases d1 : b < 1
    · rw [if_pos d1] at h; exact Or.inr ⟨by unfold TLM; omega, h⟩
    rw [if_neg d1] at h
    replace h := (xp_g h).2
    rw [za, z1, zwi (x := 9) (by decide)] at h
    by_cases d2 : b ≤ 9
    · rw [if_pos d2] at h
      replace h := (xp_s (xp_g h).2).2
      obtain ⟨u6, u7, u8, e3, h⟩ := xz_d3 h
      rw [za] at e3
      cases h
      exact Or.inl ⟨by unfold TLM; omega, _, _, _, _, e3, rfl⟩
    · rw [if_neg d2] at h; exact Or.inr ⟨by unfold TLM; omega, h⟩
  · have z0 : zk 0 (Int.toNat 3) = 0 := by decide +kernel
    have z1 : zk 1 (Int.toNat 3) = 30 := by decide +kernel
    rw [z0, zwi (x := 0) (by decide)] at h
    by_cases d1 : b < 0
    · rw [if_pos d1] at h; exact Or.inr ⟨by unfold TLM; omega, h⟩
    rw [if_neg d1] at h
    replace h := (xp_g h).2
    rw [za, z1, zwi (x := 30) (by decide)] at h
    by_cases d2 : b ≤ 30
    · rw [if_pos d2] at h
      replace h := (xp_s (xp_g h).2).2
      obtain ⟨u6, u7, u8, e3, h⟩ := xz_d3 h
      rw [za] at e3
      cases h
      exact Or.inl ⟨by unfold TLM; omega, _, _, _, _, e3, rfl⟩
    · rw [if_neg d2] at h; exact Or.inr ⟨by unfold TLM; omega, h⟩
theorem x_terms {a b s3 s30 s4 s5 : Int} {t2 t3 te row : Nat → Int} {v : Int × Int × Int × (Nat → Int) × (Nat → Int)} {w : Int × Int × Int × (Nat → Int) × (Nat → Int)} (b1 : -2147483648 ≤ a ∧ a ≤ 2147483647) (b2 : -2147483648 ≤ b ∧ b ≤ 2147483647) (et : ∀ k, k < 4 → te k = row (5 + k)) (h : f_HS_terms a b s3 s30 t2 te = some v) (g : f_HM_terms a b s4 s5 t3 row = some w) : SR v.1 w.1 v.2.1 w.2.2.1 t2 t3 v.2.2.2.1 w.2.2.2.1 := by
  unfold f_HM_terms at g
  obtain ⟨w1, d1, g⟩ := xz_d1 g
  rcases k_terms b1 b2 h with ⟨q1, x, y, z, r, e3, e5⟩ | ⟨q1, q2⟩ <;> rcases r_isTerm b1 b2 d1 with ⟨p1, p2⟩ | ⟨p1, p2⟩ <;> subst p2
  · replace g := xp_n (xp_f (by decide +kernel) g)
    obtain ⟨w3, w4, w5, e4, g⟩ := xz_d3 g
    have ha : 0 ≤ a ∧ a ≤ 3 := by unfold TLM at q1; omega
    have z2 : (zi_w (5 + a)).toNat = 5 + a.toNat := by rw [zwi (by omega)]; omega
    have sr := SR_chg (f := t2) (g := t3) (by rw [z2]; exact (et a.toNat (by omega)).symm) e3 e4
    subst e5
    cases g
    exact sr
  · exact absurd q1 p1
  · exact absurd p1 q1
  · replace g := xp_t (by decide +kernel) g
    obtain ⟨w3, w4, w5, e4, g⟩ := xz_d3 g
    unfold f_HS_terms_30 at q2
    obtain ⟨u6, u7, u8, e3, q2⟩ := xz_d3 q2
    have sr := SR_ref (by decide) e3 e4
    cases q2; cases g
    exact sr
theorem HILL_c {la fo many : Int} {ord od hts wts ord' od' hts' wts' row row' : Nat → Int} (hl : la ≤ 6) (hm : many ≤ 12) (hh : zR hts 0 10) (h : HILL la fo many ord od hts wts row) (h1 : ∀ j, j < 2544 → ord' j = ord j) (h2 : ∀ j, j < 6 → od' j = od j) (h3 : ∀ j, j < 12 → hts' j = hts j) (h4 : ∀ j, j < 120 → wts' j = wts j) (f : ∀ y, y < 5580 → row' y = row y) : HILL la fo many ord' od' hts' wts' row' :=
  ⟨HILL2_c hl h.1 h1 h2 f, CREL_c hm hh h.2 h3 h4 (fun j hj => f _ (by omega)) (fun j hj => f _ (by omega))⟩
theorem r_image_23 {C : Nat} {s5 : Int} {row t3 : Nat → Int} {w : Int × Int × Int × (Nat → Int) × (Nat → Int) × (Nat → Int)} : ∀ (N k : Nat) (im kp : Nat → Int), f_HM_image_23 row N (C : Int) (k : Int) 0 s5 t3 im kp = some w → ∃ x y z p q, f_HM_tell 0 s5 t3 = some (x, y, z) ∧ w = (x, 0, y, z, p, q) := by
  intro N
  induction N with
  | zero => intro k im kp g; exact nomatch g
  | succ N ih =>
    intro k im kp g
    replace g : f_HM_image_23_b row (f_HM_image_23 row N) (C : Int) (k : Int) 0 s5 t3 im kp = some w := g
    unfold f_HM_image_23_b at g
    rcases xp_if g with ⟨_, g⟩ | ⟨_, g⟩
    · replace g := (xp_s (xp_f (by decide +kernel) g)).2
      obtain ⟨x, y, z, e, g⟩ := xz_d3 g
      cases g
      exact ⟨x, y, z, _, _, e, rfl⟩
    · replace g := (xp_g (xp_n (xp_n g))).2
      replace g := xp_n (xp_s g).2
      exact ih (k + 1) _ _ g
theorem r_image {a s4 s5 : Int} {row t3 im kp : Nat → Int} {w : Int × Int × Int × (Nat → Int) × (Nat → Int) × (Nat → Int)} (b1 : -2147483648 ≤ a ∧ a ≤ 2147483647) (g : f_HM_image a row s4 s5 t3 im kp = some w) : ∃ x y z p q, f_HM_tell (if 0 ≤ a ∧ a ≤ 1 then 0 else -1) s5 t3 = some (x, y, z) ∧ w = (x, 0, y, z, p, q) := by
  unfold f_HM_image at g
  obtain ⟨w1, e1, g⟩ := xz_d1 (xp_n g)
  rw [zwi b1] at e1
  have g1 := x_in (by omega) (by decide) (by decide) e1
  by_cases c : 0 ≤ a ∧ a ≤ 1
  · rw [if_pos c] at g1 ⊢
    subst g1
    replace g := xp_t (by decide +kernel) g
    obtain ⟨C, eC⟩ : ∃ C : Nat, a = (C : Int) := ⟨a.toNat, by omega⟩
    subst eC
    exact r_image_23 zfu 0 _ _ g
  · rw [if_neg c] at g1 ⊢
    subst g1
    replace g := xp_f (by decide +kernel) g
    obtain ⟨x, y, z, e, g⟩ := xz_d3 g
    cases g
    exact ⟨x, y, z, _, _, e, rfl⟩
theorem r_back_39 {C : Nat} {s5 : Int} {im kp t3 : Nat → Int} {w : Int × Int × Int × (Nat → Int) × (Nat → Int)} : ∀ (N k : Nat) (row : Nat → Int), f_HM_back_39 im kp N (C : Int) (k : Int) 0 s5 t3 row = some w → ∃ x y z p, f_HM_tell 0 s5 t3 = some (x, y, z) ∧ w = (x, 0, y, z, p) := by
  intro N
  induction N with
  | zero => intro k row g; exact nomatch g
  | succ N ih =>
    intro k row g
    replace g : f_HM_back_39_b im kp (f_HM_back_39 im kp N) (C : Int) (k : Int) 0 s5 t3 row = some w := g
    unfold f_HM_back_39_b at g
    rcases xp_if g with ⟨_, g⟩ | ⟨_, g⟩
    · obtain ⟨x, y, z, e, g⟩ := xz_d3 g
      cases g
      exact ⟨x, y, z, _, e, rfl⟩
    · replace g := (xp_g (xp_n (xp_n g))).2
      replace g := xp_n (xp_s g).2
      exact ih (k + 1) _ g
noncomputable def BKX (a : Int) (kp : Nat → Int) : Int := if 0 ≤ a ∧ a ≤ 1 then (if kp a.toNat ≠ 0 then 0 else -2) else -1
theorem r_back {a s4 s5 : Int} {row t3 im kp : Nat → Int} {w : Int × Int × Int × (Nat → Int) × (Nat → Int)} (b1 : -2147483648 ≤ a ∧ a ≤ 2147483647) (hk : zR kp 0 1) (g : f_HM_back a im kp s4 s5 t3 row = some w) : ∃ x y z p, f_HM_tell (BKX a kp) s5 t3 = some (x, y, z) ∧ w = (x, 0, y, z, p) := by
  unfold f_HM_back at g
  unfold BKX
  obtain ⟨w1, e1, g⟩ := xz_d1 (xp_n g)
  rw [zwi b1] at e1
  have g1 := x_in (by omega) (by decide) (by decide) e1
  by_cases c : 0 ≤ a ∧ a ≤ 1
  · rw [if_pos c] at g1 ⊢
    subst g1
    replace g := (xp_g (xp_t (by decide +kernel) g)).2
    have bk := hk a.toNat
    rw [zwi (x := a) (by omega), zwi (x := kp a.toNat) (by omega)] at g
    obtain ⟨C, eC⟩ : ∃ C : Nat, a = (C : Int) := ⟨a.toNat, by omega⟩
    by_cases d : kp a.toNat ≠ 0
    · rw [if_pos d] at g ⊢
      subst eC
      exact r_back_39 zfu 0 _ g
    · rw [if_neg d] at g ⊢
      obtain ⟨x, y, z, e, g⟩ := xz_d3 g
      cases g
      exact ⟨x, y, z, _, e, rfl⟩
  · rw [if_neg c] at g1 ⊢
    subst g1
    replace g := xp_f (by decide +kernel) g
    obtain ⟨x, y, z, e, g⟩ := xz_d3 g
    cases g
    exact ⟨x, y, z, _, e, rfl⟩
end
section
/-! SETS of stones: one stone more, a column, all columns -/
noncomputable def WST (w : Int) (f : Nat → Int) : Nat → Int := fun s => if w ≤ (s : Int) then (if f s + f (s - w.toNat) ≤ 1000000000 then f s + f (s - w.toNat) else 1000000000) else f s
noncomputable def DPC (wts : Nat → Int) (c : Nat) (f : Nat → Int) : Nat → Nat → Int
  | 0 => f
  | i + 1 => WST (wts (10 * c + i)) (DPC wts c f i)
noncomputable def DPA (hts wts : Nat → Int) : Nat → Nat → Int
  | 0 => fun s => if s = 0 then 1 else 0
  | c + 1 => DPC wts c (DPA hts wts c) (hts c).toNat
theorem WST_r {w : Int} {f : Nat → Int} (hf : zR f 0 1000000000) : zR (WST w f) 0 1000000000 := fun s => by
  have b1 := hf s
  have b2 := hf (s - w.toNat)
  unfold WST
  split
  · split <;> omega
  · exact b1
theorem DPC_r {wts : Nat → Int} {c : Nat} {f : Nat → Int} (hf : zR f 0 1000000000) : ∀ i, zR (DPC wts c f i) 0 1000000000 := by
  intro i
  induction i with
  | zero => exact hf
  | succ i ih => exact WST_r ih
theorem DPA_r {hts wts : Nat → Int} : ∀ c, zR (DPA hts wts c) 0 1000000000 := by
  intro c
  induction c with
  | zero => intro s; show 0 ≤ (if s = 0 then (1 : Int) else 0) ∧ (if s = 0 then (1 : Int) else 0) ≤ 1000000000; split <;> decide
  | succ c ih => exact DPC_r ih _
theorem DPC_agr {wts wts' : Nat → Int} {c : Nat} {f : Nat → Int} : ∀ i, (∀ j, j < i → wts' (10 * c + j) = wts (10 * c + j)) → DPC wts' c f i = DPC wts c f i := by
  intro i
  induction i with
  | zero => intro _; rfl
  | succ i ih =>
    intro h
    show WST (wts' (10 * c + i)) (DPC wts' c f i) = WST (wts (10 * c + i)) (DPC wts c f i)
    rw [ih (fun j hj => h j (by omega)), h i (by omega)]
theorem DPA_agr {many : Int} {hts wts H W : Nat → Int} (hh : zR hts 0 10) (hC : CREL many hts wts H W) : ∀ c : Nat, (c : Int) ≤ many → DPA H W c = DPA hts wts c := by
  intro c
  induction c with
  | zero => intro _; rfl
  | succ c ih =>
    intro h
    show DPC W c (DPA H W c) (H c).toNat = DPC wts c (DPA hts wts c) (hts c).toNat
    rw [ih (by omega), hC.1 c (by omega)]
    have b := hh c
    exact DPC_agr _ (fun j hj => hC.2 c j (by omega) (by omega))
/-- one stone: the table from above down to its weight -/
noncomputable def STG (f : Nat → Int) (w : Int) (k n : Nat) (g : Nat → Int) : Prop := ∀ s, s < n → g s = if s < k then f s else WST w f s
theorem STG_end {f g : Nat → Int} {w : Int} {k n : Nat} (hk : (k : Int) ≤ w) (h : STG f w k n g) : ∀ s, s < n → g s = WST w f s := fun s hs => by
  have e := h s hs
  by_cases c : s < k
  · rw [if_pos c] at e
    rw [e]
    unfold WST
    rw [if_neg (by omega)]
  · rw [if_neg c] at e
    exact e
theorem STG_step {f g : Nat → Int} {w v : Int} {k n : Nat} (hn : k + 1 ≤ n) (hw : w ≤ (k : Int)) (hv : v = if f k + f (k - w.toNat) ≤ 1000000000 then f k + f (k - w.toNat) else 1000000000) (h : STG f w (k + 1) n g) : STG f w k n (zu g k v) := fun s hs => by
  have e := h s hs
  by_cases c : s = k
  · subst c
    rw [zu_eq, if_neg (by omega), hv]
    unfold WST
    rw [if_pos hw]
  · rw [zu_ne _ _ c, e]
    by_cases d : s < k
    · rw [if_pos (by omega), if_pos d]
    · rw [if_neg (by omega), if_neg d]
theorem STG_at {f g : Nat → Int} {w : Int} {k n s : Nat} (hn : k ≤ n) (h : STG f w k n g) (hs : s < k) : g s = f s := by
  have e := h s (by omega)
  rw [if_pos hs] at e
  exact e
theorem k_78 {many x1 x2 x3 w : Int} {hts wts f o : Nat → Int} {K19 : Int → Int → (Nat → Int) → Option (Nat → Int)} {K35 : Int → Int → Int → (Nat → Int) → Option (Nat → Int)} (hw : 0 ≤ w ∧ w ≤ 30) (hf : zR f 0 1000000000) : ∀ (N k : Nat) (x5 : Int) (g : Nat → Int), x5 = (k : Int) - 1 → k ≤ 3601 → STG f w k 3601 g → f_Scales_weighAll_78 many hts wts K19 K35 N x1 x2 x3 w x5 g = some o → ∃ g', (∀ s, s < 3601 → g' s = WST w f s) ∧ K35 x1 x2 (x3 + 1) g' = some o := by
  intro N
  induction N with
  | zero => intro k x5 g _ _ _ h; exact nomatch h
  | succ N ih =>
    intro k x5 g h5 hk hs h
    replace h : f_Scales_weighAll_78_b many hts wts K19 K35 (f_Scales_weighAll_78 many hts wts K19 K35 N) x1 x2 x3 w x5 g = some o := h
    unfold f_Scales_weighAll_78_b at h
    rw [zwi (x := x5) (by omega), zwi (x := w) (by omega)] at h
    by_cases c : x5 < w
    · rw [if_pos c] at h
      exact ⟨g, STG_end (by omega) hs, xp_n h⟩
    · rw [if_neg c] at h
      obtain ⟨j, ej⟩ : ∃ j, k = j + 1 := ⟨k - 1, by omega⟩
      subst ej
      have e5 : x5 = (j : Int) := by omega
      subst e5
      replace h := (xp_g h).2
      replace h := (xp_g (xp_n h)).2
      replace h := (xp_s (xp_n (xp_n h))).2
      have z1 : (zi_w (j : Int)).toNat = j := by rw [zwi (by omega)]; omega
      have z2 : (zi_w ((j : Int) - w)).toNat = j - w.toNat := by rw [zwi (by omega)]; omega
      rw [z1, z2, STG_at hk hs (show j < j + 1 by omega), STG_at hk hs (show j - w.toNat < j + 1 by omega)] at h
      have b1 := hf j
      have b2 := hf (j - w.toNat)
      have m := zi_min_f 1000000000 (by decide) (f j + f (j - w.toNat)) (by omega)
      refine ih j ((j : Int) + (-1)) _ (by omega) (by omega) (STG_step (by omega) (by omega) ?_ hs) (xp_n h)
      rcases m with ⟨m1, m2⟩ | ⟨m1, m2⟩
      · rw [m2, if_pos (by omega)]
      · rw [m2]
        split <;> omega
theorem k_35 {many o1 : Int} {C : Nat} {hts wts F o : Nat → Int} {K19 : Int → Int → (Nat → Int) → Option (Nat → Int)} (hm : 0 ≤ many ∧ many ≤ 12) (hh : zR hts 0 10) (hw : zR wts 0 30) (hc : (C : Int) < many) (hF : zR F 0 1000000000) (he : o1 = 0) : ∀ (N i : Nat) (x1 : Int) (g : Nat → Int), (i : Int) ≤ hts C → (0 ≤ x1 ∧ x1 ≤ 3600) → (∀ s, s < 3601 → g s = DPC wts C F i s) → (∀ s : Nat, s < 3601 → x1 < (s : Int) → DPC wts C F i s = 0) → f_Scales_weighAll_35 many hts wts K19 N x1 (C : Int) (i : Int) g = some o → ∃ (g' : Nat → Int) (x1' : Int), (0 ≤ x1' ∧ x1' ≤ 3600) ∧ (∀ s, s < 3601 → g' s = DPC wts C F (hts C).toNat s) ∧ (∀ s : Nat, s < 3601 → x1' < (s : Int) → DPC wts C F (hts C).toNat s = 0) ∧ K19 x1' ((C : Int) + 1) g' = some o := by
  have bC := hh C
  intro N
  induction N with
  | zero => intro i x1 g _ _ _ _ h; exact nomatch h
  | succ N ih =>
    intro i x1 g hi hx hg hz h
    replace h : f_Scales_weighAll_35_b many hts wts K19 (f_Scales_weighAll_35 many hts wts K19 N) x1 (C : Int) (i : Int) g = some o := h
    unfold f_Scales_weighAll_35_b at h
    obtain ⟨v1, e1, h⟩ := xz_d1 h
    have k1 := k_high hm hc e1
    subst k1
    rw [zwi (x := hts C) (by omega), zwi (x := (i : Int)) (by omega)] at h
    by_cases c : hts C ≤ (i : Int)
    · rw [if_pos c] at h
      have ei : (hts C).toNat = i := by omega
      rw [ei]
      exact ⟨g, x1, hx, hg, hz, xp_n h⟩
    · rw [if_neg c] at h
      obtain ⟨v2, e2, h⟩ := xz_d1 h
      have k2 := k_heft hm hh hc (by omega) e2
      rw [if_pos (by omega), Int.toNat_natCast] at k2
      subst k2
      have bw := hw (10 * C + i)
      have m := zi_min_f 3600 (by decide) (x1 + wts (10 * C + i)) (by omega)
      replace h := xp_n (xp_n h)
      generalize zi_min 3600 (x1 + wts (10 * C + i)) = y at h m
      have r := DPC_r (wts := wts) (c := C) hF i
      have st : STG (DPC wts C F i) (wts (10 * C + i)) (y + 1).toNat 3601 g := fun s hs => by
        rw [hg s hs]
        by_cases d : s < (y + 1).toNat
        · rw [if_pos d]
        · rw [if_neg d]
          unfold WST
          rw [if_pos (by omega), hz s hs (by omega), hz (s - (wts (10 * C + i)).toNat) (by omega) (by omega)]
          rfl
      obtain ⟨g', q1, q2⟩ := k_78 bw r zfu (y + 1).toNat y g (by omega) (by omega) st h
      refine ih (i + 1) y g' (by omega) (by omega) q1 (fun s hs hy => ?_) q2
      show WST (wts (10 * C + i)) (DPC wts C F i) s = 0
      unfold WST
      rw [if_pos (by omega), hz s hs (by omega), hz (s - (wts (10 * C + i)).toNat) (by omega) (by omega)]
      rfl
theorem k_19 {many : Int} {hts wts o : Nat → Int} (hm : 0 ≤ many ∧ many ≤ 12) (hh : zR hts 0 10) (hw : zR wts 0 30) : ∀ (N c : Nat) (x1 : Int) (g : Nat → Int), (c : Int) ≤ many → (0 ≤ x1 ∧ x1 ≤ 3600) → (∀ s, s < 3601 → g s = DPA hts wts c s) → (∀ s : Nat, s < 3601 → x1 < (s : Int) → DPA hts wts c s = 0) → f_Scales_weighAll_19 many hts wts N x1 (c : Int) g = some o → ∀ s, s < 3601 → o s = DPA hts wts many.toNat s := by
  intro N
  induction N with
  | zero => intro c x1 g _ _ _ _ h; exact nomatch h
  | succ N ih =>
    intro c x1 g hc hx hg hz h
    replace h : f_Scales_weighAll_19_b many hts wts (f_Scales_weighAll_19 many hts wts N) x1 (c : Int) g = some o := h
    unfold f_Scales_weighAll_19_b at h
    rw [zwi (x := many) (by omega), zwi (x := (c : Int)) (by omega)] at h
    by_cases d : many ≤ (c : Int)
    · rw [if_pos d] at h
      cases h
      rw [show many.toNat = c from by omega]
      exact hg
    · rw [if_neg d] at h
      have bC := hh c
      obtain ⟨g', x1', q1, q2, q3, q4⟩ := k_35 (o1 := 0) hm hh hw (by omega) (DPA_r c) rfl zfu 0 x1 g (by omega) hx hg hz h
      exact ih (c + 1) x1' g' (by omega) q1 q2 q3 q4
theorem k_fill {o : Nat → Int} : ∀ (N k : Nat) (g : Nat → Int), k ≤ 3601 → (∀ s, s < k → g s = 0) → f_Arrays_fill_n3601_5 N 0 (k : Int) 3601 g = some o → ∀ s, s < 3601 → o s = 0 := by
  intro N
  induction N with
  | zero => intro k g _ _ h; exact nomatch h
  | succ N ih =>
    intro k g hk hg h
    replace h : f_Arrays_fill_n3601_5_b (f_Arrays_fill_n3601_5 N) 0 (k : Int) 3601 g = some o := h
    unfold f_Arrays_fill_n3601_5_b at h
    rw [zwi (x := 3601) (by decide), zwi (x := (k : Int)) (by omega)] at h
    by_cases c : (3601 : Int) ≤ (k : Int)
    · rw [if_pos c] at h
      cases h
      exact fun s hs => hg s (by omega)
    · rw [if_neg c] at h
      replace h := xp_n (xp_s h).2
      have z1 : (zi_w (k : Int)).toNat = k := by rw [zwi (by omega)]; omega
      rw [z1] at h
      refine ih (k + 1) _ (by omega) (fun s hs => ?_) h
      by_cases e : s = k
      · subst e; rw [zu_eq]
      · rw [zu_ne _ _ e]; exact hg s (by omega)
theorem k_weighAll {many : Int} {hts wts g o : Nat → Int} (hm : 0 ≤ many ∧ many ≤ 12) (hh : zR hts 0 10) (hw : zR wts 0 30) (h : f_Scales_weighAll many hts wts g = some o) : ∀ s, s < 3601 → o s = DPA hts wts many.toNat s := by
  unfold f_Scales_weighAll at h
  obtain ⟨a1, e1, h⟩ := xz_d1 h
  unfold f_Arrays_fill_n3601 at e1
  have f1 := k_fill zfu 0 g (by decide) (fun s hs => absurd hs (by omega)) e1
  replace h := (xp_s h).2
  have z : (zi_w 0).toNat = 0 := rfl
  rw [z] at h
  refine k_19 hm hh hw zfu 0 0 _ (by omega) (by decide) (fun s hs => ?_) (fun s hs hx => ?_) h
  · show zu a1 0 1 s = if s = 0 then 1 else 0
    by_cases e : s = 0
    · subst e; rw [zu_eq, if_pos rfl]
    · rw [zu_ne _ _ e, if_neg e]; exact f1 s hs
  · show (if s = 0 then (1 : Int) else 0) = 0
    rw [if_neg (by omega)]
theorem r_91 {X x2 x3 w : Int} {row f : Nat → Int} {o : Int × Int × (Nat → Int)} {K49 : Int → Int → Int → (Nat → Int) → Option (Int × Int × (Nat → Int))} {K59 : Int → Int → Int → Int → (Nat → Int) → Option (Int × Int × (Nat → Int))} (hX : 0 ≤ X ∧ X ≤ 3600) (hw : 0 ≤ w ∧ w ≤ 30) (hf : zR f 0 1000000000) : ∀ (N k : Nat) (x5 : Int) (g : Nat → Int), x5 = (k : Int) - 1 → (k : Int) ≤ X + 1 → STG f w k (X + 1).toNat g → f_HM_weighs_91 row K49 K59 N X x2 x3 w x5 0 g = some o → ∃ g', (∀ s, s < (X + 1).toNat → g' s = WST w f s) ∧ K59 X x2 (x3 + 1) 0 g' = some o := by
  intro N
  induction N with
  | zero => intro k x5 g _ _ _ h; exact nomatch h
  | succ N ih =>
    intro k x5 g h5 hk hs h
    replace h : f_HM_weighs_91_b row K49 K59 (f_HM_weighs_91 row K49 K59 N) X x2 x3 w x5 0 g = some o := h
    unfold f_HM_weighs_91_b at h
    rw [zwi (x := x5) (by omega), zwi (x := w) (by omega)] at h
    by_cases c : x5 < w
    · rw [if_pos c] at h
      exact ⟨g, STG_end (by omega) hs, xp_n h⟩
    · rw [if_neg c] at h
      obtain ⟨j, ej⟩ : ∃ j, k = j + 1 := ⟨k - 1, by omega⟩
      subst ej
      have e5 : x5 = (j : Int) := by omega
      subst e5
      replace h := (xp_g h).2
      replace h := xp_n (xp_g (xp_n h)).2
      have z1 : (zi_w (j : Int)).toNat = j := by rw [zwi (by omega)]; omega
      have z2 : (zi_w ((j : Int) - w)).toNat = j - w.toNat := by rw [zwi (by omega)]; omega
      have hk' : j + 1 ≤ (X + 1).toNat := by omega
      rw [z1, z2, STG_at hk' hs (show j < j + 1 by omega), STG_at hk' hs (show j - w.toNat < j + 1 by omega)] at h
      have b1 := hf j
      have b2 := hf (j - w.toNat)
      rw [zwl (x := f j + f (j - w.toNat)) (by omega), zwl (x := 1000000000) (by decide)] at h
      by_cases d : f j + f (j - w.toNat) ≤ 1000000000
      · rw [if_pos d] at h
        unfold f_HM_weighs_141 at h
        replace h := xp_n (xp_s h).2
        rw [z1] at h
        exact ih j ((j : Int) + (-1)) _ (by omega) (by omega) (STG_step (by omega) (by omega) (by rw [if_pos d]) hs) h
      · rw [if_neg d] at h
        unfold f_HM_weighs_141 at h
        replace h := xp_n (xp_s h).2
        rw [z1] at h
        exact ih j ((j : Int) + (-1)) _ (by omega) (by omega) (STG_step (by omega) (by omega) (by rw [if_neg d]) hs) h
theorem r_59 {X : Int} {C : Nat} {row F : Nat → Int} {o : Int × Int × (Nat → Int)} {K49 : Int → Int → Int → (Nat → Int) → Option (Int × Int × (Nat → Int))} (hX : 0 ≤ X ∧ X ≤ 3600) (hC : C < 12) (hR : RI row) (hF : zR F 0 1000000000) : ∀ (N i : Nat) (g : Nat → Int), (i : Int) ≤ row (9 + C) → (∀ s, s < (X + 1).toNat → g s = DPC (fun j => row (21 + j)) C F i s) → f_HM_weighs_59 row K49 N X (C : Int) (i : Int) 0 g = some o → ∃ g' : Nat → Int, (∀ s, s < (X + 1).toNat → g' s = DPC (fun j => row (21 + j)) C F (row (9 + C)).toNat s) ∧ K49 X ((C : Int) + 1) 0 g' = some o := by
  have bC : 0 ≤ row (9 + C) ∧ row (9 + C) ≤ 10 := by
    have := RI_h hR (i := 9 + (C : Int)) (by omega)
    rw [show (9 + (C : Int)).toNat = 9 + C from by omega] at this
    exact this
  intro N
  induction N with
  | zero => intro i g _ _ h; exact nomatch h
  | succ N ih =>
    intro i g hi hg h
    replace h : f_HM_weighs_59_b row K49 (f_HM_weighs_59 row K49 N) X (C : Int) (i : Int) 0 g = some o := h
    unfold f_HM_weighs_59_b at h
    replace h := (xp_g (xp_n h)).2
    have z1 : (zi_w (9 + (C : Int))).toNat = 9 + C := by rw [zwi (by omega)]; omega
    rw [z1, zwi (x := row (9 + C)) (by omega), zwi (x := (i : Int)) (by omega)] at h
    by_cases c : row (9 + C) ≤ (i : Int)
    · rw [if_pos c] at h
      have ei : (row (9 + C)).toNat = i := by omega
      rw [ei]
      exact ⟨g, hg, xp_n h⟩
    · rw [if_neg c] at h
      replace h := (xp_g (xp_n (xp_n (xp_n h)))).2
      have z2 : (zi_w (21 + 10 * (C : Int) + (i : Int))).toNat = 21 + (10 * C + i) := by rw [zwi (by omega)]; omega
      rw [z2] at h
      have bw : 0 ≤ row (21 + (10 * C + i)) ∧ row (21 + (10 * C + i)) ≤ 30 := by
        have := RI_s hR (i := 21 + 10 * (C : Int) + (i : Int)) (by omega)
        rw [show (21 + 10 * (C : Int) + (i : Int)).toNat = 21 + (10 * C + i) from by omega] at this
        exact this
      have r := DPC_r (wts := fun j => row (21 + j)) (c := C) hF i
      obtain ⟨g', q1, q2⟩ := r_91 hX bw r zfu (X + 1).toNat X g (by omega) (by omega) (fun s hs => by rw [if_pos hs]; exact hg s hs) h
      exact ih (i + 1) g' (by omega) q1 q2
theorem r_49 {X : Int} {row : Nat → Int} {o : Int × Int × (Nat → Int)} (hX : 0 ≤ X ∧ X ≤ 3600) (hR : RI row) : ∀ (N c : Nat) (g : Nat → Int), (c : Int) ≤ row 0 → (∀ s, s < (X + 1).toNat → g s = DPA (fun c => row (9 + c)) (fun j => row (21 + j)) c s) → f_HM_weighs_49 row N X (c : Int) 0 g = some o → o.1 = DPA (fun c => row (9 + c)) (fun j => row (21 + j)) (row 0).toNat X.toNat := by
  have b0 := RI_0 hR
  intro N
  induction N with
  | zero => intro c g _ _ h; exact nomatch h
  | succ N ih =>
    intro c g hc hg h
    replace h : f_HM_weighs_49_b row (f_HM_weighs_49 row N) X (c : Int) 0 g = some o := h
    unfold f_HM_weighs_49_b at h
    obtain ⟨v1, e1, h⟩ := xz_d1 h
    have k1 := r_columns e1
    rw [k1, zwi (x := row 0) (by omega), zwi (x := (c : Int)) (by omega)] at h
    by_cases d : row 0 ≤ (c : Int)
    · rw [if_pos d] at h
      replace h := (xp_g h).2
      cases h
      show g (zi_w X).toNat = _
      rw [show (row 0).toNat = c from by omega, zwi (x := X) (by omega)]
      exact hg _ (by omega)
    · rw [if_neg d] at h
      obtain ⟨g', q1, q2⟩ := r_59 hX (by omega) hR (DPA_r c) zfu 0 g (by have := RI_h hR (i := 9 + (c : Int)) (by omega); rw [show (9 + (c : Int)).toNat = 9 + c from by omega] at this; omega) hg h
      exact ih (c + 1) g' (by omega) q1 q2
theorem r_21 {X : Int} {row : Nat → Int} {o : Int × Int × (Nat → Int)} (hX : 0 ≤ X ∧ X ≤ 3600) (hR : RI row) : ∀ (N k : Nat) (g : Nat → Int), (k : Int) ≤ X + 1 → (∀ s, s < k → g s = if s = 0 then 1 else 0) → f_HM_weighs_21 row N X (k : Int) 0 g = some o → o.1 = DPA (fun c => row (9 + c)) (fun j => row (21 + j)) (row 0).toNat X.toNat := by
  intro N
  induction N with
  | zero => intro k g _ _ h; exact nomatch h
  | succ N ih =>
    intro k g hk hg h
    replace h : f_HM_weighs_21_b row (f_HM_weighs_21 row N) X (k : Int) 0 g = some o := h
    unfold f_HM_weighs_21_b at h
    rw [zwi (x := X) (by omega), zwi (x := (k : Int)) (by omega)] at h
    by_cases c : X < (k : Int)
    · rw [if_pos c] at h
      exact r_49 hX hR zfu 0 g (RI_0 hR).1 (fun s hs => hg s (by omega)) h
    · rw [if_neg c] at h
      have z1 : (zi_w (k : Int)).toNat = k := by rw [zwi (by omega)]; omega
      have fin : ∀ v : Int, v = (if k = 0 then 1 else 0) → f_HM_weighs_40 row (f_HM_weighs_21 row N) X (k : Int) (k : Int) v 0 g = some o → o.1 = DPA (fun c => row (9 + c)) (fun j => row (21 + j)) (row 0).toNat X.toNat := fun v hv h => by
        unfold f_HM_weighs_40 at h
        replace h := xp_n (xp_s h).2
        rw [z1] at h
        refine ih (k + 1) _ (by omega) (fun s hs => ?_) h
        by_cases e : s = k
        · subst e; rw [zu_eq, hv]
        · rw [zu_ne _ _ e]; exact hg s (by omega)
      by_cases d : (k : Int) = 0
      · rw [if_neg (fun z => z d)] at h
        exact fin 1 (by rw [if_pos (by omega)]) h
      · rw [if_pos d] at h
        exact fin 0 (by rw [if_neg (by omega)]) h
/-- what the class has weighed: of the hill at these changes -/
noncomputable def WOK (ver ch : Int) (many : Int) (hts wts sets : Nat → Int) : Prop := ver ≤ ch ∧ (ver = ch → ∀ s, s < 3601 → sets s = DPA hts wts many.toNat s)
theorem x_weighs {a many ch ver s4 N : Int} {hts wts sets row rs : Nat → Int} {v : Int × Int × (Nat → Int)} {w : Int × Int × (Nat → Int)} (b1 : -2147483648 ≤ a ∧ a ≤ 2147483647) (hm : 0 ≤ many ∧ many ≤ 12) (em : many = row 0) (hh : zR hts 0 10) (hw : zR wts 0 30) (hR : RI row) (hC : CREL many hts wts (fun c => row (9 + c)) (fun j => row (21 + j))) (hch : 0 ≤ ch ∧ ch ≤ 2147483647) (hv : -2147483648 ≤ ver) (hW : WOK ver ch many hts wts sets) (h : f_HS_weighs a ch many hts wts ver sets = some v) (g : f_HM_weighs a row s4 rs = some w) : v.1 = w.1 ∧ WOK v.2.1 ch many hts wts v.2.2 := by
  unfold f_HS_weighs at h
  obtain ⟨u1, u2, u3, e1, h⟩ := xz_d3 h
  cases h
  unfold f_Scales_sets at e1
  unfold f_HM_weighs at g
  obtain ⟨w1, d1, g⟩ := xz_d1 (xp_n g)
  rw [zwi b1] at d1
  have g1 := x_in (by omega) (by decide) (by decide) d1
  rw [zwi b1, zwi (x := 3600) (by decide)] at e1
  by_cases c : 0 ≤ a ∧ a ≤ 3600
  · rw [if_pos c] at g1
    subst g1
    replace g := xp_t (by decide +kernel) g
    rw [if_neg (by omega), if_pos (by omega)] at e1
    have r := r_21 c hR zfu 0 rs (by omega) (fun s hs => absurd hs (by omega)) g
    have ed : DPA (fun c => row (9 + c)) (fun j => row (21 + j)) (row 0).toNat = DPA hts wts many.toNat := by
      rw [← em]
      exact DPA_agr hh hC _ (by omega)
    rw [ed] at r
    have za : (zi_w a).toNat = a.toNat := by rw [zwi b1]
    have hv2 := hW.1
    rw [zwi (x := ver) (by omega), zwi (x := ch) (by omega)] at e1
    by_cases d : ver = ch
    · rw [if_pos d] at e1
      replace e1 := (xp_g e1).2
      rw [za] at e1
      cases e1
      exact ⟨by rw [r]; exact hW.2 d _ (by omega), hW⟩
    · rw [if_neg d] at e1
      obtain ⟨a2, e2, e1⟩ := xz_d1 e1
      have k := k_weighAll hm hh hw e2
      replace e1 := (xp_g e1).2
      rw [za] at e1
      cases e1
      exact ⟨by rw [r]; exact k _ (by omega), by unfold WOK; exact ⟨Int.le_refl _, fun _ => k⟩⟩
  · rw [if_neg c] at g1
    subst g1
    replace g := xp_f (by decide +kernel) g
    cases g
    by_cases d : a < 0
    · rw [if_pos d] at e1; cases e1; exact ⟨rfl, hW⟩
    · rw [if_neg d, if_neg (by omega)] at e1; cases e1; exact ⟨rfl, hW⟩
end
section
/-! changes and stones of the class alone -/
noncomputable def HCH (ch many : Int) (hts wts : Nat → Int) (ch' many' : Int) (hts' wts' : Nat → Int) : Prop := ch ≤ ch' ∧ (ch' = ch → many' = many ∧ CREL many hts wts hts' wts')
theorem CREL_0 {many : Int} {hts wts : Nat → Int} : CREL many hts wts hts wts := ⟨fun _ _ => rfl, fun _ _ _ _ => rfl⟩
theorem HCH_0 {ch many : Int} {hts wts : Nat → Int} : HCH ch many hts wts ch many hts wts := ⟨Int.le_refl _, fun _ => ⟨rfl, CREL_0⟩⟩
theorem HCH_1 {ch ch' many many' : Int} {hts wts hts' wts' : Nat → Int} (e : ch' = ch + 1) : HCH ch many hts wts ch' many' hts' wts' := ⟨by omega, fun h => by omega⟩
theorem WOK_step {ver ch many ch' many' : Int} {hts wts hts' wts' sets : Nat → Int} (hm : 0 ≤ many) (hh : zR hts 0 10) (hW : WOK ver ch many hts wts sets) (h : HCH ch many hts wts ch' many' hts' wts') : WOK ver ch' many' hts' wts' sets := by
  obtain ⟨h1, h2⟩ := h
  obtain ⟨w1, w2⟩ := hW
  refine ⟨by omega, fun e s hs => ?_⟩
  have ec : ch' = ch := by omega
  obtain ⟨m, c⟩ := h2 ec
  rw [m, DPA_agr hh c many.toNat (by omega)]
  exact w2 (by omega) s hs
theorem hc_column {many s3 s30 : Int} {t2 go hts wts : Nat → Int} {v : Int × Int × Int × (Nat → Int) × Int × (Nat → Int) × (Nat → Int)} (h : f_HS_column s3 s30 t2 many go hts = some v) : HCH s30 many hts wts v.2.2.1 v.2.2.2.2.1 v.2.2.2.2.2.2 wts := by
  unfold f_HS_column at h
  obtain ⟨v1, v2, a3, e1, h⟩ := xz_d3 h
  unfold f_Columns_grow at e1
  rcases xp_if e1 with ⟨_, e1⟩ | ⟨_, e1⟩
  · replace e1 := xp_n (xp_s e1).2
    cases e1
    replace h := (xp_s (xp_n (xp_t (by decide +kernel) h))).2
    obtain ⟨u1, u2, u3, e3, h⟩ := xz_d3 h
    have k := k_accept e3
    cases k
    cases h
    exact HCH_1 rfl
  · cases e1
    replace h := xp_f (by decide +kernel) h
    obtain ⟨u1, u2, u3, e3, h⟩ := xz_d3 h
    cases h
    exact HCH_0
theorem hc_stone {a1 a2 many s3 s30 : Int} {t2 hts wts : Nat → Int} {v : Int × Int × Int × (Nat → Int) × (Nat → Int) × (Nat → Int)} (b1 : -2147483648 ≤ a1 ∧ a1 ≤ 2147483647) (hm : 0 ≤ many ∧ many ≤ 12) (hh : zR hts 0 10) (h : f_HS_stone a1 a2 many s3 s30 t2 hts wts = some v) : HCH s30 many hts wts v.2.2.1 many v.2.2.2.2.1 v.2.2.2.2.2 := by
  have no : f_HS_stone_11 many s3 s30 t2 hts wts = some v → HCH s30 many hts wts v.2.2.1 many v.2.2.2.2.1 v.2.2.2.2.2 := fun h => by
    unfold f_HS_stone_11 at h
    obtain ⟨u1, u2, u3, e3, h⟩ := xz_d3 h
    cases h
    exact HCH_0
  unfold f_HS_stone at h
  rcases xp_if h with ⟨_, h⟩ | ⟨_, h⟩
  · exact no h
  rcases xp_if h with ⟨_, h⟩ | ⟨_, h⟩
  · obtain ⟨u1, e3, h⟩ := xz_d1 h
    rcases k_has b1 hm e3 with ⟨q5, q6⟩ | ⟨q5, q6⟩ <;> subst q6
    · replace h := xp_t (by decide +kernel) h
      obtain ⟨C, eC⟩ : ∃ C : Nat, a1 = (C : Int) := ⟨a1.toNat, by omega⟩
      subst eC
      obtain ⟨u2, u3, u4, e4, h⟩ := xz_d3 h
      rcases k_put hm hh (by omega) e4 with ⟨q7, q8⟩ | ⟨q7, q8⟩ <;> cases q8
      · replace h := xp_t (by decide +kernel) h
        obtain ⟨u5, e5, h⟩ := xz_d1 h
        obtain ⟨u6, u7, u8, e6, h⟩ := xz_d3 h
        have k := k_accept e6
        cases k
        cases h
        exact HCH_1 rfl
      · replace h := xp_f (by decide +kernel) h
        obtain ⟨u6, u7, u8, e6, h⟩ := xz_d3 h
        cases h
        exact HCH_0
    · replace h := xp_f (by decide +kernel) h
      obtain ⟨u6, u7, u8, e6, h⟩ := xz_d3 h
      cases h
      exact HCH_0
  · exact no h
theorem hc_lift {a1 many s3 s30 : Int} {t2 hts wts : Nat → Int} {v : Int × Int × Int × (Nat → Int) × (Nat → Int)} (h : f_HS_lift a1 many wts s3 s30 t2 hts = some v) : HCH s30 many hts wts v.2.2.1 many v.2.2.2.2 wts := by
  unfold f_HS_lift at h
  obtain ⟨u1, e3, h⟩ := xz_d1 h
  rcases xp_if h with ⟨_, h⟩ | ⟨_, h⟩
  · obtain ⟨u2, e4, h⟩ := xz_d1 h
    rcases xp_if h with ⟨_, h⟩ | ⟨_, h⟩
    · obtain ⟨u3, u4, e5, h⟩ := xz_d2 h
      obtain ⟨u6, u7, u8, e6, h⟩ := xz_d3 h
      have k := k_accept e6
      cases k
      cases h
      exact HCH_1 rfl
    · obtain ⟨u6, u7, u8, e6, h⟩ := xz_d3 h
      cases h
      exact HCH_0
  · obtain ⟨u6, u7, u8, e6, h⟩ := xz_d3 h
    cases h
    exact HCH_0
theorem hc_slide {many s30 : Int} {te hts wts : Nat → Int} {v : Int × Int × (Nat → Int) × (Nat → Int)} (h : f_HS_slide many te s30 hts wts = some v) : HCH s30 many hts wts v.2.1 many v.2.2.1 v.2.2.2 := by
  unfold f_HS_slide at h
  replace h := (xp_g (xp_n h)).2
  obtain ⟨u1, u2, u3, e1, h⟩ := xz_d3 h
  cases h
  exact HCH_1 rfl
theorem hc_carry {a b c ch la fo many s3 s30 pi ti ba : Int} {st ex te ord od t2 wo pl hts wts : Nat → Int} {v : Int × Int × Int × (Nat → Int) × Int × Int × Int × (Nat → Int) × (Nat → Int) × (Nat → Int) × (Nat → Int)} (h : f_HS_carry a b c ch la fo many st ex te ord od s3 s30 t2 pi ti ba wo pl hts wts = some v) : HCH s30 many hts wts v.2.2.1 many v.2.2.2.2.2.2.2.2.2.1 v.2.2.2.2.2.2.2.2.2.2 := by
  unfold f_HS_carry at h
  obtain ⟨v1, e1, h⟩ := xz_d1 h
  rcases xp_if h with ⟨_, h⟩ | ⟨_, h⟩
  · obtain ⟨v2, v3, v4, v5, a6, a7, e2, h⟩ := xz_d6 h
    rcases xp_if h with ⟨_, h⟩ | ⟨_, h⟩
    · obtain ⟨u1, x1, h⟩ := xz_d1 h
      obtain ⟨u2, u3, x2, h⟩ := xz_d2 h
      obtain ⟨u6, u7, u8, e6, h⟩ := xz_d3 h
      have k := k_accept e6
      cases k
      cases h
      exact HCH_1 rfl
    · obtain ⟨u6, u7, u8, e6, h⟩ := xz_d3 h
      cases h
      exact HCH_0
  · obtain ⟨u6, u7, u8, e6, h⟩ := xz_d3 h
    cases h
    exact HCH_0
theorem hc_row_44 {many T s3 s30 : Int} {tape t2 : Nat → Int} {V : Int × Int × Int × Int × Int × (Nat → Int) × (Nat → Int) × (Nat → Int)} : ∀ (N : Nat) (p k tp s2 : Int) (hts wts : Nat → Int), f_HS_row_44 tape many N T p k tp s2 s3 s30 t2 hts wts = some V → V.2.2.2.2.1 = s30 + 1 := by
  intro N
  induction N with
  | zero => intro p k tp s2 hts wts h; exact nomatch h
  | succ N ih =>
    intro p k tp s2 hts wts h
    replace h : f_HS_row_44_b tape many (f_HS_row_44 tape many N) T p k tp s2 s3 s30 t2 hts wts = some V := h
    unfold f_HS_row_44_b at h
    have go : ∀ (p' : Int) (hts' wts' : Nat → Int), f_HS_row_94 tape many (f_HS_row_44 tape many N) T p' k tp s2 s3 s30 t2 hts' wts' = some V → V.2.2.2.2.1 = s30 + 1 := fun p' hts' wts' h => by
      unfold f_HS_row_94 at h
      exact ih _ _ _ _ _ _ (xp_n h)
    rcases xp_if h with ⟨_, h⟩ | ⟨_, h⟩
    · obtain ⟨u1, u2, u3, e3, h⟩ := xz_d3 (xp_n (xp_n h))
      have k := k_accept e3
      cases k
      cases h
      rfl
    · replace h := (xp_g h).2
      rcases xp_if h with ⟨_, h⟩ | ⟨_, h⟩
      · exact go _ _ _ h
      rcases xp_if h with ⟨_, h⟩ | ⟨_, h⟩
      · exact go _ _ _ h
      replace h := (xp_g h).2
      obtain ⟨v1, a2, a3, e2, h⟩ := xz_d3 h
      rcases xp_if h with ⟨_, h⟩ | ⟨_, h⟩
      · exact go _ _ _ h
      · exact go _ _ _ (xp_n h)
theorem hc_row {many s0 s2 s3 s30 : Int} {tape t2 hts wts : Nat → Int} {v : Int × Int × Int × Int × Int × (Nat → Int) × (Nat → Int) × (Nat → Int)} (h : f_HS_row tape many s0 s2 s3 s30 t2 hts wts = some v) : HCH s30 many hts wts v.2.2.2.2.1 many v.2.2.2.2.2.2.1 v.2.2.2.2.2.2.2 := by
  have no : f_HS_row_33 tape many 0 s2 s3 s30 t2 hts wts = some v → HCH s30 many hts wts v.2.2.2.2.1 many v.2.2.2.2.2.2.1 v.2.2.2.2.2.2.2 := fun h => by
    unfold f_HS_row_33 at h
    obtain ⟨u1, u2, u3, e3, h⟩ := xz_d3 h
    cases h
    exact HCH_0
  unfold f_HS_row at h
  rcases xp_if h with ⟨_, h⟩ | ⟨_, h⟩
  · exact no h
  · replace h := (xp_g h).2
    obtain ⟨u1, e3, h⟩ := xz_d1 h
    rcases xp_if h with ⟨_, h⟩ | ⟨_, h⟩
    · exact HCH_1 (hc_row_44 zfu _ _ _ _ _ _ h)
    · exact no h
theorem hc_back {many : Int} {hts wts h1 w1 h2 w2 : Nat → Int} {B C : Nat} (hm : 0 ≤ many ∧ many ≤ 12) (hh : zR hts 0 10) (hbm : (B : Int) < many) (hcm : (C : Int) < many) (hne : B ≠ C) (ef : 0 < hts B ∧ hts C < 10) (x2 : f_Columns_move (B : Int) (C : Int) many hts wts = some (h1, w1)) (x6 : f_Columns_move (C : Int) (B : Int) many h1 w1 = some (h2, w2)) : CREL many hts wts h2 w2 := by
  have bB := hh B
  have y2 := k_move hm hh hbm hcm hne ef.1 ef.2 x2
  have yy2 : h1 = zu (zu hts C (hts C + 1)) B (hts B - 1) := congrArg Prod.fst y2
  have yy3 : w1 = zu wts (10 * C + (hts C).toNat) (TOPV hts wts B) := congrArg Prod.snd y2
  have R2 := move_r hh hne ef.1 ef.2
  rw [← yy2] at R2
  have hc1 : 0 < h1 C := by have := hh C; rw [yy2, zu_ne _ _ (Ne.symm hne), zu_eq]; omega
  have hb1 : h1 B < 10 := by rw [yy2, zu_eq]; omega
  have y6 := k_move hm R2 hcm hbm (Ne.symm hne) hc1 hb1 x6
  have bs := back_same hh hne ef.1 ef.2 yy2 yy3 (congrArg Prod.fst y6) (congrArg Prod.snd y6)
  exact ⟨fun c _ => bs.1 c, fun c i _ hi => bs.2 c i hi⟩
theorem hc_gains {a p b c ch pa la fo many pi ti ba : Int} {st ex pls te ord od wo pl hts wts : Nat → Int} {v : Int × Int × Int × Int × (Nat → Int) × (Nat → Int) × (Nat → Int) × (Nat → Int)} (b1 : -2147483648 ≤ a ∧ a ≤ 2147483647) (b2 : -2147483648 ≤ b ∧ b ≤ 2147483647) (b3 : -2147483648 ≤ c ∧ c ≤ 2147483647) (hc6 : 0 ≤ ch ∧ ch ≤ 6) (hm : 0 ≤ many ∧ many ≤ 12) (hh : zR hts 0 10) (h : f_HS_gains p a b c ch pa la fo many st ex pls te ord od pi ti ba wo pl hts wts = some v) : CREL many hts wts v.2.2.2.2.2.2.1 v.2.2.2.2.2.2.2 := by
  unfold f_HS_gains at h
  obtain ⟨v0, e0, h⟩ := xz_d1 h
  rcases xp_if h with ⟨_, h⟩ | ⟨_, h⟩
  · cases h; exact CREL_0
  obtain ⟨v1, e1, h⟩ := xz_d1 h
  rcases k_knows b1 b2 b3 hc6 hm e1 with ⟨q1, q2⟩ | ⟨q1, q2⟩ <;> subst q2
  · replace h := xp_f (by decide +kernel) h
    obtain ⟨v2, v3, v4, v5, a6, a7, e2, h⟩ := xz_d6 h
    by_cases cz : zi_w v2 = zi_w (-1)
    · rw [if_neg (fun z => z cz)] at h
      cases h; exact CREL_0
    · rw [if_pos cz] at h
      have ef := eff_can hm hh q1.2.1 q1.2.2 e2 (fun z => cz (by show zi_w v2 = zi_w (-1); rw [show v2 = -1 from z]))
      obtain ⟨B, eB⟩ : ∃ B : Nat, b = (B : Int) := ⟨b.toNat, by have := q1.2.1; omega⟩
      subst eB
      obtain ⟨C, eC⟩ : ∃ C : Nat, c = (C : Int) := ⟨c.toNat, by have := q1.2.2; omega⟩
      subst eC
      rw [Int.toNat_natCast, Int.toNat_natCast] at ef
      have hbm := q1.2.1.2
      have hcm := q1.2.2.2
      have hne : B ≠ C := fun z => ef.2.2 (by rw [z])
      have bB := hh B
      have bC := hh C
      obtain ⟨u1, x1, h⟩ := xz_d1 h
      obtain ⟨u2, u3, x2, h⟩ := xz_d2 h
      obtain ⟨u4, x3, h⟩ := xz_d1 h
      obtain ⟨u5, u6, x4, h⟩ := xz_d2 h
      replace h := xp_n h
      cases h
      exact hc_back hm hh hbm hcm hne ⟨ef.1, ef.2.1⟩ x2 x4
  · replace h := xp_t (by decide +kernel) h
    cases h; exact CREL_0
theorem hc_exchange {a b c d ch la fo many s3 s30 pi ti ba : Int} {st ex te ord od t2 wo pl hts wts : Nat → Int} {v : Int × Int × Int × (Nat → Int) × Int × Int × Int × (Nat → Int) × (Nat → Int) × (Nat → Int) × (Nat → Int)} (b1 : -2147483648 ≤ a ∧ a ≤ 2147483647) (b2 : -2147483648 ≤ b ∧ b ≤ 2147483647) (b3 : -2147483648 ≤ c ∧ c ≤ 2147483647) (hc6 : 0 ≤ ch ∧ ch ≤ 6) (hm : 0 ≤ many ∧ many ≤ 12) (hh : zR hts 0 10) (h : f_HS_exchange a b c d ch la fo many st ex te ord od s3 s30 t2 pi ti ba wo pl hts wts = some v) : HCH s30 many hts wts v.2.2.1 many v.2.2.2.2.2.2.2.2.2.1 v.2.2.2.2.2.2.2.2.2.2 := by
  have no2 : f_HS_exchange_25 ch la fo many st ex te ord od s3 s30 t2 pi ti ba wo pl hts wts = some v → HCH s30 many hts wts v.2.2.1 many v.2.2.2.2.2.2.2.2.2.1 v.2.2.2.2.2.2.2.2.2.2 := fun h => by
    unfold f_HS_exchange_25 at h
    obtain ⟨u6, u7, u8, e6, h⟩ := xz_d3 h
    cases h
    exact HCH_0
  unfold f_HS_exchange at h
  obtain ⟨v1, e1, h⟩ := xz_d1 h
  rcases k_knows b1 b2 b3 hc6 hm e1 with ⟨q1, q2⟩ | ⟨q1, q2⟩ <;> subst q2
  · replace h := xp_f (by decide +kernel) h
    obtain ⟨v0, e0, h⟩ := xz_d1 h
    rcases xp_if h with ⟨_, h⟩ | ⟨_, h⟩
    · obtain ⟨v2, v3, v4, v5, a6, a7, e2, h⟩ := xz_d6 h
      by_cases cz : zi_w v2 = zi_w (-1)
      · rw [if_neg (fun z => z cz)] at h
        obtain ⟨u6, u7, u8, e6, h⟩ := xz_d3 h
        cases h
        exact HCH_0
      · rw [if_pos cz] at h
        have ef := eff_can hm hh q1.2.1 q1.2.2 e2 (fun z => cz (by show zi_w v2 = zi_w (-1); rw [show v2 = -1 from z]))
        obtain ⟨B, eB⟩ : ∃ B : Nat, b = (B : Int) := ⟨b.toNat, by have := q1.2.1; omega⟩
        subst eB
        obtain ⟨C, eC⟩ : ∃ C : Nat, c = (C : Int) := ⟨c.toNat, by have := q1.2.2; omega⟩
        subst eC
        rw [Int.toNat_natCast, Int.toNat_natCast] at ef
        have hbm := q1.2.1.2
        have hcm := q1.2.2.2
        have hne : B ≠ C := fun z => ef.2.2 (by rw [z])
        have bB := hh B
        have bC := hh C
        obtain ⟨u1, x1, h⟩ := xz_d1 h
        obtain ⟨h1, n1, x2, h⟩ := xz_d2 h
        have no3 : ∀ {p' t' q' : Int} {wo' pl' : Nat → Int}, f_HS_exchange_141 ch la fo many st ex te ord od (B : Int) (C : Int) s3 s30 t2 p' t' q' wo' pl' h1 n1 = some v → HCH s30 many hts wts v.2.2.1 many v.2.2.2.2.2.2.2.2.2.1 v.2.2.2.2.2.2.2.2.2.2 := fun h => by
          unfold f_HS_exchange_141 at h
          obtain ⟨u5, u6, x6, h⟩ := xz_d2 h
          obtain ⟨u7, u8, u9, e6, h⟩ := xz_d3 h
          cases h
          exact ⟨Int.le_refl _, fun _ => ⟨rfl, hc_back hm hh hbm hcm hne ⟨ef.1, ef.2.1⟩ x2 x6⟩⟩
        obtain ⟨u2, x5, h⟩ := xz_d1 h
        obtain ⟨k2, k3, k4, k5, k6, k7, e8, h⟩ := xz_d6 (xp_n (xp_n h))
        rcases xp_if h with ⟨_, h⟩ | ⟨_, h⟩
        · exact no3 h
        · replace h := (xp_g h).2
          rcases xp_if h with ⟨_, h⟩ | ⟨_, h⟩
          · obtain ⟨u5, u6, x8, h⟩ := xz_d2 h
            obtain ⟨u7, u8, u9, e6, h⟩ := xz_d3 h
            have k := k_accept e6
            cases k
            cases h
            exact HCH_1 rfl
          · exact no3 h
    · exact no2 h
  · replace h := xp_t (by decide +kernel) h
    exact no2 h
end
