/-! what both have of a hill -/
def HILL (la fo many : Int) (ord od hts wts row : Nat → Int) : Prop := HILL2 la fo ord od row ∧ CREL many hts wts (fun c => row (9 + c)) (fun j => row (21 + j))
theorem HILL_f {la fo many : Int} {ord od hts wts row row' : Nat → Int} (h : HILL la fo many ord od hts wts row) (hm : many ≤ 12) (hh : zR hts 0 10) (f : FRM3 row row') : HILL la fo many ord od hts wts row' :=
  ⟨HILL2_f h.1 (FRM_3 f), fun c hc => (f _ (by omega)).trans (h.2.1 c hc), fun c i hc hi => (f _ (by have := hh c; omega)).trans (h.2.2 c i hc hi)⟩
theorem CREL_c {many : Int} {hts wts hts' wts' H W H' W' : Nat → Int} (hm : many ≤ 12) (hh : zR hts 0 10) (h : CREL many hts wts H W) (h1 : ∀ j, j < 12 → hts' j = hts j) (h2 : ∀ j, j < 120 → wts' j = wts j) (h3 : ∀ j, j < 12 → H' j = H j) (h4 : ∀ j, j < 120 → W' j = W j) : CREL many hts' wts' H' W' := by
  refine ⟨fun c hc => by rw [h1 c (by omega), h3 c (by omega)]; exact h.1 c hc, fun c i hc hi => ?_⟩
  rw [h1 c (by omega)] at hi
  have := hh c
  rw [h2 _ (by omega), h4 _ (by omega)]
  exact h.2 c i hc hi
/-- answers, status, refusals -/
def SR (a b sa sb : Int) (f g f' g' : Nat → Int) : Prop := a = b ∧ sa = sb ∧ ((∀ k, k < 7 → f k = g k) → ∀ k, k < 7 → f' k = g' k)
theorem SR_ref {x st st' : Int} {f g : Nat → Int} {u w : Int × Int × (Nat → Int)} (hx : -7 < x ∧ x < 0) (e1 : f_HS_refuse x st f = some u) (e2 : f_HM_tell x st' g = some w) : SR u.1 w.1 u.2.1 w.2.1 f g u.2.2 w.2.2 := by
  have k1 := k_refuse hx e1
  rcases x_tell (by omega) e2 with ⟨k2, _⟩ | ⟨_, k2⟩
  · omega
  · rw [k1, k2]
    exact ⟨rfl, rfl, fun h => zu_agr h⟩
theorem SR_acc {x x' st st' ch : Int} {f g : Nat → Int} {u : Int × Int × Int} {w : Int × Int × (Nat → Int)} (hx : 0 ≤ x ∧ x ≤ 100000) (ex : x' = x) (e1 : f_HS_accept x st ch = some u) (e2 : f_HM_tell x' st' g = some w) : SR u.1 w.1 u.2.1 w.2.1 f g f w.2.2 := by
  subst ex
  have k1 := k_accept e1
  rcases x_tell (by omega) e2 with ⟨_, k2⟩ | ⟨k2, _⟩
  · rw [k1, k2]
    exact ⟨rfl, rfl, fun h => h⟩
  · omega
theorem x_column {many s3 s30 s4 s5 la fo : Int} {t2 t3 go hts wts ord od row : Nat → Int} {v : Int × Int × Int × (Nat → Int) × Int × (Nat → Int) × (Nat → Int)} {w : Int × Int × Int × (Nat → Int) × (Nat → Int)} (hm : 0 ≤ many ∧ many ≤ 12) (em : many = row 0) (hh : zR hts 0 10) (hH : HILL la fo many ord od hts wts row) (h : f_HS_column s3 s30 t2 many go hts = some v) (g : f_HM_column s4 s5 t3 row = some w) : SR v.1 w.1 v.2.1 w.2.2.1 t2 t3 v.2.2.2.1 w.2.2.2.1 ∧ HILL la fo v.2.2.2.2.1 ord od v.2.2.2.2.2.2 wts w.2.2.2.2 := by
  have fr := fr_column (by omega) g
  obtain ⟨M, eM⟩ : ∃ M : Nat, many = (M : Int) := ⟨many.toNat, by omega⟩
  subst eM
  unfold f_HS_column at h
  unfold f_HM_column at g
  obtain ⟨c1, e2, g⟩ := xz_d1 g
  have g2 := r_columns e2
  subst g2
  obtain ⟨v1, v2, a3, e1, h⟩ := xz_d3 h
  unfold f_Columns_grow at e1
  rw [← em, zwi (x := (M : Int)) (by omega), zwi (x := 12) (by decide)] at g
  rw [zwi (x := (M : Int)) (by omega), zwi (x := 12) (by decide)] at e1
  by_cases c : (M : Int) < 12
  · rw [if_pos c] at e1
    replace e1 := xp_n (xp_s e1).2
    rw [zwi (x := (M : Int)) (by omega), Int.toNat_natCast] at e1
    cases e1
    replace h := (xp_s (xp_n (xp_t (by decide +kernel) h))).2
    obtain ⟨u1, u2, u3, e3, h⟩ := xz_d3 h
    rw [if_pos (by omega)] at g
    replace g := (xp_s (xp_n g)).2
    replace g := (xp_s (xp_n g)).2
    replace g := xp_n (xp_g g).2
    replace g := (xp_s g).2
    obtain ⟨b1, b2, b3, e4, g⟩ := xz_d3 g
    have z1 : (zi_w (9 + (M : Int))).toNat = 9 + M := by rw [zwi (by omega)]; omega
    have z2 : (zi_w (141 + (M : Int))).toNat = 141 + M := by rw [zwi (by omega)]; omega
    have z3 : (zi_w 0).toNat = 0 := rfl
    rw [z1, z2, z3] at g
    have sr := SR_acc (f := t2) (by omega) (show (M : Int) = (M : Int) + 1 - 1 by omega) e3 e4
    cases h
    cases g
    refine ⟨sr, HILL2_f hH.1 fr, fun k hk => ?_, fun k i hk hi => ?_⟩
    · replace hk : (k : Int) < (M : Int) + 1 := hk
      show zu (zu (zu row (9 + M) 0) (141 + M) (-1)) 0 _ (9 + k) = zu hts M 0 k
      rw [zu_ne _ _ (by omega), zu_ne _ _ (by omega)]
      by_cases e : k = M
      · subst e; rw [zu_eq, zu_eq]
      · rw [zu_ne _ _ (by omega), zu_ne _ _ e]; exact hH.2.1 k (by omega)
    · show zu (zu (zu row (9 + M) 0) (141 + M) (-1)) 0 _ (21 + (10 * k + i)) = wts (10 * k + i)
      replace hk : (k : Int) < (M : Int) + 1 := hk
      replace hi : (i : Int) < zu hts M 0 k := hi
      by_cases e : k = M
      · subst e; rw [zu_eq] at hi; omega
      · rw [zu_ne _ _ e] at hi
        have := hh k
        rw [zu_ne _ _ (by omega), zu_ne _ _ (by omega), zu_ne _ _ (by omega)]
        exact hH.2.2 k i (by omega) hi
  · rw [if_neg c] at e1
    cases e1
    replace h := xp_f (by decide +kernel) h
    obtain ⟨u1, u2, u3, e3, h⟩ := xz_d3 h
    rw [if_neg (by omega)] at g
    obtain ⟨b1, b2, b3, e4, g⟩ := xz_d3 g
    have sr := SR_ref (by decide) e3 e4
    cases h
    cases g
    exact ⟨sr, hH⟩
theorem x_isWeight {a v : Int} (b : -2147483648 ≤ a ∧ a ≤ 2147483647) (h : f_HM_isWeight a = some v) : (v = 1 ∧ 1 ≤ a ∧ a ≤ 30) ∨ (v = 0 ∧ (a < 1 ∨ 30 < a)) := by
  unfold f_HM_isWeight at h
  obtain ⟨v1, e1, h⟩ := xz_d1 (xp_n h)
  rw [zwi b] at e1
  have g := x_in (by omega) (by decide) (by decide) e1
  by_cases c : 1 ≤ a ∧ a ≤ 30
  · rw [if_pos c] at g; subst g
    exact Or.inl ⟨x_bool (Or.inr rfl) h, c⟩
  · rw [if_neg c] at g; subst g
    exact Or.inr ⟨x_bool (Or.inl rfl) h, by omega⟩
/-- a stone more on both -/
theorem CREL_put {many x : Int} {hts wts H W : Nat → Int} (hh : zR hts 0 10) (h : CREL many hts wts H W) {c : Nat} (hc : (c : Int) < many) (h10 : hts c < 10) : CREL many (zu hts c (hts c + 1)) (zu wts (10 * c + (hts c).toNat) x) (zu H c (H c + 1)) (zu W (10 * c + (H c).toNat) x) := by
  have ec := h.1 c hc
  rw [ec]
  refine ⟨fun k hk => ?_, fun k i hk hi => ?_⟩
  · by_cases e : k = c
    · subst e; rw [zu_eq, zu_eq]
    · rw [zu_ne _ _ e, zu_ne _ _ e]; exact h.1 k hk
  · have bk := hh k
    have bc := hh c
    by_cases e : k = c
    · subst e
      rw [zu_eq] at hi
      by_cases e3 : (i : Int) = hts k
      · rw [show 10 * k + i = 10 * k + (hts k).toNat from by omega, zu_eq, zu_eq]
      · rw [zu_ne _ _ (by omega), zu_ne _ _ (by omega)]; exact h.2 k i hk (by omega)
    · rw [zu_ne _ _ e] at hi
      rw [zu_ne _ _ (by omega), zu_ne _ _ (by omega)]; exact h.2 k i hk hi
theorem HILL_put {la fo many x : Int} {ord od hts wts row : Nat → Int} (hm : many ≤ 12) (hh : zR hts 0 10) (h : HILL la fo many ord od hts wts row) {c : Nat} (hc : (c : Int) < many) (h10 : hts c < 10) : HILL la fo many ord od (zu hts c (hts c + 1)) (zu wts (10 * c + (hts c).toNat) x) (zu (zu row (21 + (10 * c + (hts c).toNat)) x) (9 + c) (hts c + 1)) := by
  have bc := hh c
  have ec : row (9 + c) = hts c := h.2.1 c hc
  have q := CREL_put (x := x) hh h.2 hc h10
  refine ⟨HILL2_f h.1 (FRM_u (FRM_u FRM_0 (by omega)) (by omega)), fun k hk => ?_, fun k i hk hi => ?_⟩
  · rw [← q.1 k hk]
    show zu (zu row (21 + (10 * c + (hts c).toNat)) x) (9 + c) (hts c + 1) (9 + k) = zu (fun c => row (9 + c)) c (row (9 + c) + 1) k
    by_cases e : k = c
    · subst e; rw [zu_eq, zu_eq, ec]
    · rw [zu_ne _ _ (by omega), zu_ne _ _ (by omega), zu_ne _ _ e]
  · rw [← q.2 k i hk hi]
    have bk := hh k
    have hi10 : i < 10 := by
      by_cases e : k = c
      · subst e; rw [zu_eq] at hi; omega
      · rw [zu_ne _ _ e] at hi; omega
    show zu (zu row (21 + (10 * c + (hts c).toNat)) x) (9 + c) (hts c + 1) (21 + (10 * k + i)) = zu (fun j => row (21 + j)) (10 * c + (row (9 + c)).toNat) x (10 * k + i)
    rw [zu_ne _ _ (by omega), ec]
    by_cases e : 10 * k + i = 10 * c + (hts c).toNat
    · rw [e, zu_eq, zu_eq]
    · rw [zu_ne _ _ (by omega), zu_ne _ _ e]
theorem x_stone {a1 a2 many s3 s30 s4 s5 la fo : Int} {t2 t3 hts wts ord od row : Nat → Int} {v : Int × Int × Int × (Nat → Int) × (Nat → Int) × (Nat → Int)} {w : Int × Int × Int × (Nat → Int) × (Nat → Int)} (b1 : -2147483648 ≤ a1 ∧ a1 ≤ 2147483647) (b2 : -2147483648 ≤ a2 ∧ a2 ≤ 2147483647) (hm : 0 ≤ many ∧ many ≤ 12) (em : many = row 0) (hh : zR hts 0 10) (hH : HILL la fo many ord od hts wts row) (h : f_HS_stone a1 a2 many s3 s30 t2 hts wts = some v) (g : f_HM_stone a1 a2 s4 s5 t3 row = some w) : SR v.1 w.1 v.2.1 w.2.2.1 t2 t3 v.2.2.2.1 w.2.2.2.1 ∧ HILL la fo many ord od v.2.2.2.2.1 v.2.2.2.2.2 w.2.2.2.2 := by
  have n1 : f_HS_stone_11 many s3 s30 t2 hts wts = some v → (∃ x y z, f_HM_tell (-1) s5 t3 = some (x, y, z) ∧ w = (x, 0, y, z, row)) → SR v.1 w.1 v.2.1 w.2.2.1 t2 t3 v.2.2.2.1 w.2.2.2.1 ∧ HILL la fo many ord od v.2.2.2.2.1 v.2.2.2.2.2 w.2.2.2.2 := fun h ⟨x, y, z, e4, hw⟩ => by
    unfold f_HS_stone_11 at h
    obtain ⟨u1, u2, u3, e3, h⟩ := xz_d3 h
    have sr := SR_ref (by decide) e3 e4
    cases h
    subst hw
    exact ⟨sr, hH⟩
  unfold f_HS_stone at h
  unfold f_HM_stone at g
  obtain ⟨w1, e1, g⟩ := xz_d1 g
  rw [zwi b2, zwi (x := 1) (by decide), zwi (x := 30) (by decide)] at h
  rcases x_isWeight b2 e1 with ⟨q1, q2⟩ | ⟨q1, q2⟩ <;> subst q1
  · replace g := xp_t (by decide +kernel) g
    rw [if_neg (by omega), if_pos (by omega)] at h
    obtain ⟨w2, e2, g⟩ := xz_d1 g
    obtain ⟨u1, e3, h⟩ := xz_d1 h
    rcases r_isColumn b1 (by omega) e2 with ⟨q3, q4⟩ | ⟨q3, q4⟩ <;> subst q4
    · rcases k_has b1 hm e3 with ⟨_, q6⟩ | ⟨q5, _⟩
      · subst q6
        replace g := xp_t (by decide +kernel) g
        replace h := xp_t (by decide +kernel) h
        obtain ⟨C, eC⟩ : ∃ C : Nat, a1 = (C : Int) := ⟨a1.toNat, by omega⟩
        subst eC
        obtain ⟨u2, u3, u4, e4, h⟩ := xz_d3 h
        replace g := (xp_g (xp_n g)).2
        have z1 : (zi_w (9 + (C : Int))).toNat = 9 + C := by rw [zwi (by omega)]; omega
        have ec : row (9 + C) = hts C := hH.2.1 C (by omega)
        have bc := hh C
        rw [z1, ec, zwi (x := hts C) (by omega), zwi (x := 10) (by decide)] at g
        rcases k_put hm hh (by omega) e4 with ⟨q7, q8⟩ | ⟨q7, q8⟩ <;> cases q8
        · replace h := xp_t (by decide +kernel) h
          obtain ⟨u5, e5, h⟩ := xz_d1 h
          have q9 := k_high hm (by omega) e5
          subst q9
          obtain ⟨u6, u7, u8, e6, h⟩ := xz_d3 h
          rw [if_pos (by omega)] at g
          replace g := (xp_s (xp_n (xp_n (xp_n g)))).2
          replace g := xp_n (xp_g (xp_n g)).2
          replace g := xp_n (xp_s g).2
          obtain ⟨w3, w4, w5, e7, g⟩ := xz_d3 g
          have z2 : (zi_w (21 + 10 * (C : Int) + hts C)).toNat = 21 + (10 * C + (hts C).toNat) := by rw [zwi (by omega)]; omega
          rw [z1, z2, zu_ne _ _ (by omega), ec] at g
          have sr := SR_acc (f := t2) (by rw [zu_eq]; omega) (show hts C + 1 = zu hts C (hts C + 1) C by rw [zu_eq]) e6 e7
          have hp := HILL_put (x := a2) hm.2 hh hH (c := C) (by omega) q7
          cases h
          cases g
          exact ⟨sr, hp⟩
        · replace h := xp_f (by decide +kernel) h
          obtain ⟨u6, u7, u8, e6, h⟩ := xz_d3 h
          rw [if_neg (by omega)] at g
          obtain ⟨w3, w4, w5, e7, g⟩ := xz_d3 g
          have sr := SR_ref (by decide) e6 e7
          cases h
          cases g
          exact ⟨sr, hH⟩
      · omega
    · rcases k_has b1 hm e3 with ⟨q5, _⟩ | ⟨_, q6⟩
      · omega
      · subst q6
        replace g := xp_f (by decide +kernel) g
        replace h := xp_f (by decide +kernel) h
        obtain ⟨u6, u7, u8, e6, h⟩ := xz_d3 h
        obtain ⟨w3, w4, w5, e7, g⟩ := xz_d3 g
        have sr := SR_ref (by decide) e6 e7
        cases h
        cases g
        exact ⟨sr, hH⟩
  · replace g := xp_f (by decide +kernel) g
    obtain ⟨w3, w4, w5, e7, g⟩ := xz_d3 g
    have hw : w = (w3, 0, w4, w5, row) := by cases g; rfl
    by_cases c : a2 < 1
    · rw [if_pos c] at h
      exact n1 h ⟨_, _, _, e7, hw⟩
    · rw [if_neg c, if_neg (by omega)] at h
      exact n1 h ⟨_, _, _, e7, hw⟩
theorem x_lift {a1 many s3 s30 s4 s5 la fo : Int} {t2 t3 hts wts ord od row : Nat → Int} {v : Int × Int × Int × (Nat → Int) × (Nat → Int)} {w : Int × Int × Int × (Nat → Int) × (Nat → Int)} (b1 : -2147483648 ≤ a1 ∧ a1 ≤ 2147483647) (hm : 0 ≤ many ∧ many ≤ 12) (em : many = row 0) (hh : zR hts 0 10) (hw : zR wts 0 30) (hH : HILL la fo many ord od hts wts row) (h : f_HS_lift a1 many wts s3 s30 t2 hts = some v) (g : f_HM_lift a1 s4 s5 t3 row = some w) : SR v.1 w.1 v.2.1 w.2.2.1 t2 t3 v.2.2.2.1 w.2.2.2.1 ∧ HILL la fo many ord od v.2.2.2.2 wts w.2.2.2.2 := by
  unfold f_HS_lift at h
  unfold f_HM_lift at g
  obtain ⟨w2, e2, g⟩ := xz_d1 g
  obtain ⟨u1, e3, h⟩ := xz_d1 h
  rcases r_isColumn b1 (by omega) e2 with ⟨q3, q4⟩ | ⟨q3, q4⟩ <;> subst q4
  · rcases k_has b1 hm e3 with ⟨_, q6⟩ | ⟨q5, _⟩
    · subst q6
      replace g := xp_t (by decide +kernel) g
      replace h := xp_t (by decide +kernel) h
      obtain ⟨C, eC⟩ : ∃ C : Nat, a1 = (C : Int) := ⟨a1.toNat, by omega⟩
      subst eC
      obtain ⟨u2, e4, h⟩ := xz_d1 h
      have k1 := k_high hm (by omega) e4
      subst k1
      replace g := (xp_g (xp_n g)).2
      have z1 : (zi_w (9 + (C : Int))).toNat = 9 + C := by rw [zwi (by omega)]; omega
      have ec : row (9 + C) = hts C := hH.2.1 C (by omega)
      have bc := hh C
      rw [z1, ec, zwi (x := hts C) (by omega)] at g
      rw [zwi (x := hts C) (by omega)] at h
      by_cases c0 : hts C = 0
      · rw [if_neg (fun z => z c0)] at h g
        obtain ⟨u6, u7, u8, e6, h⟩ := xz_d3 h
        obtain ⟨w3, w4, w5, e7, g⟩ := xz_d3 g
        have sr := SR_ref (by decide) e6 e7
        cases h
        cases g
        exact ⟨sr, hH⟩
      · rw [if_pos c0] at h g
        obtain ⟨u3, u4, e5, h⟩ := xz_d2 h
        unfold f_Columns_take at e5
        obtain ⟨m1, e8, e5⟩ := xz_d1 e5
        have k2 := k_top hm hh (by omega) e8
        subst k2
        obtain ⟨m2, e9, e5⟩ := xz_d1 e5
        have k3 := k_high hm (by omega) e9
        subst k3
        rw [zwi (x := hts C) (by omega), if_neg (by omega)] at e5
        replace e5 := (xp_s (xp_n (xp_g e5).2)).2
        rw [zwi (x := (C : Int)) (by omega), Int.toNat_natCast] at e5
        cases e5
        obtain ⟨u6, u7, u8, e6, h⟩ := xz_d3 h
        replace g := xp_n (xp_g (xp_n g)).2
        replace g := (xp_g (xp_n (xp_n (xp_n (xp_n (xp_s g).2))))).2
        obtain ⟨w3, w4, w5, e7, g⟩ := xz_d3 g
        have z2 : (zi_w (21 + 10 * (C : Int) + hts C - 1)).toNat = 21 + (10 * C + (hts C - 1).toNat) := by rw [zwi (by omega)]; omega
        rw [z1, ec] at g
        rw [z1, z2, zu_ne _ _ (by omega)] at e7
        have ew : row (21 + (10 * C + (hts C - 1).toNat)) = wts (10 * C + (hts C - 1).toNat) := hH.2.2 C _ (by omega) (by omega)
        have bw := hw (10 * C + (hts C - 1).toNat)
        have et : TOPV hts wts C = wts (10 * C + (hts C - 1).toNat) := by unfold TOPV; rw [if_neg c0]
        have sr := SR_acc (f := t2) (by rw [et]; omega) (ew.trans et.symm) e6 e7
        cases h
        cases g
        refine ⟨sr, HILL2_f hH.1 (FRM_u FRM_0 (by omega)), fun k hk => ?_, fun k i hk hi => ?_⟩
        · show zu row (9 + C) (hts C - 1) (9 + k) = zu hts C (hts C - 1) k
          by_cases e : k = C
          · subst e; rw [zu_eq, zu_eq]
          · rw [zu_ne _ _ (by omega), zu_ne _ _ e]; exact hH.2.1 k hk
        · replace hi : (i : Int) < zu hts C (hts C - 1) k := hi
          have bk := hh k
          show zu row (9 + C) (hts C - 1) (21 + (10 * k + i)) = wts (10 * k + i)
          have hi2 : (i : Int) < hts k := by
            by_cases e : k = C
            · subst e; rw [zu_eq] at hi; omega
            · rw [zu_ne _ _ e] at hi; exact hi
          rw [zu_ne _ _ (by omega)]; exact hH.2.2 k i hk hi2
    · omega
  · rcases k_has b1 hm e3 with ⟨q5, _⟩ | ⟨_, q6⟩
    · omega
    · subst q6
      replace g := xp_f (by decide +kernel) g
      replace h := xp_f (by decide +kernel) h
      obtain ⟨u6, u7, u8, e6, h⟩ := xz_d3 h
      obtain ⟨w3, w4, w5, e7, g⟩ := xz_d3 g
      have sr := SR_ref (by decide) e6 e7
      cases h
      cases g
      exact ⟨sr, hH⟩
