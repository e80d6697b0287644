/-! a hill of which a carrying is asked -/
/-- what both have, for the judges: children, terms, laws -/
def JREL (ch la fo : Int) (st ex te ord od row : Nat → Int) : Prop := (0 ≤ ch ∧ ch ≤ 6 ∧ ch = row 1) ∧ (∀ c : Nat, (c : Int) < ch → st c = row (153 + 3 * c) ∧ ex c = row (154 + 3 * c)) ∧ zR st 0 60 ∧ zR ex 0 1 ∧ (te 0 = row 5 ∧ 0 ≤ te 0 ∧ te 0 ≤ 99) ∧ (fo = row 4 ∧ -1 ≤ fo ∧ fo < la ∧ la ≤ 6) ∧ ∀ k : Nat, (k : Int) < la → LW2 ord od row k
theorem TOPV_r {h w : Nat → Int} (hw : zR w 0 30) (c : Nat) : 0 ≤ TOPV h w c ∧ TOPV h w c ≤ 30 := by
  unfold TOPV
  by_cases e : h c = 0
  · rw [if_pos e]; decide
  · rw [if_neg e]; exact hw _
/-- the class's judge over columns, the reference's over its heaps -/
theorem eff_eq {ch la fo many : Int} {st ex te ord od hts wts row : Nat → Int} {a b c pi ti ba lw br va su : Int} {H W wo pl set rest : Nat → Int} {u : Int × Int × Int × Int × (Nat → Int) × (Nat → Int)} {w : Int × Int × Int × Int × Int × (Nat → Int) × (Nat → Int)} (hJ : JREL ch la fo st ex te ord od row) (hm : 0 ≤ many ∧ many ≤ 12) (hh : zR hts 0 10) (hw : zR wts 0 30) (hC : CREL many hts wts H W) (ha : 0 ≤ a ∧ a < ch) (hb : 0 ≤ b ∧ b < many) (hc : 0 ≤ c ∧ c < many)
    (h : f_Judge_effortOn a b c many ch la fo hts wts st ex te ord od pi ti ba wo pl = some u) (g : f_HM_carrying a b c row H W lw br va su set rest = some w) : u.1 = w.1 := by
  obtain ⟨B, eB⟩ : ∃ B : Nat, b = (B : Int) := ⟨b.toNat, by omega⟩
  subst eB
  obtain ⟨C, eC⟩ : ∃ C : Nat, c = (C : Int) := ⟨c.toNat, by omega⟩
  subst eC
  obtain ⟨j1, j2, j3, j4, j5, j6, j7⟩ := hJ
  have bB := hh B
  have bC := hh C
  have tB := TOPV_r (h := hts) hw B
  unfold f_Judge_effortOn at h
  obtain ⟨v1, e1, h⟩ := xz_d1 h
  have q1 := k_top hm hh hb.2 e1
  subst q1
  obtain ⟨v2, e2, h⟩ := xz_d1 h
  have q2 := k_high hm hb.2 e2
  subst q2
  obtain ⟨v3, e3, h⟩ := xz_d1 h
  have q3 := k_high hm hc.2 e3
  subst q3
  obtain ⟨v4, v5, v6, v7, a8, a9, e4, h⟩ := xz_d6 h
  unfold f_HM_carrying at g
  obtain ⟨w1, d1, g⟩ := xz_d1 g
  have HB := hC.1 B hb.2
  have HC := hC.1 C hc.2
  have p1 := r_top (by omega) (by rw [HB]; exact bB) d1
  rw [CREL_top hC hb.2 bB.1] at p1
  subst p1
  replace g := (xp_g g).2
  replace g := (xp_g g).2
  rw [zwi (x := (B : Int)) (by omega), zwi (x := (C : Int)) (by omega), Int.toNat_natCast, Int.toNat_natCast, HB, HC] at g
  obtain ⟨w4, w5, w6, w7, w8, b9, b10, d4, g⟩ := xz_d7 g
  have ja := j2 a.toNat (by omega)
  have r := eff_tir (ch := ch) (la := la) (fo := fo) (by omega) ⟨ja.1, (j3 _).1, (j3 _).2⟩ ⟨ja.2, (j4 _).1, (j4 _).2⟩ j5 j6 (fun hf => j7 fo.toNat (by omega)) e4 d4
  cases h
  cases g
  exact r
theorem k_hasChild {a ch v : Int} (b : -2147483648 ≤ a ∧ a ≤ 2147483647) (hc : 0 ≤ ch ∧ ch ≤ 6) (h : f_Hill_hasChild a ch = some v) : ((0 ≤ a ∧ a < ch) ∧ v = 1) ∨ ((a < 0 ∨ ch ≤ a) ∧ v = 0) := by
  unfold f_Hill_hasChild at h
  rw [zwi b, zwi (x := ch) (by omega)] at h
  by_cases c : a < 0
  · rw [if_pos c] at h; cases h; exact Or.inr ⟨Or.inl c, rfl⟩
  · rw [if_neg c] at h
    by_cases d : ch ≤ a
    · rw [if_pos d] at h; cases h; exact Or.inr ⟨Or.inr d, rfl⟩
    · rw [if_neg d] at h; cases h; exact Or.inl ⟨by omega, rfl⟩
def KN (a b c ch many : Int) : Prop := (0 ≤ a ∧ a < ch) ∧ (0 ≤ b ∧ b < many) ∧ (0 ≤ c ∧ c < many)
theorem k_knows {a b c ch many v : Int} (b1 : -2147483648 ≤ a ∧ a ≤ 2147483647) (b2 : -2147483648 ≤ b ∧ b ≤ 2147483647) (b3 : -2147483648 ≤ c ∧ c ≤ 2147483647) (hc : 0 ≤ ch ∧ ch ≤ 6) (hm : 0 ≤ many ∧ many ≤ 12) (h : f_HS_knows a b c ch many = some v) : (KN a b c ch many ∧ v = 1) ∨ (¬ KN a b c ch many ∧ v = 0) := by
  unfold f_HS_knows at h
  obtain ⟨v1, e1, h⟩ := xz_d1 h
  rcases k_hasChild b1 hc e1 with ⟨q1, q2⟩ | ⟨q1, q2⟩ <;> subst q2
  · obtain ⟨v2, e2, h⟩ := xz_d1 (xp_f (by decide +kernel) h)
    rcases k_has b2 hm e2 with ⟨q3, q4⟩ | ⟨q3, q4⟩ <;> subst q4
    · obtain ⟨v3, e3, h⟩ := xz_d1 (xp_f (by decide +kernel) h)
      rcases k_has b3 hm e3 with ⟨q5, q6⟩ | ⟨q5, q6⟩ <;> subst q6
      · replace h := xp_f (by decide +kernel) h
        cases h
        exact Or.inl ⟨⟨q1, q3, q5⟩, rfl⟩
      · replace h := xp_t (by decide +kernel) h
        cases h
        exact Or.inr ⟨fun z => by have := z.2.2; omega, rfl⟩
    · replace h := xp_t (by decide +kernel) h
      cases h
      exact Or.inr ⟨fun z => by have := z.2.1; omega, rfl⟩
  · replace h := xp_t (by decide +kernel) h
    cases h
    exact Or.inr ⟨fun z => by have := z.1; omega, rfl⟩
theorem r_are {a b c v : Int} {row : Nat → Int} (b1 : -2147483648 ≤ a ∧ a ≤ 2147483647) (b2 : -2147483648 ≤ b ∧ b ≤ 2147483647) (b3 : -2147483648 ≤ c ∧ c ≤ 2147483647) (hc : 0 ≤ row 1 ∧ row 1 ≤ 6) (hm : 0 ≤ row 0 ∧ row 0 ≤ 12) (h : f_HM_are a b c row = some v) : (KN a b c (row 1) (row 0) ∧ v = 1) ∨ (¬ KN a b c (row 1) (row 0) ∧ v = 0) := by
  unfold f_HM_are at h
  obtain ⟨v1, e1, h⟩ := xz_d1 h
  rcases r_isChild b1 hc e1 with ⟨q1, q2⟩ | ⟨q1, q2⟩ <;> subst q2
  · obtain ⟨v2, e2, h⟩ := xz_d1 (xp_f (by decide +kernel) h)
    rcases r_isColumn b2 hm e2 with ⟨q3, q4⟩ | ⟨q3, q4⟩ <;> subst q4
    · obtain ⟨v3, e3, h⟩ := xz_d1 (xp_f (by decide +kernel) h)
      rcases r_isColumn b3 hm e3 with ⟨q5, q6⟩ | ⟨q5, q6⟩ <;> subst q6
      · replace h := xp_f (by decide +kernel) h
        cases h
        exact Or.inl ⟨⟨q1, q3, q5⟩, rfl⟩
      · replace h := xp_t (by decide +kernel) h
        cases h
        exact Or.inr ⟨fun z => by have := z.2.2; omega, rfl⟩
    · replace h := xp_t (by decide +kernel) h
      cases h
      exact Or.inr ⟨fun z => by have := z.2.1; omega, rfl⟩
  · replace h := xp_t (by decide +kernel) h
    cases h
    exact Or.inr ⟨fun z => by have := z.1; omega, rfl⟩
/-- what load lays bare -/
theorem CREL_load {many : Int} {hts wts row H W : Nat → Int} (hm : many ≤ 12) (hh : zR hts 0 10) (hC : CREL many hts wts (fun c => row (9 + c)) (fun j => row (21 + j))) (h1 : ∀ j, j < 12 → H j = row (9 + j)) (h2 : ∀ j, j < 120 → W j = row (21 + j)) : CREL many hts wts H W :=
  CREL_c hm hh hC (fun _ _ => rfl) (fun _ _ => rfl) (fun j hj => h1 j hj) (fun j hj => h2 j hj)
theorem HILL_store {la fo many : Int} {ord od hts wts hts' wts' row row' H W : Nat → Int} (hm : many ≤ 12) (em : many = row 0) (hh' : zR hts' 0 10) (hH : HILL la fo many ord od hts wts row) (hC : CREL many hts' wts' H W) (h1 : ∀ j : Nat, (j : Int) < row 0 → row' (9 + j) = H j) (h2 : ∀ j, j < 120 → row' (21 + j) = W j) (h3 : ∀ y : Nat, (y < 9 ∨ 141 ≤ y) → row' y = row y) : HILL la fo many ord od hts' wts' row' := by
  refine ⟨HILL2_f hH.1 (FRM_g h3), fun c hc => ?_, fun c i hc hi => ?_⟩
  · show row' (9 + c) = hts' c
    rw [h1 c (by omega)]; exact hC.1 c hc
  · show row' (21 + (10 * c + i)) = wts' (10 * c + i)
    have := hh' c
    rw [h2 _ (by omega)]; exact hC.2 c i hc hi
theorem x_can {ch la fo many : Int} {st ex te ord od hts wts row : Nat → Int} {a b c : Int} {pi ti ba : Int} {wo pl : Nat → Int} {lw br va su th : Int} {set rest hi he : Nat → Int} {v : Int × Int × Int × Int × (Nat → Int) × (Nat → Int)} {w : Int × Int × Int × Int × Int × Int × (Nat → Int) × (Nat → Int) × (Nat → Int) × (Nat → Int)} (b1 : -2147483648 ≤ a ∧ a ≤ 2147483647) (b2 : -2147483648 ≤ b ∧ b ≤ 2147483647) (b3 : -2147483648 ≤ c ∧ c ≤ 2147483647) (hJ : JREL ch la fo st ex te ord od row) (hm : 0 ≤ many ∧ many ≤ 12) (em : many = row 0) (hh : zR hts 0 10) (hw : zR wts 0 30) (hH : HILL la fo many ord od hts wts row) (h : f_HS_can a b c ch la fo many st ex te ord od hts wts pi ti ba wo pl = some v) (g : f_HM_can a b c row th lw br va su set rest hi he = some w) : v.1 = w.1 := by
  have hc6 : 0 ≤ ch ∧ ch ≤ 6 := ⟨hJ.1.1, hJ.1.2.1⟩
  have ec := hJ.1.2.2
  unfold f_HS_can at h
  unfold f_HM_can at g
  obtain ⟨v1, e1, h⟩ := xz_d1 h
  obtain ⟨w1, d1, g⟩ := xz_d1 g
  have k1 := k_knows b1 b2 b3 hc6 hm e1
  have r1 := r_are b1 b2 b3 (by omega) (by omega) d1
  rw [← ec, ← em] at r1
  rcases k1 with ⟨q1, q2⟩ | ⟨q1, q2⟩ <;> rcases r1 with ⟨p1, p2⟩ | ⟨p1, p2⟩ <;> subst q2 <;> subst p2
  · replace h := xp_t (by decide +kernel) h
    replace g := xp_t (by decide +kernel) g
    obtain ⟨v2, v3, v4, v5, a6, a7, e2, h⟩ := xz_d6 h
    obtain ⟨m1, m2, d2, g⟩ := xz_d2 g
    have ld := r_load d2
    obtain ⟨w4, w5, w6, w7, w8, b9, b10, d3, g⟩ := xz_d7 g
    have q := eff_eq hJ hm hh hw (CREL_load hm.2 hh hH.2 ld.1 ld.2) q1.1 q1.2.1 q1.2.2 e2 d3
    replace q : v2 = w4 := q
    subst q
    by_cases c : zi_w v2 = zi_w (-1)
    · rw [if_neg (fun z => z c)] at h g
      cases h; cases g; rfl
    · rw [if_pos c] at h g
      cases h; cases g; rfl
  · exact absurd q1 p1
  · exact absurd p1 q1
  · replace h := xp_f (by decide +kernel) h
    replace g := xp_f (by decide +kernel) g
    cases h; cases g; rfl
theorem x_tires {ch la fo many : Int} {st ex te ord od hts wts row : Nat → Int} {a b c : Int} {pi ti ba : Int} {wo pl : Nat → Int} {lw br va su th : Int} {set rest hi he : Nat → Int} {v : Int × Int × Int × Int × (Nat → Int) × (Nat → Int)} {w : Int × Int × Int × Int × Int × Int × (Nat → Int) × (Nat → Int) × (Nat → Int) × (Nat → Int)} (b1 : -2147483648 ≤ a ∧ a ≤ 2147483647) (b2 : -2147483648 ≤ b ∧ b ≤ 2147483647) (b3 : -2147483648 ≤ c ∧ c ≤ 2147483647) (hJ : JREL ch la fo st ex te ord od row) (hm : 0 ≤ many ∧ many ≤ 12) (em : many = row 0) (hh : zR hts 0 10) (hw : zR wts 0 30) (hH : HILL la fo many ord od hts wts row) (h : f_HS_tires a b c ch la fo many st ex te ord od hts wts pi ti ba wo pl = some v) (g : f_HM_tires a b c row th lw br va su set rest hi he = some w) : v.1 = w.1 := by
  have hc6 : 0 ≤ ch ∧ ch ≤ 6 := ⟨hJ.1.1, hJ.1.2.1⟩
  have ec := hJ.1.2.2
  unfold f_HS_tires at h
  unfold f_HM_tires at g
  obtain ⟨v1, e1, h⟩ := xz_d1 h
  obtain ⟨w1, d1, g⟩ := xz_d1 g
  have k1 := k_knows b1 b2 b3 hc6 hm e1
  have r1 := r_are b1 b2 b3 (by omega) (by omega) d1
  rw [← ec, ← em] at r1
  rcases k1 with ⟨q1, q2⟩ | ⟨q1, q2⟩ <;> rcases r1 with ⟨p1, p2⟩ | ⟨p1, p2⟩ <;> subst q2 <;> subst p2
  · replace h := xp_f (by decide +kernel) h
    replace g := xp_t (by decide +kernel) g
    obtain ⟨v2, v3, v4, v5, a6, a7, e2, h⟩ := xz_d6 h
    obtain ⟨m1, m2, d2, g⟩ := xz_d2 g
    have ld := r_load d2
    obtain ⟨w4, w5, w6, w7, w8, b9, b10, d3, g⟩ := xz_d7 g
    have q := eff_eq hJ hm hh hw (CREL_load hm.2 hh hH.2 ld.1 ld.2) q1.1 q1.2.1 q1.2.2 e2 d3
    cases h; cases g; exact q
  · exact absurd q1 p1
  · exact absurd p1 q1
  · replace h := xp_t (by decide +kernel) h
    replace g := xp_f (by decide +kernel) g
    cases h; cases g; rfl
theorem eff_can {a b c pi ti ba ch la fo many : Int} {hts wts st ex te ord od wo pl : Nat → Int} {u : Int × Int × Int × Int × (Nat → Int) × (Nat → Int)} (hm : 0 ≤ many ∧ many ≤ 12) (hh : zR hts 0 10) (hb : 0 ≤ b ∧ b < many) (hc : 0 ≤ c ∧ c < many) (h : f_Judge_effortOn a b c many ch la fo hts wts st ex te ord od pi ti ba wo pl = some u) (hn : u.1 ≠ -1) : 0 < hts b.toNat ∧ hts c.toNat < 10 ∧ b ≠ c := by
  obtain ⟨B, eB⟩ : ∃ B : Nat, b = (B : Int) := ⟨b.toNat, by omega⟩
  subst eB
  obtain ⟨C, eC⟩ : ∃ C : Nat, c = (C : Int) := ⟨c.toNat, by omega⟩
  subst eC
  have bB := hh B
  have bC := hh C
  rw [Int.toNat_natCast, Int.toNat_natCast]
  unfold f_Judge_effortOn at h
  obtain ⟨v1, e1, h⟩ := xz_d1 h
  obtain ⟨v2, e2, h⟩ := xz_d1 h
  have q2 := k_high hm hb.2 e2
  subst q2
  obtain ⟨v3, e3, h⟩ := xz_d1 h
  have q3 := k_high hm hc.2 e3
  subst q3
  obtain ⟨v4, v5, v6, v7, a8, a9, e4, h⟩ := xz_d6 h
  cases h
  unfold f_Judge_effort at e4
  rw [zwi (x := hts B) (by omega), zwi (x := 1) (by decide), zwi (x := hts C) (by omega), zwi (x := 10) (by decide), zwi (x := (B : Int)) (by omega), zwi (x := (C : Int)) (by omega)] at e4
  by_cases c1 : hts B < 1
  · rw [if_pos c1] at e4; cases e4; exact absurd rfl hn
  rw [if_neg c1] at e4
  by_cases c2 : 10 ≤ hts C
  · rw [if_pos c2] at e4; cases e4; exact absurd rfl hn
  rw [if_neg c2] at e4
  by_cases c3 : (B : Int) = (C : Int)
  · rw [if_pos c3] at e4; cases e4; exact absurd rfl hn
  exact ⟨by omega, by omega, c3⟩
theorem x_carry {ch la fo many : Int} {st ex te ord od hts wts row : Nat → Int} {a b c s3 s30 s5 : Int} {t2 t3 : Nat → Int} {pi ti ba : Int} {wo pl : Nat → Int} {lw br va su th : Int} {set rest hi he : Nat → Int} {v : Int × Int × Int × (Nat → Int) × Int × Int × Int × (Nat → Int) × (Nat → Int) × (Nat → Int) × (Nat → Int)} {w : Int × Int × Int × Int × Int × Int × Int × (Nat → Int) × (Nat → Int) × (Nat → Int) × (Nat → Int) × (Nat → Int) × (Nat → Int)} (b1 : -2147483648 ≤ a ∧ a ≤ 2147483647) (b2 : -2147483648 ≤ b ∧ b ≤ 2147483647) (b3 : -2147483648 ≤ c ∧ c ≤ 2147483647) (hJ : JREL ch la fo st ex te ord od row) (hm : 0 ≤ many ∧ many ≤ 12) (em : many = row 0) (hh : zR hts 0 10) (hw : zR wts 0 30) (hH : HILL la fo many ord od hts wts row) (h : f_HS_carry a b c ch la fo many st ex te ord od s3 s30 t2 pi ti ba wo pl hts wts = some v) (g : f_HM_carry a b c th s5 lw br va su t3 row set rest hi he = some w) : SR v.1 w.1 v.2.1 w.2.2.1 t2 t3 v.2.2.2.1 w.2.2.2.2.2.2.2.1 ∧ HILL la fo many ord od v.2.2.2.2.2.2.2.2.2.1 v.2.2.2.2.2.2.2.2.2.2 w.2.2.2.2.2.2.2.2.1 := by
  have hc6 : 0 ≤ ch ∧ ch ≤ 6 := ⟨hJ.1.1, hJ.1.2.1⟩
  have ec := hJ.1.2.2
  unfold f_HS_carry at h
  unfold f_HM_carry at g
  obtain ⟨v1, e1, h⟩ := xz_d1 h
  obtain ⟨w1, d1, g⟩ := xz_d1 g
  have k1 := k_knows b1 b2 b3 hc6 hm e1
  have r1 := r_are b1 b2 b3 (by omega) (by omega) d1
  rw [← ec, ← em] at r1
  rcases k1 with ⟨q1, q2⟩ | ⟨q1, q2⟩ <;> rcases r1 with ⟨p1, p2⟩ | ⟨p1, p2⟩ <;> subst q2 <;> subst p2
  · replace h := xp_t (by decide +kernel) h
    replace g := xp_t (by decide +kernel) g
    obtain ⟨v2, v3, v4, v5, a6, a7, e2, h⟩ := xz_d6 h
    obtain ⟨m1, m2, d2, g⟩ := xz_d2 g
    have ld := r_load d2
    obtain ⟨w4, w5, w6, w7, w8, b9, b10, d3, g⟩ := xz_d7 g
    have hC : CREL many hts wts m1 m2 := CREL_load hm.2 hh hH.2 ld.1 ld.2
    have q := eff_eq hJ hm hh hw hC q1.1 q1.2.1 q1.2.2 e2 d3
    replace q : v2 = w4 := q
    subst q
    by_cases cz : zi_w v2 = zi_w (-1)
    · rw [if_neg (fun z => z cz)] at h g
      obtain ⟨u6, u7, u8, e6, h⟩ := xz_d3 h
      obtain ⟨y3, y4, y5, e7, g⟩ := xz_d3 g
      have sr := SR_ref (by decide) e6 e7
      cases h; cases g
      exact ⟨sr, hH⟩
    · rw [if_pos cz] at h g
      have ef := eff_can hm hh q1.2.1 q1.2.2 e2 (fun z => cz (by show zi_w v2 = zi_w (-1); rw [show v2 = -1 from z]))
      obtain ⟨B, eB⟩ : ∃ B : Nat, b = (B : Int) := ⟨b.toNat, by have := q1.2.1; omega⟩
      subst eB
      obtain ⟨C, eC⟩ : ∃ C : Nat, c = (C : Int) := ⟨c.toNat, by have := q1.2.2; omega⟩
      subst eC
      rw [Int.toNat_natCast, Int.toNat_natCast] at ef
      have hbm := q1.2.1.2
      have hcm := q1.2.2.2
      have hne : B ≠ C := fun z => ef.2.2 (by rw [z])
      have bB := hh B
      have bC := hh C
      have HB := hC.1 B hbm
      have HC := hC.1 C hcm
      obtain ⟨u1, x1, h⟩ := xz_d1 h
      have y1 := k_top hm hh hbm x1
      subst y1
      obtain ⟨u2, u3, x2, h⟩ := xz_d2 h
      have y2 := k_move hm hh hbm hcm hne ef.1 ef.2.1 x2
      cases y2
      obtain ⟨u6, u7, u8, e6, h⟩ := xz_d3 h
      obtain ⟨z1, x3, g⟩ := xz_d1 g
      have y3 := r_top (by omega) (by rw [HB]; exact bB) x3
      rw [CREL_top hC hbm bB.1] at y3
      subst y3
      obtain ⟨z2, z3, x4, g⟩ := xz_d2 g
      have y4 := r_shift (by omega) (by omega) hne (by rw [HB]; exact bB) (by rw [HC]; exact bC) x4
      cases y4
      obtain ⟨z4, x5, g⟩ := xz_d1 g
      have st := r_store (by omega) x5
      obtain ⟨z5, z6, z7, e7, g⟩ := xz_d3 g
      have tb := TOPV_r (h := hts) hw B
      have sr := SR_acc (f := t2) (by omega) rfl e6 e7
      have C2 := CREL_move hC hh hbm hcm hne ef.1 ef.2.1
      have R2 := move_r hh hne ef.1 ef.2.1
      have HS := HILL_store hm.2 em R2 hH C2 st.1 st.2.1 st.2.2
      cases h; cases g
      exact ⟨sr, HS⟩
  · exact absurd q1 p1
  · exact absurd p1 q1
  · replace h := xp_f (by decide +kernel) h
    replace g := xp_f (by decide +kernel) g
    obtain ⟨u6, u7, u8, e6, h⟩ := xz_d3 h
    obtain ⟨y3, y4, y5, e7, g⟩ := xz_d3 g
    have sr := SR_ref (by decide) e6 e7
    cases h; cases g
    exact ⟨sr, hH⟩
theorem x_steep {many s4 : Int} {te hts wts row hi he : Nat → Int} {v : Int} {w : Int × Int × (Nat → Int) × (Nat → Int)} (hm : 0 ≤ many ∧ many ≤ 12) (em : many = row 0) (hh : zR hts 0 10) (et : te 2 = row 7 ∧ 1 ≤ te 2 ∧ te 2 ≤ 99) (hC : CREL many hts wts (fun c => row (9 + c)) (fun j => row (21 + j))) (h : f_HS_steep many te hts = some v) (g : f_HM_steep row s4 hi he = some w) : v = w.1 := by
  unfold f_HS_steep at h
  unfold f_HM_steep at g
  replace h := (xp_g h).2
  have z : te (zi_w 2).toNat = te 2 := rfl
  rw [z] at h
  obtain ⟨u, e1, h⟩ := xz_d1 h
  obtain ⟨m1, m2, d1, g⟩ := xz_d2 g
  have ld := r_load d1
  obtain ⟨u2, d2, g⟩ := xz_d1 g
  have C2 : CREL many hts wts m1 m2 := CREL_load hm.2 hh hC ld.1 ld.2
  have k1 := k_lowest hm (by omega) hh e1
  have r1 := r_steepest (by omega) (by omega) (fun c hc => by rw [C2.1 c (by omega)]; exact hh c) d2
  rw [← em, ← et.1] at r1
  have := LSP_u k1 (LSP_agr (fun c hc => (C2.1 c hc).symm) r1)
  cases h; cases g
  exact this
theorem x_slide {many la fo s4 s30 : Int} {te ord od hts wts row hi he : Nat → Int} {v : Int × Int × (Nat → Int) × (Nat → Int)} {w : Int × Int × (Nat → Int) × (Nat → Int) × (Nat → Int)} (hm : 0 ≤ many ∧ many ≤ 12) (em : many = row 0) (hh : zR hts 0 10) (et : te 2 = row 7 ∧ 1 ≤ te 2 ∧ te 2 ≤ 99) (hH : HILL la fo many ord od hts wts row) (h : f_HS_slide many te s30 hts wts = some v) (g : f_HM_slide s4 row hi he = some w) : v.1 = w.1 ∧ HILL la fo many ord od v.2.2.1 v.2.2.2 w.2.2.1 := by
  unfold f_HS_slide at h
  unfold f_HM_slide at g
  replace h := (xp_g (xp_n h)).2
  have z : te (zi_w 2).toNat = row 7 := et.1
  rw [z] at h
  obtain ⟨u1, u2, u3, e1, h⟩ := xz_d3 h
  obtain ⟨m1, m2, d1, g⟩ := xz_d2 g
  have ld := r_load d1
  have C2 : CREL many hts wts m1 m2 := CREL_load hm.2 hh hH.2 ld.1 ld.2
  obtain ⟨w1, w2, w3, d2, g⟩ := xz_d3 g
  obtain ⟨w4, d3, g⟩ := xz_d1 g
  unfold f_Columns_settle at e1
  unfold f_HM_slideAll at d2
  obtain ⟨q1, d4, d2⟩ := xz_d1 d2
  have r1 := r_steepest (by omega) (by omega) (fun c hc => by rw [C2.1 c (by omega)]; exact hh c) d4
  have sq := (SQ_r hh 12).2
  have r := slide_eq hm em (by omega) zfu zfu 0 hts wts m1 m2 q1 hh C2 (by omega) r1 e1 d2
  have st := r_store (by omega) d3
  have HS := HILL_store hm.2 em r.2.1 hH r.2.2 st.1 st.2.1 st.2.2
  cases h; cases g
  exact ⟨r.1, HS⟩
