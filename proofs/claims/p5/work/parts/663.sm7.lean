theorem HILL_same {la fo many : Int} {ord od hts wts hts' wts' row : Nat → Int} (h : HILL la fo many ord od hts wts row) (h1 : ∀ c, hts' c = hts c) (h2 : ∀ c i : Nat, (i : Int) < hts c → wts' (10 * c + i) = wts (10 * c + i)) : HILL la fo many ord od hts' wts' row :=
  ⟨h.1, fun c hc => by rw [h1 c]; exact h.2.1 c hc, fun c i hc hi => by rw [h1 c] at hi; rw [h2 c i hi]; exact h.2.2 c i hc hi⟩
theorem x_gains {a p b c : Int} {pa : Int} {pls : Nat → Int} {ch la fo many : Int} {st ex te ord od hts wts row : Nat → Int} {pi ti ba : Int} {wo pl : Nat → Int} {lw br va su th : Int} {set rest hi he : Nat → Int} {v : Int × Int × Int × Int × (Nat → Int) × (Nat → Int) × (Nat → Int) × (Nat → Int)} {w : Int × Int × Int × Int × Int × Int × (Nat → Int) × (Nat → Int) × (Nat → Int) × (Nat → Int)} (b0 : -2147483648 ≤ p ∧ p ≤ 2147483647) (b1 : -2147483648 ≤ a ∧ a ≤ 2147483647) (b2 : -2147483648 ≤ b ∧ b ≤ 2147483647) (b3 : -2147483648 ≤ c ∧ c ≤ 2147483647) (hJ : JREL ch la fo st ex te ord od row) (hm : 0 ≤ many ∧ many ≤ 12) (em : many = row 0) (hh : zR hts 0 10) (hw : zR wts 0 30) (hH : HILL la fo many ord od hts wts row) (hP : PREL pa pls te row) (h : f_HS_gains p a b c ch pa la fo many st ex pls te ord od pi ti ba wo pl hts wts = some v) (g : f_HM_gains p a b c row th lw br va su set rest hi he = some w) : v.1 = w.1 ∧ HILL la fo many ord od v.2.2.2.2.2.2.1 v.2.2.2.2.2.2.2 row := by
  have hc6 : 0 ≤ ch ∧ ch ≤ 6 := ⟨hJ.1.1, hJ.1.2.1⟩
  have ec := hJ.1.2.2
  have hP' := hP
  obtain ⟨⟨p0, p6, p2⟩, _⟩ := hP'
  unfold f_HS_gains at h
  unfold f_HM_gains at g
  obtain ⟨v0, e0, h⟩ := xz_d1 h
  obtain ⟨w0, d0, g⟩ := xz_d1 g
  rcases k_hasParish b0 ⟨p0, p6⟩ e0 with ⟨q1, q2⟩ | ⟨q1, q2⟩ <;> rcases r_isParish b0 (by omega) d0 with ⟨o1, o2⟩ | ⟨o1, o2⟩ <;> subst q2 <;> subst o2
  · replace h := xp_f (by decide +kernel) h
    replace g := xp_f (by decide +kernel) g
    obtain ⟨P, eP⟩ : ∃ P : Nat, p = (P : Int) := ⟨p.toNat, by omega⟩
    subst eP
    obtain ⟨v1, e1, h⟩ := xz_d1 h
    obtain ⟨w1, d1, g⟩ := xz_d1 g
    have k1 := k_knows b1 b2 b3 hc6 hm e1
    have r1 := r_are b1 b2 b3 (by omega) (by omega) d1
    rw [← ec, ← em] at r1
    rcases k1 with ⟨q3, q4⟩ | ⟨q3, q4⟩ <;> rcases r1 with ⟨o3, o4⟩ | ⟨o3, o4⟩ <;> subst q4 <;> subst o4
    · replace h := xp_f (by decide +kernel) h
      replace g := xp_t (by decide +kernel) g
      obtain ⟨v2, v3, v4, v5, a6, a7, e2, h⟩ := xz_d6 h
      obtain ⟨m1, m2, d2, g⟩ := xz_d2 g
      have ld := r_load d2
      obtain ⟨w4, w5, w6, w7, w8, b9, b10, d3, g⟩ := xz_d7 g
      have hC : CREL many hts wts m1 m2 := CREL_load hm.2 hh hH.2 ld.1 ld.2
      have q := eff_eq hJ hm hh hw hC q3.1 q3.2.1 q3.2.2 e2 d3
      replace q : v2 = w4 := q
      subst q
      by_cases cz : zi_w v2 = zi_w (-1)
      · rw [if_neg (fun z => z cz)] at h g
        cases h; cases g
        exact ⟨rfl, hH⟩
      · rw [if_pos cz] at h g
        have ef := eff_can hm hh q3.2.1 q3.2.2 e2 (fun z => cz (by show zi_w v2 = zi_w (-1); rw [show v2 = -1 from z]))
        obtain ⟨B, eB⟩ : ∃ B : Nat, b = (B : Int) := ⟨b.toNat, by have := q3.2.1; omega⟩
        subst eB
        obtain ⟨C, eC⟩ : ∃ C : Nat, c = (C : Int) := ⟨c.toNat, by have := q3.2.2; omega⟩
        subst eC
        rw [Int.toNat_natCast, Int.toNat_natCast] at ef
        have hbm := q3.2.1.2
        have hcm := q3.2.2.2
        have hne : B ≠ C := fun z => ef.2.2 (by rw [z])
        have bB := hh B
        have bC := hh C
        have HB := hC.1 B hbm
        have HC := hC.1 C hcm
        obtain ⟨u1, x1, h⟩ := xz_d1 h
        obtain ⟨u2, u3, x2, h⟩ := xz_d2 h
        have y2 := k_move hm hh hbm hcm hne ef.1 ef.2.1 x2
        obtain ⟨u4, x3, h⟩ := xz_d1 h
        obtain ⟨u5, u6, x4, h⟩ := xz_d2 h
        have z : (zi_w (171 + (P : Int))).toNat = 171 + P := by rw [zwi (by omega)]; omega
        replace g := (xp_g (xp_n g)).2
        rw [z] at g
        obtain ⟨z1, x5, g⟩ := xz_d1 g
        obtain ⟨z2, z3, x6, g⟩ := xz_d2 g
        have y4 := r_shift (by omega) (by omega) hne (by rw [HB]; exact bB) (by rw [HC]; exact bC) x6
        replace g := (xp_g (xp_n g)).2
        rw [z] at g
        obtain ⟨z4, x7, g⟩ := xz_d1 g
        have C2 := CREL_move hC hh hbm hcm hne ef.1 ef.2.1
        have R2 := move_r hh hne ef.1 ef.2.1
        have s1 := shade1 hm em hh hP q1.2 hC.1 x1 x5
        have yy2 : u2 = zu (zu hts C (hts C + 1)) B (hts B - 1) := congrArg Prod.fst y2
        have yy3 : u3 = zu wts (10 * C + (hts C).toNat) (TOPV hts wts B) := congrArg Prod.snd y2
        have yy4 : z2 = zu (zu m1 B (m1 B - 1)) C (m1 C + 1) := congrArg Prod.fst y4
        rw [← yy2] at R2
        have s2 := shade1 hm em R2 hP q1.2 (fun c hc => by rw [yy4, yy2]; exact C2.1 c hc) x3 x7
        have hc1 : 0 < u2 C := by rw [yy2, zu_ne _ _ (Ne.symm hne), zu_eq]; omega
        have hb1 : u2 B < 10 := by rw [yy2, zu_eq]; omega
        have y6 := k_move hm R2 hcm hbm (Ne.symm hne) hc1 hb1 x4
        have bs := back_same hh hne ef.1 ef.2.1 yy2 yy3 (congrArg Prod.fst y6) (congrArg Prod.snd y6)
        replace h := xp_n h
        replace g := xp_n g
        cases h; cases g
        refine ⟨?_, HILL_same hH bs.1 bs.2⟩
        show u1 - u4 = z1 - z4
        rw [s1.1, s2.1]
    · exact absurd q3 o3
    · exact absurd o3 q3
    · replace h := xp_t (by decide +kernel) h
      replace g := xp_f (by decide +kernel) g
      cases h; cases g
      exact ⟨rfl, hH⟩
  · omega
  · omega
  · replace h := xp_t (by decide +kernel) h
    replace g := xp_t (by decide +kernel) g
    cases h; cases g
    exact ⟨rfl, hH⟩
theorem x_exchange {ch la fo many : Int} {st ex te ord od hts wts row : Nat → Int} {a b c d s3 s30 s5 : Int} {t2 t3 : Nat → Int} {pi ti ba : Int} {wo pl : Nat → Int} {lw br va su th : Int} {set rest hi he : Nat → Int} {v : Int × Int × Int × (Nat → Int) × Int × Int × Int × (Nat → Int) × (Nat → Int) × (Nat → Int) × (Nat → Int)} {w : Int × Int × Int × Int × Int × Int × Int × (Nat → Int) × (Nat → Int) × (Nat → Int) × (Nat → Int) × (Nat → Int) × (Nat → Int)} (b1 : -2147483648 ≤ a ∧ a ≤ 2147483647) (b2 : -2147483648 ≤ b ∧ b ≤ 2147483647) (b3 : -2147483648 ≤ c ∧ c ≤ 2147483647) (b4 : -2147483648 ≤ d ∧ d ≤ 2147483647) (hJ : JREL ch la fo st ex te ord od row) (hm : 0 ≤ many ∧ many ≤ 12) (em : many = row 0) (hh : zR hts 0 10) (hw : zR wts 0 30) (hH : HILL la fo many ord od hts wts row) (eo : te 3 = row 8 ∧ 0 ≤ te 3 ∧ te 3 ≤ 99) (h : f_HS_exchange a b c d ch la fo many st ex te ord od s3 s30 t2 pi ti ba wo pl hts wts = some v) (g : f_HM_exchange a b c d th s5 lw br va su t3 row set rest hi he = some w) : SR v.1 w.1 v.2.1 w.2.2.1 t2 t3 v.2.2.2.1 w.2.2.2.2.2.2.2.1 ∧ HILL la fo many ord od v.2.2.2.2.2.2.2.2.2.1 v.2.2.2.2.2.2.2.2.2.2 w.2.2.2.2.2.2.2.2.1 := by
  have hc6 : 0 ≤ ch ∧ ch ≤ 6 := ⟨hJ.1.1, hJ.1.2.1⟩
  have ec := hJ.1.2.2
  have no2 : f_HS_exchange_25 ch la fo many st ex te ord od s3 s30 t2 pi ti ba wo pl hts wts = some v → f_HM_exchange_24 0 s5 lw br va su t3 row set rest hi he = some w → SR v.1 w.1 v.2.1 w.2.2.1 t2 t3 v.2.2.2.1 w.2.2.2.2.2.2.2.1 ∧ HILL la fo many ord od v.2.2.2.2.2.2.2.2.2.1 v.2.2.2.2.2.2.2.2.2.2 w.2.2.2.2.2.2.2.2.1 := fun h g => by
    unfold f_HS_exchange_25 at h
    unfold f_HM_exchange_24 at g
    obtain ⟨u6, u7, u8, e6, h⟩ := xz_d3 h
    obtain ⟨y3, y4, y5, e7, g⟩ := xz_d3 g
    have sr := SR_ref (by decide) e6 e7
    cases h; cases g
    exact ⟨sr, hH⟩
  unfold f_HS_exchange at h
  unfold f_HM_exchange at g
  obtain ⟨v1, e1, h⟩ := xz_d1 h
  obtain ⟨w1, d1, g⟩ := xz_d1 g
  have k1 := k_knows b1 b2 b3 hc6 hm e1
  have r1 := r_are b1 b2 b3 (by omega) (by omega) d1
  rw [← ec, ← em] at r1
  rcases k1 with ⟨q3, q4⟩ | ⟨q3, q4⟩ <;> rcases r1 with ⟨o3, o4⟩ | ⟨o3, o4⟩ <;> subst q4 <;> subst o4
  · replace h := xp_f (by decide +kernel) h
    replace g := xp_f (by decide +kernel) g
    obtain ⟨v0, e0, h⟩ := xz_d1 h
    obtain ⟨w0, d0, g⟩ := xz_d1 g
    rcases k_has b4 hm e0 with ⟨q1, q2⟩ | ⟨q1, q2⟩ <;> rcases r_isColumn b4 (by omega) d0 with ⟨o1, o2⟩ | ⟨o1, o2⟩ <;> subst q2 <;> subst o2
    · replace h := xp_t (by decide +kernel) h
      replace g := xp_t (by decide +kernel) g
      obtain ⟨v2, v3, v4, v5, a6, a7, e2, h⟩ := xz_d6 h
      obtain ⟨m1, m2, d2, g⟩ := xz_d2 g
      have ld := r_load d2
      obtain ⟨w4, w5, w6, w7, w8, b9, b10, d3, g⟩ := xz_d7 g
      have hC : CREL many hts wts m1 m2 := CREL_load hm.2 hh hH.2 ld.1 ld.2
      have q := eff_eq hJ hm hh hw hC q3.1 q3.2.1 q3.2.2 e2 d3
      replace q : v2 = w4 := q
      subst q
      by_cases cz : zi_w v2 = zi_w (-1)
      · rw [if_neg (fun z => z cz)] at h g
        obtain ⟨u6, u7, u8, e6, h⟩ := xz_d3 h
        obtain ⟨y3, y4, y5, e7, g⟩ := xz_d3 g
        have sr := SR_ref (by decide) e6 e7
        cases h; cases g
        exact ⟨sr, hH⟩
      · rw [if_pos cz] at h g
        have ef := eff_can hm hh q3.2.1 q3.2.2 e2 (fun z => cz (by show zi_w v2 = zi_w (-1); rw [show v2 = -1 from z]))
        obtain ⟨B, eB⟩ : ∃ B : Nat, b = (B : Int) := ⟨b.toNat, by have := q3.2.1; omega⟩
        subst eB
        obtain ⟨C, eC⟩ : ∃ C : Nat, c = (C : Int) := ⟨c.toNat, by have := q3.2.2; omega⟩
        subst eC
        obtain ⟨D, eD⟩ : ∃ D : Nat, d = (D : Int) := ⟨d.toNat, by omega⟩
        subst eD
        rw [Int.toNat_natCast, Int.toNat_natCast] at ef
        have hbm := q3.2.1.2
        have hcm := q3.2.2.2
        have hdm := q1.2
        have hne : B ≠ C := fun z => ef.2.2 (by rw [z])
        have bB := hh B
        have bC := hh C
        have HB := hC.1 B hbm
        have HC := hC.1 C hcm
        obtain ⟨u1, x1, h⟩ := xz_d1 h
        have y1 := k_top hm hh hbm x1
        subst y1
        obtain ⟨h1, n1, x2, h⟩ := xz_d2 h
        have y2 := k_move hm hh hbm hcm hne ef.1 ef.2.1 x2
        have yy2 : h1 = zu (zu hts C (hts C + 1)) B (hts B - 1) := congrArg Prod.fst y2
        have yy3 : n1 = zu wts (10 * C + (hts C).toNat) (TOPV hts wts B) := congrArg Prod.snd y2
        obtain ⟨z1, x3, g⟩ := xz_d1 g
        have y3 := r_top (by omega) (by rw [HB]; exact bB) x3
        rw [CREL_top hC hbm bB.1] at y3
        subst y3
        obtain ⟨m3, m4, x4, g⟩ := xz_d2 g
        have y4 := r_shift (by omega) (by omega) hne (by rw [HB]; exact bB) (by rw [HC]; exact bC) x4
        have C2 := CREL_move hC hh hbm hcm hne ef.1 ef.2.1
        have R2 := move_r hh hne ef.1 ef.2.1
        rw [← yy2] at R2
        have C3 : CREL many h1 n1 m3 m4 := by
          rw [yy2, yy3, show m3 = _ from congrArg Prod.fst y4, show m4 = _ from congrArg Prod.snd y4]
          exact C2
        have hw1 : zR n1 0 30 := by
          rw [yy3]
          exact zR_zu hw (by decide) (by decide) (TOPV_r hw B)
        have bD := R2 D
        have hc1 : 0 < h1 C := by rw [yy2, zu_ne _ _ (Ne.symm hne), zu_eq]; omega
        have hb1 : h1 B < 10 := by rw [yy2, zu_eq]; omega
        -- refused behind the first carrying
        have no3 : ∀ {p' t' q' : Int} {wo' pl' : Nat → Int}, f_HS_exchange_141 ch la fo many st ex te ord od (B : Int) (C : Int) s3 s30 t2 p' t' q' wo' pl' h1 n1 = some v → (∃ x y z, f_HM_tell (-3) s5 t3 = some (x, y, z) ∧ w.1 = x ∧ w.2.2.1 = y ∧ w.2.2.2.2.2.2.2.1 = z ∧ w.2.2.2.2.2.2.2.2.1 = row) → SR v.1 w.1 v.2.1 w.2.2.1 t2 t3 v.2.2.2.1 w.2.2.2.2.2.2.2.1 ∧ HILL la fo many ord od v.2.2.2.2.2.2.2.2.2.1 v.2.2.2.2.2.2.2.2.2.2 w.2.2.2.2.2.2.2.2.1 := fun h ⟨x, y, z, e7, hw1, hw2, hw3, hw4⟩ => by
          unfold f_HS_exchange_141 at h
          obtain ⟨u5, u6, x6, h⟩ := xz_d2 h
          have y6 := k_move hm R2 hcm hbm (Ne.symm hne) hc1 hb1 x6
          have bs := back_same hh hne ef.1 ef.2.1 yy2 yy3 (congrArg Prod.fst y6) (congrArg Prod.snd y6)
          obtain ⟨u7, u8, u9, e6, h⟩ := xz_d3 h
          have sr := SR_ref (by decide) e6 e7
          cases h
          rw [hw1, hw2, hw3, hw4]
          exact ⟨sr, HILL_same hH bs.1 bs.2⟩
        obtain ⟨u2, x5, h⟩ := xz_d1 h
        have y5 := k_top hm R2 hdm x5
        subst y5
        obtain ⟨k2, k3, k4, k5, k6, k7, e8, h⟩ := xz_d6 (xp_n (xp_n h))
        obtain ⟨l4, l5, l6, l7, l8, l9, l10, d8, g⟩ := xz_d7 g
        have qq := eff_eq hJ hm R2 hw1 C3 q3.1 q1 q3.2.1 e8 d8
        replace qq : k2 = l4 := qq
        subst qq
        by_cases cy : zi_w k2 = zi_w (-1)
        · rw [if_pos cy] at h
          rw [if_neg (fun z => z cy)] at g
          obtain ⟨y7, y8, y9, e9, g⟩ := xz_d3 g
          refine no3 h ⟨y7, y8, y9, e9, ?_⟩
          cases g
          exact ⟨rfl, rfl, rfl, rfl⟩
        · rw [if_neg cy] at h
          rw [if_pos cy] at g
          have ef2 := eff_can hm R2 q1 q3.2.1 e8 (fun z => cy (by show zi_w k2 = zi_w (-1); rw [show k2 = -1 from z]))
          rw [Int.toNat_natCast, Int.toNat_natCast] at ef2
          have hnd : D ≠ B := fun z => ef2.2.2 (by rw [z])
          replace h := (xp_g h).2
          obtain ⟨z5, x6, g⟩ := xz_d1 g
          have HD := C3.1 D hdm
          have y6 := r_top (by omega) (by rw [HD]; exact bD) x6
          rw [CREL_top C3 hdm bD.1] at y6
          subst y6
          obtain ⟨z6, x7, g⟩ := xz_d1 (xp_n g)
          have t1 := TOPV_r (h := hts) hw B
          have t2' := TOPV_r (h := h1) hw1 D
          have y7 := x_size (by omega) x7
          rw [x_abs (by omega), ← y7] at h
          replace g := (xp_g g).2
          have z3 : te (zi_w 3).toNat = te 3 := rfl
          have z8 : row (zi_w 8).toNat = te 3 := eo.1.symm
          have bz : 0 ≤ z6 ∧ z6 ≤ 30 := by rw [y7]; split <;> omega
          rw [z3, zwi (x := te 3) (by omega), zwi (x := z6) (by omega)] at h
          rw [z8, zwi (x := te 3) (by omega), zwi (x := z6) (by omega)] at g
          by_cases cu : te 3 ≤ z6
          · rw [if_pos cu] at h g
            obtain ⟨u5, u6, x8, h⟩ := xz_d2 h
            have y8 := k_move hm R2 hdm hbm hnd ef2.1 ef2.2.1 x8
            obtain ⟨u7, u8, u9, e6, h⟩ := xz_d3 h
            obtain ⟨m5, m6, x9, g⟩ := xz_d2 g
            have HB3 := C3.1 B hbm
            have y9 := r_shift (by omega) (by omega) hnd (by rw [HD]; exact bD) (by rw [HB3]; exact R2 B) x9
            obtain ⟨m7, x10, g⟩ := xz_d1 g
            have sto := r_store (by omega) x10
            obtain ⟨c1, c2, c3, e7, g⟩ := xz_d3 g
            have sr := SR_acc (f := t2) (by omega) rfl e6 e7
            have C4 := CREL_move C3 R2 hdm hbm hnd ef2.1 ef2.2.1
            have R4 := move_r R2 hnd ef2.1 ef2.2.1
            cases y8
            cases y9
            have HS := HILL_store hm.2 em R4 hH C4 sto.1 sto.2.1 sto.2.2
            cases h; cases g
            exact ⟨sr, HS⟩
          · rw [if_neg cu] at h g
            obtain ⟨y7', y8, y9, e9, g⟩ := xz_d3 g
            refine no3 h ⟨y7', y8, y9, e9, ?_⟩
            cases g
            exact ⟨rfl, rfl, rfl, rfl⟩
    · omega
    · omega
    · replace h := xp_f (by decide +kernel) h
      replace g := xp_f (by decide +kernel) g
      exact no2 h g
  · exact absurd q3 o3
  · exact absurd o3 q3
  · replace h := xp_t (by decide +kernel) h
    replace g := xp_t (by decide +kernel) g
    exact no2 h g
