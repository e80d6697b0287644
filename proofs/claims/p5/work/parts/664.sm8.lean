/-! a row of stones from the tape -/
theorem zR_put {hts : Nat → Int} (hh : zR hts 0 10) {C : Nat} (h : hts C < 10) : zR (zu hts C (hts C + 1)) 0 10 := zR_zu hh (by decide) (by decide) (by have := hh C; omega)
theorem row_eq {C : Nat} {many la fo T s3 s30 s5 : Int} {tape t2 t3 ord od : Nat → Int} {V : Int × Int × Int × Int × Int × (Nat → Int) × (Nat → Int) × (Nat → Int)} {U : Int × Int × Int × Int × Int × (Nat → Int) × (Nat → Int)} (hm : 0 ≤ many ∧ many ≤ 12) (hc : (C : Int) < many) (e0 : tape 0 = (C : Int)) (ht : zR tape 0 255) (hT : 1 ≤ T ∧ T ≤ 400) : ∀ (N M k : Nat) (p q s2 : Int) (hts wts row : Nat → Int), 1 ≤ k → (k : Int) ≤ T → 0 ≤ p → 0 ≤ q → p + q = (k : Int) - 1 → zR hts 0 10 → HILL la fo many ord od hts wts row → f_HS_row_44 tape many N T p (k : Int) 0 s2 s3 s30 t2 hts wts = some V → f_HM_row_56 tape M T (C : Int) p (k : Int) 0 s5 q 0 t3 row = some U → SR V.1 U.1 V.2.2.2.1 U.2.2.1 t2 t3 V.2.2.2.2.2.1 U.2.2.2.2.2.1 ∧ V.2.2.1 = U.2.2.2.1 ∧ HILL la fo many ord od V.2.2.2.2.2.2.1 V.2.2.2.2.2.2.2 U.2.2.2.2.2.2 := by
  intro N
  induction N with
  | zero => intro M k p q s2 hts wts row _ _ _ _ _ _ _ h; exact nomatch h
  | succ N ih =>
    intro M k p q s2 hts wts row hk1 hk hp hq hpq hh hH h g
    cases M with
    | zero => exact nomatch g
    | succ M =>
      replace h : f_HS_row_44_b tape many (f_HS_row_44 tape many N) T p (k : Int) 0 s2 s3 s30 t2 hts wts = some V := h
      replace g : f_HM_row_56_b tape (f_HM_row_56 tape M) T (C : Int) p (k : Int) 0 s5 q 0 t3 row = some U := g
      unfold f_HS_row_44_b at h
      unfold f_HM_row_56_b at g
      rw [zwi (x := T) (by omega), zwi (x := (k : Int)) (by omega)] at h g
      by_cases c : T ≤ (k : Int)
      · rw [if_pos c] at h g
        obtain ⟨u1, u2, u3, e3, h⟩ := xz_d3 (xp_n (xp_n h))
        obtain ⟨w1, w2, w3, e4, g⟩ := xz_d3 g
        have sr := SR_acc (f := t2) (by omega) rfl e3 e4
        cases h; cases g
        exact ⟨sr, by show T - 1 - p = q; omega, hH⟩
      · rw [if_neg c] at h g
        have bt := ht k
        have bC := hh C
        have ec : row (9 + C) = hts C := hH.2.1 C hc
        have z1 : (zi_w (9 + (C : Int))).toNat = 9 + C := by rw [zwi (by omega)]; omega
        have zk : (zi_w (k : Int)).toNat = k := by rw [zwi (by omega)]; omega
        replace h := (xp_g h).2
        replace g := (xp_g g).2
        rw [zk] at h g
        -- a stone that stays out
        have no : f_HS_row_94 tape many (f_HS_row_44 tape many N) T p (k : Int) 0 s2 s3 s30 t2 hts wts = some V → f_HM_row_137 tape (f_HM_row_56 tape M) T (C : Int) p (k : Int) 0 s5 q 0 t3 row = some U → SR V.1 U.1 V.2.2.2.1 U.2.2.1 t2 t3 V.2.2.2.2.2.1 U.2.2.2.2.2.1 ∧ V.2.2.1 = U.2.2.2.1 ∧ HILL la fo many ord od V.2.2.2.2.2.2.1 V.2.2.2.2.2.2.2 U.2.2.2.2.2.2 := fun h g => by
          unfold f_HS_row_94 at h
          unfold f_HM_row_137 at g
          replace g := xp_n g
          unfold f_HM_row_147 at g
          exact ih M (k + 1) p (q + 1) s2 _ _ row (by omega) (by omega) hp (by omega) (by omega) hh hH (xp_n h) (xp_n g)
        obtain ⟨w1, e1, g⟩ := xz_d1 g
        rw [zwi (x := tape k) (by omega), zwi (x := 1) (by decide), zwi (x := 30) (by decide)] at h
        rcases x_isWeight (by omega) e1 with ⟨q1, q2⟩ | ⟨q1, q2⟩ <;> subst q1
        · replace g := xp_f (by decide +kernel) g
          rw [if_neg (by omega), if_neg (by omega)] at h
          replace h := (xp_g h).2
          have z0 : tape (zi_w 0).toNat = (C : Int) := e0
          rw [z0] at h
          obtain ⟨v1, a2, a3, e2, h⟩ := xz_d3 h
          replace g := (xp_g (xp_n g)).2
          rw [z1, ec, zwi (x := hts C) (by omega), zwi (x := 10) (by decide)] at g
          rcases k_put hm hh hc e2 with ⟨q3, q4⟩ | ⟨q3, q4⟩ <;> cases q4
          · replace h := xp_n (xp_f (by decide +kernel) h)
            rw [if_neg (by omega)] at g
            replace g := xp_n (xp_g (xp_n (xp_n (xp_n g)))).2
            replace g := (xp_g g).2
            replace g := xp_n (xp_s g).2
            replace g := xp_n (xp_g g).2
            replace g := xp_n (xp_s g).2
            rw [z1, ec, zk] at g
            have z2 : (zi_w (21 + 10 * (C : Int) + hts C)).toNat = 21 + (10 * C + (hts C).toNat) := by rw [zwi (by omega)]; omega
            rw [z2, zu_ne _ _ (by omega), ec] at g
            unfold f_HS_row_94 at h
            unfold f_HM_row_147 at g
            have hp2 := HILL_put (x := tape k) hm.2 hh hH hc q3
            exact ih M (k + 1) (p + 1) q s2 _ _ _ (by omega) (by omega) (by omega) hq (by omega) (zR_put hh q3) hp2 (xp_n h) (xp_n g)
          · replace h := xp_t (by decide +kernel) h
            rw [if_pos (by omega)] at g
            exact no h g
        · replace g := xp_t (by decide +kernel) g
          by_cases c1 : tape k < 1
          · rw [if_pos c1] at h
            exact no h g
          · rw [if_neg c1, if_pos (by omega)] at h
            exact no h g
theorem x_row {many s0 s2 s3 s30 s4 s5 s6 la fo : Int} {tape t2 t3 hts wts ord od row : Nat → Int} {v : Int × Int × Int × Int × Int × (Nat → Int) × (Nat → Int) × (Nat → Int)} {w : Int × Int × Int × Int × Int × (Nat → Int) × (Nat → Int)} (hm : 0 ≤ many ∧ many ≤ 12) (em : many = row 0) (hh : zR hts 0 10) (ht : zR tape 0 255) (hT : 0 ≤ s0 ∧ s0 ≤ 400) (hH : HILL la fo many ord od hts wts row) (h : f_HS_row tape many s0 s2 s3 s30 t2 hts wts = some v) (g : f_HM_row tape s4 s5 s6 s0 t3 row = some w) : SR v.1 w.1 v.2.2.2.1 w.2.2.1 t2 t3 v.2.2.2.2.2.1 w.2.2.2.2.2.1 ∧ (s2 = s6 → v.2.2.1 = w.2.2.2.1) ∧ HILL la fo many ord od v.2.2.2.2.2.2.1 v.2.2.2.2.2.2.2 w.2.2.2.2.2.2 := by
  have no : f_HS_row_33 tape many 0 s2 s3 s30 t2 hts wts = some v → f_HM_row_32 tape 0 s5 s6 0 t3 row = some w → SR v.1 w.1 v.2.2.2.1 w.2.2.1 t2 t3 v.2.2.2.2.2.1 w.2.2.2.2.2.1 ∧ (s2 = s6 → v.2.2.1 = w.2.2.2.1) ∧ HILL la fo many ord od v.2.2.2.2.2.2.1 v.2.2.2.2.2.2.2 w.2.2.2.2.2.2 := fun h g => by
    unfold f_HS_row_33 at h
    unfold f_HM_row_32 at g
    obtain ⟨u1, u2, u3, e3, h⟩ := xz_d3 h
    obtain ⟨w1, w2, w3, e4, g⟩ := xz_d3 g
    have sr := SR_ref (by decide) e3 e4
    cases h; cases g
    exact ⟨sr, fun e => e, hH⟩
  unfold f_HS_row at h
  unfold f_HM_row at g
  rw [zwi (x := s0) (by omega)] at h g
  by_cases c : s0 = 0
  · rw [if_pos c] at h g
    exact no h g
  · rw [if_neg c] at h g
    replace h := (xp_g h).2
    replace g := (xp_g g).2
    have b0 := ht 0
    have z0 : tape (zi_w 0).toNat = tape 0 := rfl
    rw [z0] at h g
    obtain ⟨v1, e1, h⟩ := xz_d1 h
    obtain ⟨w1, d1, g⟩ := xz_d1 g
    rcases k_has (by omega) hm e1 with ⟨q1, q2⟩ | ⟨q1, q2⟩ <;> rcases r_isColumn (by omega) (by omega) d1 with ⟨p1, p2⟩ | ⟨p1, p2⟩ <;> subst q2 <;> subst p2
    · replace h := xp_t (by decide +kernel) h
      replace g := (xp_g (xp_t (by decide +kernel) g)).2
      rw [z0] at g
      obtain ⟨C, eC⟩ : ∃ C : Nat, tape 0 = (C : Int) := ⟨(tape 0).toNat, by omega⟩
      rw [eC] at g
      have r := row_eq (C := C) hm (by omega) eC ht (by omega) zfu zfu 1 0 0 s2 hts wts row (by decide) (by omega) (by decide) (by decide) (by decide) hh hH h g
      exact ⟨r.1, fun _ => r.2.1, r.2.2⟩
    · omega
    · omega
    · replace h := xp_f (by decide +kernel) h
      replace g := xp_f (by decide +kernel) g
      exact no h g
/-! rain -/
def RREL (pm wet : Int) (ph pw rd : Nat → Int) : Prop := pm = wet ∧ ∀ c : Nat, (c : Int) < pm → ph c = rd (2 * c) ∧ LSUM pw c (ph c).toNat = rd (2 * c + 1)
theorem zu_comm {f : Nat → Int} {a b : Nat} {x y : Int} (h : a ≠ b) : zu (zu f a x) b y = zu (zu f b y) a x := by
  funext k
  by_cases e : k = b
  · subst e; rw [zu_eq, zu_ne _ _ (Ne.symm h), zu_eq]
  · by_cases e2 : k = a
    · subst e2; rw [zu_ne _ _ e, zu_eq, zu_eq]
    · rw [zu_ne _ _ e, zu_ne _ _ e2, zu_ne _ _ e2, zu_ne _ _ e]
theorem k_take {C : Nat} {many : Int} {hts wts : Nat → Int} {v : Int × (Nat → Int)} (hm : 0 ≤ many ∧ many ≤ 12) (hh : zR hts 0 10) (hc : (C : Int) < many) (h0 : 0 < hts C) (h : f_Columns_take (C : Int) many wts hts = some v) : v = (TOPV hts wts C, zu hts C (hts C - 1)) := by
  have bC := hh C
  unfold f_Columns_take at h
  obtain ⟨m1, e8, h⟩ := xz_d1 h
  have k2 := k_top hm hh hc e8
  subst k2
  obtain ⟨m2, e9, h⟩ := xz_d1 h
  have k3 := k_high hm hc e9
  subst k3
  rw [zwi (x := hts C) (by omega), if_neg (by omega)] at h
  replace h := (xp_s (xp_n (xp_g h).2)).2
  rw [zwi (x := (C : Int)) (by omega), Int.toNat_natCast] at h
  cases h
  rfl
theorem k_put_no {x a many : Int} {hts wts : Nat → Int} {v : Int × (Nat → Int) × (Nat → Int)} (hm : 0 ≤ many ∧ many ≤ 12) (hx : x = many) (h : f_Columns_put x a many hts wts = some v) : v = (0, hts, wts) := by
  unfold f_Columns_put at h
  obtain ⟨v1, e1, h⟩ := xz_d1 h
  rcases k_has (by omega) hm e1 with ⟨q1, _⟩ | ⟨_, q2⟩
  · omega
  · subst q2
    replace h := xp_t (by decide +kernel) h
    cases h
    rfl
theorem CREL_lift {many : Int} {hts wts H W : Nat → Int} (h : CREL many hts wts H W) {C : Nat} (hc : (C : Int) < many) : CREL many (zu hts C (hts C - 1)) wts (zu H C (H C - 1)) W := by
  have ec := h.1 C hc
  refine ⟨fun k hk => ?_, fun k i hk hi => ?_⟩
  · by_cases e : k = C
    · subst e; rw [zu_eq, zu_eq, ec]
    · rw [zu_ne _ _ e, zu_ne _ _ e]; exact h.1 k hk
  · by_cases e : k = C
    · subst e; rw [zu_eq] at hi; exact h.2 k i hk (by omega)
    · rw [zu_ne _ _ e] at hi; exact h.2 k i hk hi
theorem zR_take {hts : Nat → Int} (hh : zR hts 0 10) {C : Nat} (h : 0 < hts C) : zR (zu hts C (hts C - 1)) 0 10 := zR_zu hh (by decide) (by decide) (by have := hh C; omega)
theorem k_wash {C : Nat} {many : Int} {hts wts : Nat → Int} {v : Int × (Nat → Int) × (Nat → Int)} (hm : 0 ≤ many ∧ many ≤ 12) (hh : zR hts 0 10) (hc : (C : Int) < many) (h : f_Paper_wash (C : Int) many hts wts = some v) : (hts C = 0 ∧ v = (0, hts, wts)) ∨ (0 < hts C ∧ (C : Int) + 1 < many ∧ hts (C + 1) < 10 ∧ v = (0, zu (zu hts (C + 1) (hts (C + 1) + 1)) C (hts C - 1), zu wts (10 * (C + 1) + (hts (C + 1)).toNat) (TOPV hts wts C))) ∨ (0 < hts C ∧ (many ≤ (C : Int) + 1 ∨ 10 ≤ hts (C + 1)) ∧ v = (1, zu hts C (hts C - 1), wts)) := by
  have bC := hh C
  unfold f_Paper_wash at h
  obtain ⟨v1, e1, h⟩ := xz_d1 h
  have k1 := k_high hm hc e1
  subst k1
  rw [zwi (x := hts C) (by omega)] at h
  by_cases c : hts C = 0
  · rw [if_neg (fun z => z c)] at h
    cases h
    exact Or.inl ⟨c, rfl⟩
  · rw [if_pos c] at h
    obtain ⟨v2, a3, e2, h⟩ := xz_d2 h
    have k2 := k_take hm hh hc (by omega) e2
    cases k2
    obtain ⟨v5, a6, a7, e3, h⟩ := xz_d3 (xp_n h)
    by_cases d : (C : Int) + 1 < many
    · rw [show (C : Int) + 1 = ((C + 1 : Nat) : Int) from by omega] at e3
      have hr := zR_take hh (C := C) (by omega)
      rcases k_put hm hr (by omega) e3 with ⟨q1, q2⟩ | ⟨q1, q2⟩
      · rw [zu_ne _ _ (by omega)] at q1 q2
        cases q2
        replace h := xp_f (by decide +kernel) h
        cases h
        rw [zu_comm (show C ≠ C + 1 from by omega)]
        exact Or.inr (Or.inl ⟨by omega, d, q1, rfl⟩)
      · rw [zu_ne _ _ (by omega)] at q1
        cases q2
        replace h := xp_t (by decide +kernel) h
        cases h
        exact Or.inr (Or.inr ⟨by omega, Or.inr (by omega), rfl⟩)
    · have q := k_put_no hm (by omega) e3
      cases q
      replace h := xp_t (by decide +kernel) h
      cases h
      exact Or.inr (Or.inr ⟨by omega, Or.inl (by omega), rfl⟩)
theorem settle_eq {many : Int} {row hts wts H W : Nat → Int} {V U : Int × (Nat → Int) × (Nat → Int)} (hm : 0 ≤ many ∧ many ≤ 12) (em : many = row 0) (hs : 1 ≤ row 7 ∧ row 7 ≤ 99) (hh : zR hts 0 10) (hC : CREL many hts wts H W) (h : f_Columns_settle (row 7) many hts wts = some V) (g : f_HM_slideAll row H W = some U) : V.1 = U.1 ∧ zR V.2.1 0 10 ∧ CREL many V.2.1 V.2.2 U.2.1 U.2.2 := by
  unfold f_Columns_settle at h
  unfold f_HM_slideAll at g
  obtain ⟨q1, d4, g⟩ := xz_d1 g
  have r1 := r_steepest (by omega) (by omega) (fun c hc => by rw [hC.1 c (by omega)]; exact hh c) d4
  have sq := (SQ_r hh 12).2
  exact slide_eq hm em (by omega) zfu zfu 0 hts wts H W q1 hh hC (by omega) r1 h g
theorem pour_eq {many D s5 m1 : Int} {h1 w1 t3 rd row : Nat → Int} {V : Int × Int × (Nat → Int) × (Nat → Int)} {U : Int × Int × Int × Int × Int × (Nat → Int) × (Nat → Int) × (Nat → Int) × (Nat → Int)} (hm : 1 ≤ many ∧ many ≤ 12) (em : many = row 0) (hs : 1 ≤ row 7 ∧ row 7 ≤ 99) (hD : 1 ≤ D ∧ D ≤ 40) : ∀ (N M k : Nat) (p s : Int) (hts wts H W : Nat → Int), (k : Int) ≤ D → 0 ≤ p → p ≤ (k : Int) → 0 ≤ s ∧ s ≤ 1000003 → zR hts 0 10 → CREL many hts wts H W → f_Paper_pour_29 m1 h1 w1 N (row 7) D p s (k : Int) many hts wts = some V → f_HM_rain_58 row M D p (k : Int) 0 s5 s many t3 H W rd = some U → (0 ≤ V.1 ∧ V.1 ≤ D) ∧ V.2.1 = many ∧ zR V.2.2.1 0 10 ∧ ∃ (H' W' : Nat → Int) (s' : Int), CREL many V.2.2.1 V.2.2.2 H' W' ∧ f_HM_rain_177 row V.1 0 s5 s' many t3 H' W' rd = some U := by
  intro N
  induction N with
  | zero => intro M k p s hts wts H W _ _ _ _ _ _ h; exact nomatch h
  | succ N ih =>
    intro M k p s hts wts H W hk hp1 hp2 hss hh hC h g
    cases M with
    | zero => exact nomatch g
    | succ M =>
      replace h : f_Paper_pour_29_b m1 h1 w1 (f_Paper_pour_29 m1 h1 w1 N) (row 7) D p s (k : Int) many hts wts = some V := h
      replace g : f_HM_rain_58_b row (f_HM_rain_58 row M) D p (k : Int) 0 s5 s many t3 H W rd = some U := g
      unfold f_Paper_pour_29_b at h
      unfold f_HM_rain_58_b at g
      rw [zwi (x := D) (by omega), zwi (x := (k : Int)) (by omega)] at h g
      by_cases c : D ≤ (k : Int)
      · rw [if_pos c] at h g
        cases h
        exact ⟨⟨hp1, by show p ≤ D; omega⟩, rfl, hh, H, W, s, hC, g⟩
      · rw [if_neg c] at h g
        rw [zwi (x := many) (by omega), if_neg (by omega)] at g
        replace h := xp_n (xp_f (by decide +kernel) (xp_n (xp_n h)))
        replace g := xp_n (xp_n (xp_f (by decide +kernel) (xp_n (xp_n g))))
        have er1 := zi_rem_n (x := s * 1103 + 12345) (y := 1000003) (by omega) (by decide)
        have er2 := zl_rem_n (x := s * 1103 + 12345) (y := 1000003) (by omega) (by decide)
        rw [er1] at h
        rw [er2] at g
        have bs := zemod (s * 1103 + 12345) (w := 1000003) (by decide)
        generalize (s * 1103 + 12345) % 1000003 = s' at h g bs
        rw [zwi (x := many) (by omega), if_neg (by omega)] at h
        rw [zwl (x := many) (by omega), if_neg (by omega)] at g
        replace h := xp_n h
        replace g := xp_n g
        rw [zi_rem_n (x := s') (y := many) (by omega) (by omega)] at h
        rw [zl_rem_n (x := s') (y := many) (by omega) (by omega)] at g
        have bc := zemod s' (w := many) (by omega)
        generalize s' % many = cc at h g bc
        obtain ⟨C, eC⟩ : ∃ C : Nat, cc = (C : Int) := ⟨cc.toNat, by omega⟩
        subst eC
        obtain ⟨v5, a6, a7, e1, h⟩ := xz_d3 h
        have zc : (zi_w (C : Int)).toNat = C := by rw [zwi (by omega)]; omega
        have zc1 : (zi_w ((C : Int) + 1)).toNat = C + 1 := by rw [zwi (by omega)]; omega
        have bC := hh C
        have bC1 := hh (C + 1)
        have HC := hC.1 C bc.2
        have key : ∃ (H' W' : Nat → Int), (v5 = 0 ∨ v5 = 1) ∧ zR a6 0 10 ∧ CREL many a6 a7 H' W' ∧ f_HM_rain_166 row (f_HM_rain_58 row M) D (p + v5) (k : Int) 0 s5 s' many t3 H' W' rd = some U := by
          replace g := (xp_g g).2
          rw [zc, HC, zwi (x := hts C) (by omega)] at g
          rcases k_wash (by omega) hh bc.2 e1 with ⟨q1, q2⟩ | ⟨q1, q2, q3, q4⟩ | ⟨q1, q2, q3⟩
          · cases q2
            rw [if_pos (by omega)] at g
            exact ⟨H, W, Or.inl rfl, hh, hC, by rw [Int.add_zero]; exact g⟩
          · cases q4
            rw [if_neg (by omega)] at g
            replace g := xp_n g
            rw [zwi (x := (C : Int) + 1) (by omega), if_neg (by omega)] at g
            replace g := (xp_g (xp_n g)).2
            have HC1 := hC.1 (C + 1) (by omega)
            rw [zc1, HC1, zwi (x := hts (C + 1)) (by omega), zwi (x := 10) (by decide), if_neg (by omega)] at g
            obtain ⟨m1, m2, e2, g⟩ := xz_d2 (xp_n g)
            rw [show (C : Int) + 1 = ((C + 1 : Nat) : Int) from by omega] at e2
            have y := r_shift (by omega) (by omega) (show C ≠ C + 1 from by omega) (by rw [HC]; exact bC) (by rw [HC1]; exact bC1) e2
            cases y
            exact ⟨_, _, Or.inl rfl, move_r hh (show C ≠ C + 1 from by omega) q1 q3, CREL_move hC hh bc.2 (by omega) (show C ≠ C + 1 from by omega) q1 q3, by rw [Int.add_zero]; exact g⟩
          · cases q3
            rw [if_neg (by omega)] at g
            replace g := xp_n g
            rw [zwi (x := (C : Int) + 1) (by omega)] at g
            have off : f_HM_rain_152 row (f_HM_rain_58 row M) D p (k : Int) (C : Int) 0 s5 s' many t3 H W rd = some U := by
              by_cases d : many ≤ (C : Int) + 1
              · rw [if_pos d] at g; exact g
              · rw [if_neg d] at g
                replace g := (xp_g (xp_n g)).2
                have HC1 := hC.1 (C + 1) (by omega)
                rw [zc1, HC1, zwi (x := hts (C + 1)) (by omega), zwi (x := 10) (by decide), if_pos (by omega)] at g
                exact g
            unfold f_HM_rain_152 at off
            replace off := xp_n (xp_g off).2
            replace off := xp_n (xp_s off).2
            rw [zc] at off
            exact ⟨_, _, Or.inr rfl, zR_take hh q1, CREL_lift hC bc.2, off⟩
        obtain ⟨H', W', y1, y2, y3, y4⟩ := key
        unfold f_HM_rain_166 at y4
        obtain ⟨v9, a10, a11, e4, h⟩ := xz_d3 (xp_n h)
        obtain ⟨w1, w2, w3, e5, y4⟩ := xz_d3 y4
        have st := settle_eq (by omega) em hs y2 y3 e4 e5
        exact ih M (k + 1) (p + v5) s' _ _ _ _ (by omega) (by omega) (by omega) (by omega) st.2.1 st.2.2 (xp_n h) (xp_n y4)
theorem r_58_0 {b s5 s' many : Int} {t3 H W rd row : Nat → Int} {U : Int × Int × Int × Int × Int × (Nat → Int) × (Nat → Int) × (Nat → Int) × (Nat → Int)} (hb : 1 ≤ b ∧ b ≤ 40) (hm : many = 0) : ∀ N : Nat, f_HM_rain_58 row N b 0 0 0 s5 s' many t3 H W rd = some U → f_HM_rain_177 row 0 0 s5 s' many t3 H W rd = some U := by
  intro N g
  cases N with
  | zero => exact nomatch g
  | succ N =>
    replace g : f_HM_rain_58_b row (f_HM_rain_58 row N) b 0 0 0 s5 s' many t3 H W rd = some U := g
    unfold f_HM_rain_58_b at g
    rw [zwi (x := b) (by omega), zwi (x := 0) (by decide), if_neg (by omega), zwi (x := many) (by omega), if_pos (by omega)] at g
    exact g
theorem r_220 {C : Nat} {p s5 s' many : Int} {t3 H W row : Nat → Int} {K : Int → Int → Int → Int → Int → Int → (Nat → Int) → (Nat → Int) → (Nat → Int) → (Nat → Int) → Option (Int × Int × Int × Int × Int × (Nat → Int) × (Nat → Int) × (Nat → Int) × (Nat → Int))} {U : Int × Int × Int × Int × Int × (Nat → Int) × (Nat → Int) × (Nat → Int) × (Nat → Int)} (hC : C < 12) (hh : 0 ≤ H C ∧ H C ≤ 10) : ∀ (N i : Nat) (rd : Nat → Int), (i : Int) ≤ H C → rd (2 * C + 1) = LSUM W C i → f_HM_rain_220 row K N p (C : Int) (i : Int) 0 s5 s' many t3 H W rd = some U → ∃ rd' : Nat → Int, K p ((C : Int) + 1) 0 s5 s' many t3 H W rd' = some U ∧ rd' (2 * C + 1) = LSUM W C (H C).toNat ∧ ∀ y, y ≠ 2 * C + 1 → rd' y = rd y := by
  intro N
  induction N with
  | zero => intro i rd _ _ g; exact nomatch g
  | succ N ih =>
    intro i rd hi hr g
    replace g : f_HM_rain_220_b row K (f_HM_rain_220 row K N) p (C : Int) (i : Int) 0 s5 s' many t3 H W rd = some U := g
    unfold f_HM_rain_220_b at g
    replace g := (xp_g g).2
    have zc : (zi_w (C : Int)).toNat = C := by rw [zwi (by omega)]; omega
    rw [zc, zwi (x := H C) (by omega), zwi (x := (i : Int)) (by omega)] at g
    by_cases c : H C ≤ (i : Int)
    · rw [if_pos c] at g
      exact ⟨rd, xp_n g, by rw [hr, show (H C).toNat = i from by omega], fun _ _ => rfl⟩
    · rw [if_neg c] at g
      replace g := (xp_g (xp_n (xp_n g))).2
      replace g := (xp_g (xp_n (xp_n g))).2
      replace g := xp_n (xp_s (xp_n g)).2
      have z1 : (zi_w (2 * (C : Int) + 1)).toNat = 2 * C + 1 := by rw [zwi (by omega)]; omega
      have z2 : (zi_w (10 * (C : Int) + (i : Int))).toNat = 10 * C + i := by rw [zwi (by omega)]; omega
      rw [z1, z2, hr] at g
      obtain ⟨rd', r1, r2, r3⟩ := ih (i + 1) _ (by omega) (by rw [zu_eq]; rfl) g
      exact ⟨rd', r1, r2, fun y hy => by rw [r3 y hy, zu_ne _ _ hy]⟩
theorem r_180 {p s5 s' many : Int} {t3 H W row : Nat → Int} {U : Int × Int × Int × Int × Int × (Nat → Int) × (Nat → Int) × (Nat → Int) × (Nat → Int)} (hm : 0 ≤ many ∧ many ≤ 12) (hh : ∀ c : Nat, (c : Int) < many → 0 ≤ H c ∧ H c ≤ 10) : ∀ (N k : Nat) (rd : Nat → Int), k ≤ 12 → (∀ c : Nat, c < k → H c = rd (2 * c) ∧ LSUM W c (H c).toNat = rd (2 * c + 1)) → f_HM_rain_180 row N p (k : Int) 0 s5 s' many t3 H W rd = some U → ∃ x y z rd', f_HM_tell p s5 t3 = some (x, y, z) ∧ U = (x, 0, y, s', many, z, H, W, rd') ∧ ∀ c : Nat, (c : Int) < many → H c = rd' (2 * c) ∧ LSUM W c (H c).toNat = rd' (2 * c + 1) := by
  intro N
  induction N with
  | zero => intro k rd _ _ g; exact nomatch g
  | succ N ih =>
    intro k rd hk hr g
    replace g : f_HM_rain_180_b row (f_HM_rain_180 row N) p (k : Int) 0 s5 s' many t3 H W rd = some U := g
    unfold f_HM_rain_180_b at g
    rw [zwi (x := many) (by omega), zwi (x := (k : Int)) (by omega)] at g
    by_cases c : many ≤ (k : Int)
    · rw [if_pos c] at g
      obtain ⟨x, y, z, e, g⟩ := xz_d3 g
      cases g
      exact ⟨x, y, z, rd, e, rfl, fun c hc => hr c (by omega)⟩
    · rw [if_neg c] at g
      replace g := (xp_g (xp_n g)).2
      replace g := xp_n (xp_n (xp_s g).2)
      replace g := (xp_s g).2
      have zk : (zi_w (k : Int)).toNat = k := by rw [zwi (by omega)]; omega
      have z1 : (zi_w (2 * (k : Int))).toNat = 2 * k := by rw [zwi (by omega)]; omega
      have z2 : (zi_w (2 * (k : Int) + 1)).toNat = 2 * k + 1 := by rw [zwi (by omega)]; omega
      rw [zk, z1, z2] at g
      obtain ⟨rd', r1, r2, r3⟩ := r_220 (C := k) (by omega) (hh k (by omega)) zfu 0 _ (by have := (hh k (by omega)).1; omega) (by rw [zu_eq]; rfl) g
      refine ih (k + 1) rd' (by omega) (fun c hc => ?_) r1
      by_cases e : c = k
      · subst e
        exact ⟨by rw [r3 _ (by omega), zu_ne _ _ (by omega), zu_eq], r2.symm⟩
      · rw [r3 _ (by omega), r3 _ (by omega), zu_ne _ _ (by omega), zu_ne _ _ (by omega), zu_ne _ _ (by omega), zu_ne _ _ (by omega)]
        exact hr c (by omega)
theorem x_rain {a b many s3 s30 s4 s5 st wet pm : Int} {t2 t3 te hts wts ph pw hi he rd row : Nat → Int} {v : Int × Int × Int × (Nat → Int) × Int × (Nat → Int) × (Nat → Int)} {w : Int × Int × Int × Int × Int × (Nat → Int) × (Nat → Int) × (Nat → Int) × (Nat → Int)} (b1 : -2147483648 ≤ a ∧ a ≤ 2147483647) (b2 : -2147483648 ≤ b ∧ b ≤ 2147483647) (hm : 0 ≤ many ∧ many ≤ 12) (em : many = row 0) (hh : zR hts 0 10) (hph : zR ph 0 10) (et : te 2 = row 7 ∧ 1 ≤ te 2 ∧ te 2 ≤ 99) (hC : CREL many hts wts (fun c => row (9 + c)) (fun j => row (21 + j))) (h : f_HS_rain a b many te hts wts s3 s30 t2 pm ph pw = some v) (g : f_HM_rain a b row s4 s5 st wet t3 hi he rd = some w) : SR v.1 w.1 v.2.1 w.2.2.1 t2 t3 v.2.2.2.1 w.2.2.2.2.2.1 ∧ (RREL pm wet ph pw rd → RREL v.2.2.2.2.1 w.2.2.2.2.1 v.2.2.2.2.2.1 v.2.2.2.2.2.2 w.2.2.2.2.2.2.2.2) := by
  have no : f_HS_rain_22 many te hts wts s3 s30 t2 pm ph pw = some v → f_HM_rain_29 row 0 s5 st wet t3 hi he rd = some w → SR v.1 w.1 v.2.1 w.2.2.1 t2 t3 v.2.2.2.1 w.2.2.2.2.2.1 ∧ (RREL pm wet ph pw rd → RREL v.2.2.2.2.1 w.2.2.2.2.1 v.2.2.2.2.2.1 v.2.2.2.2.2.2 w.2.2.2.2.2.2.2.2) := fun h g => by
    unfold f_HS_rain_22 at h
    unfold f_HM_rain_29 at g
    obtain ⟨u1, u2, u3, e3, h⟩ := xz_d3 h
    obtain ⟨w1, w2, w3, e4, g⟩ := xz_d3 g
    have sr := SR_ref (by decide) e3 e4
    cases h; cases g
    exact ⟨sr, fun e => e⟩
  unfold f_HS_rain at h
  unfold f_HM_rain at g
  rw [zwi b1, zwi b2, zwi (x := 1000000) (by decide), zwi (x := 1) (by decide), zwi (x := 40) (by decide)] at h
  obtain ⟨w1, d1, g⟩ := xz_d1 (xp_n g)
  rw [zwi b1] at d1 g
  have g1 := x_in (by omega) (by decide) (by decide) d1
  by_cases c1 : 0 ≤ a ∧ a ≤ 1000000
  · rw [if_pos c1] at g1
    subst g1
    replace g := xp_f (by decide +kernel) g
    rw [if_neg (by omega), if_neg (by omega)] at h
    obtain ⟨w2, d2, g⟩ := xz_d1 (xp_n g)
    rw [zwi b2] at d2
    have g2 := x_in (by omega) (by decide) (by decide) d2
    by_cases c2 : 1 ≤ b ∧ b ≤ 40
    · rw [if_pos c2] at g2
      subst g2
      replace g := xp_t (by decide +kernel) g
      rw [if_neg (by omega), if_pos (by omega)] at h
      obtain ⟨m1, m2, d3, g⟩ := xz_d2 g
      have ld := r_load d3
      obtain ⟨w4, d4, g⟩ := xz_d1 (xp_n g)
      have g4 := r_columns d4
      rw [g4, ← em] at g
      replace h := (xp_g h).2
      have z2 : te (zi_w 2).toNat = row 7 := et.1
      rw [z2] at h
      obtain ⟨v2, v3, a4, a5, e1, h⟩ := xz_d4 h
      obtain ⟨v6, v7, v8, e2, h⟩ := xz_d3 h
      unfold f_Paper_pour at e1
      obtain ⟨p1, p2, p3, e3, e1⟩ := xz_d3 e1
      unfold f_Columns_become at e3
      replace e3 := xp_cp (xp_cp e3)
      cases e3
      have hh2 : zR (va_cpy hts ph (Int.toNat (zi_w 0)) (Int.toNat (zi_w 0)) (Int.toNat (zi_w 12))) 0 10 := zR_cp hh hph
      have c12 : ∀ j, j < 12 → va_cpy hts ph (Int.toNat (zi_w 0)) (Int.toNat (zi_w 0)) (Int.toNat (zi_w 12)) j = hts j := fun j hj => cpy_lt (n := 12) hj
      have c120 : ∀ j, j < 120 → va_cpy wts pw (Int.toNat (zi_w 0)) (Int.toNat (zi_w 0)) (Int.toNat (zi_w 120)) j = wts j := fun j hj => cpy_lt (n := 120) hj
      have C2 := CREL_c hm.2 hh hC c12 c120 (fun j hj => ld.1 j hj) (fun j hj => ld.2 j hj)
      generalize va_cpy hts ph (Int.toNat (zi_w 0)) (Int.toNat (zi_w 0)) (Int.toNat (zi_w 12)) = X1 at e1 hh2 C2
      generalize va_cpy wts pw (Int.toNat (zi_w 0)) (Int.toNat (zi_w 0)) (Int.toNat (zi_w 120)) = X2 at e1 C2
      rw [zwi (x := many) (by omega)] at e1
      have fin : (0 ≤ v2 ∧ v2 ≤ 40) ∧ v3 = many ∧ zR a4 0 10 ∧ ∃ (H' W' : Nat → Int) (s' : Int), CREL many a4 a5 H' W' ∧ f_HM_rain_177 row v2 0 s5 s' many t3 H' W' rd = some w := by
        by_cases c3 : many = 0
        · rw [if_neg (fun z => z c3)] at e1
          cases e1
          exact ⟨by decide, rfl, hh2, m1, m2, a, C2, r_58_0 c2 (by omega) zfu g⟩
        · rw [if_pos c3] at e1
          have r := pour_eq (by omega) em (by omega) c2 zfu zfu 0 0 a _ _ m1 m2 (by omega) (by decide) (by decide) (by omega) hh2 C2 e1 g
          exact ⟨⟨r.1.1, by have := r.1.2; omega⟩, r.2⟩
      obtain ⟨f1, f2, f3, H', W', s', f4, f5⟩ := fin
      unfold f_HM_rain_177 at f5
      obtain ⟨x, y, z, rd', q1, q2, q3⟩ := r_180 hm (fun c hc => by rw [f4.1 c hc]; exact f3 c) zfu 0 rd (by decide) (fun c hc => absurd hc (by omega)) f5
      have sr := SR_acc (f := t2) (by omega) rfl e2 q1
      subst q2
      cases h
      refine ⟨sr, fun _ => ⟨f2, fun c hc => ?_⟩⟩
      have hc' : (c : Int) < many := by rw [← f2]; exact hc
      have hcc := f4.1 c hc'
      have b3 := f3 c
      have q4 := q3 c hc'
      rw [hcc] at q4
      refine ⟨q4.1, ?_⟩
      show LSUM a5 c (a4 c).toNat = rd' (2 * c + 1)
      rw [← q4.2]
      exact (LSUM_agr _ (fun i hi => f4.2 c i hc' (by omega))).symm
    · rw [if_neg c2] at g2
      subst g2
      replace g := xp_f (by decide +kernel) g
      by_cases c3 : b < 1
      · rw [if_pos c3] at h; exact no h g
      · rw [if_neg c3, if_neg (by omega)] at h; exact no h g
  · rw [if_neg c1] at g1
    subst g1
    replace g := xp_t (by decide +kernel) g
    by_cases c3 : a < 0
    · rw [if_pos c3] at h; exact no h g
    · rw [if_neg c3, if_pos (by omega)] at h; exact no h g
theorem x_rained {a b pm wet s4 : Int} {ph pw rd : Nat → Int} {v : Int} {w : Int × Int} (b1 : -2147483648 ≤ a ∧ a ≤ 2147483647) (b2 : -2147483648 ≤ b ∧ b ≤ 2147483647) (hm : 0 ≤ pm ∧ pm ≤ 12) (hh : zR ph 0 10) (hR : RREL pm wet ph pw rd) (h : f_HS_rained a b pm ph pw = some v) (g : f_HM_rained a b wet rd s4 = some w) : v = w.1 := by
  obtain ⟨r1, r2⟩ := hR
  rw [← r1] at g
  unfold f_HS_rained at h
  unfold f_HM_rained at g
  obtain ⟨u1, e1, h⟩ := xz_d1 h
  obtain ⟨w1, d1, g⟩ := xz_d1 (xp_n (xp_n (xp_n g)))
  rw [zwi b1, zwi (x := pm) (by omega)] at d1
  have g1 := x_in (by omega) (by decide) (by omega) d1
  rw [zwi b2, zwi (x := 1) (by decide)] at h
  rw [zwi b2] at g
  rcases k_has b1 hm e1 with ⟨q1, q2⟩ | ⟨q1, q2⟩ <;> subst q2
  · rw [if_pos (by omega)] at g1
    subst g1
    replace h := xp_f (by decide +kernel) h
    replace g := xp_f (by decide +kernel) g
    obtain ⟨w2, d2, g⟩ := xz_d1 (xp_n g)
    have g2 := x_in (by omega) (by decide) (by decide) d2
    obtain ⟨C, eC⟩ : ∃ C : Nat, a = (C : Int) := ⟨a.toNat, by omega⟩
    subst eC
    by_cases c1 : 0 ≤ b ∧ b ≤ 1
    · rw [if_pos c1] at g2
      subst g2
      replace g := (xp_g (xp_n (xp_n (xp_f (by decide +kernel) g)))).2
      rw [if_neg (by omega), if_pos c1.2] at h
      have rr := r2 C q1.2
      have z : (zi_w (2 * (C : Int) + b)).toNat = 2 * C + b.toNat := by rw [zwi (by omega)]; omega
      rw [z] at g
      by_cases c2 : b = 0
      · rw [if_neg (fun z => z c2)] at h
        obtain ⟨u2, e2, h⟩ := xz_d1 h
        have k2 := k_high hm q1.2 e2
        subst k2
        cases h; cases g
        show ph C = rd (2 * C + b.toNat)
        rw [c2]
        exact rr.1
      · rw [if_pos c2] at h
        obtain ⟨u2, e2, h⟩ := xz_d1 h
        have k2 := k_load hm hh q1.2 e2
        subst k2
        cases h; cases g
        show LSUM pw C (ph C).toNat = rd (2 * C + b.toNat)
        rw [show b = 1 from by omega]
        exact rr.2
    · rw [if_neg c1] at g2
      subst g2
      replace g := xp_t (by decide +kernel) g
      cases g
      by_cases c2 : b < 0
      · rw [if_pos c2] at h; cases h; rfl
      · rw [if_neg c2, if_neg (by omega)] at h; cases h; rfl
  · rw [if_neg (by omega)] at g1
    subst g1
    replace h := xp_t (by decide +kernel) h
    replace g := xp_t (by decide +kernel) g
    cases h; cases g; rfl
theorem x_stones {many : Int} {hts row : Nat → Int} (hm : 0 ≤ many ∧ many ≤ 12) (em : many = row 0) (hH : ∀ c : Nat, (c : Int) < many → row (9 + c) = hts c) : ∀ (N M k : Nat) (x v w : Int), k ≤ 12 → f_Columns_stones_4 many hts N x (k : Int) = some v → f_HM_stones_4 row M x (k : Int) = some w → v = w := by
  intro N
  induction N with
  | zero => intro M k x v w _ h; exact nomatch h
  | succ N ih =>
    intro M k x v w hk h g
    cases M with
    | zero => exact nomatch g
    | succ M =>
      replace h : f_Columns_stones_4_b many hts (f_Columns_stones_4 many hts N) x (k : Int) = some v := h
      replace g : f_HM_stones_4_b row (f_HM_stones_4 row M) x (k : Int) = some w := g
      unfold f_Columns_stones_4_b at h
      unfold f_HM_stones_4_b at g
      obtain ⟨w1, d1, g⟩ := xz_d1 g
      have g1 := r_columns d1
      rw [g1, ← em] at g
      rw [zwi (x := many) (by omega), zwi (x := (k : Int)) (by omega)] at h g
      by_cases c : many ≤ (k : Int)
      · rw [if_pos c] at h g
        cases h; cases g; rfl
      · rw [if_neg c] at h g
        replace h := xp_n (xp_n (xp_g h).2)
        replace g := xp_n (xp_n (xp_g (xp_n g)).2)
        have z1 : (zi_w (k : Int)).toNat = k := by rw [zwi (by omega)]; omega
        have z2 : (zi_w (9 + (k : Int))).toNat = 9 + k := by rw [zwi (by omega)]; omega
        rw [z1] at h
        rw [z2, hH k (by omega)] at g
        exact ih M (k + 1) _ v w (by omega) h g
theorem x_count {a tp ch pa la fo many s4 : Int} {t2 t3 te hts row : Nat → Int} {v : Int} {w : Int × Int} (b1 : -2147483648 ≤ a ∧ a ≤ 2147483647) (hm : 0 ≤ many ∧ many ≤ 12) (em : many = row 0) (hH : ∀ c : Nat, (c : Int) < many → row (9 + c) = hts c) (e1 : ch = row 1) (e2 : pa = row 2) (e3 : la = row 3) (e4 : fo = row 4) (et : ∀ k, k < 4 → te k = row (5 + k)) (hr : ∀ k, k < 7 → t2 k = t3 k) (h : f_HS_count a tp ch pa la fo t2 many te hts = some v) (g : f_HM_count a tp t3 row s4 = some w) : v = w.1 := by
  unfold f_HS_count at h
  unfold f_HM_count at g
  rw [zwi b1] at h g
  by_cases c0 : a = 0
  · rw [if_pos c0] at h g
    obtain ⟨u, d, g⟩ := xz_d1 g
    have q := r_columns d
    cases h; cases g
    rw [em, q]
  rw [if_neg c0] at h g
  by_cases c1 : a = 1
  · rw [if_pos c1] at h g
    obtain ⟨u, e, h⟩ := xz_d1 h
    obtain ⟨u2, d, g⟩ := xz_d1 g
    unfold f_Columns_stones at e
    unfold f_HM_stones at d
    have q := x_stones hm em hH zfu zfu 0 0 _ _ (by decide) e d
    cases h; cases g
    exact q
  rw [if_neg c1] at h g
  by_cases c2 : a = 2
  · rw [if_pos c2] at h g
    replace g := (xp_g g).2
    cases h; cases g
    exact e1
  rw [if_neg c2] at h g
  by_cases c3 : a = 3
  · rw [if_pos c3] at h g
    replace g := (xp_g g).2
    cases h; cases g
    exact e2
  rw [if_neg c3] at h g
  by_cases c4 : a = 4
  · rw [if_pos c4] at h g
    replace g := (xp_g g).2
    cases h; cases g
    exact e3
  rw [if_neg c4] at h g
  by_cases c5 : a = 5
  · rw [if_pos c5] at h g
    cases h; cases g; rfl
  rw [if_neg c5] at h g
  by_cases c6 : a = 6
  · rw [if_pos c6] at h g
    replace h := (xp_g h).2
    replace g := (xp_g g).2
    cases h; cases g
    exact hr 1 (by decide)
  rw [if_neg c6] at h g
  by_cases c7 : a = 7
  · rw [if_pos c7] at h g
    replace h := (xp_g h).2
    replace g := (xp_g g).2
    cases h; cases g
    exact hr 2 (by decide)
  rw [if_neg c7] at h g
  by_cases c8 : a = 8
  · rw [if_pos c8] at h g
    replace h := (xp_g h).2
    replace g := (xp_g g).2
    cases h; cases g
    exact hr 3 (by decide)
  rw [if_neg c8] at h g
  by_cases c9 : a = 9
  · rw [if_pos c9] at h g
    replace h := (xp_g h).2
    replace g := (xp_g g).2
    cases h; cases g
    exact hr 5 (by decide)
  rw [if_neg c9] at h g
  by_cases c10 : a = 10
  · rw [if_pos c10] at h g
    replace h := (xp_g h).2
    replace g := (xp_g g).2
    cases h; cases g
    exact hr 6 (by decide)
  rw [if_neg c10] at h g
  by_cases c11 : a = 11
  · rw [if_pos c11] at h g
    replace g := (xp_g g).2
    cases h; cases g
    exact e4
  rw [if_neg c11] at h g
  obtain ⟨w1, d1, g⟩ := xz_d1 (xp_n g)
  have g1 := x_in (by omega) (by decide) (by decide) d1
  by_cases cr : 12 ≤ a ∧ a ≤ 15
  · rw [if_pos cr] at g1
    subst g1
    replace g := (xp_g (xp_n (xp_n (xp_f (by decide +kernel) g)))).2
    have z : (zi_w (5 + a - 12)).toNat = 5 + (a - 12).toNat := by rw [zwi (by omega)]; omega
    rw [z] at g
    by_cases c12 : a = 12
    · rw [if_pos c12] at h
      replace h := (xp_g h).2
      subst c12
      cases h; cases g
      exact et 0 (by decide)
    rw [if_neg c12] at h
    by_cases c13 : a = 13
    · rw [if_pos c13] at h
      replace h := (xp_g h).2
      subst c13
      cases h; cases g
      exact et 1 (by decide)
    rw [if_neg c13] at h
    by_cases c14 : a = 14
    · rw [if_pos c14] at h
      replace h := (xp_g h).2
      subst c14
      cases h; cases g
      exact et 2 (by decide)
    rw [if_neg c14] at h
    have c15 : a = 15 := by omega
    rw [if_pos c15] at h
    replace h := (xp_g h).2
    subst c15
    cases h; cases g
    exact et 3 (by decide)
  · rw [if_neg cr] at g1
    subst g1
    replace g := xp_t (by decide +kernel) g
    rw [if_neg (by omega), if_neg (by omega), if_neg (by omega), if_neg (by omega)] at h
    cases h; cases g; rfl
