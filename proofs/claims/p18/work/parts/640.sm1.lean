section
/-! COLUMNS of both -/
noncomputable def TOPV (h w : Nat → Int) (c : Nat) : Int := if h c = 0 then 0 else w (10 * c + (h c - 1).toNat)
noncomputable def CREL (many : Int) (hts wts H W : Nat → Int) : Prop := (∀ c : Nat, (c : Int) < many → H c = hts c) ∧ (∀ c i : Nat, (c : Int) < many → (i : Int) < hts c → W (10 * c + i) = wts (10 * c + i))
theorem CREL_top {many : Int} {hts wts H W : Nat → Int} (h : CREL many hts wts H W) {c : Nat} (hc : (c : Int) < many) (hh : 0 ≤ hts c) : TOPV H W c = TOPV hts wts c := by
  unfold TOPV
  rw [h.1 c hc]
  by_cases e : hts c = 0
  · rw [if_pos e, if_pos e]
  · rw [if_neg e, if_neg e]
    exact h.2 c _ hc (by omega)
theorem k_has {x many v : Int} (hx : -2147483648 ≤ x ∧ x ≤ 2147483647) (hm : 0 ≤ many ∧ many ≤ 12) (h : f_Columns_has x many = some v) : ((0 ≤ x ∧ x < many) ∧ v = 1) ∨ ((x < 0 ∨ many ≤ x) ∧ v = 0) := by
  unfold f_Columns_has at h
  rw [zwi hx, zwi (x := many) (by omega)] at h
  by_cases c : x < 0
  · rw [if_pos c] at h; cases h; exact Or.inr ⟨Or.inl c, rfl⟩
  · rw [if_neg c] at h
    by_cases d : many ≤ x
    · rw [if_pos d] at h; cases h; exact Or.inr ⟨Or.inr d, rfl⟩
    · rw [if_neg d] at h; cases h; exact Or.inl ⟨by omega, rfl⟩
theorem k_hasN {c : Nat} {many v : Int} (hm : 0 ≤ many ∧ many ≤ 12) (hc : (c : Int) < many) (h : f_Columns_has (c : Int) many = some v) : v = 1 := by
  rcases k_has (by omega) hm h with ⟨_, e⟩ | ⟨e, _⟩
  · exact e
  · omega
theorem k_high {c : Nat} {many v : Int} {hts : Nat → Int} (hm : 0 ≤ many ∧ many ≤ 12) (hc : (c : Int) < many) (h : f_Columns_high (c : Int) many hts = some v) : v = hts c := by
  unfold f_Columns_high at h
  obtain ⟨v1, e1, h⟩ := xz_d1 h
  have g := k_hasN hm hc e1
  subst g
  replace h := xp_f (by decide +kernel) h
  replace h := (xp_g h).2
  rw [zwi (x := (c : Int)) (by omega), Int.toNat_natCast] at h
  cases h
  rfl
theorem k_top {c : Nat} {many v : Int} {hts wts : Nat → Int} (hm : 0 ≤ many ∧ many ≤ 12) (hh : zR hts 0 10) (hc : (c : Int) < many) (h : f_Columns_top (c : Int) many hts wts = some v) : v = TOPV hts wts c := by
  have b := hh c
  unfold f_Columns_top at h
  obtain ⟨v1, e1, h⟩ := xz_d1 h
  have g := k_high hm hc e1
  subst g
  unfold TOPV
  rw [zwi (x := hts c) (by omega)] at h
  by_cases d : hts c ≤ 0
  · rw [if_pos d] at h; cases h; rw [if_pos (by omega)]
  · rw [if_neg d] at h
    replace h := (xp_g (xp_n (xp_n (xp_n h)))).2
    rw [show (zi_w ((c : Int) * 10 + hts c - 1)).toNat = 10 * c + (hts c - 1).toNat from by rw [zwi (by omega)]; omega] at h
    cases h
    rw [if_neg (by omega)]
theorem k_put {c : Nat} {many x : Int} {hts wts : Nat → Int} {v : Int × (Nat → Int) × (Nat → Int)} (hm : 0 ≤ many ∧ many ≤ 12) (hh : zR hts 0 10) (hc : (c : Int) < many) (h : f_Columns_put (c : Int) x many hts wts = some v) : (hts c < 10 ∧ v = (1, zu hts c (hts c + 1), zu wts (10 * c + (hts c).toNat) x)) ∨ (hts c = 10 ∧ v = (0, hts, wts)) := by
  have b := hh c
  unfold f_Columns_put at h
  obtain ⟨v1, e1, h⟩ := xz_d1 h
  have g := k_hasN hm hc e1
  subst g
  replace h := xp_f (by decide +kernel) h
  replace h := (xp_g h).2
  rw [zwi (x := (c : Int)) (by omega), Int.toNat_natCast, zwi (x := hts c) (by omega), zwi (x := 10) (by decide)] at h
  by_cases d : hts c < 10
  · rw [if_pos d] at h
    replace h := xp_n (xp_g (xp_n h)).2
    rw [zwi (x := (c : Int)) (by omega), Int.toNat_natCast] at h
    replace h := (xp_s h).2
    replace h := xp_n (xp_g h).2
    replace h := (xp_s h).2
    rw [show (zi_w ((c : Int) * 10 + hts c)).toNat = 10 * c + (hts c).toNat from by rw [zwi (by omega)]; omega, zwi (x := (c : Int)) (by omega), Int.toNat_natCast] at h
    cases h
    exact Or.inl ⟨d, rfl⟩
  · rw [if_neg d] at h; cases h; exact Or.inr ⟨by omega, rfl⟩
theorem k_move {a b : Nat} {many : Int} {hts wts : Nat → Int} {v : (Nat → Int) × (Nat → Int)} (hm : 0 ≤ many ∧ many ≤ 12) (hh : zR hts 0 10) (ha : (a : Int) < many) (hb : (b : Int) < many) (hab : a ≠ b) (h1 : 0 < hts a) (h2 : hts b < 10) (h : f_Columns_move (a : Int) (b : Int) many hts wts = some v) : v = (zu (zu hts b (hts b + 1)) a (hts a - 1), zu wts (10 * b + (hts b).toNat) (TOPV hts wts a)) := by
  have ba := hh a
  unfold f_Columns_move at h
  obtain ⟨v1, e1, h⟩ := xz_d1 h
  have g := k_high hm ha e1
  subst g
  rw [zwi (x := hts a) (by omega), if_neg (by omega)] at h
  obtain ⟨v2, e2, h⟩ := xz_d1 h
  have g2 := k_top hm hh ha e2
  subst g2
  obtain ⟨v3, a4, a5, e3, h⟩ := xz_d3 h
  rcases k_put hm hh hb e3 with ⟨_, g3⟩ | ⟨g3, _⟩
  · cases g3
    replace h := xp_f (by decide +kernel) h
    replace h := xp_n (xp_g h).2
    replace h := (xp_s h).2
    rw [zwi (x := (a : Int)) (by omega), Int.toNat_natCast, zu_ne _ _ hab] at h
    cases h
    rfl
  · omega
theorem r_columns {row : Nat → Int} {v : Int} (h : f_HM_columns row = some v) : v = row 0 := by
  unfold f_HM_columns at h
  replace h := (xp_g h).2
  cases h
  rfl
theorem x_bool {v : Int} {o : Int} (hv : v = 0 ∨ v = 1) (h : (if ¬ (zi_w v = 0 ∨ zi_w v = 1) then none else some v) = some o) : o = v := by
  rcases hv with e | e <;> subst e
  · replace h := xp_f (by decide +kernel) h; cases h; rfl
  · replace h := xp_f (by decide +kernel) h; cases h; rfl
theorem r_isColumn {x v : Int} {row : Nat → Int} (hx : -2147483648 ≤ x ∧ x ≤ 2147483647) (hm : 0 ≤ row 0 ∧ row 0 ≤ 12) (h : f_HM_isColumn x row = some v) : ((0 ≤ x ∧ x < row 0) ∧ v = 1) ∨ ((x < 0 ∨ row 0 ≤ x) ∧ v = 0) := by
  unfold f_HM_isColumn at h
  replace h := xp_n h
  obtain ⟨v1, e1, h⟩ := xz_d1 h
  have g := r_columns e1
  subst g
  replace h := xp_n (xp_n h)
  obtain ⟨v2, e2, h⟩ := xz_d1 h
  rw [zwi hx, zwi (x := row 0) (by omega)] at e2
  have g2 := x_in (by omega) (by decide) (by omega) e2
  by_cases c : 0 ≤ x ∧ x ≤ row 0 - 1
  · rw [if_pos c] at g2
    subst g2
    exact Or.inl ⟨by omega, x_bool (Or.inr rfl) h⟩
  · rw [if_neg c] at g2
    subst g2
    exact Or.inr ⟨by omega, x_bool (Or.inl rfl) h⟩
theorem r_isChild {x v : Int} {row : Nat → Int} (hx : -2147483648 ≤ x ∧ x ≤ 2147483647) (hm : 0 ≤ row 1 ∧ row 1 ≤ 6) (h : f_HM_isChild x row = some v) : ((0 ≤ x ∧ x < row 1) ∧ v = 1) ∨ ((x < 0 ∨ row 1 ≤ x) ∧ v = 0) := by
  unfold f_HM_isChild at h
  replace h := xp_n h
  replace h := xp_n (xp_n (xp_g h).2)
  obtain ⟨v2, e2, h⟩ := xz_d1 h
  have e0 : row (zi_w 1).toNat = row 1 := rfl
  rw [zwi hx, e0, zwi (x := row 1) (by omega)] at e2
  have g2 := x_in (by omega) (by decide) (by omega) e2
  by_cases c : 0 ≤ x ∧ x ≤ row 1 - 1
  · rw [if_pos c] at g2
    subst g2
    exact Or.inl ⟨by omega, x_bool (Or.inr rfl) h⟩
  · rw [if_neg c] at g2
    subst g2
    exact Or.inr ⟨by omega, x_bool (Or.inl rfl) h⟩
theorem r_top {c : Nat} {v : Int} {H W : Nat → Int} (hc : c < 12) (hh : 0 ≤ H c ∧ H c ≤ 10) (h : f_HM_top (c : Int) H W = some v) : v = TOPV H W c := by
  unfold f_HM_top at h
  replace h := (xp_g h).2
  rw [zwi (x := (c : Int)) (by omega), Int.toNat_natCast, zwi (x := H c) (by omega)] at h
  unfold TOPV
  by_cases d : H c = 0
  · rw [if_neg (fun z => z d)] at h; cases h; rw [if_pos d]
  · rw [if_pos d] at h
    replace h := xp_n (xp_n (xp_g (xp_n h)).2)
    rw [zwi (x := (c : Int)) (by omega), Int.toNat_natCast] at h
    replace h := (xp_g h).2
    rw [show (zi_w (10 * (c : Int) + H c - 1)).toNat = 10 * c + (H c - 1).toNat from by rw [zwi (by omega)]; omega] at h
    cases h
    rw [if_neg d]
theorem r_shift {a b : Nat} {H W : Nat → Int} {v : (Nat → Int) × (Nat → Int)} (ha : a < 12) (hb : b < 12) (hab : a ≠ b) (hA : 0 ≤ H a ∧ H a ≤ 10) (hB : 0 ≤ H b ∧ H b ≤ 10) (h : f_HM_shift (a : Int) (b : Int) H W = some v) : v = (zu (zu H a (H a - 1)) b (H b + 1), zu W (10 * b + (H b).toNat) (TOPV H W a)) := by
  unfold f_HM_shift at h
  obtain ⟨v1, e1, h⟩ := xz_d1 h
  have g := r_top ha hA e1
  subst g
  replace h := xp_n (xp_g h).2
  replace h := xp_n (xp_s h).2
  replace h := xp_n (xp_g h).2
  replace h := (xp_s h).2
  replace h := xp_n (xp_g h).2
  replace h := (xp_s h).2
  rw [zwi (x := (a : Int)) (by omega), Int.toNat_natCast, zwi (x := (b : Int)) (by omega), Int.toNat_natCast, zu_ne _ _ (Ne.symm hab)] at h
  rw [show (zi_w (10 * (b : Int) + H b)).toNat = 10 * b + (H b).toNat from by rw [zwi (by omega)]; omega] at h
  cases h
  rfl
theorem CREL_move {many : Int} {hts wts H W : Nat → Int} (h : CREL many hts wts H W) (hh : zR hts 0 10) {a b : Nat} (ha : (a : Int) < many) (hb : (b : Int) < many) (hab : a ≠ b) (h1 : 0 < hts a) (h2 : hts b < 10) : CREL many (zu (zu hts b (hts b + 1)) a (hts a - 1)) (zu wts (10 * b + (hts b).toNat) (TOPV hts wts a)) (zu (zu H a (H a - 1)) b (H b + 1)) (zu W (10 * b + (H b).toNat) (TOPV H W a)) := by
  have ht := CREL_top h ha (hh a).1
  have ea := h.1 a ha
  have eb := h.1 b hb
  refine ⟨fun c hc => ?_, fun c i hc hi => ?_⟩
  · by_cases e : c = b
    · subst e
      rw [zu_eq, zu_ne _ _ (Ne.symm hab), zu_eq, eb]
    · by_cases e2 : c = a
      · subst e2
        rw [zu_ne _ _ e, zu_eq, zu_eq, ea]
      · rw [zu_ne _ _ e, zu_ne _ _ e2, zu_ne _ _ e2, zu_ne _ _ e]; exact h.1 c hc
  · rw [ht, eb]
    have bc := hh c
    have bb := hh b
    by_cases e : c = b
    · subst e
      rw [zu_ne _ _ (Ne.symm hab), zu_eq] at hi
      by_cases e3 : (i : Int) = hts c
      · rw [show 10 * c + i = 10 * c + (hts c).toNat from by omega, zu_eq, zu_eq]
      · rw [zu_ne _ _ (by omega), zu_ne _ _ (by omega)]; exact h.2 c i hc (by omega)
    · have hi2 : (i : Int) < hts c := by
        by_cases e2 : c = a
        · subst e2; rw [zu_eq] at hi; omega
        · rw [zu_ne _ _ e2, zu_ne _ _ e] at hi; exact hi
      rw [zu_ne _ _ (by omega), zu_ne _ _ (by omega)]; exact h.2 c i hc hi2
/-! steep places -/
noncomputable def STP (many : Int) (h : Nat → Int) (st : Int) (c d : Int) : Prop := (0 ≤ c ∧ c < many) ∧ (0 ≤ d ∧ d < many) ∧ st < h c.toNat - h d.toNat
noncomputable def LSP (many : Int) (h : Nat → Int) (st : Int) (k : Nat) (v : Int) : Prop :=
  (v = -1 ∧ ∀ c : Nat, k ≤ c → (c : Int) < many → ¬ STP many h st c (c - 1) ∧ ¬ STP many h st c (c + 1)) ∨
  (∃ c : Nat, v = (c : Int) ∧ k ≤ c ∧ (c : Int) < many ∧ (STP many h st c (c - 1) ∨ STP many h st c (c + 1)) ∧ ∀ e : Nat, k ≤ e → e < c → ¬ STP many h st e (e - 1) ∧ ¬ STP many h st e (e + 1))
theorem LSP_u {many : Int} {h : Nat → Int} {st : Int} {k : Nat} {v w : Int} (a : LSP many h st k v) (b : LSP many h st k w) : v = w := by
  rcases a with ⟨a1, a2⟩ | ⟨c, a1, a2, a3, a4, a5⟩ <;> rcases b with ⟨b1, b2⟩ | ⟨d, b1, b2, b3, b4, b5⟩
  · rw [a1, b1]
  · have := a2 d b2 b3
    rcases b4 with z | z
    · exact absurd z this.1
    · exact absurd z this.2
  · have := b2 c a2 a3
    rcases a4 with z | z
    · exact absurd z this.1
    · exact absurd z this.2
  · rcases Nat.lt_trichotomy c d with z | z | z
    · have := b5 c a2 z
      rcases a4 with q | q
      · exact absurd q this.1
      · exact absurd q this.2
    · subst z; rw [a1, b1]
    · have := a5 d b2 z
      rcases b4 with q | q
      · exact absurd q this.1
      · exact absurd q this.2
theorem STP_agr {many : Int} {h g : Nat → Int} {st c d : Int} (e : ∀ c : Nat, (c : Int) < many → g c = h c) (s : STP many h st c d) : STP many g st c d := by
  obtain ⟨s1, s2, s3⟩ := s
  refine ⟨s1, s2, ?_⟩
  rw [e _ (by omega), e _ (by omega)]
  exact s3
theorem LSP_agr {many : Int} {h g : Nat → Int} {st : Int} {k : Nat} {v : Int} (e : ∀ c : Nat, (c : Int) < many → g c = h c) (s : LSP many h st k v) : LSP many g st k v := by
  have e' : ∀ c : Nat, (c : Int) < many → h c = g c := fun c hc => (e c hc).symm
  rcases s with ⟨a1, a2⟩ | ⟨c, a1, a2, a3, a4, a5⟩
  · exact Or.inl ⟨a1, fun c c1 c2 => ⟨fun z => (a2 c c1 c2).1 (STP_agr e' z), fun z => (a2 c c1 c2).2 (STP_agr e' z)⟩⟩
  · refine Or.inr ⟨c, a1, a2, a3, ?_, fun c c1 c2 => ⟨fun z => (a5 c c1 c2).1 (STP_agr e' z), fun z => (a5 c c1 c2).2 (STP_agr e' z)⟩⟩
    rcases a4 with z | z
    · exact Or.inl (STP_agr e z)
    · exact Or.inr (STP_agr e z)
theorem k_isSteep {c d st many v : Int} {hts : Nat → Int} (hc : -10 ≤ c ∧ c ≤ 20) (hd : -10 ≤ d ∧ d ≤ 20) (hm : 0 ≤ many ∧ many ≤ 12) (hs : 0 ≤ st ∧ st ≤ 100) (hh : zR hts 0 10) (h : f_Columns_isSteep c d st many hts = some v) : (v = 1 ∧ STP many hts st c d) ∨ (v = 0 ∧ ¬ STP many hts st c d) := by
  unfold f_Columns_isSteep at h
  obtain ⟨v1, e1, h⟩ := xz_d1 h
  rcases k_has (by omega) hm e1 with ⟨g1, g2⟩ | ⟨g1, g2⟩ <;> subst g2
  · replace h := xp_f (by decide +kernel) h
    obtain ⟨v2, e2, h⟩ := xz_d1 h
    rcases k_has (by omega) hm e2 with ⟨g3, g4⟩ | ⟨g3, g4⟩ <;> subst g4
    · replace h := xp_f (by decide +kernel) h
      replace h := (xp_g h).2
      replace h := xp_n (xp_g h).2
      have b1 := hh c.toNat
      have b2 := hh d.toNat
      rw [zwi (x := c) (by omega), zwi (x := d) (by omega), zwi (x := hts c.toNat - hts d.toNat) (by omega), zwi (x := st) (by omega)] at h
      by_cases q : hts c.toNat - hts d.toNat ≤ st
      · rw [if_pos q] at h; cases h; exact Or.inr ⟨rfl, fun z => by have := z.2.2; omega⟩
      · rw [if_neg q] at h; cases h; exact Or.inl ⟨rfl, g1, g3, by omega⟩
    · replace h := xp_t (by decide +kernel) h
      cases h
      exact Or.inr ⟨rfl, fun z => by have := z.2.1; omega⟩
  · replace h := xp_t (by decide +kernel) h
    cases h
    exact Or.inr ⟨rfl, fun z => by have := z.1; omega⟩
theorem k_lowest_2 {st many : Int} {hts : Nat → Int} (hm : 0 ≤ many ∧ many ≤ 12) (hs : 0 ≤ st ∧ st ≤ 100) (hh : zR hts 0 10) : ∀ (N k : Nat) (v : Int), k ≤ 12 → f_Columns_lowestSteep_2 many hts N st (k : Int) = some v → LSP many hts st k v := by
  intro N
  induction N with
  | zero => intro k v _ h; exact nomatch h
  | succ N ih =>
    intro k v hk h
    replace h : f_Columns_lowestSteep_2_b many hts (f_Columns_lowestSteep_2 many hts N) st (k : Int) = some v := h
    unfold f_Columns_lowestSteep_2_b at h
    rw [zwi (x := many) (by omega), zwi (x := (k : Int)) (by omega)] at h
    by_cases e : many ≤ (k : Int)
    · rw [if_pos e] at h; cases h
      exact Or.inl ⟨rfl, fun c c1 c2 => by omega⟩
    · rw [if_neg e] at h
      obtain ⟨v2, e2, h⟩ := xz_d1 (xp_n h)
      rcases k_isSteep (by omega) (by omega) hm hs hh e2 with ⟨g1, g2⟩ | ⟨g1, g2⟩ <;> subst g1
      · replace h := xp_t (by decide +kernel) h
        cases h
        exact Or.inr ⟨k, rfl, Nat.le_refl _, by omega, Or.inl g2, fun e e1 e2 => by omega⟩
      · replace h := xp_f (by decide +kernel) h
        obtain ⟨v4, e4, h⟩ := xz_d1 (xp_n h)
        rcases k_isSteep (by omega) (by omega) hm hs hh e4 with ⟨g3, g4⟩ | ⟨g3, g4⟩ <;> subst g3
        · replace h := xp_f (by decide +kernel) h
          cases h
          exact Or.inr ⟨k, rfl, Nat.le_refl _, by omega, Or.inr g4, fun e e1 e2 => by omega⟩
        · replace h := xp_n (xp_t (by decide +kernel) h)
          rcases ih (k + 1) v (by omega) h with ⟨a1, a2⟩ | ⟨c, a1, a2, a3, a4, a5⟩
          · refine Or.inl ⟨a1, fun c c1 c2 => ?_⟩
            rcases Nat.lt_or_ge k c with z | z
            · exact a2 c z c2
            · have : c = k := by omega
              subst this
              exact ⟨g2, g4⟩
          · refine Or.inr ⟨c, a1, by omega, a3, a4, fun e e1 e2 => ?_⟩
            rcases Nat.lt_or_ge k e with z | z
            · exact a5 e z e2
            · have : e = k := by omega
              subst this
              exact ⟨g2, g4⟩
theorem k_lowest {st many v : Int} {hts : Nat → Int} (hm : 0 ≤ many ∧ many ≤ 12) (hs : 0 ≤ st ∧ st ≤ 100) (hh : zR hts 0 10) (h : f_Columns_lowestSteep st many hts = some v) : LSP many hts st 0 v := by
  unfold f_Columns_lowestSteep at h
  exact k_lowest_2 hm hs hh zfu 0 v (by decide) h
theorem r_isSteep {c d v : Int} {row H : Nat → Int} (hc : 0 ≤ c ∧ c < row 0) (hd : -10 ≤ d ∧ d ≤ 20) (hm : 0 ≤ row 0 ∧ row 0 ≤ 12) (hs : 0 ≤ row 7 ∧ row 7 ≤ 100) (hh : ∀ c : Nat, (c : Int) < row 0 → 0 ≤ H c ∧ H c ≤ 10) (h : f_HM_isSteep c d row H = some v) : (v = 1 ∧ STP (row 0) H (row 7) c d) ∨ (v = 0 ∧ ¬ STP (row 0) H (row 7) c d) := by
  unfold f_HM_isSteep at h
  obtain ⟨v1, e1, h⟩ := xz_d1 h
  rcases r_isColumn (by omega) hm e1 with ⟨g1, g2⟩ | ⟨g1, g2⟩ <;> subst g2
  · replace h := xp_f (by decide +kernel) h
    replace h := (xp_g h).2
    replace h := (xp_g h).2
    replace h := xp_n (xp_g h).2
    have b1 := hh c.toNat (by omega)
    have b2 := hh d.toNat (by omega)
    have e7 : row (zi_w 7).toNat = row 7 := rfl
    rw [zwi (x := c) (by omega), zwi (x := d) (by omega), e7, zwi (x := H d.toNat + row 7) (by omega), zwi (x := H c.toNat) (by omega)] at h
    by_cases q : H c.toNat ≤ H d.toNat + row 7
    · rw [if_pos q] at h; cases h; exact Or.inr ⟨rfl, fun z => by have := z.2.2; omega⟩
    · rw [if_neg q] at h; cases h; exact Or.inl ⟨rfl, hc, g1, by omega⟩
  · replace h := xp_t (by decide +kernel) h
    cases h
    exact Or.inr ⟨rfl, fun z => by have := z.2.1; omega⟩
theorem r_steepest_2 {row H : Nat → Int} (hm : 0 ≤ row 0 ∧ row 0 ≤ 12) (hs : 0 ≤ row 7 ∧ row 7 ≤ 100) (hh : ∀ c : Nat, (c : Int) < row 0 → 0 ≤ H c ∧ H c ≤ 10) : ∀ (N k : Nat) (v : Int), k ≤ 12 → f_HM_steepest_2 row H N (k : Int) = some v → LSP (row 0) H (row 7) k v := by
  intro N
  induction N with
  | zero => intro k v _ h; exact nomatch h
  | succ N ih =>
    intro k v hk h
    replace h : f_HM_steepest_2_b row H (f_HM_steepest_2 row H N) (k : Int) = some v := h
    unfold f_HM_steepest_2_b at h
    obtain ⟨v0, e0, h⟩ := xz_d1 h
    have g0 := r_columns e0
    subst g0
    rw [zwi (x := row 0) (by omega), zwi (x := (k : Int)) (by omega)] at h
    by_cases e : row 0 ≤ (k : Int)
    · rw [if_pos e] at h; cases h
      exact Or.inl ⟨rfl, fun c c1 c2 => by omega⟩
    · rw [if_neg e] at h
      obtain ⟨v2, e2, h⟩ := xz_d1 (xp_n h)
      rcases r_isSteep (by omega) (by omega) hm hs hh e2 with ⟨g1, g2⟩ | ⟨g1, g2⟩ <;> subst g1
      · replace h := xp_t (by decide +kernel) h
        cases h
        exact Or.inr ⟨k, rfl, Nat.le_refl _, by omega, Or.inl g2, fun e e1 e2 => by omega⟩
      · replace h := xp_f (by decide +kernel) h
        obtain ⟨v4, e4, h⟩ := xz_d1 (xp_n h)
        rcases r_isSteep (by omega) (by omega) hm hs hh e4 with ⟨g3, g4⟩ | ⟨g3, g4⟩ <;> subst g3
        · replace h := xp_f (by decide +kernel) h
          cases h
          exact Or.inr ⟨k, rfl, Nat.le_refl _, by omega, Or.inr g4, fun e e1 e2 => by omega⟩
        · replace h := xp_n (xp_t (by decide +kernel) h)
          rcases ih (k + 1) v (by omega) h with ⟨a1, a2⟩ | ⟨c, a1, a2, a3, a4, a5⟩
          · refine Or.inl ⟨a1, fun c c1 c2 => ?_⟩
            rcases Nat.lt_or_ge k c with z | z
            · exact a2 c z c2
            · have : c = k := by omega
              subst this
              exact ⟨g2, g4⟩
          · refine Or.inr ⟨c, a1, by omega, a3, a4, fun e e1 e2 => ?_⟩
            rcases Nat.lt_or_ge k e with z | z
            · exact a5 e z e2
            · have : e = k := by omega
              subst this
              exact ⟨g2, g4⟩
theorem r_steepest {row H : Nat → Int} {v : Int} (hm : 0 ≤ row 0 ∧ row 0 ≤ 12) (hs : 0 ≤ row 7 ∧ row 7 ≤ 100) (hh : ∀ c : Nat, (c : Int) < row 0 → 0 ≤ H c ∧ H c ≤ 10) (h : f_HM_steepest row H = some v) : LSP (row 0) H (row 7) 0 v := by
  unfold f_HM_steepest at h
  exact r_steepest_2 hm hs hh zfu 0 v (by decide) h
/-! slides -/
noncomputable def SQ (h : Nat → Int) : Nat → Int
  | 0 => 0
  | k + 1 => SQ h k + h k * h k
theorem SQ_u {h : Nat → Int} {c : Nat} {v : Int} : ∀ k, (k ≤ c → SQ (zu h c v) k = SQ h k) ∧ (c < k → SQ (zu h c v) k = SQ h k + v * v - h c * h c) := by
  intro k
  induction k with
  | zero => exact ⟨fun _ => rfl, fun h => absurd h (Nat.not_lt_zero _)⟩
  | succ k ih =>
    refine ⟨fun hk => ?_, fun hk => ?_⟩
    · show SQ (zu h c v) k + zu h c v k * zu h c v k = SQ h k + h k * h k
      rw [ih.1 (by omega), zu_ne _ _ (by omega)]
    · show SQ (zu h c v) k + zu h c v k * zu h c v k = SQ h k + h k * h k + v * v - h c * h c
      by_cases e : k = c
      · subst e
        rw [ih.1 (Nat.le_refl _), zu_eq]
        omega
      · rw [ih.2 (by omega), zu_ne _ _ e]
        omega
theorem SQ_r {h : Nat → Int} (hh : zR h 0 10) : ∀ k, 0 ≤ SQ h k ∧ SQ h k ≤ 100 * (k : Int) := by
  intro k
  induction k with
  | zero => exact ⟨Int.le_refl _, Int.le_refl _⟩
  | succ k ih =>
    have b := hh k
    have c := zmulb (a := h k) (b := h k) 10 10 b b
    show 0 ≤ SQ h k + h k * h k ∧ SQ h k + h k * h k ≤ 100 * ((k + 1 : Nat) : Int)
    omega
theorem SQ_0 {h : Nat → Int} (hh : zR h 0 10) : ∀ k, SQ h k ≤ 0 → ∀ c, c < k → h c = 0 := by
  intro k
  induction k with
  | zero => intro _ c hc; exact absurd hc (Nat.not_lt_zero _)
  | succ k ih =>
    intro hs c hc
    have hs' : SQ h k + h k * h k ≤ 0 := hs
    have b := hh k
    have r := (SQ_r hh k).1
    have p := zmulb (a := h k) (b := h k) 10 10 b b
    rcases Nat.lt_or_ge c k with z | z
    · exact ih (by omega) c z
    · have e : c = k := by omega
      subst e
      have : h c * h c = 0 := by omega
      rcases Int.mul_eq_zero.mp this with q | q <;> exact q
theorem sq_m (x : Int) : (x - 1) * (x - 1) = x * x - 2 * x + 1 := by
  rw [Int.sub_mul, Int.mul_sub]; omega
theorem sq_p (x : Int) : (x + 1) * (x + 1) = x * x + 2 * x + 1 := by
  rw [Int.add_mul, Int.mul_add]; omega
theorem move_r {hts : Nat → Int} (hh : zR hts 0 10) {a b : Nat} (hab : a ≠ b) (h1 : 0 < hts a) (h2 : hts b < 10) : zR (zu (zu hts b (hts b + 1)) a (hts a - 1)) 0 10 := fun c => by
  have ba := hh a
  have bb := hh b
  have bc := hh c
  by_cases e : c = a
  · subst e; rw [zu_eq]; omega
  · rw [zu_ne _ _ e]
    by_cases e2 : c = b
    · subst e2; rw [zu_eq]; omega
    · rw [zu_ne _ _ e2]; exact bc
theorem SQ_move {hts : Nat → Int} {a b : Nat} (ha : a < 12) (hb : b < 12) (hab : a ≠ b) (h : 2 ≤ hts a - hts b) : SQ (zu (zu hts b (hts b + 1)) a (hts a - 1)) 12 + 2 ≤ SQ hts 12 := by
  rw [(SQ_u 12).2 ha, (SQ_u 12).2 hb, zu_ne _ _ hab, sq_m, sq_p]
  omega
theorem slide_eq {many : Int} {row : Nat → Int} (hm : 0 ≤ many ∧ many ≤ 12) (em : many = row 0) (hs : 1 ≤ row 7 ∧ row 7 ≤ 100) {V U : Int × (Nat → Int) × (Nat → Int)} : ∀ (N M n : Nat) (hts wts H W : Nat → Int) (s : Int), zR hts 0 10 → CREL many hts wts H W → 2 * (n : Int) + SQ hts 12 ≤ 1200 → LSP (row 0) H (row 7) 0 s → f_Columns_settle_2 many N (row 7) (n : Int) hts wts = some V → f_HM_slideAll_7 row M (n : Int) s H W = some U → V.1 = U.1 ∧ zR V.2.1 0 10 ∧ CREL many V.2.1 V.2.2 U.2.1 U.2.2 := by
  intro N
  induction N with
  | zero => intro M n hts wts H W s _ _ _ _ h; exact nomatch h
  | succ N ih =>
    intro M n hts wts H W s hh hC hq hL h g
    cases M with
    | zero => exact nomatch g
    | succ M =>
      have q0 := (SQ_r hh 12).1
      replace h : f_Columns_settle_2_b many (f_Columns_settle_2 many N) (row 7) (n : Int) hts wts = some V := h
      replace g : f_HM_slideAll_7_b row (f_HM_slideAll_7 row M) (n : Int) s H W = some U := g
      have hHb : ∀ c : Nat, (c : Int) < row 0 → 0 ≤ H c ∧ H c ≤ 10 := fun c hc => by rw [hC.1 c (by omega)]; exact hh c
      have hL2 : LSP many hts (row 7) 0 s := by rw [em]; exact LSP_agr (fun c hc => (hC.1 c (by omega)).symm) hL
      unfold f_Columns_settle_2_b at h
      unfold f_HM_slideAll_7_b at g
      rw [zwi (x := 600) (by decide), zwi (x := (n : Int)) (by omega)] at h
      by_cases c6 : 600 ≤ (n : Int)
      · rw [if_pos c6] at h
        cases h
        have z := SQ_0 hh 12 (by omega)
        have es : s = -1 := by
          rcases hL2 with ⟨a1, _⟩ | ⟨c, a1, a2, a3, a4, a5⟩
          · exact a1
          · exfalso
            rcases a4 with ⟨y1, y2, y3⟩ | ⟨y1, y2, y3⟩
            · rw [z _ (by omega), z _ (by omega)] at y3; omega
            · rw [z _ (by omega), z _ (by omega)] at y3; omega
        subst es
        replace g := xp_t (by decide +kernel) g
        cases g
        exact ⟨by show (600 : Int) = (n : Int); omega, hh, hC⟩
      · rw [if_neg c6] at h
        obtain ⟨v1, e1, h⟩ := xz_d1 h
        have g1 := LSP_u (k_lowest hm (by omega) hh e1) hL2
        subst g1
        rcases hL2 with ⟨a1, _⟩ | ⟨c, a1, a2, a3, a4, a5⟩
        · subst a1
          replace h := xp_f (by decide +kernel) h
          replace g := xp_t (by decide +kernel) g
          cases h
          cases g
          exact ⟨rfl, hh, hC⟩
        · subst a1
          rw [zwi (x := (c : Int)) (by omega), zwi (x := -1) (by decide)] at h g
          rw [if_pos (by omega)] at h
          rw [if_neg (by omega)] at g
          obtain ⟨v3, e3, h⟩ := xz_d1 (xp_n h)
          obtain ⟨v4, e4, g⟩ := xz_d1 (xp_n g)
          have k3 := k_isSteep (by omega) (by omega) hm (by omega) hh e3
          have r3 := r_isSteep (by omega) (by omega) (by omega) (by omega) hHb e4
          have go : ∀ d : Nat, (d : Int) < many → STP many hts (row 7) c d → f_Columns_settle_45 many (f_Columns_settle_2 many N) (row 7) (n : Int) (c : Int) (d : Int) hts wts = some V → f_HM_slideAll_34 row (f_HM_slideAll_7 row M) (n : Int) (c : Int) (d : Int) H W = some U → V.1 = U.1 ∧ zR V.2.1 0 10 ∧ CREL many V.2.1 V.2.2 U.2.1 U.2.2 := fun d hd hst h g => by
            obtain ⟨_, _, y3⟩ := hst
            rw [Int.toNat_natCast, Int.toNat_natCast] at y3
            have bc := hh c
            have bd := hh d
            have hcd : c ≠ d := fun e => by subst e; omega
            unfold f_Columns_settle_45 at h
            unfold f_HM_slideAll_34 at g
            obtain ⟨m1, m2, e5, h⟩ := xz_d2 h
            have g5 := k_move hm hh a3 hd hcd (by omega) (by omega) e5
            cases g5
            obtain ⟨m3, m4, e6, g⟩ := xz_d2 g
            have eHc := hC.1 c a3
            have eHd := hC.1 d hd
            have g6 := r_shift (by omega) (by omega) hcd (by omega) (by omega) e6
            cases g6
            obtain ⟨v7, e7, g⟩ := xz_d1 (xp_n g)
            have C2 := CREL_move hC hh a3 hd hcd (by omega) (by omega)
            have R2 := move_r hh hcd (by omega) (by omega)
            have L2 := r_steepest (by omega) (by omega) (fun e he => by rw [C2.1 e (by omega)]; exact R2 e) e7
            have S2 := SQ_move (hts := hts) (a := c) (b := d) (by omega) (by omega) hcd (by omega)
            exact ih M (n + 1) _ _ _ _ v7 R2 C2 (by omega) L2 (xp_n h) g
          rcases k3 with ⟨q1, q2⟩ | ⟨q1, q2⟩ <;> subst q1
          · rcases r3 with ⟨w1, w2⟩ | ⟨w1, w2⟩ <;> subst w1
            · replace h := xp_n (xp_f (by decide +kernel) h)
              replace g := xp_n (xp_f (by decide +kernel) g)
              have ed : (c : Int) - 1 = (((c - 1 : Nat)) : Int) := by have := q2.2.1; omega
              rw [ed] at h g q2
              exact go (c - 1) (by have := q2.2.1; omega) q2 h g
            · exfalso
              rw [← em] at w2
              exact w2 (STP_agr (fun c hc => hC.1 c hc) q2)
          · rcases r3 with ⟨w1, w2⟩ | ⟨w1, w2⟩ <;> subst w1
            · exfalso
              rw [← em] at w2
              exact q2 (STP_agr (fun c hc => (hC.1 c hc).symm) w2)
            · replace h := xp_n (xp_t (by decide +kernel) h)
              replace g := xp_n (xp_t (by decide +kernel) g)
              have q3 : STP many hts (row 7) c (c + 1) := by
                rcases a4 with z | z
                · exact absurd z q2
                · exact z
              have ed : (c : Int) + 1 = (((c + 1 : Nat)) : Int) := by omega
              rw [ed] at h g q3
              exact go (c + 1) (by have := q3.2.1; omega) q3 h g
/-! shades -/
theorem shade_eq {many pl sl : Int} {hts H row : Nat → Int} (hm : 0 ≤ many ∧ many ≤ 12) (em : many = row 0) (hp : 0 ≤ pl ∧ pl ≤ 11) (hs : 1 ≤ sl ∧ sl ≤ 9) (es : sl = row 6) (hh : zR hts 0 10) (hH : ∀ c : Nat, (c : Int) < many → H c = hts c) : ∀ (N M k : Nat) (x v w : Int), k ≤ 12 → (0 ≤ x ∧ x ≤ 10) → f_Columns_shadeAt_5 many hts N pl sl x (k : Int) = some v → f_HM_shadeAt_4 row H M pl x (k : Int) = some w → v = w ∧ 0 ≤ v ∧ v ≤ 10 := by
  intro N
  induction N with
  | zero => intro M k x v w _ _ h; exact nomatch h
  | succ N ih =>
    intro M k x v w hk hx h g
    cases M with
    | zero => exact nomatch g
    | succ M =>
      replace h : f_Columns_shadeAt_5_b many hts (f_Columns_shadeAt_5 many hts N) pl sl x (k : Int) = some v := h
      replace g : f_HM_shadeAt_4_b row H (f_HM_shadeAt_4 row H M) pl x (k : Int) = some w := g
      unfold f_Columns_shadeAt_5_b at h
      unfold f_HM_shadeAt_4_b at g
      obtain ⟨v0, e0, g⟩ := xz_d1 g
      have g0 := r_columns e0
      subst g0
      rw [zwi (x := many) (by omega), zwi (x := (k : Int)) (by omega)] at h
      rw [zwi (x := row 0) (by omega), zwi (x := (k : Int)) (by omega)] at g
      by_cases e : many ≤ (k : Int)
      · rw [if_pos e] at h
        rw [if_pos (by omega)] at g
        cases h
        cases g
        exact ⟨rfl, hx⟩
      · rw [if_neg e] at h
        rw [if_neg (by omega)] at g
        have bk := hh k
        replace h := (xp_g h).2
        rw [zwi (x := (k : Int)) (by omega), Int.toNat_natCast] at h
        replace h := xp_n (xp_n (xp_n (xp_n (xp_n (xp_n h)))))
        rw [x_abs (by omega)] at h
        replace g := (xp_g g).2
        rw [zwi (x := (k : Int)) (by omega), Int.toNat_natCast, hH k (by omega)] at g
        replace g := xp_n (xp_g g).2
        obtain ⟨v5, e5, g⟩ := xz_d1 g
        have g5 := x_size (by omega) e5
        replace g := xp_n (xp_n g)
        have e6 : row (zi_w 6).toNat = sl := es.symm
        have h5 : 0 ≤ v5 ∧ v5 ≤ 12 := by rw [g5]; split <;> omega
        have hmul := zmulb (a := sl) (b := v5) 9 12 (by omega) h5
        rw [← g5] at h
        rw [e6, zwi (x := hts k - sl * v5) (by omega), zwi (x := x) (by omega)] at g
        have m := zi_max_f x (by omega) (hts k - sl * v5) (by omega)
        by_cases c : hts k - sl * v5 ≤ x
        · rw [if_pos c] at g
          unfold f_HM_shadeAt_47 at g
          have mx : zi_max x (hts k - sl * v5) = x := by omega
          rw [mx] at h
          exact ih M (k + 1) x v w (by omega) hx h (xp_n g)
        · rw [if_neg c] at g
          unfold f_HM_shadeAt_47 at g
          have mx : zi_max x (hts k - sl * v5) = hts k - sl * v5 := by omega
          rw [mx] at h
          exact ih M (k + 1) _ v w (by omega) (by omega) h (xp_n g)
/-! load, store -/
theorem r_load31 {row : Nat → Int} : ∀ (N k : Nat) (H W : Nat → Int) (o : (Nat → Int) × (Nat → Int)), k ≤ 120 → (∀ j, j < k → W j = row (21 + j)) → f_HM_load_31 row N (k : Int) H W = some o → o.1 = H ∧ ∀ j, j < 120 → o.2 j = row (21 + j) := by
  intro N
  induction N with
  | zero => intro k H W o _ _ h; exact nomatch h
  | succ N ih =>
    intro k H W o hk hW h
    replace h : f_HM_load_31_b row (f_HM_load_31 row N) (k : Int) H W = some o := h
    unfold f_HM_load_31_b at h
    rw [zwi (x := 120) (by decide), zwi (x := (k : Int)) (by omega)] at h
    by_cases e : (120 : Int) ≤ (k : Int)
    · rw [if_pos e] at h; cases h
      exact ⟨rfl, fun j hj => hW j (by omega)⟩
    · rw [if_neg e] at h
      replace h := (xp_g (xp_n h)).2
      replace h := xp_n (xp_s h).2
      rw [zwi (x := (k : Int)) (by omega), Int.toNat_natCast, show (zi_w (21 + (k : Int))).toNat = 21 + k from by rw [zwi (by omega)]; omega] at h
      refine ih (k + 1) H _ o (by omega) (fun j hj => ?_) h
      by_cases e2 : j = k
      · subst e2; exact zu_eq _ _ _
      · rw [zu_ne _ _ e2]; exact hW j (by omega)
theorem r_load2 {row : Nat → Int} : ∀ (N k : Nat) (H W : Nat → Int) (o : (Nat → Int) × (Nat → Int)), k ≤ 12 → (∀ j, j < k → H j = row (9 + j)) → f_HM_load_2 row N (k : Int) H W = some o → (∀ j, j < 12 → o.1 j = row (9 + j)) ∧ ∀ j, j < 120 → o.2 j = row (21 + j) := by
  intro N
  induction N with
  | zero => intro k H W o _ _ h; exact nomatch h
  | succ N ih =>
    intro k H W o hk hH h
    replace h : f_HM_load_2_b row (f_HM_load_2 row N) (k : Int) H W = some o := h
    unfold f_HM_load_2_b at h
    rw [zwi (x := 12) (by decide), zwi (x := (k : Int)) (by omega)] at h
    by_cases e : (12 : Int) ≤ (k : Int)
    · rw [if_pos e] at h
      have g := r_load31 zfu 0 H W o (by decide) (fun j hj => absurd hj (Nat.not_lt_zero _)) h
      exact ⟨fun j hj => by rw [g.1]; exact hH j (by omega), g.2⟩
    · rw [if_neg e] at h
      replace h := (xp_g (xp_n h)).2
      replace h := xp_n (xp_s h).2
      rw [zwi (x := (k : Int)) (by omega), Int.toNat_natCast, show (zi_w (9 + (k : Int))).toNat = 9 + k from by rw [zwi (by omega)]; omega] at h
      refine ih (k + 1) _ W o (by omega) (fun j hj => ?_) h
      by_cases e2 : j = k
      · subst e2; exact zu_eq _ _ _
      · rw [zu_ne _ _ e2]; exact hH j (by omega)
theorem r_load {row H W : Nat → Int} {o : (Nat → Int) × (Nat → Int)} (h : f_HM_load row H W = some o) : (∀ j, j < 12 → o.1 j = row (9 + j)) ∧ ∀ j, j < 120 → o.2 j = row (21 + j) := by
  unfold f_HM_load at h
  exact r_load2 zfu 0 H W o (by decide) (fun j hj => absurd hj (Nat.not_lt_zero _)) h
theorem r_store33 {H W : Nat → Int} : ∀ (N k : Nat) (row o : Nat → Int), k ≤ 120 → f_HM_store_33 H W N (k : Int) row = some o → (∀ j, k ≤ j → j < 120 → o (21 + j) = W j) ∧ ∀ y, (y < 21 + k ∨ 141 ≤ y) → o y = row y := by
  intro N
  induction N with
  | zero => intro k row o _ h; exact nomatch h
  | succ N ih =>
    intro k row o hk h
    replace h : f_HM_store_33_b H W (f_HM_store_33 H W N) (k : Int) row = some o := h
    unfold f_HM_store_33_b at h
    rw [zwi (x := 120) (by decide), zwi (x := (k : Int)) (by omega)] at h
    by_cases e : (120 : Int) ≤ (k : Int)
    · rw [if_pos e] at h; cases h
      exact ⟨fun j j1 j2 => by omega, fun y _ => rfl⟩
    · rw [if_neg e] at h
      replace h := (xp_g (xp_n h)).2
      replace h := xp_n (xp_s h).2
      rw [zwi (x := (k : Int)) (by omega), Int.toNat_natCast, show (zi_w (21 + (k : Int))).toNat = 21 + k from by rw [zwi (by omega)]; omega] at h
      have g := ih (k + 1) _ o (by omega) h
      refine ⟨fun j j1 j2 => ?_, fun y hy => ?_⟩
      · by_cases e2 : j = k
        · subst e2
          rw [g.2 _ (by omega), zu_eq]
        · exact g.1 j (by omega) j2
      · rw [g.2 y (by omega), zu_ne _ _ (by omega)]
theorem r_store2 {H W : Nat → Int} {m : Int} (hm : 0 ≤ m ∧ m ≤ 12) : ∀ (N k : Nat) (row o : Nat → Int), (k : Int) ≤ m → row 0 = m → f_HM_store_2 H W N (k : Int) row = some o → (∀ j : Nat, k ≤ j → (j : Int) < m → o (9 + j) = H j) ∧ (∀ j, j < 120 → o (21 + j) = W j) ∧ ∀ y : Nat, (y < 9 + k ∨ ((9 + m ≤ (y : Int)) ∧ y < 21) ∨ 141 ≤ y) → o y = row y := by
  intro N
  induction N with
  | zero => intro k row o _ _ h; exact nomatch h
  | succ N ih =>
    intro k row o hk h0 h
    replace h : f_HM_store_2_b H W (f_HM_store_2 H W N) (k : Int) row = some o := h
    unfold f_HM_store_2_b at h
    obtain ⟨v0, e0, h⟩ := xz_d1 h
    have g0 := r_columns e0
    subst g0
    rw [zwi (x := row 0) (by omega), zwi (x := (k : Int)) (by omega)] at h
    by_cases e : row 0 ≤ (k : Int)
    · rw [if_pos e] at h
      have g := r_store33 zfu 0 row o (by decide) h
      exact ⟨fun j j1 j2 => by omega, fun j hj => g.1 j (by omega) hj, fun y hy => g.2 y (by omega)⟩
    · rw [if_neg e] at h
      replace h := (xp_g (xp_n h)).2
      replace h := xp_n (xp_s h).2
      rw [zwi (x := (k : Int)) (by omega), Int.toNat_natCast, show (zi_w (9 + (k : Int))).toNat = 9 + k from by rw [zwi (by omega)]; omega] at h
      have g := ih (k + 1) _ o (by omega) (by rw [zu_ne _ _ (by omega)]; exact h0) h
      refine ⟨fun j j1 j2 => ?_, g.2.1, fun y hy => ?_⟩
      · by_cases e2 : j = k
        · subst e2
          rw [g.2.2 _ (by omega), zu_eq]
        · exact g.1 j (by omega) j2
      · rw [g.2.2 y (by omega), zu_ne _ _ (by omega)]
theorem r_store {H W row o : Nat → Int} (hm : 0 ≤ row 0 ∧ row 0 ≤ 12) (h : f_HM_store H W row = some o) : (∀ j : Nat, (j : Int) < row 0 → o (9 + j) = H j) ∧ (∀ j, j < 120 → o (21 + j) = W j) ∧ ∀ y : Nat, (y < 9 ∨ 141 ≤ y) → o y = row y := by
  unfold f_HM_store at h
  have g := r_store2 hm zfu 0 row o (by omega) rfl h
  exact ⟨fun j hj => g.1 j (by omega) hj, g.2.1, fun y hy => g.2.2 y (by omega)⟩
end
section
/-! what both have of the laws -/
noncomputable def HILL2 (la fo : Int) (ord od row : Nat → Int) : Prop := la = row 3 ∧ fo = row 4 ∧ ∀ k : Nat, (k : Int) < la → LW2 ord od row k
noncomputable def FRM (row row' : Nat → Int) : Prop := ∀ y : Nat, (y = 3 ∨ y = 4 ∨ 180 ≤ y) → row' y = row y
theorem HILL2_f {la fo : Int} {ord od row row' : Nat → Int} (h : HILL2 la fo ord od row) (f : FRM row row') : HILL2 la fo ord od row' :=
  ⟨h.1.trans (f 3 (by omega)).symm, h.2.1.trans (f 4 (by omega)).symm, fun k hk => LW2_x (h.2.2 k hk) (fun _ _ => rfl) rfl (fun j _ => f _ (by omega))⟩
theorem HILL2_c {la fo : Int} {ord od ord' od' row row' : Nat → Int} (hl : la ≤ 6) (h : HILL2 la fo ord od row) (h1 : ∀ j, j < 2544 → ord' j = ord j) (h2 : ∀ j, j < 6 → od' j = od j) (f : ∀ y, y < 5580 → row' y = row y) : HILL2 la fo ord' od' row' :=
  ⟨h.1.trans (f 3 (by omega)).symm, h.2.1.trans (f 4 (by omega)).symm, fun k hk => LW2_x (h.2.2 k hk) (fun j hj => h1 _ (by omega)) (h2 k (by omega)) (fun j hj => f _ (by omega))⟩
theorem FRM_0 {row : Nat → Int} : FRM row row := fun _ _ => rfl
theorem FRM_u {row row' : Nat → Int} {i : Nat} {v : Int} (h : FRM row row') (h1 : i ≠ 3 ∧ i ≠ 4 ∧ i < 180) : FRM row (zu row' i v) := fun y hy => by rw [zu_ne _ _ (by omega)]; exact h y hy
/-- all but the small fields -/
noncomputable def FRM3 (row row' : Nat → Int) : Prop := ∀ y : Nat, (y = 3 ∨ y = 4 ∨ (9 ≤ y ∧ y < 141) ∨ 180 ≤ y) → row' y = row y
theorem FRM_3 {row row' : Nat → Int} (h : FRM3 row row') : FRM row row' := fun y hy => h y (by omega)
theorem FRM3_0 {row : Nat → Int} : FRM3 row row := fun _ _ => rfl
theorem FRM3_u {row row' : Nat → Int} {i : Nat} {v : Int} (h : FRM3 row row') (h1 : i ≠ 3 ∧ i ≠ 4 ∧ (i < 9 ∨ 141 ≤ i) ∧ i < 180) : FRM3 row (zu row' i v) := fun y hy => by rw [zu_ne _ _ (by omega)]; exact h y hy
theorem FRM_g {row row' : Nat → Int} (h : ∀ j : Nat, (j < 9 ∨ 141 ≤ j) → row' j = row j) : FRM row row' := fun y hy => h y (by omega)
/-- the change of a field -/
theorem fr_change {i x st : Int} {row : Nat → Int} {w : Int × Int × (Nat → Int)} (hi : (5 ≤ i ∧ i < 9) ∨ (141 ≤ i ∧ i < 180)) (h : f_HM_change i x st row = some w) : FRM3 row w.2.2 := by
  unfold f_HM_change at h
  replace h := (xp_s (xp_g h).2).2
  rw [zwi (x := i) (by omega)] at h
  cases h
  exact FRM3_u FRM3_0 (by omega)
theorem fr_column {s4 s5 : Int} {t3 row : Nat → Int} {w : Int × Int × Int × (Nat → Int) × (Nat → Int)} (hm : 0 ≤ row 0 ∧ row 0 ≤ 12) (g : f_HM_column s4 s5 t3 row = some w) : FRM row w.2.2.2.2 := by
  unfold f_HM_column at g
  obtain ⟨c1, e2, g⟩ := xz_d1 g
  have g2 := r_columns e2
  subst g2
  rcases xp_if g with ⟨c, g⟩ | ⟨_, g⟩
  · rw [zwi (x := row 0) (by omega), zwi (x := 12) (by decide)] at c
    replace g := (xp_s (xp_n g)).2
    replace g := (xp_s (xp_n g)).2
    replace g := xp_n (xp_g g).2
    replace g := (xp_s g).2
    obtain ⟨b1, b2, b3, e4, g⟩ := xz_d3 g
    have z1 : (zi_w (9 + row 0)).toNat = 9 + (row 0).toNat := by rw [zwi (by omega)]; omega
    have z2 : (zi_w (141 + row 0)).toNat = 141 + (row 0).toNat := by rw [zwi (by omega)]; omega
    have z3 : (zi_w 0).toNat = 0 := rfl
    rw [z1, z2, z3] at g
    cases g
    exact FRM_u (FRM_u (FRM_u FRM_0 (by omega)) (by omega)) (by omega)
  · obtain ⟨b1, b2, b3, e4, g⟩ := xz_d3 g
    cases g
    exact FRM_0
theorem fr_child {a1 s4 s5 : Int} {t3 row : Nat → Int} {w : Int × Int × Int × (Nat → Int) × (Nat → Int)} (hm : 0 ≤ row 1 ∧ row 1 ≤ 6) (g : f_HM_child a1 s4 s5 t3 row = some w) : FRM3 row w.2.2.2.2 := by
  unfold f_HM_child at g
  obtain ⟨c1, e2, g⟩ := xz_d1 (xp_n g)
  rcases xp_if g with ⟨_, g⟩ | ⟨_, g⟩
  · replace g := (xp_g g).2
    have z0 : row (zi_w 1).toNat = row 1 := rfl
    rw [z0] at g
    rcases xp_if g with ⟨c, g⟩ | ⟨_, g⟩
    · rw [zwi (x := row 1) (by omega), zwi (x := 6) (by decide)] at c
      replace g := (xp_s (xp_n (xp_n g))).2
      replace g := (xp_s (xp_n (xp_n (xp_n g)))).2
      replace g := (xp_s (xp_n (xp_n (xp_n g)))).2
      replace g := xp_n (xp_g g).2
      replace g := (xp_s g).2
      obtain ⟨b1, b2, b3, e4, g⟩ := xz_d3 g
      have z1 : (zi_w (153 + 3 * row 1)).toNat = 153 + 3 * (row 1).toNat := by rw [zwi (by omega)]; omega
      have z2 : (zi_w (153 + 3 * row 1 + 1)).toNat = 154 + 3 * (row 1).toNat := by rw [zwi (by omega)]; omega
      have z4 : (zi_w (153 + 3 * row 1 + 2)).toNat = 155 + 3 * (row 1).toNat := by rw [zwi (by omega)]; omega
      have z3 : (zi_w 1).toNat = 1 := rfl
      rw [z1, z2, z4, z3] at g
      cases g
      exact FRM3_u (FRM3_u (FRM3_u (FRM3_u FRM3_0 (by omega)) (by omega)) (by omega)) (by omega)
    · obtain ⟨b1, b2, b3, e4, g⟩ := xz_d3 g
      cases g
      exact FRM3_0
  · obtain ⟨b1, b2, b3, e4, g⟩ := xz_d3 g
    cases g
    exact FRM3_0
theorem fr_expel {a1 a2 s4 s5 : Int} {t3 row : Nat → Int} {w : Int × Int × Int × (Nat → Int) × (Nat → Int)} (b1 : -2147483648 ≤ a1 ∧ a1 ≤ 2147483647) (hm : 0 ≤ row 1 ∧ row 1 ≤ 6) (g : f_HM_expel a1 a2 s4 s5 t3 row = some w) : FRM3 row w.2.2.2.2 := by
  unfold f_HM_expel at g
  obtain ⟨c1, e2, g⟩ := xz_d1 (xp_n g)
  rcases xp_if g with ⟨_, g⟩ | ⟨_, g⟩
  · obtain ⟨c2, e3, g⟩ := xz_d1 g
    rcases r_isChild b1 hm e3 with ⟨q1, q2⟩ | ⟨q1, q2⟩ <;> subst q2
    · replace g := xp_n (xp_n (xp_n (xp_f (by decide +kernel) g)))
      obtain ⟨b1, b2, b3, e4, g⟩ := xz_d3 g
      have := fr_change (by omega) e4
      cases g
      exact this
    · replace g := xp_t (by decide +kernel) g
      obtain ⟨b1, b2, b3, e4, g⟩ := xz_d3 g
      cases g
      exact FRM3_0
  · obtain ⟨b1, b2, b3, e4, g⟩ := xz_d3 g
    cases g
    exact FRM3_0
theorem fr_trips {a1 a2 s4 s5 : Int} {t3 row : Nat → Int} {w : Int × Int × Int × (Nat → Int) × (Nat → Int)} (b1 : -2147483648 ≤ a1 ∧ a1 ≤ 2147483647) (hm : 0 ≤ row 1 ∧ row 1 ≤ 6) (g : f_HM_trips a1 a2 s4 s5 t3 row = some w) : FRM3 row w.2.2.2.2 := by
  unfold f_HM_trips at g
  obtain ⟨c1, e2, g⟩ := xz_d1 (xp_n g)
  rcases xp_if g with ⟨_, g⟩ | ⟨_, g⟩
  · obtain ⟨c2, e3, g⟩ := xz_d1 g
    rcases r_isChild b1 hm e3 with ⟨q1, q2⟩ | ⟨q1, q2⟩ <;> subst q2
    · replace g := xp_n (xp_n (xp_n (xp_f (by decide +kernel) g)))
      obtain ⟨b1, b2, b3, e4, g⟩ := xz_d3 g
      have := fr_change (by omega) e4
      cases g
      exact this
    · replace g := xp_t (by decide +kernel) g
      obtain ⟨b1, b2, b3, e4, g⟩ := xz_d3 g
      cases g
      exact FRM3_0
  · obtain ⟨b1, b2, b3, e4, g⟩ := xz_d3 g
    cases g
    exact FRM3_0
theorem fr_parish {a1 s4 s5 : Int} {t3 row : Nat → Int} {w : Int × Int × Int × (Nat → Int) × (Nat → Int)} (hm : 0 ≤ row 2 ∧ row 2 ≤ 6) (g : f_HM_parish a1 s4 s5 t3 row = some w) : FRM3 row w.2.2.2.2 := by
  unfold f_HM_parish at g
  obtain ⟨c1, e2, g⟩ := xz_d1 g
  rcases xp_if g with ⟨_, g⟩ | ⟨_, g⟩
  · replace g := (xp_g g).2
    have z0 : row (zi_w 2).toNat = row 2 := rfl
    rw [z0] at g
    rcases xp_if g with ⟨c, g⟩ | ⟨_, g⟩
    · rw [zwi (x := row 2) (by omega), zwi (x := 6) (by decide)] at c
      replace g := (xp_s (xp_n g)).2
      replace g := xp_n (xp_g g).2
      replace g := (xp_s g).2
      obtain ⟨b1, b2, b3, e4, g⟩ := xz_d3 g
      have z1 : (zi_w (171 + row 2)).toNat = 171 + (row 2).toNat := by rw [zwi (by omega)]; omega
      have z3 : (zi_w 2).toNat = 2 := rfl
      rw [z1, z3] at g
      cases g
      exact FRM3_u (FRM3_u FRM3_0 (by omega)) (by omega)
    · obtain ⟨b1, b2, b3, e4, g⟩ := xz_d3 g
      cases g
      exact FRM3_0
  · obtain ⟨b1, b2, b3, e4, g⟩ := xz_d3 g
    cases g
    exact FRM3_0
theorem x_isTerm {a1 a2 v : Int} (b1 : -2147483648 ≤ a1 ∧ a1 ≤ 2147483647) (h : f_HM_isTerm a1 a2 = some v) : v = 0 ∨ (0 ≤ a1 ∧ a1 ≤ 3) := by
  unfold f_HM_isTerm at h
  rw [zwi (x := a1) b1] at h
  by_cases c : 0 ≤ a1 ∧ a1 ≤ 3
  · exact Or.inr c
  · rw [if_neg (by omega), if_neg (by omega), if_neg (by omega), if_neg (by omega)] at h
    cases h
    exact Or.inl rfl
theorem fr_terms {a1 a2 s4 s5 : Int} {t3 row : Nat → Int} {w : Int × Int × Int × (Nat → Int) × (Nat → Int)} (b1 : -2147483648 ≤ a1 ∧ a1 ≤ 2147483647) (g : f_HM_terms a1 a2 s4 s5 t3 row = some w) : FRM3 row w.2.2.2.2 := by
  unfold f_HM_terms at g
  obtain ⟨c1, e2, g⟩ := xz_d1 g
  rcases xp_if g with ⟨_, g⟩ | ⟨c, g⟩
  · obtain ⟨b1, b2, b3, e4, g⟩ := xz_d3 g
    cases g
    exact FRM3_0
  · rcases x_isTerm b1 e2 with q | q
    · subst q
      exact absurd (by decide +kernel) c
    · obtain ⟨b1, b2, b3, e4, g⟩ := xz_d3 (xp_n g)
      have := fr_change (by omega) e4
      cases g
      exact this
theorem fr_goal {a1 a2 s4 s5 : Int} {t3 row : Nat → Int} {w : Int × Int × Int × (Nat → Int) × (Nat → Int)} (b1 : -2147483648 ≤ a1 ∧ a1 ≤ 2147483647) (hm : 0 ≤ row 0 ∧ row 0 ≤ 12) (g : f_HM_goal a1 a2 s4 s5 t3 row = some w) : FRM3 row w.2.2.2.2 := by
  unfold f_HM_goal at g
  obtain ⟨c1, e2, g⟩ := xz_d1 (xp_n g)
  rcases xp_if g with ⟨_, g⟩ | ⟨_, g⟩
  · obtain ⟨c2, e3, g⟩ := xz_d1 g
    rcases r_isColumn b1 hm e3 with ⟨q1, q2⟩ | ⟨q1, q2⟩ <;> subst q2
    · obtain ⟨b1, b2, b3, e4, g⟩ := xz_d3 (xp_n (xp_t (by decide +kernel) g))
      have := fr_change (by omega) e4
      cases g
      exact this
    · replace g := xp_f (by decide +kernel) g
      obtain ⟨b1, b2, b3, e4, g⟩ := xz_d3 g
      rcases xp_if g with ⟨_, g⟩ | ⟨_, g⟩ <;> cases g <;> exact FRM3_0
  · obtain ⟨b1, b2, b3, e4, g⟩ := xz_d3 g
    rcases xp_if g with ⟨_, g⟩ | ⟨_, g⟩ <;> cases g <;> exact FRM3_0
/-- the law in force -/
theorem x_force {a1 la fo s3 s30 s4 s5 : Int} {t2 t3 row ord od : Nat → Int} {v : Int × Int × Int × Int × (Nat → Int)} {w : Int × Int × Int × (Nat → Int) × (Nat → Int)} (b1 : -2147483648 ≤ a1 ∧ a1 ≤ 2147483647) (hl : 0 ≤ la ∧ la ≤ 6) (hf : -1 ≤ fo ∧ fo ≤ 5) (hH : HILL2 la fo ord od row) (h : f_HS_force a1 la s3 fo s30 t2 = some v) (g : f_HM_force a1 s4 s5 t3 row = some w) : v.1 = w.1 ∧ v.2.1 = w.2.2.1 ∧ ((∀ k, k < 7 → t2 k = t3 k) → ∀ k, k < 7 → v.2.2.2.2 k = w.2.2.2.1 k) ∧ HILL2 la v.2.2.1 ord od w.2.2.2.2 ∧ ∀ y, y ≠ 4 → w.2.2.2.2 y = row y := by
  have yes : f_HS_force_27 la a1 s3 fo s30 t2 = some v → f_HM_force_28 a1 0 s5 t3 row = some w → v.1 = w.1 ∧ v.2.1 = w.2.2.1 ∧ ((∀ k, k < 7 → t2 k = t3 k) → ∀ k, k < 7 → v.2.2.2.2 k = w.2.2.2.1 k) ∧ HILL2 la v.2.2.1 ord od w.2.2.2.2 ∧ ∀ y, y ≠ 4 → w.2.2.2.2 y = row y := fun h g => by
    unfold f_HS_force_27 at h
    obtain ⟨u1, u2, u3, e1, h⟩ := xz_d3 h
    have k1 := k_accept e1
    cases k1
    unfold f_HM_force_28 at g
    obtain ⟨u4, u5, u6, e2, g⟩ := xz_d3 g
    unfold f_HM_change at e2
    replace e2 := (xp_s (xp_g e2).2).2
    cases e2
    cases h
    cases g
    have z : (zi_w 4).toNat = 4 := rfl
    rw [z]
    refine ⟨hH.2.1, rfl, fun hrf => hrf, ⟨?_, ?_, fun k hk => ?_⟩, fun y hy => zu_ne _ _ hy⟩
    · show la = zu row 4 a1 3
      rw [zu_ne _ _ (by omega)]; exact hH.1
    · show a1 = zu row 4 a1 4
      rw [zu_eq]
    · exact LW2_x (hH.2.2 k hk) (fun _ _ => rfl) rfl (fun j _ => zu_ne _ _ (by omega))
  have no : f_HS_force_20 la s3 fo s30 t2 = some v → ∀ {x y z}, f_HM_tell (-2) s5 t3 = some (x, y, z) → w = (x, 0, y, z, row) → v.1 = w.1 ∧ v.2.1 = w.2.2.1 ∧ ((∀ k, k < 7 → t2 k = t3 k) → ∀ k, k < 7 → v.2.2.2.2 k = w.2.2.2.1 k) ∧ HILL2 la v.2.2.1 ord od w.2.2.2.2 ∧ ∀ y, y ≠ 4 → w.2.2.2.2 y = row y := fun h x y z e hw => by
    unfold f_HS_force_20 at h
    obtain ⟨u1, u2, u3, e1, h⟩ := xz_d3 h
    have k1 := k_refuse (by decide) e1
    cases k1
    rcases x_tell (by decide) e with ⟨k2, _⟩ | ⟨_, k2⟩
    · omega
    · cases k2
      subst hw
      cases h
      exact ⟨rfl, rfl, fun hrf => zu_agr hrf, hH, fun _ _ => rfl⟩
  unfold f_HS_force at h
  unfold f_HM_force at g
  rw [zwi (x := a1) b1, zwi (x := -1) (by decide)] at h g
  by_cases c : a1 = -1
  · rw [if_pos c] at h g
    exact yes h g
  · rw [if_neg c] at h g
    replace g := xp_n (xp_g (xp_n g)).2
    have z3 : row (zi_w 3).toNat = la := hH.1.symm
    rw [z3, zwi (x := la) (by omega)] at g
    obtain ⟨v5, e5, g⟩ := xz_d1 (xp_n g)
    have g5 := x_in (by omega) (by decide) (by omega) e5
    rw [zwi (x := la) (by omega)] at h
    by_cases d : 0 ≤ a1 ∧ a1 ≤ la - 1
    · rw [if_pos d] at g5
      subst g5
      rw [if_neg (by omega), if_pos (by omega)] at h
      exact yes h (xp_f (by decide +kernel) g)
    · rw [if_neg d] at g5
      subst g5
      replace g := xp_t (by decide +kernel) g
      obtain ⟨u1, u2, u3, e6, g⟩ := xz_d3 g
      have hw : w = (u1, 0, u2, u3, row) := by cases g; rfl
      by_cases e : a1 < 0
      · rw [if_pos e] at h
        exact no h e6 hw
      · rw [if_neg e, if_neg (by omega)] at h
        exact no h e6 hw
/-! the tape -/
theorem zi_byte (x : Int) {s : Nat} (hs : s = 0 ∨ s = 8 ∨ s = 16 ∨ s = 24) : zi_and (zi_ushr x (s : Int)) 255 = zi_and (zi_shr x (s : Int)) 255 := by
  have k1 : ((Int32.ofInt (s : Int) &&& 31).toBitVec.smod 32).toNat = s := by rcases hs with e | e | e | e <;> subst e <;> decide +kernel
  have k2 : ((Int32.ofInt (s : Int)).toUInt32 &&& Int32.toUInt32 31).toBitVec = BitVec.ofNat 32 s := by rcases hs with e | e | e | e <;> subst e <;> decide +kernel
  have a1 : zi_ushr x (s : Int) = ((Int32.ofInt x).toBitVec >>> (((Int32.ofInt (s : Int)).toUInt32 &&& Int32.toUInt32 31).toBitVec % 32#32)).toInt := rfl
  have a2 : zi_shr x (s : Int) = ((Int32.ofInt x).toBitVec.sshiftRight' ((Int32.ofInt (s : Int) &&& 31).toBitVec.smod 32)).toInt := rfl
  have o : ∀ b : BitVec 32, (Int32.ofInt b.toInt).toBitVec = b := fun b => by
    show BitVec.ofInt 32 b.toInt = b
    exact BitVec.ofInt_toInt
  have e1 : ∀ b : BitVec 32, zi_and b.toInt 255 = (b &&& 255#32).toInt := fun b => by
    show ((Int32.ofInt b.toInt).toBitVec &&& (Int32.ofInt 255).toBitVec).toInt = _
    rw [o b]
    rfl
  rw [a1, a2, e1, e1]
  congr 1
  apply BitVec.eq_of_getLsbD_eq
  intro i hi
  rw [BitVec.getLsbD_and, BitVec.getLsbD_and]
  by_cases h8 : i < 8
  · congr 1
    rw [BitVec.sshiftRight', BitVec.getLsbD_sshiftRight, k1, k2]
    have hs24 : s ≤ 24 := by omega
    have em : (BitVec.ofNat 32 s % 32#32).toNat = s := by rcases hs with e | e | e | e <;> subst e <;> decide
    rw [BitVec.ushiftRight_eq', BitVec.getLsbD_ushiftRight, em]
    have hlt : s + i < 32 := by omega
    simp [hlt, hi]
  · have h255 : (255#32).getLsbD i = false := by
      have : (255#32).toNat < 2 ^ i := by
        have h1 : (2 : Nat) ^ 8 ≤ 2 ^ i := Nat.pow_le_pow_right (by decide) (by omega)
        have h2 : (255#32).toNat = 255 := by decide
        omega
      rw [← BitVec.testBit_toNat]
      exact Nat.testBit_lt_two_pow this
    rw [h255, Bool.and_false, Bool.and_false]
theorem four_eq {x : Int} : ∀ (q N M : Nat) (tp : Nat) (t : Nat → Int) (v w : Int × (Nat → Int)), q ≤ 4 → tp + q ≤ 400 → f_HS_feedFour_3 N x (8 * (q : Int) - 8) (tp : Int) t = some v → f_HM_four_3 M x (8 * (q : Int) - 8) (tp : Int) t = some w → v = w ∧ v.1 = ((tp + q : Nat) : Int) := by
  intro q
  induction q with
  | zero =>
    intro N M tp t v w _ _ h g
    cases N with
    | zero => exact nomatch h
    | succ N =>
      cases M with
      | zero => exact nomatch g
      | succ M =>
        replace h : f_HS_feedFour_3_b (f_HS_feedFour_3 N) x (8 * ((0 : Nat) : Int) - 8) (tp : Int) t = some v := h
        replace g : f_HM_four_3_b (f_HM_four_3 M) x (8 * ((0 : Nat) : Int) - 8) (tp : Int) t = some w := g
        unfold f_HS_feedFour_3_b at h
        unfold f_HM_four_3_b at g
        replace h := xp_t (by decide +kernel) h
        replace g := xp_t (by decide +kernel) g
        cases h
        cases g
        exact ⟨rfl, rfl⟩
  | succ q ih =>
    intro N M tp t v w hq htp h g
    cases N with
    | zero => exact nomatch h
    | succ N =>
      cases M with
      | zero => exact nomatch g
      | succ M =>
        replace h : f_HS_feedFour_3_b (f_HS_feedFour_3 N) x (8 * ((q + 1 : Nat) : Int) - 8) (tp : Int) t = some v := h
        replace g : f_HM_four_3_b (f_HM_four_3 M) x (8 * ((q + 1 : Nat) : Int) - 8) (tp : Int) t = some w := g
        have es : 8 * ((q + 1 : Nat) : Int) - 8 = ((8 * q : Nat) : Int) := by omega
        rw [es] at h g
        unfold f_HS_feedFour_3_b at h
        unfold f_HM_four_3_b at g
        rw [zwi (x := ((8 * q : Nat) : Int)) (by omega), if_neg (by omega)] at h g
        rw [zwi (x := 400) (by decide), zwi (x := (tp : Int)) (by omega), if_neg (by omega)] at h
        replace h := xp_n (xp_n h)
        replace h := xp_n (xp_n (xp_s h).2)
        replace g := xp_n (xp_n g)
        replace g := xp_n (xp_n (xp_s g).2)
        have hb := zi_byte x (s := 8 * q) (by omega)
        rw [hb, zwi (x := (tp : Int)) (by omega), Int.toNat_natCast] at h
        rw [zwi (x := (tp : Int)) (by omega), Int.toNat_natCast] at g
        have ek : ((8 * q : Nat) : Int) + -8 = 8 * (q : Int) - 8 := by omega
        have et : (tp : Int) + 1 = ((tp + 1 : Nat) : Int) := by omega
        rw [ek, et] at h g
        obtain ⟨r1, r2⟩ := ih N M (tp + 1) _ v w (by omega) (by omega) h g
        exact ⟨r1, by rw [r2]; omega⟩
theorem four_eq4 {x : Int} {tp : Nat} {t : Nat → Int} {v w : Int × (Nat → Int)} (htp : tp + 4 ≤ 400) (h : f_HS_feedFour x (tp : Int) t = some v) (g : f_HM_four x (tp : Int) t = some w) : v = w ∧ v.1 = ((tp + 4 : Nat) : Int) := by
  unfold f_HS_feedFour at h
  unfold f_HM_four at g
  exact four_eq 4 zfu zfu tp t v w (by decide) htp h g
theorem x_feed {a1 a2 a3 a4 a5 s4 tp : Int} {t : Nat → Int} {v : Int × Int × (Nat → Int)} {w : Int × Int × Int × (Nat → Int)} (htp : 0 ≤ tp ∧ tp ≤ 400) (h : f_HS_feed a1 a2 a3 a4 a5 tp t = some v) (g : f_HM_feed a1 a2 a3 a4 a5 s4 tp t = some w) : v.2.2 = w.2.2.2 := by
  obtain ⟨n, en⟩ : ∃ n : Nat, tp = (n : Int) := ⟨tp.toNat, by omega⟩
  subst en
  unfold f_HS_feed at h
  unfold f_HM_feed at g
  replace h := xp_n h
  replace g := xp_n g
  rw [zwi (x := (n : Int) + 20) (by omega), zwi (x := 400) (by decide)] at h g
  by_cases c : (n : Int) + 20 ≤ 400
  · rw [if_pos c] at h g
    obtain ⟨u1, m1, e1, h⟩ := xz_d2 h
    obtain ⟨w1, p1, d1, g⟩ := xz_d2 g
    obtain ⟨q1, q2⟩ := four_eq4 (by omega) e1 d1
    cases q1
    replace q2 : u1 = ((n + 4 : Nat) : Int) := q2
    subst q2
    obtain ⟨u2, m2, e2, h⟩ := xz_d2 h
    obtain ⟨w2, p2, d2, g⟩ := xz_d2 g
    obtain ⟨q1, q2⟩ := four_eq4 (by omega) e2 d2
    cases q1
    replace q2 : u2 = ((n + 4 + 4 : Nat) : Int) := q2
    subst q2
    obtain ⟨u3, m3, e3, h⟩ := xz_d2 h
    obtain ⟨w3, p3, d3, g⟩ := xz_d2 g
    obtain ⟨q1, q2⟩ := four_eq4 (by omega) e3 d3
    cases q1
    replace q2 : u3 = ((n + 4 + 4 + 4 : Nat) : Int) := q2
    subst q2
    obtain ⟨u4, m4, e4, h⟩ := xz_d2 h
    obtain ⟨w4, p4, d4, g⟩ := xz_d2 g
    obtain ⟨q1, q2⟩ := four_eq4 (by omega) e4 d4
    cases q1
    replace q2 : u4 = ((n + 4 + 4 + 4 + 4 : Nat) : Int) := q2
    subst q2
    obtain ⟨u5, m5, e5, h⟩ := xz_d2 h
    obtain ⟨w5, p5, d5, g⟩ := xz_d2 g
    obtain ⟨q1, q2⟩ := four_eq4 (by omega) e5 d5
    cases q1
    cases h
    cases g
    rfl
  · rw [if_neg c] at h g
    cases h
    cases g
    rfl
end
