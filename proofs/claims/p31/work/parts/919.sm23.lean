/-! EVERY STONE WEIGHS SOMETHING, whatever is done -/
theorem sw_put {many x : Int} {H W : Nat → Int} (hh : zR H 0 10) (hS : STW many H W) (hx : 1 ≤ x) (c : Nat) (h10 : H c < 10) : STW many (zu H c (H c + 1)) (zu W (10 * c + (H c).toNat) x) := fun d i hd hi => by
  have bd := hh d
  have bc := hh c
  by_cases e : 10 * d + i = 10 * c + (H c).toNat
  · rw [e, zu_eq]; exact hx
  · rw [zu_ne _ _ e]
    refine hS d i hd ?_
    by_cases f : d = c
    · subst f; rw [zu_eq] at hi; omega
    · rw [zu_ne _ _ f] at hi; exact hi
theorem sw_less {many : Int} {H W : Nat → Int} (hS : STW many H W) (c : Nat) (x : Int) (hx : x ≤ H c) : STW many (zu H c x) W := fun d i hd hi => by
  refine hS d i hd ?_
  by_cases f : d = c
  · subst f; rw [zu_eq] at hi; omega
  · rw [zu_ne _ _ f] at hi; exact hi
theorem sw_column {many s3 s30 : Int} {t2 go hts wts : Nat → Int} {v : Int × Int × Int × (Nat → Int) × Int × (Nat → Int) × (Nat → Int)} (hm : 0 ≤ many ∧ many ≤ 12) (hS : STW many hts wts) (h : f_HS_column s3 s30 t2 many go hts = some v) : STW v.2.2.2.2.1 v.2.2.2.2.2.2 wts := by
  unfold f_HS_column at h
  obtain ⟨v1, v2, a3, e1, h⟩ := xz_d3 h
  unfold f_Columns_grow at e1
  rcases xp_if e1 with ⟨_, e1⟩ | ⟨_, e1⟩
  · replace e1 := xp_n (xp_s e1).2
    cases e1
    replace h := (xp_s (xp_n (xp_t (by decide +kernel) h))).2
    obtain ⟨u1, u2, u3, e3, h⟩ := xz_d3 h
    cases h
    have z : (zi_w many).toNat = many.toNat := by rw [zwi (by omega)]
    intro d i hd hi
    have hd : (d : Int) < many + 1 := hd
    have hi : (i : Int) < zu hts (zi_w many).toNat 0 d := hi
    rw [z] at hi
    by_cases f : d = many.toNat
    · subst f; rw [zu_eq] at hi; omega
    · rw [zu_ne _ _ f] at hi; exact hS d i (by omega) hi
  · cases e1
    replace h := xp_f (by decide +kernel) h
    obtain ⟨u1, u2, u3, e3, h⟩ := xz_d3 h
    cases h
    exact hS
theorem sw_stone {a1 a2 many s3 s30 : Int} {t2 hts wts : Nat → Int} {v : Int × Int × Int × (Nat → Int) × (Nat → Int) × (Nat → Int)} (b1 : -2147483648 ≤ a1 ∧ a1 ≤ 2147483647) (b2 : -2147483648 ≤ a2 ∧ a2 ≤ 2147483647) (hm : 0 ≤ many ∧ many ≤ 12) (hh : zR hts 0 10) (hS : STW many hts wts) (h : f_HS_stone a1 a2 many s3 s30 t2 hts wts = some v) : STW many v.2.2.2.2.1 v.2.2.2.2.2 := by
  have no : f_HS_stone_11 many s3 s30 t2 hts wts = some v → STW many v.2.2.2.2.1 v.2.2.2.2.2 := fun h => by
    unfold f_HS_stone_11 at h
    obtain ⟨u1, u2, u3, e3, h⟩ := xz_d3 h
    cases h
    exact hS
  unfold f_HS_stone at h
  rw [zwi b2, show zi_w 1 = 1 from by decide +kernel] at h
  by_cases c1 : a2 < 1
  · rw [if_pos c1] at h
    exact no h
  rw [if_neg c1] at h
  rcases xp_if h with ⟨_, h⟩ | ⟨_, h⟩
  · obtain ⟨u1, e3, h⟩ := xz_d1 h
    rcases k_has b1 hm e3 with ⟨q5, q6⟩ | ⟨q5, q6⟩ <;> subst q6
    · replace h := xp_t (by decide +kernel) h
      obtain ⟨C, eC⟩ : ∃ C : Nat, a1 = (C : Int) := ⟨a1.toNat, by omega⟩
      subst eC
      obtain ⟨u2, u3, u4, e4, h⟩ := xz_d3 h
      rcases k_put hm hh (by omega) e4 with ⟨q7, q8⟩ | ⟨q7, q8⟩ <;> cases q8
      · replace h := xp_t (by decide +kernel) h
        obtain ⟨u5, e5, h⟩ := xz_d1 h
        obtain ⟨u6, u7, u8, e6, h⟩ := xz_d3 h
        cases h
        exact sw_put hh hS (by omega) C q7
      · replace h := xp_f (by decide +kernel) h
        obtain ⟨u6, u7, u8, e6, h⟩ := xz_d3 h
        cases h
        exact hS
    · replace h := xp_f (by decide +kernel) h
      obtain ⟨u6, u7, u8, e6, h⟩ := xz_d3 h
      cases h
      exact hS
  · exact no h
theorem sw_lift {a1 many s3 s30 : Int} {t2 hts wts : Nat → Int} {v : Int × Int × Int × (Nat → Int) × (Nat → Int)} (hS : STW many hts wts) (h : f_HS_lift a1 many wts s3 s30 t2 hts = some v) : STW many v.2.2.2.2 wts := by
  unfold f_HS_lift at h
  obtain ⟨u1, e3, h⟩ := xz_d1 h
  rcases xp_if h with ⟨_, h⟩ | ⟨_, h⟩
  · obtain ⟨u2, e4, h⟩ := xz_d1 h
    rcases xp_if h with ⟨_, h⟩ | ⟨_, h⟩
    · obtain ⟨u3, u4, e5, h⟩ := xz_d2 h
      obtain ⟨u6, u7, u8, e6, h⟩ := xz_d3 h
      cases h
      show STW many u4 wts
      unfold f_Columns_take at e5
      obtain ⟨w1, _, e5⟩ := xz_d1 e5
      obtain ⟨w2, _, e5⟩ := xz_d1 e5
      rcases xp_if e5 with ⟨_, e5⟩ | ⟨_, e5⟩
      · cases e5; exact hS
      · replace e5 := xp_n (xp_g e5).2
        replace e5 := (xp_s e5).2
        cases e5
        exact sw_less hS _ _ (by omega)
    · obtain ⟨u6, u7, u8, e6, h⟩ := xz_d3 h
      cases h
      exact hS
  · obtain ⟨u6, u7, u8, e6, h⟩ := xz_d3 h
    cases h
    exact hS
theorem sw_row_44 {many T s3 s30 : Int} {tape t2 : Nat → Int} {V : Int × Int × Int × Int × Int × (Nat → Int) × (Nat → Int) × (Nat → Int)} (hm : 0 ≤ many ∧ many ≤ 12) (ht : zR tape 0 255) (h0 : 0 ≤ tape 0 ∧ tape 0 < many) : ∀ (N : Nat) (p k tp s2 : Int) (hts wts : Nat → Int), zR hts 0 10 → STW many hts wts → f_HS_row_44 tape many N T p k tp s2 s3 s30 t2 hts wts = some V → STW many V.2.2.2.2.2.2.1 V.2.2.2.2.2.2.2 := by
  intro N
  induction N with
  | zero => intro p k tp s2 hts wts _ _ h; exact nomatch h
  | succ N ih =>
    intro p k tp s2 hts wts hh hS h
    replace h : f_HS_row_44_b tape many (f_HS_row_44 tape many N) T p k tp s2 s3 s30 t2 hts wts = some V := h
    unfold f_HS_row_44_b at h
    have go : ∀ (p' : Int) (hts' wts' : Nat → Int), zR hts' 0 10 → STW many hts' wts' → f_HS_row_94 tape many (f_HS_row_44 tape many N) T p' k tp s2 s3 s30 t2 hts' wts' = some V → STW many V.2.2.2.2.2.2.1 V.2.2.2.2.2.2.2 := fun p' hts' wts' h1 h2 h => by
      unfold f_HS_row_94 at h
      exact ih _ _ _ _ _ _ h1 h2 (xp_n h)
    rcases xp_if h with ⟨_, h⟩ | ⟨_, h⟩
    · obtain ⟨u1, u2, u3, e3, h⟩ := xz_d3 (xp_n (xp_n h))
      cases h
      exact hS
    · replace h := (xp_g h).2
      have bt := ht (zi_w k).toNat
      rw [zwi (x := tape (zi_w k).toNat) (by omega), show zi_w 1 = 1 from by decide +kernel] at h
      by_cases c1 : tape (zi_w k).toNat < 1
      · rw [if_pos c1] at h
        exact go _ _ _ hh hS h
      rw [if_neg c1] at h
      rcases xp_if h with ⟨_, h⟩ | ⟨_, h⟩
      · exact go _ _ _ hh hS h
      replace h := (xp_g h).2
      obtain ⟨v1, a2, a3, e2, h⟩ := xz_d3 h
      have z0 : (zi_w 0).toNat = 0 := by decide +kernel
      rw [z0] at e2
      obtain ⟨C, eC⟩ : ∃ C : Nat, tape 0 = (C : Int) := ⟨(tape 0).toNat, by omega⟩
      rw [eC] at e2
      have q := k_put hm hh (by omega) e2
      rcases q with ⟨q7, q8⟩ | ⟨q7, q8⟩ <;> cases q8
      · replace h := xp_n (xp_f (by decide +kernel) h)
        refine go _ _ _ (fun j => ?_) (sw_put hh hS (by omega) C q7) h
        have bj := hh j
        have bC := hh C
        by_cases f : j = C
        · subst f; rw [zu_eq]; omega
        · rw [zu_ne _ _ f]; exact bj
      · replace h := xp_t (by decide +kernel) h
        exact go _ _ _ hh hS h
theorem sw_row {many s0 s2 s3 s30 : Int} {tape t2 hts wts : Nat → Int} {v : Int × Int × Int × Int × Int × (Nat → Int) × (Nat → Int) × (Nat → Int)} (hm : 0 ≤ many ∧ many ≤ 12) (ht : zR tape 0 255) (hh : zR hts 0 10) (hS : STW many hts wts) (h : f_HS_row tape many s0 s2 s3 s30 t2 hts wts = some v) : STW many v.2.2.2.2.2.2.1 v.2.2.2.2.2.2.2 := by
  have no : f_HS_row_33 tape many 0 s2 s3 s30 t2 hts wts = some v → STW many v.2.2.2.2.2.2.1 v.2.2.2.2.2.2.2 := fun h => by
    unfold f_HS_row_33 at h
    obtain ⟨u1, u2, u3, e3, h⟩ := xz_d3 h
    cases h
    exact hS
  unfold f_HS_row at h
  rcases xp_if h with ⟨_, h⟩ | ⟨_, h⟩
  · exact no h
  · replace h := (xp_g h).2
    obtain ⟨u1, e3, h⟩ := xz_d1 h
    have z0 : (zi_w 0).toNat = 0 := by decide +kernel
    have bt := ht 0
    rw [z0] at e3
    rcases k_has (by omega) hm e3 with ⟨q5, q6⟩ | ⟨q5, q6⟩ <;> subst q6
    · replace h := xp_t (by decide +kernel) h
      exact sw_row_44 hm ht q5 zfu _ _ _ _ _ _ hh hS h
    · replace h := xp_f (by decide +kernel) h
      exact no h
theorem sw_settle {many st : Int} (hm : 0 ≤ many ∧ many ≤ 12) (hs : 0 ≤ st ∧ st ≤ 100) {V : Int × (Nat → Int) × (Nat → Int)} : ∀ (N : Nat) (n : Int) (hts wts : Nat → Int), zR hts 0 10 → STW many hts wts → f_Columns_settle_2 many N st n hts wts = some V → STW many V.2.1 V.2.2 := by
  intro N
  induction N with
  | zero => intro n hts wts _ _ h; exact nomatch h
  | succ N ih =>
    intro n hts wts hh hS h
    replace h : f_Columns_settle_2_b many (f_Columns_settle_2 many N) st n hts wts = some V := h
    unfold f_Columns_settle_2_b at h
    rcases xp_if h with ⟨_, h⟩ | ⟨_, h⟩
    · cases h; exact hS
    obtain ⟨v1, e1, h⟩ := xz_d1 h
    rcases k_lowest hm hs hh e1 with ⟨a1, _⟩ | ⟨c, a1, a2, a3, a4, a5⟩
    · subst a1
      replace h := xp_f (by decide +kernel) h
      cases h; exact hS
    · subst a1
      rw [zwi (x := (c : Int)) (by omega), show zi_w (-1) = -1 from by decide +kernel, if_pos (by omega)] at h
      obtain ⟨v3, e3, h⟩ := xz_d1 (xp_n h)
      have k3 := k_isSteep (by omega) (by omega) hm hs hh e3
      have go : ∀ d : Nat, (d : Int) < many → STP many hts st c d → f_Columns_settle_45 many (f_Columns_settle_2 many N) st n (c : Int) (d : Int) hts wts = some V → STW many V.2.1 V.2.2 := fun d hd hst h => by
        obtain ⟨_, _, y3⟩ := hst
        rw [Int.toNat_natCast, Int.toNat_natCast] at y3
        have bc := hh c
        have bd := hh d
        have hcd : c ≠ d := fun e => by subst e; omega
        unfold f_Columns_settle_45 at h
        obtain ⟨m1, m2, e5, h⟩ := xz_d2 h
        have g5 := k_move hm hh a3 hd hcd (by omega) (by omega) e5
        cases g5
        exact ih _ _ _ (MVH_R hh (by omega) (by omega)) (STW_mv hS hh a3 hd (by omega) (by omega) hcd) (xp_n h)
      rcases k3 with ⟨q1, q2⟩ | ⟨q1, q2⟩ <;> subst q1
      · replace h := xp_n (xp_f (by decide +kernel) h)
        have ed : (c : Int) - 1 = (((c - 1 : Nat)) : Int) := by have := q2.2.1; omega
        rw [ed] at h q2
        exact go (c - 1) (by have := q2.2.1; omega) q2 h
      · replace h := xp_n (xp_t (by decide +kernel) h)
        have q3 : STP many hts st c (c + 1) := by
          rcases a4 with z | z
          · exact absurd z q2
          · exact z
        have ed : (c : Int) + 1 = (((c + 1 : Nat)) : Int) := by omega
        rw [ed] at h q3
        exact go (c + 1) (by have := q3.2.1; omega) q3 h
theorem sw_slide {many s30 : Int} {te hts wts : Nat → Int} {v : Int × Int × (Nat → Int) × (Nat → Int)} (hm : 0 ≤ many ∧ many ≤ 12) (ht : zR te 0 99) (hh : zR hts 0 10) (hS : STW many hts wts) (h : f_HS_slide many te s30 hts wts = some v) : STW many v.2.2.1 v.2.2.2 := by
  unfold f_HS_slide at h
  replace h := (xp_g (xp_n h)).2
  obtain ⟨u1, u2, u3, e1, h⟩ := xz_d3 h
  cases h
  unfold f_Columns_settle at e1
  have b := ht (zi_w 2).toNat
  exact sw_settle hm (by omega) zfu _ _ _ hh hS e1
theorem sw_carry {a b c ch la fo many s3 s30 pi ti ba : Int} {st ex te ord od t2 wo pl hts wts : Nat → Int} {v : Int × Int × Int × (Nat → Int) × Int × Int × Int × (Nat → Int) × (Nat → Int) × (Nat → Int) × (Nat → Int)} (b1 : -2147483648 ≤ a ∧ a ≤ 2147483647) (b2 : -2147483648 ≤ b ∧ b ≤ 2147483647) (b3 : -2147483648 ≤ c ∧ c ≤ 2147483647) (hc6 : 0 ≤ ch ∧ ch ≤ 6) (hm : 0 ≤ many ∧ many ≤ 12) (hh : zR hts 0 10) (hS : STW many hts wts) (h : f_HS_carry a b c ch la fo many st ex te ord od s3 s30 t2 pi ti ba wo pl hts wts = some v) : STW many v.2.2.2.2.2.2.2.2.2.1 v.2.2.2.2.2.2.2.2.2.2 := by
  unfold f_HS_carry at h
  obtain ⟨v1, e1, h⟩ := xz_d1 h
  rcases k_knows b1 b2 b3 hc6 hm e1 with ⟨q1, q2⟩ | ⟨q1, q2⟩ <;> subst q2
  · replace h := xp_t (by decide +kernel) h
    obtain ⟨v2, v3, v4, v5, a6, a7, e2, h⟩ := xz_d6 h
    by_cases cz : zi_w v2 = zi_w (-1)
    · rw [if_neg (fun z => z cz)] at h
      obtain ⟨u6, u7, u8, e6, h⟩ := xz_d3 h
      cases h
      exact hS
    · rw [if_pos cz] at h
      have ef := eff_can hm hh q1.2.1 q1.2.2 e2 (fun z => cz (by show zi_w v2 = zi_w (-1); rw [show v2 = -1 from z]))
      obtain ⟨B, eB⟩ : ∃ B : Nat, b = (B : Int) := ⟨b.toNat, by have := q1.2.1; omega⟩
      subst eB
      obtain ⟨C, eC⟩ : ∃ C : Nat, c = (C : Int) := ⟨c.toNat, by have := q1.2.2; omega⟩
      subst eC
      rw [Int.toNat_natCast, Int.toNat_natCast] at ef
      have hbm := q1.2.1.2
      have hcm := q1.2.2.2
      have hne : B ≠ C := fun z => ef.2.2 (by rw [z])
      have bB := hh B
      have bC := hh C
      obtain ⟨u1, x1, h⟩ := xz_d1 h
      obtain ⟨u2, u3, x2, h⟩ := xz_d2 h
      obtain ⟨u6, u7, u8, e6, h⟩ := xz_d3 h
      have y2 := k_move hm hh hbm hcm hne ef.1 ef.2.1 x2
      cases y2
      cases h
      exact STW_mv hS hh hbm hcm (by omega) (by omega) hne
  · replace h := xp_f (by decide +kernel) h
    obtain ⟨u6, u7, u8, e6, h⟩ := xz_d3 h
    cases h
    exact hS
theorem sw_exchange {a b c d ch la fo many s3 s30 pi ti ba : Int} {st ex te ord od t2 wo pl hts wts : Nat → Int} {v : Int × Int × Int × (Nat → Int) × Int × Int × Int × (Nat → Int) × (Nat → Int) × (Nat → Int) × (Nat → Int)} (b1 : -2147483648 ≤ a ∧ a ≤ 2147483647) (b2 : -2147483648 ≤ b ∧ b ≤ 2147483647) (b3 : -2147483648 ≤ c ∧ c ≤ 2147483647) (b4 : -2147483648 ≤ d ∧ d ≤ 2147483647) (hc6 : 0 ≤ ch ∧ ch ≤ 6) (hm : 0 ≤ many ∧ many ≤ 12) (hh : zR hts 0 10) (hS : STW many hts wts) (h : f_HS_exchange a b c d ch la fo many st ex te ord od s3 s30 t2 pi ti ba wo pl hts wts = some v) : STW many v.2.2.2.2.2.2.2.2.2.1 v.2.2.2.2.2.2.2.2.2.2 := by
  have no2 : f_HS_exchange_25 ch la fo many st ex te ord od s3 s30 t2 pi ti ba wo pl hts wts = some v → STW many v.2.2.2.2.2.2.2.2.2.1 v.2.2.2.2.2.2.2.2.2.2 := fun h => by
    unfold f_HS_exchange_25 at h
    obtain ⟨u6, u7, u8, e6, h⟩ := xz_d3 h
    cases h
    exact hS
  unfold f_HS_exchange at h
  obtain ⟨v1, e1, h⟩ := xz_d1 h
  rcases k_knows b1 b2 b3 hc6 hm e1 with ⟨q1, q2⟩ | ⟨q1, q2⟩ <;> subst q2
  · replace h := xp_f (by decide +kernel) h
    obtain ⟨v0, e0, h⟩ := xz_d1 h
    rcases k_has b4 hm e0 with ⟨qd, q6⟩ | ⟨qd, q6⟩ <;> subst q6
    rotate_left
    · replace h := xp_f (by decide +kernel) h
      exact no2 h
    replace h := xp_t (by decide +kernel) h
    obtain ⟨v2, v3, v4, v5, a6, a7, e2, h⟩ := xz_d6 h
    by_cases cz : zi_w v2 = zi_w (-1)
    · rw [if_neg (fun z => z cz)] at h
      obtain ⟨u6, u7, u8, e6, h⟩ := xz_d3 h
      cases h
      exact hS
    rw [if_pos cz] at h
    have ef := eff_can hm hh q1.2.1 q1.2.2 e2 (fun z => cz (by show zi_w v2 = zi_w (-1); rw [show v2 = -1 from z]))
    obtain ⟨B, eB⟩ : ∃ B : Nat, b = (B : Int) := ⟨b.toNat, by have := q1.2.1; omega⟩
    subst eB
    obtain ⟨C, eC⟩ : ∃ C : Nat, c = (C : Int) := ⟨c.toNat, by have := q1.2.2; omega⟩
    subst eC
    rw [Int.toNat_natCast, Int.toNat_natCast] at ef
    have hbm := q1.2.1.2
    have hcm := q1.2.2.2
    have hne : B ≠ C := fun z => ef.2.2 (by rw [z])
    have bB := hh B
    have bC := hh C
    obtain ⟨u1, x1, h⟩ := xz_d1 h
    obtain ⟨h1, n1, x2, h⟩ := xz_d2 h
    have no3 : ∀ {p' t' q' : Int} {wo' pl' : Nat → Int}, f_HS_exchange_141 ch la fo many st ex te ord od (B : Int) (C : Int) s3 s30 t2 p' t' q' wo' pl' h1 n1 = some v → STW many v.2.2.2.2.2.2.2.2.2.1 v.2.2.2.2.2.2.2.2.2.2 := fun h => by
      unfold f_HS_exchange_141 at h
      obtain ⟨u5, u6, x6, h⟩ := xz_d2 h
      obtain ⟨u7, u8, u9, e6, h⟩ := xz_d3 h
      cases h
      exact STW_c hS (hc_back hm hh hbm hcm hne ⟨ef.1, ef.2.1⟩ x2 x6)
    have y2 := k_move hm hh hbm hcm hne ef.1 ef.2.1 x2
    have R1 : zR h1 0 10 := by rw [congrArg Prod.fst y2]; exact MVH_R hh (by omega) (by omega)
    have S1 : STW many h1 n1 := by rw [congrArg Prod.fst y2, congrArg Prod.snd y2]; exact STW_mv hS hh hbm hcm (by omega) (by omega) hne
    obtain ⟨u2, x5, h⟩ := xz_d1 h
    obtain ⟨k2, k3, k4, k5, k6, k7, e8, h⟩ := xz_d6 (xp_n (xp_n h))
    by_cases cy : zi_w k2 = zi_w (-1)
    · rw [if_pos cy] at h
      exact no3 h
    rw [if_neg cy] at h
    replace h := (xp_g h).2
    rcases xp_if h with ⟨_, h⟩ | ⟨_, h⟩
    · obtain ⟨u5, u6, x8, h⟩ := xz_d2 h
      obtain ⟨u7, u8, u9, e6, h⟩ := xz_d3 h
      cases h
      have eg := eff_can hm R1 qd q1.2.1 e8 (fun z => cy (by show zi_w k2 = zi_w (-1); rw [show k2 = -1 from z]))
      obtain ⟨D, eD⟩ : ∃ D : Nat, d = (D : Int) := ⟨d.toNat, by omega⟩
      subst eD
      rw [Int.toNat_natCast, Int.toNat_natCast] at eg
      have hDB : D ≠ B := fun z => eg.2.2 (by rw [z])
      have y8 := k_move hm R1 qd.2 hbm hDB eg.1 eg.2.1 x8
      cases y8
      exact STW_mv S1 R1 qd.2 hbm (by have := R1 D; omega) (by omega) hDB
    · exact no3 h
  · replace h := xp_t (by decide +kernel) h
    exact no2 h
