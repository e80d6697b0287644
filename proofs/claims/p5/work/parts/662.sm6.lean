/-! stones one by one -/
theorem k_heft {C : Nat} {i many v : Int} {hts wts : Nat → Int} (hm : 0 ≤ many ∧ many ≤ 12) (hh : zR hts 0 10) (hc : (C : Int) < many) (hi : 0 ≤ i ∧ i ≤ 2147483647) (h : f_Columns_heft (C : Int) i many hts wts = some v) : v = if i < hts C then wts (10 * C + i.toNat) else 0 := by
  have b := hh C
  unfold f_Columns_heft at h
  rw [zwi (x := i) (by omega), if_neg (by omega)] at h
  obtain ⟨v1, e1, h⟩ := xz_d1 h
  have g := k_high hm hc e1
  subst g
  rw [zwi (x := hts C) (by omega)] at h
  by_cases c : hts C ≤ i
  · rw [if_pos c] at h; cases h; rw [if_neg (by omega)]
  · rw [if_neg c] at h
    replace h := (xp_g (xp_n (xp_n h))).2
    rw [show (zi_w ((C : Int) * 10 + i)).toNat = 10 * C + i.toNat from by rw [zwi (by omega)]; omega] at h
    cases h
    rw [if_pos (by omega)]
def LSUM (w : Nat → Int) (c : Nat) : Nat → Int
  | 0 => 0
  | k + 1 => LSUM w c k + w (10 * c + k)
theorem LSUM_agr {w w' : Nat → Int} {c : Nat} : ∀ k, (∀ i, i < k → w' (10 * c + i) = w (10 * c + i)) → LSUM w' c k = LSUM w c k := by
  intro k
  induction k with
  | zero => intro _; rfl
  | succ k ih =>
    intro h
    show LSUM w' c k + w' (10 * c + k) = LSUM w c k + w (10 * c + k)
    rw [ih (fun i hi => h i (by omega)), h k (by omega)]
theorem k_load_4 {C : Nat} {many : Int} {hts wts : Nat → Int} (hm : 0 ≤ many ∧ many ≤ 12) (hh : zR hts 0 10) (hc : (C : Int) < many) : ∀ (N k : Nat) (v : Int), (k : Int) ≤ hts C → f_Columns_load_4 many hts wts N (C : Int) (LSUM wts C k) (k : Int) = some v → v = LSUM wts C (hts C).toNat := by
  have b := hh C
  intro N
  induction N with
  | zero => intro k v _ h; exact nomatch h
  | succ N ih =>
    intro k v hk h
    replace h : f_Columns_load_4_b many hts wts (f_Columns_load_4 many hts wts N) (C : Int) (LSUM wts C k) (k : Int) = some v := h
    unfold f_Columns_load_4_b at h
    obtain ⟨v1, e1, h⟩ := xz_d1 h
    have g := k_high hm hc e1
    subst g
    rw [zwi (x := hts C) (by omega), zwi (x := (k : Int)) (by omega)] at h
    by_cases c : hts C ≤ (k : Int)
    · rw [if_pos c] at h; cases h
      rw [show (hts C).toNat = k from by omega]
    · rw [if_neg c] at h
      obtain ⟨v2, e2, h⟩ := xz_d1 h
      have g2 := k_heft hm hh hc (by omega) e2
      rw [if_pos (by omega), Int.toNat_natCast] at g2
      subst g2
      exact ih (k + 1) v (by omega) (xp_n (xp_n h))
theorem k_load {C : Nat} {many v : Int} {hts wts : Nat → Int} (hm : 0 ≤ many ∧ many ≤ 12) (hh : zR hts 0 10) (hc : (C : Int) < many) (h : f_Columns_load (C : Int) many hts wts = some v) : v = LSUM wts C (hts C).toNat := by
  unfold f_Columns_load at h
  exact k_load_4 hm hh hc zfu 0 v (hh C).1 h
theorem r_weight_19 {C : Nat} {row : Nat → Int} (hC : C < 12) (hh : 0 ≤ row (9 + C) ∧ row (9 + C) ≤ 10) : ∀ (N k : Nat) (th : Int) (w : Int × Int), (k : Int) ≤ row (9 + C) → f_HM_weight_19 row N (C : Int) (LSUM (fun j => row (21 + j)) C k) (k : Int) th = some w → w.1 = LSUM (fun j => row (21 + j)) C (row (9 + C)).toNat := by
  intro N
  induction N with
  | zero => intro k th w _ h; exact nomatch h
  | succ N ih =>
    intro k th w hk h
    replace h : f_HM_weight_19_b row (f_HM_weight_19 row N) (C : Int) (LSUM (fun j => row (21 + j)) C k) (k : Int) th = some w := h
    unfold f_HM_weight_19_b at h
    replace h := (xp_g (xp_n h)).2
    have z1 : (zi_w (9 + (C : Int))).toNat = 9 + C := by rw [zwi (by omega)]; omega
    rw [z1, zwi (x := row (9 + C)) (by omega), zwi (x := (k : Int)) (by omega)] at h
    by_cases c : row (9 + C) ≤ (k : Int)
    · rw [if_pos c] at h; cases h
      rw [show (row (9 + C)).toNat = k from by omega]
    · rw [if_neg c] at h
      replace h := xp_n (xp_n (xp_g (xp_n (xp_n (xp_n h)))).2)
      have z2 : (zi_w (21 + 10 * (C : Int) + (k : Int))).toNat = 21 + (10 * C + k) := by rw [zwi (by omega)]; omega
      rw [z2] at h
      exact ih (k + 1) th w (by omega) h
theorem x_weight {a many s4 : Int} {hts wts row : Nat → Int} {v : Int} {w : Int × Int} (b1 : -2147483648 ≤ a ∧ a ≤ 2147483647) (hm : 0 ≤ many ∧ many ≤ 12) (em : many = row 0) (hh : zR hts 0 10) (hC : CREL many hts wts (fun c => row (9 + c)) (fun j => row (21 + j))) (h : f_HS_weight a many hts wts = some v) (g : f_HM_weight a row s4 = some w) : v = w.1 := by
  unfold f_HS_weight at h
  unfold f_HM_weight at g
  obtain ⟨u1, e1, h⟩ := xz_d1 h
  obtain ⟨w1, d1, g⟩ := xz_d1 g
  rcases k_has b1 hm e1 with ⟨q1, q2⟩ | ⟨q1, q2⟩ <;> rcases r_isColumn b1 (by omega) d1 with ⟨p1, p2⟩ | ⟨p1, p2⟩ <;> subst q2 <;> subst p2
  · obtain ⟨C, eC⟩ : ∃ C : Nat, a = (C : Int) := ⟨a.toNat, by omega⟩
    subst eC
    replace h := xp_f (by decide +kernel) h
    replace g := xp_t (by decide +kernel) g
    obtain ⟨u2, e2, h⟩ := xz_d1 h
    have k2 := k_load hm hh q1.2 e2
    have hr : row (9 + C) = hts C := hC.1 C q1.2
    have bC := hh C
    have r2 := r_weight_19 (C := C) (by omega) (by omega) zfu 0 0 w (by omega) g
    cases h
    rw [k2, r2, hr]
    exact (LSUM_agr _ (fun i hi => hC.2 C i q1.2 (by omega))).symm
  · omega
  · omega
  · replace h := xp_t (by decide +kernel) h
    replace g := xp_f (by decide +kernel) g
    cases h; cases g; rfl
theorem x_of {a i many s4 : Int} {hts wts row : Nat → Int} {v : Int} {w : Int × Int} (b1 : -2147483648 ≤ a ∧ a ≤ 2147483647) (b2 : -2147483648 ≤ i ∧ i ≤ 2147483647) (hm : 0 ≤ many ∧ many ≤ 12) (em : many = row 0) (hh : zR hts 0 10) (hC : CREL many hts wts (fun c => row (9 + c)) (fun j => row (21 + j))) (h : f_HS_of a i many hts wts = some v) (g : f_HM_of a i row s4 = some w) : v = w.1 := by
  unfold f_HS_of at h
  unfold f_HM_of at g
  obtain ⟨u1, e1, h⟩ := xz_d1 h
  obtain ⟨w1, d1, g⟩ := xz_d1 g
  rcases k_has b1 hm e1 with ⟨q1, q2⟩ | ⟨q1, q2⟩ <;> rcases r_isColumn b1 (by omega) d1 with ⟨p1, p2⟩ | ⟨p1, p2⟩ <;> subst q2 <;> subst p2
  · obtain ⟨C, eC⟩ : ∃ C : Nat, a = (C : Int) := ⟨a.toNat, by omega⟩
    subst eC
    replace h := xp_t (by decide +kernel) h
    replace g := xp_t (by decide +kernel) g
    have hr : row (9 + C) = hts C := hC.1 C q1.2
    have bC := hh C
    have z1 : (zi_w (9 + (C : Int))).toNat = 9 + C := by rw [zwi (by omega)]; omega
    rw [zwi (x := i) b2, zwi (x := -1) (by decide)] at h g
    by_cases c1 : i = -1
    · rw [if_neg (fun z => z c1)] at h g
      obtain ⟨u2, e2, h⟩ := xz_d1 h
      have k2 := k_high hm q1.2 e2
      subst k2
      replace g := (xp_g (xp_n g)).2
      rw [z1, hr] at g
      cases h; cases g; rfl
    · rw [if_pos c1] at h g
      replace g := xp_n (xp_n (xp_g (xp_n (xp_n g))).2)
      rw [z1, hr, zwi (x := hts C) (by omega)] at g
      obtain ⟨w2, d2, g⟩ := xz_d1 g
      have g2 := x_in (by omega) (by decide) (by omega) d2
      by_cases c2 : i < 0
      · rw [if_pos c2] at h
        rw [if_neg (by omega)] at g2
        subst g2
        replace g := xp_t (by decide +kernel) g
        cases h; cases g; rfl
      · rw [if_neg c2] at h
        obtain ⟨u2, e2, h⟩ := xz_d1 h
        have k2 := k_high hm q1.2 e2
        subst k2
        rw [zwi (x := hts C) (by omega)] at h
        by_cases c3 : i < hts C
        · rw [if_pos c3] at h
          rw [if_pos (by omega)] at g2
          subst g2
          obtain ⟨u3, e3, h⟩ := xz_d1 h
          have k3 := k_heft hm hh q1.2 (by omega) e3
          rw [if_pos c3] at k3
          replace g := (xp_g (xp_n (xp_n (xp_n (xp_f (by decide +kernel) g))))).2
          have z2 : (zi_w (21 + 10 * (C : Int) + i)).toNat = 21 + (10 * C + i.toNat) := by rw [zwi (by omega)]; omega
          rw [z2] at g
          have := hC.2 C i.toNat q1.2 (by omega)
          cases h; cases g
          rw [k3]
          exact this.symm
        · rw [if_neg c3] at h
          rw [if_neg (by omega)] at g2
          subst g2
          replace g := xp_t (by decide +kernel) g
          cases h; cases g; rfl
  · omega
  · omega
  · replace h := xp_f (by decide +kernel) h
    replace g := xp_f (by decide +kernel) g
    cases h; cases g; rfl
theorem lay_eq {C : Nat} {many : Int} {hts wts row : Nat → Int} (hm : 0 ≤ many ∧ many ≤ 12) (hh : zR hts 0 10) (hw : zR wts 0 30) (hc : (C : Int) < many) (hC : CREL many hts wts (fun c => row (9 + c)) (fun j => row (21 + j))) : ∀ (N M k : Nat) (x th v : Int) (w : Int × Int), 1 ≤ k → k ≤ 11 → f_Scales_layersOf_18 many hts wts N (C : Int) x (k : Int) = some v → f_HM_layers_35 row M (C : Int) x (k : Int) th = some w → v = w.1 := by
  have b := hh C
  have hr : row (9 + C) = hts C := hC.1 C hc
  intro N
  induction N with
  | zero => intro M k x th v w _ _ h; exact nomatch h
  | succ N ih =>
    intro M k x th v w hk1 hk h g
    cases M with
    | zero => exact nomatch g
    | succ M =>
      replace h : f_Scales_layersOf_18_b many hts wts (f_Scales_layersOf_18 many hts wts N) (C : Int) x (k : Int) = some v := h
      replace g : f_HM_layers_35_b row (f_HM_layers_35 row M) (C : Int) x (k : Int) th = some w := g
      unfold f_Scales_layersOf_18_b at h
      unfold f_HM_layers_35_b at g
      obtain ⟨v1, e1, h⟩ := xz_d1 h
      have g1 := k_high hm hc e1
      subst g1
      replace g := (xp_g (xp_n g)).2
      have z1 : (zi_w (9 + (C : Int))).toNat = 9 + C := by rw [zwi (by omega)]; omega
      rw [z1, hr, zwi (x := hts C) (by omega), zwi (x := (k : Int)) (by omega)] at g
      rw [zwi (x := hts C) (by omega), zwi (x := (k : Int)) (by omega)] at h
      by_cases c : hts C ≤ (k : Int)
      · rw [if_pos c] at h g
        cases h; cases g; rfl
      · rw [if_neg c] at h g
        obtain ⟨v2, e2, h⟩ := xz_d1 h
        have g2 := k_heft hm hh hc (by omega) e2
        rw [if_pos (by omega), Int.toNat_natCast] at g2
        subst g2
        obtain ⟨v3, e3, h⟩ := xz_d1 (xp_n h)
        have g3 := k_heft hm hh hc (by omega) e3
        rw [if_pos (by omega), show ((k : Int) - 1).toNat = k - 1 from by omega] at g3
        subst g3
        replace g := (xp_g (xp_n (xp_n (xp_n g)))).2
        replace g := (xp_g (xp_n (xp_n (xp_n (xp_n g))))).2
        have z2 : (zi_w (21 + 10 * (C : Int) + (k : Int))).toNat = 21 + (10 * C + k) := by rw [zwi (by omega)]; omega
        have z3 : (zi_w (21 + 10 * (C : Int) + (k : Int) - 1)).toNat = 21 + (10 * C + (k - 1)) := by rw [zwi (by omega)]; omega
        have r1 : row (21 + (10 * C + k)) = wts (10 * C + k) := hC.2 C k hc (by omega)
        have r2 : row (21 + (10 * C + (k - 1))) = wts (10 * C + (k - 1)) := hC.2 C (k - 1) hc (by omega)
        have w1 := hw (10 * C + k)
        have w2 := hw (10 * C + (k - 1))
        rw [z2, z3, r1, r2, zwi (x := wts (10 * C + k)) (by omega), zwi (x := wts (10 * C + (k - 1))) (by omega)] at g
        rw [zwi (x := wts (10 * C + k)) (by omega), zwi (x := wts (10 * C + (k - 1))) (by omega)] at h
        by_cases d : wts (10 * C + k) ≤ wts (10 * C + (k - 1))
        · rw [if_pos d] at h g
          unfold f_Scales_layersOf_68 at h
          unfold f_HM_layers_87 at g
          exact ih M (k + 1) _ th v w (by omega) (by omega) (xp_n (xp_n h)) (xp_n (xp_n g))
        · rw [if_neg d] at h g
          unfold f_Scales_layersOf_68 at h
          unfold f_HM_layers_87 at g
          exact ih M (k + 1) _ th v w (by omega) (by omega) (xp_n (xp_n h)) (xp_n (xp_n g))
theorem x_layers {a many s4 : Int} {hts wts row : Nat → Int} {v : Int} {w : Int × Int} (b1 : -2147483648 ≤ a ∧ a ≤ 2147483647) (hm : 0 ≤ many ∧ many ≤ 12) (em : many = row 0) (hh : zR hts 0 10) (hw : zR wts 0 30) (hC : CREL many hts wts (fun c => row (9 + c)) (fun j => row (21 + j))) (h : f_HS_layers a many hts wts = some v) (g : f_HM_layers a row s4 = some w) : v = w.1 := by
  unfold f_HS_layers at h
  unfold f_HM_layers at g
  obtain ⟨u1, e1, h⟩ := xz_d1 h
  obtain ⟨w1, d1, g⟩ := xz_d1 g
  rcases k_has b1 hm e1 with ⟨q1, q2⟩ | ⟨q1, q2⟩ <;> rcases r_isColumn b1 (by omega) d1 with ⟨p1, p2⟩ | ⟨p1, p2⟩ <;> subst q2 <;> subst p2
  · obtain ⟨C, eC⟩ : ∃ C : Nat, a = (C : Int) := ⟨a.toNat, by omega⟩
    subst eC
    replace h := xp_f (by decide +kernel) h
    replace g := xp_t (by decide +kernel) g
    obtain ⟨u2, e2, h⟩ := xz_d1 h
    cases h
    unfold f_Scales_layersOf at e2
    obtain ⟨u3, e3, e2⟩ := xz_d1 e2
    have k3 := k_high hm q1.2 e3
    subst k3
    replace e2 := xp_n e2
    have hr : row (9 + C) = hts C := hC.1 C q1.2
    have bC := hh C
    replace g := (xp_g (xp_n g)).2
    have z1 : (zi_w (9 + (C : Int))).toNat = 9 + C := by rw [zwi (by omega)]; omega
    rw [z1, hr, zwi (x := hts C) (by omega)] at g
    have mn := zi_min_f 1 (by decide) (hts C) (by omega)
    by_cases c : hts C ≤ 0
    · rw [if_pos c] at g
      have m2 : zi_min 1 (hts C) = 0 := by omega
      rw [m2] at e2
      unfold f_HM_layers_32 at g
      exact lay_eq hm hh hw q1.2 hC zfu zfu 1 0 0 _ w (by decide) (by decide) e2 g
    · rw [if_neg c] at g
      have m2 : zi_min 1 (hts C) = 1 := by omega
      rw [m2] at e2
      unfold f_HM_layers_32 at g
      exact lay_eq hm hh hw q1.2 hC zfu zfu 1 1 0 _ w (by decide) (by decide) e2 g
  · omega
  · omega
  · replace h := xp_t (by decide +kernel) h
    replace g := xp_f (by decide +kernel) g
    cases h; cases g; rfl
/-! parishes and shades -/
def PREL (pa : Int) (pl te row : Nat → Int) : Prop := (0 ≤ pa ∧ pa ≤ 6 ∧ pa = row 2) ∧ (∀ c : Nat, (c : Int) < pa → pl c = row (171 + c)) ∧ zR pl 0 11 ∧ (te 1 = row 6 ∧ 1 ≤ te 1 ∧ te 1 ≤ 9)
theorem k_hasParish {a pa v : Int} (b : -2147483648 ≤ a ∧ a ≤ 2147483647) (hc : 0 ≤ pa ∧ pa ≤ 6) (h : f_Hill_hasParish a pa = some v) : ((0 ≤ a ∧ a < pa) ∧ v = 1) ∨ ((a < 0 ∨ pa ≤ a) ∧ v = 0) := by
  unfold f_Hill_hasParish at h
  rw [zwi b, zwi (x := pa) (by omega)] at h
  by_cases c : a < 0
  · rw [if_pos c] at h; cases h; exact Or.inr ⟨Or.inl c, rfl⟩
  · rw [if_neg c] at h
    by_cases d : pa ≤ a
    · rw [if_pos d] at h; cases h; exact Or.inr ⟨Or.inr d, rfl⟩
    · rw [if_neg d] at h; cases h; exact Or.inl ⟨by omega, rfl⟩
theorem r_isParish {x v : Int} {row : Nat → Int} (hx : -2147483648 ≤ x ∧ x ≤ 2147483647) (hm : 0 ≤ row 2 ∧ row 2 ≤ 6) (h : f_HM_isParish x row = some v) : ((0 ≤ x ∧ x < row 2) ∧ v = 1) ∨ ((x < 0 ∨ row 2 ≤ x) ∧ v = 0) := by
  unfold f_HM_isParish at h
  replace h := xp_n h
  replace h := xp_n (xp_n (xp_g h).2)
  obtain ⟨v2, e2, h⟩ := xz_d1 h
  have e0 : row (zi_w 2).toNat = row 2 := rfl
  rw [zwi hx, e0, zwi (x := row 2) (by omega)] at e2
  have g2 := x_in (by omega) (by decide) (by omega) e2
  by_cases c : 0 ≤ x ∧ x ≤ row 2 - 1
  · rw [if_pos c] at g2
    subst g2
    exact Or.inl ⟨by omega, x_bool (Or.inr rfl) h⟩
  · rw [if_neg c] at g2
    subst g2
    exact Or.inr ⟨by omega, x_bool (Or.inl rfl) h⟩
/-- the shade at one parish on both sides -/
theorem shade1 {pa many v w : Int} {pl te hts H row : Nat → Int} {P : Nat} (hm : 0 ≤ many ∧ many ≤ 12) (em : many = row 0) (hh : zR hts 0 10) (hP : PREL pa pl te row) (hp : (P : Int) < pa) (hH : ∀ c : Nat, (c : Int) < many → H c = hts c) (h : f_Hill_shadeOf (P : Int) pa many pl te hts = some v) (g : f_HM_shadeAt (row (171 + P)) row H = some w) : v = w ∧ 0 ≤ v ∧ v ≤ 10 := by
  obtain ⟨⟨p0, p6, p2⟩, p3, p4, p5⟩ := hP
  unfold f_Hill_shadeOf at h
  obtain ⟨u1, e1, h⟩ := xz_d1 h
  rcases k_hasParish (by omega) ⟨p0, p6⟩ e1 with ⟨_, q2⟩ | ⟨q1, _⟩
  · subst q2
    replace h := xp_f (by decide +kernel) h
    replace h := (xp_g h).2
    replace h := (xp_g h).2
    rw [zwi (x := (P : Int)) (by omega), Int.toNat_natCast, p3 P hp] at h
    obtain ⟨u2, e2, h⟩ := xz_d1 h
    cases h
    have b4 := p4 P
    rw [p3 P hp] at b4
    have et : te (zi_w 1).toNat = te 1 := rfl
    rw [et] at e2
    unfold f_Columns_shadeAt at e2
    unfold f_HM_shadeAt at g
    exact shade_eq hm em b4 p5.2 p5.1 hh hH zfu zfu 0 0 _ _ (by decide) (by decide) e2 g
  · omega
theorem shades_eq {pa many : Int} {pl te hts H row : Nat → Int} (hm : 0 ≤ many ∧ many ≤ 12) (em : many = row 0) (hh : zR hts 0 10) (hP : PREL pa pl te row) (hH : ∀ c : Nat, (c : Int) < many → H c = hts c) : ∀ (N M k : Nat) (x v w : Int), k ≤ 6 → (0 ≤ x ∧ x ≤ 10 * (k : Int)) → f_Hill_shades_4 pa many pl te hts N x (k : Int) = some v → f_HM_allShades_4 row H M x (k : Int) = some w → v = w ∧ 0 ≤ v ∧ v ≤ 60 := by
  have hP' := hP
  obtain ⟨⟨p0, p6, p2⟩, p3, p4, p5⟩ := hP'
  intro N
  induction N with
  | zero => intro M k x v w _ _ h; exact nomatch h
  | succ N ih =>
    intro M k x v w hk hx h g
    cases M with
    | zero => exact nomatch g
    | succ M =>
      replace h : f_Hill_shades_4_b pa many pl te hts (f_Hill_shades_4 pa many pl te hts N) x (k : Int) = some v := h
      replace g : f_HM_allShades_4_b row H (f_HM_allShades_4 row H M) x (k : Int) = some w := g
      unfold f_Hill_shades_4_b at h
      unfold f_HM_allShades_4_b at g
      replace g := (xp_g g).2
      have e2 : row (zi_w 2).toNat = pa := p2.symm
      rw [e2, zwi (x := pa) (by omega), zwi (x := (k : Int)) (by omega)] at g
      rw [zwi (x := pa) (by omega), zwi (x := (k : Int)) (by omega)] at h
      by_cases e : pa ≤ (k : Int)
      · rw [if_pos e] at h g
        cases h; cases g
        exact ⟨rfl, by omega⟩
      · rw [if_neg e] at h g
        obtain ⟨u1, e1, h⟩ := xz_d1 h
        replace g := (xp_g (xp_n g)).2
        have z : (zi_w (171 + (k : Int))).toNat = 171 + k := by rw [zwi (by omega)]; omega
        rw [z] at g
        obtain ⟨w1, d1, g⟩ := xz_d1 g
        have s := shade1 hm em hh hP (by omega) hH e1 d1
        have s1 := s.1
        subst s1
        exact ih M (k + 1) _ v w (by omega) (by omega) (xp_n (xp_n h)) (xp_n (xp_n g))
theorem x_shade {a pa many s4 : Int} {pl te hts wts row hi he : Nat → Int} {v : Int} {w : Int × Int × (Nat → Int) × (Nat → Int)} (b1 : -2147483648 ≤ a ∧ a ≤ 2147483647) (hm : 0 ≤ many ∧ many ≤ 12) (em : many = row 0) (hh : zR hts 0 10) (hP : PREL pa pl te row) (hC : CREL many hts wts (fun c => row (9 + c)) (fun j => row (21 + j))) (h : f_HS_shade a pa many pl te hts = some v) (g : f_HM_shade a row s4 hi he = some w) : v = w.1 := by
  have hP' := hP
  obtain ⟨⟨p0, p6, p2⟩, p3, p4, p5⟩ := hP'
  unfold f_HS_shade at h
  unfold f_HM_shade at g
  obtain ⟨m1, m2, d1, g⟩ := xz_d2 g
  have ld := r_load d1
  have C2 : CREL many hts wts m1 m2 := CREL_load hm.2 hh hC ld.1 ld.2
  rw [zwi b1, zwi (x := -1) (by decide)] at h g
  by_cases c : a = -1
  · rw [if_neg (fun z => z c)] at h g
    obtain ⟨u1, e1, h⟩ := xz_d1 h
    obtain ⟨w1, d2, g⟩ := xz_d1 g
    unfold f_Hill_shades at e1
    unfold f_HM_allShades at d2
    have q := shades_eq hm em hh hP C2.1 zfu zfu 0 0 u1 w1 (by decide) (by decide) e1 d2
    cases h; cases g
    exact q.1
  · rw [if_pos c] at h g
    obtain ⟨u1, e1, h⟩ := xz_d1 h
    obtain ⟨w1, d2, g⟩ := xz_d1 g
    rcases k_hasParish b1 ⟨p0, p6⟩ e1 with ⟨q1, q2⟩ | ⟨q1, q2⟩ <;> rcases r_isParish b1 (by omega) d2 with ⟨o1, o2⟩ | ⟨o1, o2⟩ <;> subst q2 <;> subst o2
    · obtain ⟨P, eP⟩ : ∃ P : Nat, a = (P : Int) := ⟨a.toNat, by omega⟩
      subst eP
      obtain ⟨u2, e2, h⟩ := xz_d1 (xp_f (by decide +kernel) h)
      replace g := (xp_g (xp_n (xp_f (by decide +kernel) g))).2
      have z : (zi_w (171 + (P : Int))).toNat = 171 + P := by rw [zwi (by omega)]; omega
      rw [z] at g
      obtain ⟨w2, d3, g⟩ := xz_d1 g
      have q := shade1 hm em hh hP q1.2 C2.1 e2 d3
      cases h; cases g
      exact q.1
    · omega
    · omega
    · replace h := xp_t (by decide +kernel) h
      replace g := xp_t (by decide +kernel) g
      cases h; cases g; rfl
/-- carried there and back -/
theorem back_same {hts wts : Nat → Int} (hh : zR hts 0 10) {a b : Nat} (hab : a ≠ b) (h1 : 0 < hts a) (h2 : hts b < 10) {h1' w1' h2' w2' : Nat → Int} (e1 : h1' = zu (zu hts b (hts b + 1)) a (hts a - 1)) (e2 : w1' = zu wts (10 * b + (hts b).toNat) (TOPV hts wts a)) (e3 : h2' = zu (zu h1' a (h1' a + 1)) b (h1' b - 1)) (e4 : w2' = zu w1' (10 * a + (h1' a).toNat) (TOPV h1' w1' b)) : (∀ c, h2' c = hts c) ∧ ∀ c i : Nat, (i : Int) < hts c → w2' (10 * c + i) = wts (10 * c + i) := by
  have ba := hh a
  have bb := hh b
  have v1 : h1' a = hts a - 1 := by rw [e1, zu_eq]
  have v2 : h1' b = hts b + 1 := by rw [e1, zu_ne _ _ (Ne.symm hab), zu_eq]
  have v3 : TOPV h1' w1' b = TOPV hts wts a := by
    unfold TOPV
    rw [v2, if_neg (by omega), e2, show 10 * b + (hts b + 1 - 1).toNat = 10 * b + (hts b).toNat from by omega, zu_eq]
    rfl
  refine ⟨fun c => ?_, fun c i hi => ?_⟩
  · rw [e3]
    by_cases eb : c = b
    · subst eb; rw [zu_eq, v2]; omega
    · rw [zu_ne _ _ eb]
      by_cases ea : c = a
      · subst ea; rw [zu_eq, v1]; omega
      · rw [zu_ne _ _ ea, e1, zu_ne _ _ ea, zu_ne _ _ eb]
  · have bc := hh c
    rw [e4, v1, v3]
    by_cases ea : 10 * c + i = 10 * a + (hts a - 1).toNat
    · rw [ea, zu_eq]
      unfold TOPV
      rw [if_neg (by omega)]
    · rw [zu_ne _ _ ea, e2, zu_ne _ _ (by
        by_cases eb : c = b
        · subst eb; omega
        · omega)]
