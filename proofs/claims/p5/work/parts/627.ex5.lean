/-! A CLAUSE in the reference's row -/
def RNG (row : Nat → Int) (law s e : Nat) : Prop := ∀ k, s ≤ k → k < e → (0 ≤ rop row law k ∧ rop row law k < 30) ∧ (-1000000000 ≤ rar row law k ∧ rar row law k ≤ 1000000000) ∧ (28 ≤ rop row law k → 0 ≤ rar row law k)
def RCL (row : Nat → Int) (law q : Nat) (bars : Bool) (β : (Nat → Int) → Option Bool) (ν : (Nat → Int) → Option Int) : Prop :=
  row q = (if bars then 1 else 0) ∧
  (∃ s e : Nat, row (q + 5) = (s : Int) ∧ row (q + 6) = (e : Int) ∧ s ≤ 400 ∧ e ≤ 400 ∧ ((e ≤ s ∧ ∀ E, β E = some true) ∨ (s < e ∧ RNG row law s e ∧ ∃ d, d ≤ 100 ∧ BVal (rop row law) (rar row law) s e d β))) ∧
  (bars = false → ∃ s e : Nat, row (q + 3) = (s : Int) ∧ row (q + 4) = (e : Int) ∧ s ≤ 400 ∧ e ≤ 400 ∧ RNG row law s e ∧ ∃ d, d ≤ 100 ∧ RVal (rop row law) (rar row law) s e d ν)
def soV (bars : Bool) (β : (Nat → Int) → Option Bool) (ν : (Nat → Int) → Option Int) (E : Nat → Int) : Option Int := match bars, β E, ν E with | true, some true, _ => some 0 | false, some true, some x => some x | _, _, _ => none
theorem r_so59 {row set E : Nat → Int} {law q : Nat} {br val sum : Int} {rest : Nat → Int} {bars : Bool} {β : (Nat → Int) → Option Bool} {ν : (Nat → Int) → Option Int} {o : Int × Int × Int × Int × (Nat → Int)} (hlaw : law ≤ 4700) (hq : q ≤ 5000) (hw : ∀ j, j < 8 → set (j + 1) = E j) (hE : EOK E) (hR : RCL row law q bars β ν) (hβ : β E = some true)
    (h : f_HM_isSo_59 (law : Int) row set (q : Int) br val sum rest = some o) : (bars = true ∧ o.1 = 1) ∨ (bars = false ∧ ((ν E = none ∧ o.1 = 0) ∨ ∃ x, ν E = some x ∧ o.1 = 1 ∧ o.2.2.2.1 = x)) := by
  unfold f_HM_isSo_59 at h
  replace h := (xp_g h).2
  rw [zwi (x := (q : Int)) (by omega), Int.toNat_natCast, hR.1] at h
  cases bars with
  | true =>
    rw [if_pos (by decide +kernel)] at h
    cases h
    exact Or.inl ⟨rfl, rfl⟩
  | false =>
    rw [if_neg (by decide +kernel)] at h
    obtain ⟨s, e, h3, h4, hs, he, hr, d, hd, hv⟩ := hR.2.2 rfl
    replace h := (xp_g (xp_n h)).2
    replace h := (xp_g (xp_n h)).2
    rw [show (zi_w ((q : Int) + 3)).toNat = q + 3 from by rw [zwi (by omega)]; omega, show (zi_w ((q : Int) + 4)).toNat = q + 4 from by rw [zwi (by omega)]; omega, h3, h4] at h
    obtain ⟨v6, v7, a8, e1, h⟩ := xz_d3 h
    have g := RR_val hv hd hlaw he hw hE hr e1
    refine Or.inr ⟨rfl, ?_⟩
    cases hx : ν E with
    | none =>
      rw [hx] at g
      have g' : v6 = 1 := g
      subst g'
      rw [if_pos (by decide +kernel)] at h
      cases h
      exact Or.inl ⟨rfl, rfl⟩
    | some x =>
      rw [hx] at g
      have g1 : v6 = 0 := g.1
      have g2 : v7 = x := g.2
      subst g1
      rw [if_neg (by decide +kernel)] at h
      cases h
      exact Or.inr ⟨x, rfl, rfl, g2⟩
theorem r_so {row set E : Nat → Int} {law q : Nat} {br val sum : Int} {rest : Nat → Int} {bars : Bool} {β : (Nat → Int) → Option Bool} {ν : (Nat → Int) → Option Int} {o : Int × Int × Int × Int × (Nat → Int)} (hlaw : law ≤ 4700) (hq : q ≤ 5000) (hw : ∀ j, j < 8 → set (j + 1) = E j) (hE : EOK E) (hR : RCL row law q bars β ν)
    (h : f_HM_isSo (q : Int) (law : Int) row set br val sum rest = some o) : (β E = some true ∧ ((bars = true ∧ o.1 = 1) ∨ (bars = false ∧ ((ν E = none ∧ o.1 = 0) ∨ ∃ x, ν E = some x ∧ o.1 = 1 ∧ o.2.2.2.1 = x)))) ∨ (β E ≠ some true ∧ o.1 = 0) := by
  obtain ⟨s, e, h5, h6, hs, he, hc⟩ := hR.2.1
  unfold f_HM_isSo at h
  replace h := (xp_g (xp_n h)).2
  replace h := (xp_g (xp_n h)).2
  have e5 : (zi_w ((q : Int) + 5)).toNat = q + 5 := by rw [zwi (by omega)]; omega
  have e6 : (zi_w ((q : Int) + 6)).toNat = q + 6 := by rw [zwi (by omega)]; omega
  rw [e5, e6, h5, h6, zwi (x := (s : Int)) (by omega), zwi (x := (e : Int)) (by omega)] at h
  by_cases c : (e : Int) ≤ (s : Int)
  · rw [if_pos c] at h
    have hb : β E = some true := by
      rcases hc with hc | hc
      · exact hc.2 E
      · have := hc.1; omega
    exact Or.inl ⟨hb, r_so59 hlaw hq hw hE hR hb h⟩
  · rw [if_neg c] at h
    replace h := (xp_g (xp_n h)).2
    replace h := (xp_g (xp_n h)).2
    rw [e5, e6, h5, h6] at h
    rcases hc with hc | ⟨_, hr, d, hd, hv⟩
    · have := hc.1; omega
    obtain ⟨v9, v10, a11, e1, h⟩ := xz_d3 h
    have g := RR_val hv hd hlaw he hw hE hr e1
    dsimp only at g
    cases hx : β E with
    | none =>
      rw [hx] at g
      have g' : v9 = 1 := g
      subst g'
      rw [if_pos (by decide +kernel)] at h
      cases h
      exact Or.inr ⟨fun z => (by cases z), rfl⟩
    | some b =>
      rw [hx] at g
      have g1 : v9 = 0 := g.1
      have g2 : v10 = bv b := g.2
      subst g1
      subst g2
      rw [if_neg (by decide +kernel)] at h
      cases b with
      | false =>
        rw [if_neg (by decide +kernel)] at h
        cases h
        exact Or.inr ⟨fun z => (by cases z), rfl⟩
      | true =>
        rw [if_pos (by decide +kernel)] at h
        exact Or.inl ⟨rfl, r_so59 hlaw hq hw hE hR hx h⟩
/-- what lies in the row from clause i on: the clauses' list -/
def RLL (row : Nat → Int) (law : Nat) : List CSE → Nat → Prop
  | [] => fun _ => True
  | c :: l => fun i => RCL row law (law + 2 + 8 * i) c.1 c.2.1 c.2.2 ∧ RLL row law l (i + 1)
/-- the reference's way through the clauses: none, where one bars -/
def rwS (E : Nat → Int) : List CSE → Int → Option Int
  | [] => fun x => some x
  | c :: l => fun x => match c.1, c.2.1 E, c.2.2 E with
    | true, some true, _ => none
    | false, some true, some y => rwS E l y
    | _, _, _ => rwS E l x
theorem rwS_c {E : Nat → Int} {c : CSE} {l : List CSE} {x : Int} (h : c.2.1 E ≠ some true) : rwS E (c :: l) x = rwS E l x := by
  obtain ⟨bars, β, ν⟩ := c
  have h' : β E ≠ some true := h
  show (match (generalizing := false) bars, β E, ν E with | true, some true, _ => none | false, some true, some y => rwS E l y | _, _, _ => rwS E l x) = rwS E l x
  cases hz : β E with
  | none => cases bars <;> rfl
  | some b =>
    cases b with
    | true => exact absurd hz h'
    | false => cases bars <;> rfl
theorem r_239 {row set rest : Nat → Int} {x law br val sum : Int} {o : Int × Int × Int × Int × Int × (Nat → Int) × (Nat → Int)} (hx : -1000000000 ≤ x ∧ x ≤ 1000000000) (h : f_HM_tiring_239 row x law br val sum set rest = some o) : o.1 = max 0 (min 99 x) := by
  unfold f_HM_tiring_239 at h
  rw [zwl (x := x) (by omega), zwl (x := 0) (by decide), zwl (x := 99) (by decide)] at h
  by_cases c : 0 ≤ x
  · rw [if_pos c] at h
    by_cases d : x ≤ 99
    · rw [if_pos d] at h; cases h; show x = _; omega
    · rw [if_neg d] at h; cases h; show (99 : Int) = _; omega
  · rw [if_neg c] at h; cases h; show (0 : Int) = _; omega
theorem r_tir {row set E : Nat → Int} {law : Nat} {o : Int × Int × Int × Int × Int × (Nat → Int) × (Nat → Int)} (hlaw : law ≤ 4700) (hw : ∀ j, j < 8 → set (j + 1) = E j) (hE : EOK E) : ∀ (l : List CSE) (i : Nat) (x br val sum : Int) (rest : Nat → Int), row (law + 1) = ((l.length + i : Nat) : Int) → l.length + i ≤ 12 → RLL row law l i → (-1000000000 ≤ x ∧ x ≤ 1000000000) → (∃ N, f_HM_tiring_175 row N x (i : Int) (law : Int) br val sum set rest = some o) → match rwS E l x with | none => o.1 = -1 | some y => o.1 = max 0 (min 99 y) := by
  intro l
  induction l with
  | nil =>
    intro i x br val sum rest hl hi hR hx h
    obtain ⟨N, h⟩ := h
    cases N with
    | zero => exact nomatch h
    | succ N =>
      replace h : f_HM_tiring_175_b row (f_HM_tiring_175 row N) x (i : Int) (law : Int) br val sum set rest = some o := h
      unfold f_HM_tiring_175_b at h
      replace h := (xp_g (xp_n h)).2
      simp only [List.length_nil, Nat.zero_add] at hl hi
      rw [show (zi_w ((law : Int) + 1)).toNat = law + 1 from by rw [zwi (by omega)]; omega, hl, if_pos (Int.le_refl _)] at h
      exact r_239 hx h
  | cons c l ih =>
    intro i x br val sum rest hl hi hR hx h
    obtain ⟨N, h⟩ := h
    cases N with
    | zero => exact nomatch h
    | succ N =>
      replace h : f_HM_tiring_175_b row (f_HM_tiring_175 row N) x (i : Int) (law : Int) br val sum set rest = some o := h
      unfold f_HM_tiring_175_b at h
      replace h := (xp_g (xp_n h)).2
      simp only [List.length_cons] at hl hi
      rw [show (zi_w ((law : Int) + 1)).toNat = law + 1 from by rw [zwi (by omega)]; omega, hl, zwi (x := ((l.length + 1 + i : Nat) : Int)) (by omega), zwi (x := (i : Int)) (by omega), if_neg (by omega)] at h
      replace h := xp_n (xp_n (xp_n h))
      have eq : (law : Int) + 2 + 8 * (i : Int) = ((law + 2 + 8 * i : Nat) : Int) := by omega
      rw [eq] at h
      obtain ⟨v6, v7, v8, v9, a10, e1, h⟩ := xz_d5 h
      have g := r_so hlaw (by omega) hw hE hR.1 e1
      have hR2 : RLL row law l (i + 1) := hR.2
      have nx : ∀ y : Int, (-1000000000 ≤ y ∧ y ≤ 1000000000) → f_HM_tiring_233 row (f_HM_tiring_175 row N) y (i : Int) (law : Int) v7 v8 v9 set a10 = some o → match rwS E l y with | none => o.1 = -1 | some z => o.1 = max 0 (min 99 z) := fun y hy hh => by
        unfold f_HM_tiring_233 at hh
        exact ih (i + 1) y v7 v8 v9 a10 (by rw [hl]; omega) (by omega) hR2 hy ⟨N, xp_n hh⟩
      obtain ⟨bars, β, ν⟩ := c
      dsimp only at g
      rcases g with ⟨gb, ⟨ga, g1⟩ | ⟨ga, ⟨gx, g1⟩ | ⟨y, gx, g1, g2⟩⟩⟩ | ⟨gb, g1⟩
      · subst ga
        have g1' : v6 = 1 := g1
        subst g1'
        rw [if_neg (by decide +kernel)] at h
        replace h := (xp_g h).2
        have e11 : row (law + 2 + 8 * i) = 1 := hR.1.1
        rw [zwi (x := ((law + 2 + 8 * i : Nat) : Int)) (by omega), Int.toNat_natCast, e11] at h
        rw [if_neg (by decide +kernel)] at h
        cases h
        unfold rwS
        dsimp only
        rw [gb]
      · subst ga
        have g1' : v6 = 0 := g1
        subst g1'
        rw [if_pos (by decide +kernel)] at h
        unfold rwS
        dsimp only
        rw [gb, gx]
        exact nx x hx h
      · subst ga
        have g1' : v6 = 1 := g1
        have g2' : v9 = y := g2
        subst g1'
        subst g2'
        rw [if_neg (by decide +kernel)] at h
        replace h := (xp_g h).2
        have e11 : row (law + 2 + 8 * i) = 0 := hR.1.1
        rw [zwi (x := ((law + 2 + 8 * i : Nat) : Int)) (by omega), Int.toNat_natCast, e11] at h
        rw [if_pos (by decide +kernel)] at h
        unfold rwS
        dsimp only
        rw [gb, gx]
        refine nx _ ?_ h
        obtain ⟨s, e, q3, q4, qs, qe, qr, d, qd, qv⟩ := hR.1.2.2 rfl
        exact (qv.2 E hE).1 [_] (by show (ν E).map (fun x => [x]) = some [_]; rw [gx]; rfl) _ List.mem_cons_self
      · have g1' : v6 = 0 := g1
        subst g1'
        rw [if_pos (by decide +kernel)] at h
        rw [rwS_c (c := (bars, β, ν)) gb]
        exact nx x hx h
