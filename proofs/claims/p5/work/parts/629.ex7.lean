/-! A LAW of both -/
def LW2 (ord ordered row : Nat → Int) (k : Nat) : Prop := ∃ l : List CSE, l.length ≤ 12 ∧ (0 ≤ ordered k ∧ ordered k ≤ 424) ∧ CLL ord (424 * k) (ordered k).toNat l 0 ∧ row (181 + 900 * k) = (l.length : Int) ∧ RLL row (180 + 900 * k) l 0
theorem x_size {x w : Int} (hx : -1000 ≤ x ∧ x ≤ 1000) (h : f_HM_size x = some w) : w = (if x < 0 then -x else x) := by
  unfold f_HM_size at h
  rw [zwi (x := x) (by omega)] at h
  by_cases c : x < 0
  · first
    | (rw [if_pos c] at h ⊢; first | (cases h; rfl) | (replace h := xp_n h; cases h; rfl))
    | (rw [if_neg (by omega)] at h; rw [if_pos c]; first | (cases h; rfl) | (replace h := xp_n h; cases h; rfl))
  · first
    | (rw [if_neg c] at h ⊢; first | (cases h; rfl) | (replace h := xp_n h; cases h; rfl))
    | (rw [if_pos (by omega)] at h; rw [if_neg c]; first | (cases h; rfl) | (replace h := xp_n h; cases h; rfl))
theorem x_abs {x : Int} (hx : -1000 ≤ x ∧ x ≤ 1000) : zi_abs x = (if x < 0 then -x else x) := by
  unfold zi_abs
  rw [zwi (x := x) (by omega)]
theorem zu8 {f : Nat → Int} {a0 a1 a2 a3 a4 a5 a6 a7 : Int} : ∀ j, j < 8 → zu (zu (zu (zu (zu (zu (zu (zu f 0 a0) 1 a1) 2 a2) 3 a3) 4 a4) 5 a5) 6 a6) 7 a7 j = ([a0, a1, a2, a3, a4, a5, a6, a7] : List Int).getD j 0 := by
  intro j hj
  have hj8 : j = 0 ∨ j = 1 ∨ j = 2 ∨ j = 3 ∨ j = 4 ∨ j = 5 ∨ j = 6 ∨ j = 7 := by omega
  rcases hj8 with e | e | e | e | e | e | e | e <;> subst e <;> simp [zu]
theorem zu9 {f : Nat → Int} {a0 a1 a2 a3 a4 a5 a6 a7 : Int} : ∀ j, j < 8 → zu (zu (zu (zu (zu (zu (zu (zu f 1 a0) 2 a1) 3 a2) 4 a3) 5 a4) 6 a5) 7 a6) 8 a7 (j + 1) = ([a0, a1, a2, a3, a4, a5, a6, a7] : List Int).getD j 0 := by
  intro j hj
  have hj8 : j = 0 ∨ j = 1 ∨ j = 2 ∨ j = 3 ∨ j = 4 ∨ j = 5 ∨ j = 6 ∨ j = 7 := by omega
  rcases hj8 with e | e | e | e | e | e | e | e <;> subst e <;> simp [zu]
theorem EOK_8 {a0 a1 a2 a3 a4 a5 a6 a7 : Int} (h : (0 ≤ a0 ∧ a0 ≤ 100) ∧ (0 ≤ a1 ∧ a1 ≤ 100) ∧ (0 ≤ a2 ∧ a2 ≤ 100) ∧ (0 ≤ a3 ∧ a3 ≤ 100) ∧ (0 ≤ a4 ∧ a4 ≤ 100) ∧ (0 ≤ a5 ∧ a5 ≤ 100) ∧ (0 ≤ a6 ∧ a6 ≤ 100) ∧ (0 ≤ a7 ∧ a7 ≤ 100)) : EOK (fun j => ([a0, a1, a2, a3, a4, a5, a6, a7] : List Int).getD j 0) := by
  intro j hj
  have hj8 : j = 0 ∨ j = 1 ∨ j = 2 ∨ j = 3 ∨ j = 4 ∨ j = 5 ∨ j = 6 ∨ j = 7 := by omega
  obtain ⟨h0, h1, h2, h3, h4, h5, h6, h7⟩ := h
  rcases hj8 with e | e | e | e | e | e | e | e <;> subst e
  · exact h0
  · exact h1
  · exact h2
  · exact h3
  · exact h4
  · exact h5
  · exact h6
  · exact h7
theorem lw_fin {E : Nat → Int} {l : List CSE} {d u1 w1 ti ba : Int} (hd : 0 ≤ d ∧ d ≤ 99) (h1 : ti = (lwS E l d 0).1 ∧ ba = (lwS E l d 0).2) (hu : u1 = if ba = 0 then ti else -1) (hw : match rwS E l d with | none => w1 = -1 | some y => w1 = max 0 (min 99 y)) : u1 = w1 := by
  have g := lwS_rwS (E := E) l d d (by omega)
  cases hr : rwS E l d with
  | none =>
    rw [hr] at g hw
    have g' : (lwS E l d 0).2 = 1 := g
    have hw' : w1 = -1 := hw
    rw [hu, hw', h1.2, g', if_neg (by decide)]
  | some y =>
    rw [hr] at g hw
    have g' : (lwS E l d 0).2 = 0 ∧ (lwS E l d 0).1 = max 0 (min 99 y) := g
    have hw' : w1 = max 0 (min 99 y) := hw
    rw [hu, hw', h1.2, g'.1, if_pos rfl, h1.1, g'.2]
theorem k_182 {ch la fo : Int} {st ex te orr od : Nat → Int} {pi ti ba : Int} {wo pl : Nat → Int} {u : Int × Int × Int × Int × (Nat → Int) × (Nat → Int)} (hb : ba = 0 ∨ ba = 1) (h : f_Judge_effort_182 ch la fo st ex te orr od pi ti ba wo pl = some u) : u.1 = if ba = 0 then ti else -1 := by
  unfold f_Judge_effort_182 at h
  rcases hb with e | e <;> subst e
  · replace h := xp_t (by decide +kernel) h
    cases h
    rfl
  · replace h := xp_f (by decide +kernel) h
    cases h
    rfl
theorem lwS_b {E : Nat → Int} : ∀ (l : List CSE) (til bar : Int), (bar = 0 ∨ bar = 1) → ((lwS E l til bar).2 = 0 ∨ (lwS E l til bar).2 = 1) := by
  intro l
  induction l with
  | nil => intro til bar h; exact h
  | cons c l ih => intro til bar h; exact ih _ _ (clB_r h)
theorem eff_tir {x1 x2 x3 x4 x5 x6 ch la fo : Int} {st ex te ord od wo pl row set rest : Nat → Int} {pi ti ba lw br va su : Int} {u : Int × Int × Int × Int × (Nat → Int) × (Nat → Int)} {w : Int × Int × Int × Int × Int × (Nat → Int) × (Nat → Int)}
    (hx : (0 ≤ x1 ∧ x1 < ch ∧ ch ≤ 6) ∧ (0 ≤ x2 ∧ x2 ≤ 11) ∧ (0 ≤ x3 ∧ x3 ≤ 11) ∧ (0 ≤ x4 ∧ x4 ≤ 30) ∧ (0 ≤ x5 ∧ x5 ≤ 10) ∧ (0 ≤ x6 ∧ x6 ≤ 10)) (hs : st x1.toNat = row (153 + 3 * x1.toNat) ∧ 0 ≤ st x1.toNat ∧ st x1.toNat ≤ 60) (he : ex x1.toNat = row (154 + 3 * x1.toNat) ∧ 0 ≤ ex x1.toNat ∧ ex x1.toNat ≤ 1) (ht : te 0 = row 5 ∧ 0 ≤ te 0 ∧ te 0 ≤ 99)
    (hf : fo = row 4 ∧ -1 ≤ fo ∧ fo < la ∧ la ≤ 6) (hl : 0 ≤ fo → LW2 ord od row fo.toNat)
    (h1 : f_Judge_effort x1 x2 x3 x4 x5 x6 ch la fo st ex te ord od pi ti ba wo pl = some u) (h2 : f_HM_tiring x1 x4 x2 x3 x5 x6 row lw br va su set rest = some w) : u.1 = w.1 := by
  unfold f_Judge_effort at h1
  unfold f_HM_tiring at h2
  rw [zwi (x := x5) (by omega), zwi (x := x6) (by omega), zwi (x := x2) (by omega), zwi (x := x3) (by omega), zwi (x := 1) (by decide), zwi (x := 10) (by decide)] at h1
  replace h2 := (xp_g (xp_n (xp_n h2))).2
  have ei : (zi_w (153 + 3 * x1)).toNat = 153 + 3 * x1.toNat := by rw [zwi (by omega)]; omega
  have ej : (zi_w (153 + 3 * x1 + 1)).toNat = 154 + 3 * x1.toNat := by rw [zwi (by omega)]; omega
  rw [ei, ← hs.1, zwi (x := x5) (by omega), zwi (x := x6) (by omega), zwi (x := x2) (by omega), zwi (x := x3) (by omega), zwi (x := 9) (by decide)] at h2
  by_cases c5 : x5 = 0
  · rw [if_pos (by omega)] at h1
    rw [if_pos c5] at h2
    cases h1; cases h2; rfl
  rw [if_neg (by omega)] at h1
  rw [if_neg c5] at h2
  by_cases c6 : 10 ≤ x6
  · rw [if_pos c6] at h1
    rw [if_pos (by omega)] at h2
    cases h1; cases h2; rfl
  rw [if_neg c6] at h1
  rw [if_neg (by omega)] at h2
  by_cases c2 : x2 = x3
  · rw [if_pos c2] at h1 h2
    cases h1; cases h2; rfl
  rw [if_neg c2] at h1 h2
  obtain ⟨v1, e1, h1⟩ := xz_d1 h1
  replace h2 := (xp_g (xp_n (xp_n (xp_n h2)))).2
  rw [ej, ← he.1, zwi (x := ex x1.toNat) (by omega), zwi (x := 1) (by decide), zwi (x := x4) (by omega), zwi (x := st x1.toNat) (by omega)] at h2
  have able : (ex x1.toNat ≠ 0 ∧ v1 = 0) ∨ (ex x1.toNat = 0 ∧ st x1.toNat < x4 ∧ v1 = 0) ∨ (ex x1.toNat = 0 ∧ x4 ≤ st x1.toNat ∧ v1 = 1) := by
    unfold f_Hill_isAble at e1
    obtain ⟨v2, e2, e1⟩ := xz_d1 e1
    unfold f_Hill_hasChild at e2
    rw [zwi (x := x1) (by omega), zwi (x := ch) (by omega), if_neg (by omega)] at e2
    first | rw [if_neg (by omega)] at e2 | rw [if_pos (by omega)] at e2
    cases e2
    replace e1 := xp_f (by decide +kernel) e1
    replace e1 := (xp_g e1).2
    rw [zwi (x := x1) (by omega), zwi (x := ex x1.toNat) (by omega)] at e1
    by_cases c : ex x1.toNat = 0
    · rw [if_neg (fun z => z c)] at e1
      replace e1 := (xp_g e1).2
      rw [zwi (x := x1) (by omega), zwi (x := st x1.toNat) (by omega), zwi (x := x4) (by omega)] at e1
      by_cases c4 : st x1.toNat < x4
      · rw [if_pos c4] at e1; cases e1; exact Or.inr (Or.inl ⟨c, c4, rfl⟩)
      · rw [if_neg c4] at e1; cases e1; exact Or.inr (Or.inr ⟨c, by omega, rfl⟩)
    · rw [if_pos c] at e1; cases e1; exact Or.inl ⟨c, rfl⟩
  rcases able with ⟨a1, a2⟩ | ⟨a1, a3, a2⟩ | ⟨a1, a3, a2⟩ <;> subst a2
  · replace h1 := xp_f (by decide +kernel) h1
    rw [if_pos (by omega)] at h2
    cases h1; cases h2; rfl
  · replace h1 := xp_f (by decide +kernel) h1
    rw [if_neg (by omega), if_neg (by omega)] at h2
    cases h1; cases h2; rfl
  replace h1 := xp_n (xp_n (xp_t (by decide +kernel) h1))
  rw [if_neg (by omega), if_pos a3] at h2
  obtain ⟨v9, e9, h2⟩ := xz_d1 (xp_n h2)
  have g9 := x_size (by omega) e9
  replace h2 := (xp_g (xp_n h2)).2
  have e4 : row (zi_w 4).toNat = fo := by rw [hf.1]; rfl
  rw [x_abs (by omega), zwi (x := fo) (by omega)] at h1
  rw [e4, zwi (x := fo) (by omega), zwi (x := -1) (by decide)] at h2
  have hd : 0 ≤ v9 ∧ v9 ≤ 99 := by rw [g9]; split <;> omega
  rw [← g9] at h1
  by_cases cf : fo = -1
  · rw [if_pos (by omega)] at h1
    rw [if_pos cf] at h2
    have r1 := k_182 (Or.inl rfl) h1
    rw [zwi (x := v9) (by omega)] at h2
    have r2 := r_239 (by omega) h2
    rw [r1, r2, if_pos rfl]
    omega
  · rw [if_neg (by omega), zwi (x := la) (by omega), if_neg (by omega)] at h1
    rw [if_neg cf] at h2
    obtain ⟨l, hl12, hod, hcl, hrn, hrl⟩ := hl (by omega)
    replace h1 := (xp_s h1).2
    replace h1 := (xp_g h1).2
    replace h1 := (xp_s (xp_s (xp_s (xp_s (xp_s (xp_s h1).2).2).2).2).2).2
    replace h1 := (xp_g h1).2
    replace h1 := xp_n (xp_s h1).2
    replace h1 := (xp_g h1).2
    obtain ⟨v16, v17, v18, a19, e16, h1⟩ := xz_d4 h1
    rw [zwi (x := x1) (by omega), zwi (x := fo) (by omega)] at e16
    have E8 : EOK (fun j => ([x1, st x1.toNat, x4, x2, x3, x5, x6, te 0] : List Int).getD j 0) := EOK_8 ⟨by omega, by omega, by omega, by omega, by omega, by omega, by omega, by omega⟩
    have eb : fo * 424 = ((424 * fo.toNat : Nat) : Int) := by omega
    have eo : od fo.toNat = (((od fo.toNat).toNat : Nat) : Int) := by omega
    rw [eb, eo] at e16
    have hh := hear_law (base := 424 * fo.toNat) (n := (od fo.toNat).toNat) (l := l) (by omega) (by omega) (E := fun j => ([x1, st x1.toNat, x4, x2, x3, x5, x6, te 0] : List Int).getD j 0) (fun j hj => zu8 j hj) E8 hcl (Or.inl rfl) e16
    replace h2 := (xp_g h2).2
    replace h2 := xp_n (xp_n (xp_n h2))
    replace h2 := (xp_s (xp_n (xp_s (xp_n (xp_s (xp_n (xp_s (xp_n (xp_s (xp_n (xp_s (xp_n (xp_s h2).2)).2)).2)).2)).2)).2)).2
    replace h2 := xp_n (xp_g h2).2
    replace h2 := (xp_s h2).2
    have e5 : row (zi_w 5).toNat = te 0 := by rw [ht.1]; rfl
    have el : 180 + 900 * fo = ((180 + 900 * fo.toNat : Nat) : Int) := by omega
    rw [e5, e4, el, zwi (x := v9) (by omega), zwi (x := x1) (by omega), zwi (x := te 0) (by omega)] at h2
    have hr := r_tir (law := 180 + 900 * fo.toNat) (E := fun j => ([x1, st x1.toNat, x4, x2, x3, x5, x6, te 0] : List Int).getD j 0) (by omega) (fun j hj => zu9 j hj) E8 l 0 v9 br va su rest (by rw [show 180 + 900 * fo.toNat + 1 = 181 + 900 * fo.toNat from by omega]; exact hrn) (by omega) hrl (by omega) ⟨zfu, h2⟩
    dsimp only at hh
    have hb18 : v18 = 0 ∨ v18 = 1 := by rw [hh.2]; exact lwS_b l _ _ (Or.inl rfl)
    have r1 := k_182 hb18 h1
    exact lw_fin hd hh r1 hr
