/-! THE REFERENCE'S SEARCH -/
theorem CNQ_no {ch la fo : Int} {st ex te ord od : Nat → Int} {row : Nat → Int} {a b w h l : Int} (hF : FOK ch la fo st ex te ord od row) (hx : (0 ≤ a ∧ a ≤ 11) ∧ (0 ≤ b ∧ b ≤ 11) ∧ (0 ≤ w ∧ w ≤ 30) ∧ (0 ≤ h ∧ h ≤ 10) ∧ (0 ≤ l ∧ l ≤ 10)) (hc : CNQ ch la fo st ex te ord od a b w h l) : h ≠ 0 ∧ l ≤ 9 ∧ a ≠ b := by
  obtain ⟨k, k1, k2⟩ := hc
  exact (EFV_both (k := (k : Int)) hF ⟨⟨by omega, k1⟩, hx⟩).2.2.2 k2
theorem r_car14 {pa many ch la fo : Int} {st ex te ord od pl : Nat → Int} {row hi he : Nat → Int} {a b : Nat} {w : Int × Int × Int × Int × Int × (Nat → Int) × (Nat → Int)} (hF : FOK ch la fo st ex te ord od row) (em : many = row 0) (hm : 0 ≤ many ∧ many ≤ 12) (ha : a < 4) (hb : b < 4) (hh : zR hi 0 10) (hw : zR he 0 30) : ∀ (N k : Nat) (can : Int) (lw br va su : Int) (set rest : Nat → Int), (k : Int) ≤ ch → ((can = 0 ∧ ∀ j : Nat, j < k → EFV ch la fo st ex te ord od (j : Int) (a : Int) (b : Int) (TOPV hi he a) (hi a) (hi b) = -1) ∨ (can = 1 ∧ CANX many ch la fo st ex te ord od hi he a b)) → f_HM_isCarried_14 row hi he N (a : Int) (b : Int) can (k : Int) lw br va su set rest = some w → (w.1 = 1 ∧ CANX many ch la fo st ex te ord od hi he a b) ∨ (w.1 = 0 ∧ ¬ CANX many ch la fo st ex te ord od hi he a b) := by
  have hc : 0 ≤ ch ∧ ch ≤ 6 := ⟨hF.1.1.1, hF.1.1.2.1⟩
  have ec : row (zi_w 1).toNat = ch := hF.1.1.2.2.symm
  have qa := hh a
  have qb := hh b
  have tr := TOPV_r (h := hi) hw a
  have fin : ∀ {can : Int} {o : Int × Int × Int × Int × Int × (Nat → Int) × (Nat → Int)} (lw br va su : Int) (set rest : Nat → Int), (can = 0 ∨ can = 1) → (if ¬ (zi_w can = 0 ∨ zi_w can = 1) then none else some (can, lw, br, va, su, set, rest)) = some o → o.1 = can := fun lw br va su set rest h e => by
    rcases h with h | h <;> subst h
    · replace e := xp_f (by decide +kernel) e; cases e; rfl
    · replace e := xp_f (by decide +kernel) e; cases e; rfl
  intro N
  induction N with
  | zero => intro k can lw br va su set rest _ _ h; exact nomatch h
  | succ N ih =>
    intro k can lw br va su set rest hk hI h
    replace h : f_HM_isCarried_14_b row hi he (f_HM_isCarried_14 row hi he N) (a : Int) (b : Int) can (k : Int) lw br va su set rest = some w := h
    unfold f_HM_isCarried_14_b at h
    have c01 : can = 0 ∨ can = 1 := by rcases hI with q | q; exact Or.inl q.1; exact Or.inr q.1
    replace h := (xp_g h).2
    rw [ec, zwi (x := ch) (by omega), zwi (x := (k : Int)) (by omega)] at h
    by_cases c : ch ≤ (k : Int)
    · rw [if_pos c] at h
      have e := fin _ _ _ _ _ _ c01 h
      rcases hI with ⟨q1, q2⟩ | ⟨q1, q2⟩
      · exact Or.inr ⟨e.trans q1, fun ⟨_, _, _, _, _, j, j1, j2⟩ => j2 (q2 j (by omega))⟩
      · exact Or.inl ⟨e.trans q1, q2⟩
    rw [if_neg c] at h
    obtain ⟨v2, d2, h⟩ := xz_d1 h
    have g2 := r_columns d2
    rw [← em] at g2
    subst g2
    rw [zwi (x := v2) (by omega), zwi (x := (a : Int)) (by omega)] at h
    by_cases c2 : v2 ≤ (a : Int)
    · rw [if_pos c2] at h
      have e := fin _ _ _ _ _ _ c01 h
      rcases hI with ⟨q1, q2⟩ | ⟨q1, q2⟩
      · exact Or.inr ⟨e.trans q1, fun z => by have := z.1; omega⟩
      · exact Or.inl ⟨e.trans q1, q2⟩
    rw [if_neg c2] at h
    obtain ⟨v3, d3, h⟩ := xz_d1 h
    have g3 := r_columns d3
    rw [← em] at g3
    subst g3
    rw [zwi (x := v3) (by omega), zwi (x := (b : Int)) (by omega)] at h
    by_cases c3 : v3 ≤ (b : Int)
    · rw [if_pos c3] at h
      have e := fin _ _ _ _ _ _ c01 h
      rcases hI with ⟨q1, q2⟩ | ⟨q1, q2⟩
      · exact Or.inr ⟨e.trans q1, fun z => by have := z.2.1; omega⟩
      · exact Or.inl ⟨e.trans q1, q2⟩
    rw [if_neg c3] at h
    rcases hI with ⟨q1, q2⟩ | ⟨q1, q2⟩
    · subst q1
      replace h := xp_f (by decide +kernel) h
      obtain ⟨v4, v5, v6, v7, v8, a9, a10, d4, h⟩ := xz_d7 h
      unfold f_HM_carrying at d4
      obtain ⟨w1, e1, d4⟩ := xz_d1 d4
      have p1 := r_top (by omega) qa e1
      subst p1
      replace d4 := (xp_g (xp_g d4).2).2
      rw [zwi (x := (a : Int)) (by omega), zwi (x := (b : Int)) (by omega), Int.toNat_natCast, Int.toNat_natCast] at d4
      obtain ⟨w4, w5, w6, w7, w8, b9, b10, e4, d4⟩ := xz_d7 d4
      cases d4
      have ev := EFV_both (k := (k : Int)) (a := (a : Int)) (b := (b : Int)) hF ⟨⟨by omega, by omega⟩, ⟨by omega, by omega⟩, ⟨by omega, by omega⟩, tr, qa, qb⟩
      have q4 : v4 = _ := ev.2.1 _ _ _ _ _ _ _ e4
      rw [zwi (x := v4) (by omega), show zi_w (-1) = -1 from by decide +kernel] at h
      by_cases c4 : v4 = -1
      · rw [if_pos c4] at h
        unfold f_HM_isCarried_63 at h
        refine ih (k + 1) _ _ _ _ _ _ _ (by omega) (Or.inl ⟨rfl, fun j hj => ?_⟩) (xp_n h)
        by_cases e : j = k
        · subst e; omega
        · exact q2 j (by omega)
      · rw [if_neg c4] at h
        unfold f_HM_isCarried_58 f_HM_isCarried_63 at h
        have n4 := ev.2.2.2 (by omega)
        exact ih (k + 1) _ _ _ _ _ _ _ (by omega) (Or.inr ⟨rfl, by omega, by omega, by omega, by omega, n4.2.1, k, by omega, by omega⟩) (xp_n h)
    · subst q1
      replace h := xp_t (by decide +kernel) h
      unfold f_HM_isCarried_58 f_HM_isCarried_63 at h
      exact ih (k + 1) _ _ _ _ _ _ _ (by omega) (Or.inr ⟨rfl, q2⟩) (xp_n h)
theorem r_carried {pa many ch la fo : Int} {st ex te ord od pl : Nat → Int} {row hi he : Nat → Int} {m : Nat} {w : Int × Int × Int × Int × Int × (Nat → Int) × (Nat → Int)} {lw br va su : Int} {set rest : Nat → Int} (hF : FOK ch la fo st ex te ord od row) (em : many = row 0) (hm : 0 ≤ many ∧ many ≤ 12) (h16 : m < 16) (hh : zR hi 0 10) (hw : zR he 0 30) (h : f_HM_isCarried (m : Int) row hi he lw br va su set rest = some w) : (w.1 = 1 ∧ CANX many ch la fo st ex te ord od hi he (m / 4) (m % 4)) ∨ (w.1 = 0 ∧ ¬ CANX many ch la fo st ex te ord od hi he (m / 4) (m % 4)) := by
  unfold f_HM_isCarried at h
  replace h := xp_n (xp_gd h).2
  replace h := xp_n (xp_gd h).2
  rw [zi_div_n (by omega) (by decide), zi_rem_n (by omega) (by decide), show (m : Int) / 4 = ((m / 4 : Nat) : Int) from by omega, show (m : Int) % 4 = ((m % 4 : Nat) : Int) from by omega] at h
  exact r_car14 (pa := pa) (pl := pl) hF em hm (by omega) (by omega) hh hw zfu 0 0 _ _ _ _ _ _ hF.1.1.1 (Or.inl ⟨rfl, fun j hj => absurd hj (by omega)⟩) h
/-- what the next move is, from the m-th on -/
def NMR (many ch la fo : Int) (st ex te ord od hi he : Nat → Int) (m : Nat) (bd td : Int) (x : Int) : Prop := (∃ y : Nat, y < 16 ∧ x = (y : Int) ∧ m ≤ y ∧ CANX many ch la fo st ex te ord od hi he (y / 4) (y % 4) ∧ ∀ j : Nat, m ≤ j → j < y → ¬ CANX many ch la fo st ex te ord od hi he (j / 4) (j % 4)) ∨ ((∀ j : Nat, m ≤ j → j < 16 → ¬ CANX many ch la fo st ex te ord od hi he (j / 4) (j % 4)) ∧ x = if bd = -1000 ∧ td < 16 then 17 else if m < 16 then 16 else (m : Int))
theorem r_next9 {pa many ch la fo : Int} {st ex te ord od pl : Nat → Int} {row hi he tried bests : Nat → Int} {d : Nat} {w : Int × Int × Int × Int × Int × (Nat → Int) × (Nat → Int)} (hF : FOK ch la fo st ex te ord od row) (em : many = row 0) (hm : 0 ≤ many ∧ many ≤ 12) (hh : zR hi 0 10) (hw : zR he 0 30) (hd : d < 5) (hbd : -1000 ≤ bests d ∧ bests d ≤ 60) (htd : -1 ≤ tried d ∧ tried d ≤ 17) : ∀ (N m : Nat) (lw br va su : Int) (set rest : Nat → Int), m ≤ 18 → f_HM_nextMove_9 row hi he tried bests N (d : Int) (m : Int) lw br va su set rest = some w → NMR many ch la fo st ex te ord od hi he m (bests d) (tried d) w.1 := by
  have zd : (zi_w (d : Int)).toNat = d := by rw [zwi (by omega)]; omega
  intro N
  induction N with
  | zero => intro m lw br va su set rest _ h; exact nomatch h
  | succ N ih =>
    intro m lw br va su set rest hm18 h
    replace h : f_HM_nextMove_9_b row hi he tried bests (f_HM_nextMove_9 row hi he tried bests N) (d : Int) (m : Int) lw br va su set rest = some w := h
    unfold f_HM_nextMove_9_b at h
    rw [show zi_w 16 = 16 from by decide +kernel, zwi (x := (m : Int)) (by omega)] at h
    by_cases c : (16 : Int) ≤ (m : Int)
    · rw [if_pos c] at h
      unfold f_HM_nextMove_29 at h
      rw [show zi_w 16 = 16 from by decide +kernel, zwi (x := (m : Int)) (by omega), if_neg (by omega)] at h
      replace h := (xp_g h).2
      rw [zd, zwi (x := bests d) (by omega), show zi_w (-1000) = -1000 from by decide +kernel] at h
      refine Or.inr ⟨fun j j1 j2 => by omega, ?_⟩
      by_cases c1 : bests d = -1000
      · rw [if_neg (fun z => z c1)] at h
        replace h := (xp_g h).2
        rw [zd, zwi (x := tried d) (by omega)] at h
        by_cases c2 : (16 : Int) ≤ tried d
        · rw [if_pos c2] at h
          cases h
          rw [if_neg (by omega), if_neg (by omega)]
        · rw [if_neg c2] at h
          cases h
          rw [if_pos (by omega)]
      · rw [if_pos c1] at h
        cases h
        rw [if_neg (fun z => c1 z.1), if_neg (by omega)]
    · rw [if_neg c] at h
      obtain ⟨v1, v2, v3, v4, v5, a6, a7, e1, h⟩ := xz_d7 h
      rcases r_carried (pa := pa) (pl := pl) hF em hm (by omega) hh hw e1 with ⟨q1, q2⟩ | ⟨q1, q2⟩
      · have q1 : v1 = 1 := q1
        subst q1
        replace h := xp_t (by decide +kernel) h
        unfold f_HM_nextMove_29 at h
        rw [show zi_w 16 = 16 from by decide +kernel, zwi (x := (m : Int)) (by omega), if_pos (by omega)] at h
        cases h
        exact Or.inl ⟨m, by omega, rfl, Nat.le_refl _, q2, fun j j1 j2 => by omega⟩
      · have q1 : v1 = 0 := q1
        subst q1
        replace h := xp_f (by decide +kernel) h
        have r := ih (m + 1) _ _ _ _ _ _ (by omega) (xp_n h)
        have no : ∀ j : Nat, m ≤ j → (m + 1 ≤ j → ¬ CANX many ch la fo st ex te ord od hi he (j / 4) (j % 4)) → ¬ CANX many ch la fo st ex te ord od hi he (j / 4) (j % 4) := fun j j1 j2 => by
          by_cases e : j = m
          · subst e; exact q2
          · exact j2 (by omega)
        rcases r with ⟨y, y1, y2, y3, y4, y5⟩ | ⟨y1, y2⟩
        · exact Or.inl ⟨y, y1, y2, by omega, y4, fun j j1 j2 => no j j1 (fun z => y5 j z j2)⟩
        · refine Or.inr ⟨fun j j1 j2 => no j j1 (fun z => y1 j z j2), ?_⟩
          rw [y2]
          split
          · rfl
          · rw [if_pos (show m < 16 by omega)]
            split
            · rfl
            · omega
theorem r_settle {first v : Int} {d : Nat} {tried bests firsts : Nat → Int} {u : (Nat → Int) × (Nat → Int)} (hf : 0 ≤ first ∧ first ≤ 1) (hd : d < 5) (hv : 0 ≤ v ∧ v ≤ 60) (hb : -1000 ≤ bests d ∧ bests d ≤ 60) (h : f_HM_settlex (d : Int) first v tried bests firsts = some u) : u = if bests d = -1000 ∨ (if (first + (d : Int)) % 2 = 0 then bests d < v else v < bests d) then (zu bests d v, zu firsts d (tried d)) else (bests, firsts) := by
  have zd : (zi_w (d : Int)).toNat = d := by rw [zwi (by omega)]; omega
  have f55 : f_HM_settlex_55 tried (d : Int) v bests firsts = some u → u = (zu bests d v, zu firsts d (tried d)) := fun h => by
    unfold f_HM_settlex_55 at h
    replace h := (xp_s (xp_g (xp_s h).2).2).2
    rw [zd] at h
    cases h
    rfl
  unfold f_HM_settlex at h
  replace h := xp_n (xp_gd (xp_n h)).2
  rw [zi_rem_n (by omega) (by decide)] at h
  have r2 : zi_w (((d : Int) + first) % 2) = ((d : Int) + first) % 2 := zwi (by omega)
  rw [r2] at h
  by_cases c : (first + (d : Int)) % 2 = 0
  · rw [if_neg (by omega)] at h
    unfold f_HM_settlex_13 at h
    replace h := (xp_g h).2
    rw [zd, zwi (x := bests d) (by omega), show zi_w (-1000) = -1000 from by decide +kernel] at h
    have key : (bests d = -1000 ∨ (if (first + (d : Int)) % 2 = 0 then bests d < v else v < bests d)) ↔ (bests d = -1000 ∨ bests d < v) := by rw [if_pos c]
    by_cases c1 : bests d = -1000
    · rw [if_pos c1] at h
      rw [if_pos (key.mpr (Or.inl c1))]
      exact f55 h
    · rw [if_neg c1] at h
      replace h := (xp_g (xp_f (by decide +kernel) h)).2
      rw [zd, zwi (x := bests d) (by omega), zwi (x := v) (by omega)] at h
      by_cases c2 : v ≤ bests d
      · rw [if_pos c2] at h
        rw [if_neg (fun z => by have := key.mp z; omega)]
        cases h
        rfl
      · rw [if_neg c2] at h
        rw [if_pos (key.mpr (Or.inr (by omega)))]
        exact f55 h
  · rw [if_pos (by omega)] at h
    unfold f_HM_settlex_13 at h
    replace h := (xp_g h).2
    rw [zd, zwi (x := bests d) (by omega), show zi_w (-1000) = -1000 from by decide +kernel] at h
    have key : (bests d = -1000 ∨ (if (first + (d : Int)) % 2 = 0 then bests d < v else v < bests d)) ↔ (bests d = -1000 ∨ v < bests d) := by rw [if_neg c]
    by_cases c1 : bests d = -1000
    · rw [if_pos c1] at h
      rw [if_pos (key.mpr (Or.inl c1))]
      exact f55 h
    · rw [if_neg c1] at h
      replace h := (xp_g (xp_t (by decide +kernel) h)).2
      rw [zd, zwi (x := bests d) (by omega), zwi (x := v) (by omega)] at h
      by_cases c2 : bests d ≤ v
      · rw [if_pos c2] at h
        rw [if_neg (fun z => by have := key.mp z; omega)]
        cases h
        rfl
      · rw [if_neg c2] at h
        rw [if_pos (key.mpr (Or.inr (by omega)))]
        exact f55 h
