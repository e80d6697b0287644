/-! what both have of the laws -/
def HILL2 (la fo : Int) (ord od row : Nat → Int) : Prop := la = row 3 ∧ fo = row 4 ∧ ∀ k : Nat, (k : Int) < la → LW2 ord od row k
def FRM (row row' : Nat → Int) : Prop := ∀ y : Nat, (y = 3 ∨ y = 4 ∨ 180 ≤ y) → row' y = row y
theorem HILL2_f {la fo : Int} {ord od row row' : Nat → Int} (h : HILL2 la fo ord od row) (f : FRM row row') : HILL2 la fo ord od row' :=
  ⟨h.1.trans (f 3 (by omega)).symm, h.2.1.trans (f 4 (by omega)).symm, fun k hk => LW2_x (h.2.2 k hk) (fun _ _ => rfl) rfl (fun j _ => f _ (by omega))⟩
theorem HILL2_c {la fo : Int} {ord od ord' od' row row' : Nat → Int} (hl : la ≤ 6) (h : HILL2 la fo ord od row) (h1 : ∀ j, j < 2544 → ord' j = ord j) (h2 : ∀ j, j < 6 → od' j = od j) (f : ∀ y, y < 5580 → row' y = row y) : HILL2 la fo ord' od' row' :=
  ⟨h.1.trans (f 3 (by omega)).symm, h.2.1.trans (f 4 (by omega)).symm, fun k hk => LW2_x (h.2.2 k hk) (fun j hj => h1 _ (by omega)) (h2 k (by omega)) (fun j hj => f _ (by omega))⟩
theorem FRM_0 {row : Nat → Int} : FRM row row := fun _ _ => rfl
theorem FRM_u {row row' : Nat → Int} {i : Nat} {v : Int} (h : FRM row row') (h1 : i ≠ 3 ∧ i ≠ 4 ∧ i < 180) : FRM row (zu row' i v) := fun y hy => by rw [zu_ne _ _ (by omega)]; exact h y hy
/-- all but the small fields -/
def FRM3 (row row' : Nat → Int) : Prop := ∀ y : Nat, (y = 3 ∨ y = 4 ∨ (9 ≤ y ∧ y < 141) ∨ 180 ≤ y) → row' y = row y
theorem FRM_3 {row row' : Nat → Int} (h : FRM3 row row') : FRM row row' := fun y hy => h y (by omega)
theorem FRM3_0 {row : Nat → Int} : FRM3 row row := fun _ _ => rfl
theorem FRM3_u {row row' : Nat → Int} {i : Nat} {v : Int} (h : FRM3 row row') (h1 : i ≠ 3 ∧ i ≠ 4 ∧ (i < 9 ∨ 141 ≤ i) ∧ i < 180) : FRM3 row (zu row' i v) := fun y hy => by rw [zu_ne _ _ (by omega)]; exact h y hy
theorem FRM_g {row row' : Nat → Int} (h : ∀ j : Nat, (j < 9 ∨ 141 ≤ j) → row' j = row j) : FRM row row' := fun y hy => h y (by omega)
/-- the change of a field -/
theorem fr_change {i x st : Int} {row : Nat → Int} {w : Int × Int × (Nat → Int)} (hi : (5 ≤ i ∧ i < 9) ∨ (141 ≤ i ∧ i < 180)) (h : f_HM_change i x st row = some w) : FRM3 row w.2.2 := by
  unfold f_HM_change at h
  replace h := (xp_s (xp_g h).2).2
  rw [zwi (x := i) (by omega)] at h
  cases h
  exact FRM3_u FRM3_0 (by omega)
theorem fr_column {s4 s5 : Int} {t3 row : Nat → Int} {w : Int × Int × Int × (Nat → Int) × (Nat → Int)} (hm : 0 ≤ row 0 ∧ row 0 ≤ 12) (g : f_HM_column s4 s5 t3 row = some w) : FRM row w.2.2.2.2 := by
  unfold f_HM_column at g
  obtain ⟨c1, e2, g⟩ := xz_d1 g
  have g2 := r_columns e2
  subst g2
  rcases xp_if g with ⟨c, g⟩ | ⟨_, g⟩
  · rw [zwi (x := row 0) (by omega), zwi (x := 12) (by decide)] at c
    replace g := (xp_s (xp_n g)).2
    replace g := (xp_s (xp_n g)).2
    replace g := xp_n (xp_g g).2
    replace g := (xp_s g).2
    obtain ⟨b1, b2, b3, e4, g⟩ := xz_d3 g
    have z1 : (zi_w (9 + row 0)).toNat = 9 + (row 0).toNat := by rw [zwi (by omega)]; omega
    have z2 : (zi_w (141 + row 0)).toNat = 141 + (row 0).toNat := by rw [zwi (by omega)]; omega
    have z3 : (zi_w 0).toNat = 0 := rfl
    rw [z1, z2, z3] at g
    cases g
    exact FRM_u (FRM_u (FRM_u FRM_0 (by omega)) (by omega)) (by omega)
  · obtain ⟨b1, b2, b3, e4, g⟩ := xz_d3 g
    cases g
    exact FRM_0
theorem fr_child {a1 s4 s5 : Int} {t3 row : Nat → Int} {w : Int × Int × Int × (Nat → Int) × (Nat → Int)} (hm : 0 ≤ row 1 ∧ row 1 ≤ 6) (g : f_HM_child a1 s4 s5 t3 row = some w) : FRM3 row w.2.2.2.2 := by
  unfold f_HM_child at g
  obtain ⟨c1, e2, g⟩ := xz_d1 (xp_n g)
  rcases xp_if g with ⟨_, g⟩ | ⟨_, g⟩
  · replace g := (xp_g g).2
    have z0 : row (zi_w 1).toNat = row 1 := rfl
    rw [z0] at g
    rcases xp_if g with ⟨c, g⟩ | ⟨_, g⟩
    · rw [zwi (x := row 1) (by omega), zwi (x := 6) (by decide)] at c
      replace g := (xp_s (xp_n (xp_n g))).2
      replace g := (xp_s (xp_n (xp_n (xp_n g)))).2
      replace g := (xp_s (xp_n (xp_n (xp_n g)))).2
      replace g := xp_n (xp_g g).2
      replace g := (xp_s g).2
      obtain ⟨b1, b2, b3, e4, g⟩ := xz_d3 g
      have z1 : (zi_w (153 + 3 * row 1)).toNat = 153 + 3 * (row 1).toNat := by rw [zwi (by omega)]; omega
      have z2 : (zi_w (153 + 3 * row 1 + 1)).toNat = 154 + 3 * (row 1).toNat := by rw [zwi (by omega)]; omega
      have z4 : (zi_w (153 + 3 * row 1 + 2)).toNat = 155 + 3 * (row 1).toNat := by rw [zwi (by omega)]; omega
      have z3 : (zi_w 1).toNat = 1 := rfl
      rw [z1, z2, z4, z3] at g
      cases g
      exact FRM3_u (FRM3_u (FRM3_u (FRM3_u FRM3_0 (by omega)) (by omega)) (by omega)) (by omega)
    · obtain ⟨b1, b2, b3, e4, g⟩ := xz_d3 g
      cases g
      exact FRM3_0
  · obtain ⟨b1, b2, b3, e4, g⟩ := xz_d3 g
    cases g
    exact FRM3_0
theorem fr_expel {a1 a2 s4 s5 : Int} {t3 row : Nat → Int} {w : Int × Int × Int × (Nat → Int) × (Nat → Int)} (b1 : -2147483648 ≤ a1 ∧ a1 ≤ 2147483647) (hm : 0 ≤ row 1 ∧ row 1 ≤ 6) (g : f_HM_expel a1 a2 s4 s5 t3 row = some w) : FRM3 row w.2.2.2.2 := by
  unfold f_HM_expel at g
  obtain ⟨c1, e2, g⟩ := xz_d1 (xp_n g)
  rcases xp_if g with ⟨_, g⟩ | ⟨_, g⟩
  · obtain ⟨c2, e3, g⟩ := xz_d1 g
    rcases r_isChild b1 hm e3 with ⟨q1, q2⟩ | ⟨q1, q2⟩ <;> subst q2
    · replace g := xp_n (xp_n (xp_n (xp_f (by decide +kernel) g)))
      obtain ⟨b1, b2, b3, e4, g⟩ := xz_d3 g
      have := fr_change (by omega) e4
      cases g
      exact this
    · replace g := xp_t (by decide +kernel) g
      obtain ⟨b1, b2, b3, e4, g⟩ := xz_d3 g
      cases g
      exact FRM3_0
  · obtain ⟨b1, b2, b3, e4, g⟩ := xz_d3 g
    cases g
    exact FRM3_0
theorem fr_trips {a1 a2 s4 s5 : Int} {t3 row : Nat → Int} {w : Int × Int × Int × (Nat → Int) × (Nat → Int)} (b1 : -2147483648 ≤ a1 ∧ a1 ≤ 2147483647) (hm : 0 ≤ row 1 ∧ row 1 ≤ 6) (g : f_HM_trips a1 a2 s4 s5 t3 row = some w) : FRM3 row w.2.2.2.2 := by
  unfold f_HM_trips at g
  obtain ⟨c1, e2, g⟩ := xz_d1 (xp_n g)
  rcases xp_if g with ⟨_, g⟩ | ⟨_, g⟩
  · obtain ⟨c2, e3, g⟩ := xz_d1 g
    rcases r_isChild b1 hm e3 with ⟨q1, q2⟩ | ⟨q1, q2⟩ <;> subst q2
    · replace g := xp_n (xp_n (xp_n (xp_f (by decide +kernel) g)))
      obtain ⟨b1, b2, b3, e4, g⟩ := xz_d3 g
      have := fr_change (by omega) e4
      cases g
      exact this
    · replace g := xp_t (by decide +kernel) g
      obtain ⟨b1, b2, b3, e4, g⟩ := xz_d3 g
      cases g
      exact FRM3_0
  · obtain ⟨b1, b2, b3, e4, g⟩ := xz_d3 g
    cases g
    exact FRM3_0
theorem fr_parish {a1 s4 s5 : Int} {t3 row : Nat → Int} {w : Int × Int × Int × (Nat → Int) × (Nat → Int)} (hm : 0 ≤ row 2 ∧ row 2 ≤ 6) (g : f_HM_parish a1 s4 s5 t3 row = some w) : FRM3 row w.2.2.2.2 := by
  unfold f_HM_parish at g
  obtain ⟨c1, e2, g⟩ := xz_d1 g
  rcases xp_if g with ⟨_, g⟩ | ⟨_, g⟩
  · replace g := (xp_g g).2
    have z0 : row (zi_w 2).toNat = row 2 := rfl
    rw [z0] at g
    rcases xp_if g with ⟨c, g⟩ | ⟨_, g⟩
    · rw [zwi (x := row 2) (by omega), zwi (x := 6) (by decide)] at c
      replace g := (xp_s (xp_n g)).2
      replace g := xp_n (xp_g g).2
      replace g := (xp_s g).2
      obtain ⟨b1, b2, b3, e4, g⟩ := xz_d3 g
      have z1 : (zi_w (171 + row 2)).toNat = 171 + (row 2).toNat := by rw [zwi (by omega)]; omega
      have z3 : (zi_w 2).toNat = 2 := rfl
      rw [z1, z3] at g
      cases g
      exact FRM3_u (FRM3_u FRM3_0 (by omega)) (by omega)
    · obtain ⟨b1, b2, b3, e4, g⟩ := xz_d3 g
      cases g
      exact FRM3_0
  · obtain ⟨b1, b2, b3, e4, g⟩ := xz_d3 g
    cases g
    exact FRM3_0
theorem x_isTerm {a1 a2 v : Int} (b1 : -2147483648 ≤ a1 ∧ a1 ≤ 2147483647) (h : f_HM_isTerm a1 a2 = some v) : v = 0 ∨ (0 ≤ a1 ∧ a1 ≤ 3) := by
  unfold f_HM_isTerm at h
  rw [zwi (x := a1) b1] at h
  by_cases c : 0 ≤ a1 ∧ a1 ≤ 3
  · exact Or.inr c
  · rw [if_neg (by omega), if_neg (by omega), if_neg (by omega), if_neg (by omega)] at h
    cases h
    exact Or.inl rfl
theorem fr_terms {a1 a2 s4 s5 : Int} {t3 row : Nat → Int} {w : Int × Int × Int × (Nat → Int) × (Nat → Int)} (b1 : -2147483648 ≤ a1 ∧ a1 ≤ 2147483647) (g : f_HM_terms a1 a2 s4 s5 t3 row = some w) : FRM3 row w.2.2.2.2 := by
  unfold f_HM_terms at g
  obtain ⟨c1, e2, g⟩ := xz_d1 g
  rcases xp_if g with ⟨_, g⟩ | ⟨c, g⟩
  · obtain ⟨b1, b2, b3, e4, g⟩ := xz_d3 g
    cases g
    exact FRM3_0
  · rcases x_isTerm b1 e2 with q | q
    · subst q
      exact absurd (by decide +kernel) c
    · obtain ⟨b1, b2, b3, e4, g⟩ := xz_d3 (xp_n g)
      have := fr_change (by omega) e4
      cases g
      exact this
theorem fr_goal {a1 a2 s4 s5 : Int} {t3 row : Nat → Int} {w : Int × Int × Int × (Nat → Int) × (Nat → Int)} (b1 : -2147483648 ≤ a1 ∧ a1 ≤ 2147483647) (hm : 0 ≤ row 0 ∧ row 0 ≤ 12) (g : f_HM_goal a1 a2 s4 s5 t3 row = some w) : FRM3 row w.2.2.2.2 := by
  unfold f_HM_goal at g
  obtain ⟨c1, e2, g⟩ := xz_d1 (xp_n g)
  rcases xp_if g with ⟨_, g⟩ | ⟨_, g⟩
  · obtain ⟨c2, e3, g⟩ := xz_d1 g
    rcases r_isColumn b1 hm e3 with ⟨q1, q2⟩ | ⟨q1, q2⟩ <;> subst q2
    · obtain ⟨b1, b2, b3, e4, g⟩ := xz_d3 (xp_n (xp_t (by decide +kernel) g))
      have := fr_change (by omega) e4
      cases g
      exact this
    · replace g := xp_f (by decide +kernel) g
      obtain ⟨b1, b2, b3, e4, g⟩ := xz_d3 g
      rcases xp_if g with ⟨_, g⟩ | ⟨_, g⟩ <;> cases g <;> exact FRM3_0
  · obtain ⟨b1, b2, b3, e4, g⟩ := xz_d3 g
    rcases xp_if g with ⟨_, g⟩ | ⟨_, g⟩ <;> cases g <;> exact FRM3_0
/-- the law in force -/
theorem x_force {a1 la fo s3 s30 s4 s5 : Int} {t2 t3 row ord od : Nat → Int} {v : Int × Int × Int × Int × (Nat → Int)} {w : Int × Int × Int × (Nat → Int) × (Nat → Int)} (b1 : -2147483648 ≤ a1 ∧ a1 ≤ 2147483647) (hl : 0 ≤ la ∧ la ≤ 6) (hf : -1 ≤ fo ∧ fo ≤ 5) (hH : HILL2 la fo ord od row) (h : f_HS_force a1 la s3 fo s30 t2 = some v) (g : f_HM_force a1 s4 s5 t3 row = some w) : v.1 = w.1 ∧ v.2.1 = w.2.2.1 ∧ ((∀ k, k < 7 → t2 k = t3 k) → ∀ k, k < 7 → v.2.2.2.2 k = w.2.2.2.1 k) ∧ HILL2 la v.2.2.1 ord od w.2.2.2.2 ∧ ∀ y, y ≠ 4 → w.2.2.2.2 y = row y := by
  have yes : f_HS_force_27 la a1 s3 fo s30 t2 = some v → f_HM_force_28 a1 0 s5 t3 row = some w → v.1 = w.1 ∧ v.2.1 = w.2.2.1 ∧ ((∀ k, k < 7 → t2 k = t3 k) → ∀ k, k < 7 → v.2.2.2.2 k = w.2.2.2.1 k) ∧ HILL2 la v.2.2.1 ord od w.2.2.2.2 ∧ ∀ y, y ≠ 4 → w.2.2.2.2 y = row y := fun h g => by
    unfold f_HS_force_27 at h
    obtain ⟨u1, u2, u3, e1, h⟩ := xz_d3 h
    have k1 := k_accept e1
    cases k1
    unfold f_HM_force_28 at g
    obtain ⟨u4, u5, u6, e2, g⟩ := xz_d3 g
    unfold f_HM_change at e2
    replace e2 := (xp_s (xp_g e2).2).2
    cases e2
    cases h
    cases g
    have z : (zi_w 4).toNat = 4 := rfl
    rw [z]
    refine ⟨hH.2.1, rfl, fun hrf => hrf, ⟨?_, ?_, fun k hk => ?_⟩, fun y hy => zu_ne _ _ hy⟩
    · show la = zu row 4 a1 3
      rw [zu_ne _ _ (by omega)]; exact hH.1
    · show a1 = zu row 4 a1 4
      rw [zu_eq]
    · exact LW2_x (hH.2.2 k hk) (fun _ _ => rfl) rfl (fun j _ => zu_ne _ _ (by omega))
  have no : f_HS_force_20 la s3 fo s30 t2 = some v → ∀ {x y z}, f_HM_tell (-2) s5 t3 = some (x, y, z) → w = (x, 0, y, z, row) → v.1 = w.1 ∧ v.2.1 = w.2.2.1 ∧ ((∀ k, k < 7 → t2 k = t3 k) → ∀ k, k < 7 → v.2.2.2.2 k = w.2.2.2.1 k) ∧ HILL2 la v.2.2.1 ord od w.2.2.2.2 ∧ ∀ y, y ≠ 4 → w.2.2.2.2 y = row y := fun h x y z e hw => by
    unfold f_HS_force_20 at h
    obtain ⟨u1, u2, u3, e1, h⟩ := xz_d3 h
    have k1 := k_refuse (by decide) e1
    cases k1
    rcases x_tell (by decide) e with ⟨k2, _⟩ | ⟨_, k2⟩
    · omega
    · cases k2
      subst hw
      cases h
      exact ⟨rfl, rfl, fun hrf => zu_agr hrf, hH, fun _ _ => rfl⟩
  unfold f_HS_force at h
  unfold f_HM_force at g
  rw [zwi (x := a1) b1, zwi (x := -1) (by decide)] at h g
  by_cases c : a1 = -1
  · rw [if_pos c] at h g
    exact yes h g
  · rw [if_neg c] at h g
    replace g := xp_n (xp_g (xp_n g)).2
    have z3 : row (zi_w 3).toNat = la := hH.1.symm
    rw [z3, zwi (x := la) (by omega)] at g
    obtain ⟨v5, e5, g⟩ := xz_d1 (xp_n g)
    have g5 := x_in (by omega) (by decide) (by omega) e5
    rw [zwi (x := la) (by omega)] at h
    by_cases d : 0 ≤ a1 ∧ a1 ≤ la - 1
    · rw [if_pos d] at g5
      subst g5
      rw [if_neg (by omega), if_pos (by omega)] at h
      exact yes h (xp_f (by decide +kernel) g)
    · rw [if_neg d] at g5
      subst g5
      replace g := xp_t (by decide +kernel) g
      obtain ⟨u1, u2, u3, e6, g⟩ := xz_d3 g
      have hw : w = (u1, 0, u2, u3, row) := by cases g; rfl
      by_cases e : a1 < 0
      · rw [if_pos e] at h
        exact no h e6 hw
      · rw [if_neg e, if_neg (by omega)] at h
        exact no h e6 hw
/-! the tape -/
theorem zi_byte (x : Int) {s : Nat} (hs : s = 0 ∨ s = 8 ∨ s = 16 ∨ s = 24) : zi_and (zi_ushr x (s : Int)) 255 = zi_and (zi_shr x (s : Int)) 255 := by
  have k1 : ((Int32.ofInt (s : Int) &&& 31).toBitVec.smod 32).toNat = s := by rcases hs with e | e | e | e <;> subst e <;> decide +kernel
  have k2 : ((Int32.ofInt (s : Int)).toUInt32 &&& Int32.toUInt32 31).toBitVec = BitVec.ofNat 32 s := by rcases hs with e | e | e | e <;> subst e <;> decide +kernel
  have a1 : zi_ushr x (s : Int) = ((Int32.ofInt x).toBitVec >>> (((Int32.ofInt (s : Int)).toUInt32 &&& Int32.toUInt32 31).toBitVec % 32#32)).toInt := rfl
  have a2 : zi_shr x (s : Int) = ((Int32.ofInt x).toBitVec.sshiftRight' ((Int32.ofInt (s : Int) &&& 31).toBitVec.smod 32)).toInt := rfl
  have o : ∀ b : BitVec 32, (Int32.ofInt b.toInt).toBitVec = b := fun b => by
    show BitVec.ofInt 32 b.toInt = b
    exact BitVec.ofInt_toInt
  have e1 : ∀ b : BitVec 32, zi_and b.toInt 255 = (b &&& 255#32).toInt := fun b => by
    show ((Int32.ofInt b.toInt).toBitVec &&& (Int32.ofInt 255).toBitVec).toInt = _
    rw [o b]
    rfl
  rw [a1, a2, e1, e1]
  congr 1
  apply BitVec.eq_of_getLsbD_eq
  intro i hi
  rw [BitVec.getLsbD_and, BitVec.getLsbD_and]
  by_cases h8 : i < 8
  · congr 1
    rw [BitVec.sshiftRight', BitVec.getLsbD_sshiftRight, k1, k2]
    have hs24 : s ≤ 24 := by omega
    have em : (BitVec.ofNat 32 s % 32#32).toNat = s := by rcases hs with e | e | e | e <;> subst e <;> decide
    rw [BitVec.ushiftRight_eq', BitVec.getLsbD_ushiftRight, em]
    have hlt : s + i < 32 := by omega
    simp [hlt, hi]
  · have h255 : (255#32).getLsbD i = false := by
      have : (255#32).toNat < 2 ^ i := by
        have h1 : (2 : Nat) ^ 8 ≤ 2 ^ i := Nat.pow_le_pow_right (by decide) (by omega)
        have h2 : (255#32).toNat = 255 := by decide
        omega
      rw [← BitVec.testBit_toNat]
      exact Nat.testBit_lt_two_pow this
    rw [h255, Bool.and_false, Bool.and_false]
theorem four_eq {x : Int} : ∀ (q N M : Nat) (tp : Nat) (t : Nat → Int) (v w : Int × (Nat → Int)), q ≤ 4 → tp + q ≤ 400 → f_HS_feedFour_3 N x (8 * (q : Int) - 8) (tp : Int) t = some v → f_HM_four_3 M x (8 * (q : Int) - 8) (tp : Int) t = some w → v = w ∧ v.1 = ((tp + q : Nat) : Int) := by
  intro q
  induction q with
  | zero =>
    intro N M tp t v w _ _ h g
    cases N with
    | zero => exact nomatch h
    | succ N =>
      cases M with
      | zero => exact nomatch g
      | succ M =>
        replace h : f_HS_feedFour_3_b (f_HS_feedFour_3 N) x (8 * ((0 : Nat) : Int) - 8) (tp : Int) t = some v := h
        replace g : f_HM_four_3_b (f_HM_four_3 M) x (8 * ((0 : Nat) : Int) - 8) (tp : Int) t = some w := g
        unfold f_HS_feedFour_3_b at h
        unfold f_HM_four_3_b at g
        replace h := xp_t (by decide +kernel) h
        replace g := xp_t (by decide +kernel) g
        cases h
        cases g
        exact ⟨rfl, rfl⟩
  | succ q ih =>
    intro N M tp t v w hq htp h g
    cases N with
    | zero => exact nomatch h
    | succ N =>
      cases M with
      | zero => exact nomatch g
      | succ M =>
        replace h : f_HS_feedFour_3_b (f_HS_feedFour_3 N) x (8 * ((q + 1 : Nat) : Int) - 8) (tp : Int) t = some v := h
        replace g : f_HM_four_3_b (f_HM_four_3 M) x (8 * ((q + 1 : Nat) : Int) - 8) (tp : Int) t = some w := g
        have es : 8 * ((q + 1 : Nat) : Int) - 8 = ((8 * q : Nat) : Int) := by omega
        rw [es] at h g
        unfold f_HS_feedFour_3_b at h
        unfold f_HM_four_3_b at g
        rw [zwi (x := ((8 * q : Nat) : Int)) (by omega), if_neg (by omega)] at h g
        rw [zwi (x := 400) (by decide), zwi (x := (tp : Int)) (by omega), if_neg (by omega)] at h
        replace h := xp_n (xp_n h)
        replace h := xp_n (xp_n (xp_s h).2)
        replace g := xp_n (xp_n g)
        replace g := xp_n (xp_n (xp_s g).2)
        have hb := zi_byte x (s := 8 * q) (by omega)
        rw [hb, zwi (x := (tp : Int)) (by omega), Int.toNat_natCast] at h
        rw [zwi (x := (tp : Int)) (by omega), Int.toNat_natCast] at g
        have ek : ((8 * q : Nat) : Int) + -8 = 8 * (q : Int) - 8 := by omega
        have et : (tp : Int) + 1 = ((tp + 1 : Nat) : Int) := by omega
        rw [ek, et] at h g
        obtain ⟨r1, r2⟩ := ih N M (tp + 1) _ v w (by omega) (by omega) h g
        exact ⟨r1, by rw [r2]; omega⟩
theorem four_eq4 {x : Int} {tp : Nat} {t : Nat → Int} {v w : Int × (Nat → Int)} (htp : tp + 4 ≤ 400) (h : f_HS_feedFour x (tp : Int) t = some v) (g : f_HM_four x (tp : Int) t = some w) : v = w ∧ v.1 = ((tp + 4 : Nat) : Int) := by
  unfold f_HS_feedFour at h
  unfold f_HM_four at g
  exact four_eq 4 zfu zfu tp t v w (by decide) htp h g
theorem x_feed {a1 a2 a3 a4 a5 s4 tp : Int} {t : Nat → Int} {v : Int × Int × (Nat → Int)} {w : Int × Int × Int × (Nat → Int)} (htp : 0 ≤ tp ∧ tp ≤ 400) (h : f_HS_feed a1 a2 a3 a4 a5 tp t = some v) (g : f_HM_feed a1 a2 a3 a4 a5 s4 tp t = some w) : v.2.2 = w.2.2.2 := by
  obtain ⟨n, en⟩ : ∃ n : Nat, tp = (n : Int) := ⟨tp.toNat, by omega⟩
  subst en
  unfold f_HS_feed at h
  unfold f_HM_feed at g
  replace h := xp_n h
  replace g := xp_n g
  rw [zwi (x := (n : Int) + 20) (by omega), zwi (x := 400) (by decide)] at h g
  by_cases c : (n : Int) + 20 ≤ 400
  · rw [if_pos c] at h g
    obtain ⟨u1, m1, e1, h⟩ := xz_d2 h
    obtain ⟨w1, p1, d1, g⟩ := xz_d2 g
    obtain ⟨q1, q2⟩ := four_eq4 (by omega) e1 d1
    cases q1
    replace q2 : u1 = ((n + 4 : Nat) : Int) := q2
    subst q2
    obtain ⟨u2, m2, e2, h⟩ := xz_d2 h
    obtain ⟨w2, p2, d2, g⟩ := xz_d2 g
    obtain ⟨q1, q2⟩ := four_eq4 (by omega) e2 d2
    cases q1
    replace q2 : u2 = ((n + 4 + 4 : Nat) : Int) := q2
    subst q2
    obtain ⟨u3, m3, e3, h⟩ := xz_d2 h
    obtain ⟨w3, p3, d3, g⟩ := xz_d2 g
    obtain ⟨q1, q2⟩ := four_eq4 (by omega) e3 d3
    cases q1
    replace q2 : u3 = ((n + 4 + 4 + 4 : Nat) : Int) := q2
    subst q2
    obtain ⟨u4, m4, e4, h⟩ := xz_d2 h
    obtain ⟨w4, p4, d4, g⟩ := xz_d2 g
    obtain ⟨q1, q2⟩ := four_eq4 (by omega) e4 d4
    cases q1
    replace q2 : u4 = ((n + 4 + 4 + 4 + 4 : Nat) : Int) := q2
    subst q2
    obtain ⟨u5, m5, e5, h⟩ := xz_d2 h
    obtain ⟨w5, p5, d5, g⟩ := xz_d2 g
    obtain ⟨q1, q2⟩ := four_eq4 (by omega) e5 d5
    cases q1
    cases h
    cases g
    rfl
  · rw [if_neg c] at h g
    cases h
    cases g
    rfl
