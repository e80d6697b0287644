/-! what both have of the laws -/
def HILL2 (la fo : Int) (ord od row : Nat → Int) : Prop := la = row 3 ∧ fo = row 4 ∧ ∀ k : Nat, (k : Int) < la → LW2 ord od row k
def FRM (row row' : Nat → Int) : Prop := ∀ y : Nat, (y = 3 ∨ y = 4 ∨ 180 ≤ y) → row' y = row y
theorem HILL2_f {la fo : Int} {ord od row row' : Nat → Int} (h : HILL2 la fo ord od row) (f : FRM row row') : HILL2 la fo ord od row' :=
  ⟨h.1.trans (f 3 (by omega)).symm, h.2.1.trans (f 4 (by omega)).symm, fun k hk => LW2_x (h.2.2 k hk) (fun _ _ => rfl) rfl (fun j _ => f _ (by omega))⟩
theorem HILL2_c {la fo : Int} {ord od ord' od' row row' : Nat → Int} (hl : la ≤ 6) (h : HILL2 la fo ord od row) (h1 : ∀ j, j < 2544 → ord' j = ord j) (h2 : ∀ j, j < 6 → od' j = od j) (f : ∀ y, y < 5580 → row' y = row y) : HILL2 la fo ord' od' row' :=
  ⟨h.1.trans (f 3 (by omega)).symm, h.2.1.trans (f 4 (by omega)).symm, fun k hk => LW2_x (h.2.2 k hk) (fun j hj => h1 _ (by omega)) (h2 k (by omega)) (fun j hj => f _ (by omega))⟩
theorem FRM_0 {row : Nat → Int} : FRM row row := fun _ _ => rfl
theorem FRM_u {row row' : Nat → Int} {i : Nat} {v : Int} (h : FRM row row') (h1 : i ≠ 3 ∧ i ≠ 4 ∧ i < 180) : FRM row (zu row' i v) := fun y hy => by rw [zu_ne _ _ (by omega)]; exact h y hy
/-- all but the small fields -/
def FRM3 (row row' : Nat → Int) : Prop := ∀ y : Nat, (y = 3 ∨ y = 4 ∨ (9 ≤ y ∧ y < 141) ∨ 180 ≤ y) → row' y = row y
theorem FRM_3 {row row' : Nat → Int} (h : FRM3 row row') : FRM row row' := fun y hy => h y (by omega)
theorem FRM3_0 {row : Nat → Int} : FRM3 row row := fun _ _ => rfl
theorem FRM3_u {row row' : Nat → Int} {i : Nat} {v : Int} (h : FRM3 row row') (h1 : i ≠ 3 ∧ i ≠ 4 ∧ (i < 9 ∨ 141 ≤ i) ∧ i < 180) : FRM3 row (zu row' i v) := fun y hy => by rw [zu_ne _ _ (by omega)]; exact h y hy
theorem FRM_g {row row' : Nat → Int} (h : ∀ j : Nat, (j < 9 ∨ 141 ≤ j) → row' j = row j) : FRM row row' := fun y hy => h y (by omega)
/-- the change of a field -/
theorem fr_change {i x st : Int} {row : Nat → Int} {w : Int × Int × (Nat → Int)} (hi : (5 ≤ i ∧ i < 9) ∨ (141 ≤ i ∧ i < 180)) (h : f_HM_change i x st row = some w) : FRM3 row w.2.2 := by
  sorry
theorem fr_column {s4 s5 : Int} {t3 row : Nat → Int} {w : Int × Int × Int × (Nat → Int) × (Nat → Int)} (hm : 0 ≤ row 0 ∧ row 0 ≤ 12) (g : f_HM_column s4 s5 t3 row = some w) : FRM row w.2.2.2.2 := by
  sorry
theorem fr_child {a1 s4 s5 : Int} {t3 row : Nat → Int} {w : Int × Int × Int × (Nat → Int) × (Nat → Int)} (hm : 0 ≤ row 1 ∧ row 1 ≤ 6) (g : f_HM_child a1 s4 s5 t3 row = some w) : FRM3 row w.2.2.2.2 := by
  sorry
theorem fr_expel {a1 a2 s4 s5 : Int} {t3 row : Nat → Int} {w : Int × Int × Int × (Nat → Int) × (Nat → Int)} (b1 : -2147483648 ≤ a1 ∧ a1 ≤ 2147483647) (hm : 0 ≤ row 1 ∧ row 1 ≤ 6) (g : f_HM_expel a1 a2 s4 s5 t3 row = some w) : FRM3 row w.2.2.2.2 := by
  sorry
theorem fr_trips {a1 a2 s4 s5 : Int} {t3 row : Nat → Int} {w : Int × Int × Int × (Nat → Int) × (Nat → Int)} (b1 : -2147483648 ≤ a1 ∧ a1 ≤ 2147483647) (hm : 0 ≤ row 1 ∧ row 1 ≤ 6) (g : f_HM_trips a1 a2 s4 s5 t3 row = some w) : FRM3 row w.2.2.2.2 := by
  sorry
theorem fr_parish {a1 s4 s5 : Int} {t3 row : Nat → Int} {w : Int × Int × Int × (Nat → Int) × (Nat → Int)} (hm : 0 ≤ row 2 ∧ row 2 ≤ 6) (g : f_HM_parish a1 s4 s5 t3 row = some w) : FRM3 row w.2.2.2.2 := by
  sorry
theorem x_isTerm {a1 a2 v : Int} (b1 : -2147483648 ≤ a1 ∧ a1 ≤ 2147483647) (h : f_HM_isTerm a1 a2 = some v) : v = 0 ∨ (0 ≤ a1 ∧ a1 ≤ 3) := by
  sorry
theorem fr_terms {a1 a2 s4 s5 : Int} {t3 row : Nat → Int} {w : Int × Int × Int × (Nat → Int) × (Nat → Int)} (b1 : -2147483648 ≤ a1 ∧ a1 ≤ 2147483647) (g : f_HM_terms a1 a2 s4 s5 t3 row = some w) : FRM3 row w.2.2.2.2 := by
  sorry
theorem fr_goal {a1 a2 s4 s5 : Int} {t3 row : Nat → Int} {w : Int × Int × Int × (Nat → Int) × (Nat → Int)} (b1 : -2147483648 ≤ a1 ∧ a1 ≤ 2147483647) (hm : 0 ≤ row 0 ∧ row 0 ≤ 12) (g : f_HM_goal a1 a2 s4 s5 t3 row = some w) : FRM3 row w.2.2.2.2 := by
  sorry
/-- the law in force -/
theorem x_force {a1 la fo s3 s30 s4 s5 : Int} {t2 t3 row ord od : Nat → Int} {v : Int × Int × Int × Int × (Nat → Int)} {w : Int × Int × Int × (Nat → Int) × (Nat → Int)} (b1 : -2147483648 ≤ a1 ∧ a1 ≤ 2147483647) (hl : 0 ≤ la ∧ la ≤ 6) (hf : -1 ≤ fo ∧ fo ≤ 5) (hH : HILL2 la fo ord od row) (h : f_HS_force a1 la s3 fo s30 t2 = some v) (g : f_HM_force a1 s4 s5 t3 row = some w) : v.1 = w.1 ∧ v.2.1 = w.2.2.1 ∧ ((∀ k, k < 7 → t2 k = t3 k) → ∀ k, k < 7 → v.2.2.2.2 k = w.2.2.2.1 k) ∧ HILL2 la v.2.2.1 ord od w.2.2.2.2 ∧ ∀ y, y ≠ 4 → w.2.2.2.2 y = row y := by
  sorry
/-! the tape -/
theorem zi_byte (x : Int) {s : Nat} (hs : s = 0 ∨ s = 8 ∨ s = 16 ∨ s = 24) : zi_and (zi_ushr x (s : Int)) 255 = zi_and (zi_shr x (s : Int)) 255 := by
  sorry
theorem four_eq {x : Int} : ∀ (q N M : Nat) (tp : Nat) (t : Nat → Int) (v w : Int × (Nat → Int)), q ≤ 4 → tp + q ≤ 400 → f_HS_feedFour_3 N x (8 * (q : Int) - 8) (tp : Int) t = some v → f_HM_four_3 M x (8 * (q : Int) - 8) (tp : Int) t = some w → v = w ∧ v.1 = ((tp + q : Nat) : Int) := by
  sorry
theorem four_eq4 {x : Int} {tp : Nat} {t : Nat → Int} {v w : Int × (Nat → Int)} (htp : tp + 4 ≤ 400) (h : f_HS_feedFour x (tp : Int) t = some v) (g : f_HM_four x (tp : Int) t = some w) : v = w ∧ v.1 = ((tp + 4 : Nat) : Int) := by
  sorry
theorem x_feed {a1 a2 a3 a4 a5 s4 tp : Int} {t : Nat → Int} {v : Int × Int × (Nat → Int)} {w : Int × Int × Int × (Nat → Int)} (htp : 0 ≤ tp ∧ tp ≤ 400) (h : f_HS_feed a1 a2 a3 a4 a5 tp t = some v) (g : f_HM_feed a1 a2 a3 a4 a5 s4 tp t = some w) : v.2.2 = w.2.2.2 := by
  sorry
