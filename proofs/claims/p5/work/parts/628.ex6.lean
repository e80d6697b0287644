/-! BOTH SIDES OF A LAW -/
theorem lwS_1 {E : Nat → Int} : ∀ (l : List CSE) (til : Int), (lwS E l til 1).2 = 1 := by
  intro l
  induction l with
  | nil => intro til; rfl
  | cons c l ih =>
    intro til
    show (lwS E l (clT c.1 c.2.1 c.2.2 E til) (clB c.1 c.2.1 E 1)).2 = 1
    have e : clB c.1 c.2.1 E 1 = 1 := by
      unfold clB
      split <;> rfl
    rw [e]
    exact ih _
theorem lwS_rwS {E : Nat → Int} : ∀ (l : List CSE) (til x : Int), til = max 0 (min 99 x) → match rwS E l x with | none => (lwS E l til 0).2 = 1 | some y => (lwS E l til 0).2 = 0 ∧ (lwS E l til 0).1 = max 0 (min 99 y) := by
  intro l
  induction l with
  | nil => intro til x h; exact ⟨rfl, h⟩
  | cons c l ih =>
    intro til x h
    obtain ⟨bars, β, ν⟩ := c
    by_cases hb : β E = some true
    · cases bars with
      | true =>
        have e1 : rwS E ((true, β, ν) :: l) x = none := by
          unfold rwS
          dsimp only
          rw [hb]
        rw [e1]
        show (lwS E l (clT true β ν E til) (clB true β E 0)).2 = 1
        have e2 : clB true β E 0 = 1 := by unfold clB; rw [hb]
        rw [e2]
        exact lwS_1 l _
      | false =>
        have e2 : clB false β E 0 = 0 := by unfold clB; rfl
        cases hv : ν E with
        | none =>
          have e1 : rwS E ((false, β, ν) :: l) x = rwS E l x := by
            show (match (generalizing := false) false, β E, ν E with | true, some true, _ => none | false, some true, some y => rwS E l y | _, _, _ => rwS E l x) = _
            rw [hb, hv]
          have e3 : clT false β ν E til = til := by unfold clT; rw [hb, hv]
          rw [e1]
          show match rwS E l x with | none => (lwS E l (clT false β ν E til) (clB false β E 0)).2 = 1 | some y => (lwS E l (clT false β ν E til) (clB false β E 0)).2 = 0 ∧ (lwS E l (clT false β ν E til) (clB false β E 0)).1 = max 0 (min 99 y)
          rw [e2, e3]
          exact ih til x h
        | some y =>
          have e1 : rwS E ((false, β, ν) :: l) x = rwS E l y := by
            show (match (generalizing := false) false, β E, ν E with | true, some true, _ => none | false, some true, some y => rwS E l y | _, _, _ => rwS E l x) = _
            rw [hb, hv]
          have e3 : clT false β ν E til = max 0 (min 99 y) := by unfold clT; rw [hb, hv]
          rw [e1]
          show match rwS E l y with | none => (lwS E l (clT false β ν E til) (clB false β E 0)).2 = 1 | some y => (lwS E l (clT false β ν E til) (clB false β E 0)).2 = 0 ∧ (lwS E l (clT false β ν E til) (clB false β E 0)).1 = max 0 (min 99 y)
          rw [e2, e3]
          exact ih _ y rfl
    · rw [rwS_c (c := (bars, β, ν)) hb]
      have e2 : clB bars β E 0 = 0 := by
        unfold clB
        split
        · rename_i z; exact absurd z hb
        · rfl
      have e3 : clT bars β ν E til = til := by
        unfold clT
        split
        · rename_i z _; exact absurd z hb
        · rfl
      show match rwS E l x with | none => (lwS E l (clT bars β ν E til) (clB bars β E 0)).2 = 1 | some y => (lwS E l (clT bars β ν E til) (clB bars β E 0)).2 = 0 ∧ (lwS E l (clT bars β ν E til) (clB bars β E 0)).1 = max 0 (min 99 y)
      rw [e2, e3]
      exact ih til x h
