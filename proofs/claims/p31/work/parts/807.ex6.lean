/-! BOTH SIDES OF A LAW -/
theorem lwS_1 {E : Nat → Int} : ∀ (l : List CSE) (til : Int), (lwS E l til 1).2 = 1 := by
  sorry
theorem lwS_rwS {E : Nat → Int} : ∀ (l : List CSE) (til x : Int), til = max 0 (min 99 x) → match rwS E l x with | none => (lwS E l til 0).2 = 1 | some y => (lwS E l til 0).2 = 0 ∧ (lwS E l til 0).1 = max 0 (min 99 y) := by
  sorry
