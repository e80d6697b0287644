theorem xp_n {α β : Type} {x : α} {k : α → Option β} {o : β} (h : zn x k = some o) : k x = some o := h
theorem xp_g {β : Type} {n : Nat} {f : Nat → Int} {i : Int} {k : Int → Option β} {o : β} (h : zg n f i k = some o) : (0 ≤ zi_w i ∧ zi_w i < (n : Int)) ∧ k (f (zi_w i).toNat) = some o := xz_g h
theorem xp_s {β : Type} {n : Nat} {f : Nat → Int} {i v : Int} {k : (Nat → Int) → Option β} {o : β} (h : zs n f i v k = some o) : (0 ≤ zi_w i ∧ zi_w i < (n : Int)) ∧ k (zu f (zi_w i).toNat v) = some o := xz_s h
theorem xp_cp {β : Type} {n0 n1 : Nat} {f g : Nat → Int} {a b n : Int} {k : (Nat → Int) → Option β} {o : β} (h : zcp n0 f a n1 g b n k = some o) : k (va_cpy f g (Int.toNat (zi_w a)) (Int.toNat (zi_w b)) (Int.toNat (zi_w n))) = some o := by
  unfold zcp at h
  split at h
  · exact h
  · exact nomatch h
theorem xp_if {β : Type} {c : Prop} {i : Decidable c} {x y : Option β} {o : β} (h : (if c then x else y) = some o) : (c ∧ x = some o) ∨ (¬ c ∧ y = some o) := by
  by_cases q : c
  · rw [if_pos q] at h; exact Or.inl ⟨q, h⟩
  · rw [if_neg q] at h; exact Or.inr ⟨q, h⟩
theorem xp_gd {β : Type} {c : Prop} {i : Decidable c} {y : Option β} {o : β} (h : (if c then none else y) = some o) : ¬ c ∧ y = some o := by
  by_cases q : c
  · rw [if_pos q] at h; exact nomatch h
  · rw [if_neg q] at h; exact ⟨q, h⟩
theorem xp_t {β : Type} {c : Prop} {i : Decidable c} {x y : Option β} {o : β} (q : c) (h : (if c then x else y) = some o) : x = some o := by rw [if_pos q] at h; exact h
theorem xp_f {β : Type} {c : Prop} {i : Decidable c} {x y : Option β} {o : β} (q : ¬ c) (h : (if c then x else y) = some o) : y = some o := by rw [if_neg q] at h; exact h
