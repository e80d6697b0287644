theorem zinj {n : Nat} {l l' : List Int} (hn : n ≤ 5) (hl : zD n l) (hl' : zD n l') (e : zcode l = zcode l') : l = l' := by
  sorry
theorem zdig_count (sm ta : Nat → Int) (a : Int) : (zdig sm ta).count a = (zcol sm 0 (ta 0).toNat).count a + (zcol sm 1 (ta 1).toNat).count a + (zcol sm 2 (ta 2).toNat).count a + (zcol sm 3 (ta 3).toNat).count a + ([0, 0, 0] : List Int).count a := by
  sorry
theorem zSm_cc {n : Nat} {sm ta : Nat → Int} (h : zSm n sm ta) {c : Nat} (hc : c < 4) : (zcol sm c (ta c).toNat).count 0 = 0 := by
  sorry
theorem zSm_z {n : Nat} {sm ta : Nat → Int} (h : zSm n sm ta) {c : Nat} (hc : c < 4) : (0 : Int) ∉ zcol sm c (ta c).toNat := List.count_eq_zero.mp (zSm_cc h hc)
theorem zSm_s {n : Nat} {sm ta : Nat → Int} (h : zSm n sm ta) {c i : Nat} (hc : c < 4) (hi : (i : Int) < ta c) : 0 ≤ sm (5 * c + i) ∧ sm (5 * c + i) < (n : Int) := by
  sorry
theorem zsplit : ∀ (a a' b b' : List Int), (0 : Int) ∉ a → (0 : Int) ∉ a' → a ++ 0 :: b = a' ++ 0 :: b' → a = a' ∧ b = b' := by
  sorry
theorem zcol_uq {sm sm' : Nat → Int} {c t t' : Nat} (e : zcol sm c t = zcol sm' c t') : t = t' ∧ ∀ i, i < t → sm (5 * c + i) = sm' (5 * c + i) := by
  sorry
theorem zSm_uq {n : Nat} {sm ta sm' ta' : Nat → Int} (h : zSm n sm ta) (h' : zSm n sm' ta') (e : zdig sm ta = zdig sm' ta') : ∀ c, c < 4 → ta c = ta' c ∧ ∀ i : Nat, (i : Int) < ta c → sm (5 * c + i) = sm' (5 * c + i) := by
  sorry
theorem z_smallTop {n : Nat} {sm ta : Nat → Int} (h : zSm n sm ta) (x1 : Int) (c : Nat) (hc : c < 4) (e1 : x1 = (c : Int)) (ht : 1 ≤ ta c) : zok (f_HM_smallTop x1 sm ta) (fun o => o = sm (5 * c + ((ta c).toNat - 1)) ∧ 0 ≤ o ∧ o < (n : Int)) := by
  sorry
theorem z_costAt (x1 x2 x3 x4 x5 : Int) : zok (f_HM_costAt x1 x2 x3 x4 x5) (fun o => o = ((x1 * 5 + x2) * 16 + x3) * 25 + 5 * (x4 - 1) + x5) := by
  sorry
theorem z_im49 (n : Nat) (sm ta row costs : Nat → Int) (h : zSm n sm ta) (h0 : RI row) (hC : zR costs (-1) 99) (x1 x3 x4 : Int) (f t : Nat) (hf : f < 4) (ht : t < 4) (hft : f ≠ t) (e3 : x3 = (f : Int)) (e4 : x4 = (t : Int)) (b1 : 0 ≤ x1 ∧ x1 < 16) (hh : 1 ≤ ta f) : ∀ (m : Nat) (x5 x6 : Int), (x5 = 0 ∨ x5 = 1) → (0 ≤ x6 ∧ x6 ≤ row 1) → row 1 - x6 + 1 ≤ (m : Int) → zok (f_HM_isMove_49 row costs sm ta m x1 (-1) x3 x4 x5 x6) (fun o => o = 0 ∨ o = 1) := by
  sorry
def zMv (row ta : Nat → Int) (mv : Int) : Prop := ∃ f t : Nat, mv = 4 * (f : Int) + (t : Int) ∧ f < 4 ∧ t < 4 ∧ f ≠ t ∧ (f : Int) < row 0 ∧ (t : Int) < row 0 ∧ 1 ≤ ta f
theorem z_isMove {n : Nat} {sm ta row costs : Nat → Int} (h : zSm n sm ta) (h0 : RI row) (hC : zR costs (-1) 99) (x1 : Int) (b1 : 0 ≤ x1 ∧ x1 < 16) : zok (f_HM_isMove x1 (-1) row costs sm ta) (fun o => o = 0 ∨ (o = 1 ∧ zMv row ta x1)) := by
  sorry
