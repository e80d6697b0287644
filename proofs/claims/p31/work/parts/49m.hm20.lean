theorem z_stones4 (row : Nat → Int) (h0 : RI row) : ∀ (m c : Nat) (x1 x2 : Int), x2 = (c : Int) → (c : Int) ≤ row 0 → x1 = zHs row c → (0 ≤ x1 ∧ x1 ≤ 10 * (c : Int)) → row 0 - (c : Int) + 1 ≤ (m : Int) → zok (f_HM_stones_4 row m x1 x2) (fun o => o = zHs row (row 0).toNat ∧ 0 ≤ o ∧ o ≤ 120) := by
  sorry
theorem z_stones {row : Nat → Int} (h0 : RI row) : zok (f_HM_stones row) (fun o => o = zHs row (row 0).toNat ∧ 0 ≤ o ∧ o ≤ 120) := by
  sorry
theorem zHs_4 {row : Nat → Int} (h0 : RI row) (h : row 0 ≤ 4) : zHs row 4 = zHs row (row 0).toNat := by
  sorry
theorem z_ig4 (row ta : Nat → Int) (h0 : RI row) (h4 : row 0 ≤ 4) (ht : ∀ c, c < 4 → 0 ≤ ta c ∧ ta c ≤ 5) : ∀ (m c : Nat) (x1 x2 : Int), x2 = (c : Int) → (x1 = 0 ∨ x1 = 1) → (c : Int) ≤ row 0 → row 0 - (c : Int) + 1 ≤ (m : Int) → zok (f_HM_isGoal_4 row ta m x1 x2) (fun o => o = 0 ∨ o = 1) := by
  sorry
theorem z_isGoal {row ta : Nat → Int} (h0 : RI row) (h4 : row 0 ≤ 4) (ht : ∀ c, c < 4 → 0 ≤ ta c ∧ ta c ≤ 5) : zok (f_HM_isGoal row ta) (fun o => o = 0 ∨ o = 1) := by
  sorry
theorem z_is14 (row ta : Nat → Int) (h0 : RI row) (h4 : row 0 ≤ 4) (ht : ∀ c, c < 4 → 0 ≤ ta c ∧ ta c ≤ 5) (k4 : Int → Int → Option Int) (P : Int → Prop) (c : Nat) (hc : (c : Int) < row 0) (hk : ∀ s : Int, (s = 0 ∨ s = 1) → zok (k4 s ((c : Int) + 1)) P) : ∀ (m o : Nat) (x1 x2 x3 : Int), x2 = (c : Int) → x3 = (o : Int) → (x1 = 0 ∨ x1 = 1) → (o : Int) ≤ row 0 → row 0 - (o : Int) + 1 ≤ (m : Int) → zok (f_HM_isSafe_14 row ta k4 m x1 x2 x3) P := by
  sorry
theorem z_is4 (row ta : Nat → Int) (h0 : RI row) (h4 : row 0 ≤ 4) (ht : ∀ c, c < 4 → 0 ≤ ta c ∧ ta c ≤ 5) : ∀ (m c : Nat) (x1 x2 : Int), x2 = (c : Int) → (x1 = 0 ∨ x1 = 1) → (c : Int) ≤ row 0 → row 0 - (c : Int) + 1 ≤ (m : Int) → zok (f_HM_isSafe_4 row ta m x1 x2) (fun o => o = 0 ∨ o = 1) := by
  sorry
theorem z_isSafe {row ta : Nat → Int} (h0 : RI row) (h4 : row 0 ≤ 4) (ht : ∀ c, c < 4 → 0 ≤ ta c ∧ ta c ≤ 5) : zok (f_HM_isSafe row ta) (fun o => o = 0 ∨ o = 1) := by
  sorry
def zWp (x1 x3 x4 : Int) (costs sm ta : Nat → Int) : Int := if costs (((x4 * 5 + sm (5 * (x3 / 4).toNat + ((ta (x3 / 4).toNat).toNat - 1))) * 16 + x3) * 25 + 5 * (ta (x3 / 4).toNat - 1) + ta (x3 % 4).toNat).toNat = -1 then 1000000000000000 else if x1 = 2 then 10000 * costs (((x4 * 5 + sm (5 * (x3 / 4).toNat + ((ta (x3 / 4).toNat).toNat - 1))) * 16 + x3) * 25 + 5 * (ta (x3 / 4).toNat - 1) + ta (x3 % 4).toNat).toNat + 1 else 1
theorem zWp_r (x1 x3 x4 : Int) {costs : Nat → Int} (hC : zR costs (-1) 99) (sm ta : Nat → Int) : zWp x1 x3 x4 costs sm ta = 1000000000000000 ∨ (1 ≤ zWp x1 x3 x4 costs sm ta ∧ zWp x1 x3 x4 costs sm ta ≤ 990001) := by
  sorry
theorem z_price {n : Nat} {row st costs : Nat → Int} (h0 : RI row) (hn : n ≤ 5) (hC : zR costs (-1) 99) (x1 x2 x3 x4 x5 : Int) (b1 : 0 ≤ x1 ∧ x1 ≤ 2) (at_ : Nat) (e2 : x2 = (at_ : Int)) (ha : at_ < 6720) (b4 : 0 ≤ x4 ∧ x4 < row 1) (e5 : x5 = (n : Int)) (s0 t0 : Nat → Int) (hS : zSm n s0 t0) (hc : zcode (zdig s0 t0) = st at_) (hm : zMv row t0 x3) (sm ta : Nat → Int) : zok (f_HM_price x1 x2 x3 x4 x5 st costs sm ta) (fun o => o.1 = zWp x1 x3 x4 costs s0 t0) := by
  sorry
theorem z_isOpen {n N : Nat} {row st nx sf : Nat → Int} (hX : NX n N row st nx (16 * N)) (hN : N ≤ 6720) (x1 x2 x3 : Int) (b1 : 0 ≤ x1 ∧ x1 ≤ 2) (at_ : Nat) (e2 : x2 = (at_ : Int)) (ha : at_ < N) (b3 : 0 ≤ x3 ∧ x3 < 16) (hsf : ∀ i, i < N → sf i = 0 ∨ sf i = 1) : zok (f_HM_isOpen x1 x2 x3 nx sf) (fun o => o = 0 ∨ (o = 1 ∧ nx (16 * x2 + x3).toNat ≠ -1)) := by
  sorry
