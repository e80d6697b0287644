def zOI (l : List Int) (z k : Nat) (x3 : Int) (sm ta : Nat → Int) : Prop := ∃ p q : List Int, l = p ++ q ∧ q.length = k ∧ x3 = zcode p ∧ q.count 0 = z ∧ q.reverse = zrv sm ta z ++ zcol sm (3 - z) (ta (3 - z)).toNat ∧ (∀ c, c < 4 → 0 ≤ ta c ∧ ta c ≤ 5) ∧ (∀ c, c < 3 - z → ta c = 0)
theorem zcount_le (l : List Int) : l.count 0 ≤ l.length := List.count_le_length
theorem zcode_n (l : List Int) (h : ∀ d, d ∈ l → 0 ≤ d) : 0 ≤ zcode l := by
  sorry
theorem zOI_step {n : Nat} {l : List Int} {z k : Nat} {x3 : Int} {sm ta : Nat → Int} (hn : n ≤ 5) (hl : zD n l) (h : zOI l z k x3 sm ta) (hk : k < n + 3) : z ≤ 3 ∧ (0 ≤ x3 ∧ x3 ≤ 1679615) ∧ ((x3 % 6 = 0 → z ≤ 2 ∧ zOI l (z + 1) (k + 1) (x3 / 6) sm ta) ∧ (x3 % 6 ≠ 0 → ta (3 - z) ≤ 4 ∧ ∀ (sm' ta' : Nat → Int), sm' = zu sm (5 * (3 - z) + (ta (3 - z)).toNat) (x3 % 6 - 1) → ta' = zu ta (3 - z) (ta (3 - z) + 1) → zOI l z (k + 1) (x3 / 6) sm' ta')) := by
  sorry
def zOP (n : Nat) (l : List Int) (o : (Nat → Int) × (Nat → Int)) : Prop := zdig o.1 o.2 = l ∧ zSm n o.1 o.2
theorem z_os31 (n : Nat) (l : List Int) (hn : n ≤ 5) (hl : zD n l) (x2 : Int) (h2 : x2 = (n : Int)) : ∀ (m z k : Nat) (x3 x4 x5 : Int) (sm ta : Nat → Int), x4 = 3 - (z : Int) → x5 = (k : Int) → k ≤ n + 3 → zOI l z k x3 sm ta → n + 4 - k ≤ m → zok (f_HM_openSmall_31 m x2 x3 x4 x5 sm ta) (zOP n l) := by
  sorry
theorem z_os8 (n : Nat) (l : List Int) (hn : n ≤ 5) (hl : zD n l) (x2 x3 : Int) (h2 : x2 = (n : Int)) (h3 : x3 = zcode l) : ∀ (m k : Nat) (x5 : Int) (sm ta : Nat → Int), x5 = (k : Int) → k ≤ 4 → (∀ c, c < k → ta c = 0) → 5 - k ≤ m → zok (f_HM_openSmall_8 m x2 x3 3 x5 sm ta) (zOP n l) := by
  sorry
theorem z_openSmall {n : Nat} {l : List Int} (hn : n ≤ 5) (hl : zD n l) (x1 x2 : Int) (h1 : x1 = zcode l) (h2 : x2 = (n : Int)) (sm ta : Nat → Int) : zok (f_HM_openSmall x1 x2 sm ta) (zOP n l) := by
  sorry
