def zpr (c : Int) (d : Nat) : Nat := ((c * 31 + (d : Int)) % 16384).toNat
def TI (n N : Nat) (st tb : Nat → Int) : Prop := (∀ i, i < N → ∃ l, zD n l ∧ st i = zcode l) ∧ (∀ i j, i < j → j < N → st i ≠ st j) ∧ (∀ p, p < 16384 → -1 ≤ tb p ∧ tb p < (N : Int)) ∧ (∀ p q, p < q → q < 16384 → tb p ≠ -1 → tb p ≠ tb q) ∧ (∀ i : Nat, i < N → ∃ d, tb (zpr (st i) d) = (i : Int) ∧ ∀ e, e < d → tb (zpr (st i) e) ≠ -1)
theorem TI_0 (n : Nat) (st tb : Nat → Int) (h : ∀ p, p < 16384 → tb p = -1) : TI n 0 st tb :=
  ⟨fun i hi => absurd hi (Nat.not_lt_zero i), fun i j _ hj => absurd hj (Nat.not_lt_zero j), fun p hp => by rw [h p hp]; decide, fun p q hpq hq hp => absurd (h p (by omega)) hp, fun i hi => absurd hi (Nat.not_lt_zero i)⟩
theorem zcodes_le {n N : Nat} {st : Nat → Int} (hn : n ≤ 5) (h1 : ∀ i, i < N → ∃ l, zD n l ∧ st i = zcode l) (h2 : ∀ i j, i < j → j < N → st i ≠ st j) : N ≤ 6720 := by
  sorry
theorem TI_N {n N : Nat} {st tb : Nat → Int} (hn : n ≤ 5) (h : TI n N st tb) : N ≤ 6720 := zcodes_le hn h.1 h.2.1
theorem TI_r {n N : Nat} {st tb : Nat → Int} (hn : n ≤ 5) (h : TI n N st tb) (i : Nat) (hi : i < N) : 0 ≤ st i ∧ st i ≤ 1679615 := by
  sorry
theorem TI_free {n N : Nat} {st tb : Nat → Int} (hn : n ≤ 5) (h : TI n N st tb) (c : Int) : ∃ d, tb (zpr c d) = -1 := by
  sorry
def zFP (c : Int) (st tb : Nat → Int) (o : Int) : Prop := ∃ d, o = (zpr c d : Int) ∧ (∀ e, e < d → tb (zpr c e) ≠ -1 ∧ st (tb (zpr c e)).toNat ≠ c) ∧ (tb (zpr c d) = -1 ∨ (tb (zpr c d) ≠ -1 ∧ st (tb (zpr c d)).toNat = c))
theorem zpr_r (c : Int) (d : Nat) : zpr c d < 16384 := by
  sorry
theorem z_po9 (n N : Nat) (st tb : Nat → Int) (hn : n ≤ 5) (h : TI n N st tb) (c : Int) (hc : 0 ≤ c ∧ c ≤ 1679615) (D : Nat) (hD : tb (zpr c D) = -1) : ∀ (m d : Nat) (x2 : Int), x2 = (zpr c d : Int) → d ≤ D → (∀ e, e < d → tb (zpr c e) ≠ -1 ∧ st (tb (zpr c e)).toNat ≠ c) → D + 1 - d ≤ m → zok (f_HM_placeOf_9 st tb m c x2) (zFP c st tb) := by
  sorry
theorem z_placeOf {n N : Nat} {st tb : Nat → Int} (hn : n ≤ 5) (h : TI n N st tb) (c : Int) (hc : 0 ≤ c ∧ c ≤ 1679615) : zok (f_HM_placeOf c st tb) (zFP c st tb) := by
  sorry
def zNP (n N : Nat) (st : Nat → Int) (c : Int) (o : Int × Int × (Nat → Int) × (Nat → Int)) : Prop := ∃ N' : Nat, o.2.1 = (N' : Int) ∧ TI n N' o.2.2.1 o.2.2.2 ∧ (0 ≤ o.1 ∧ o.1 < (N' : Int)) ∧ N ≤ N' ∧ (∀ i, i < N → o.2.2.1 i = st i) ∧ o.2.2.1 o.1.toNat = c
theorem TI_add {n N : Nat} {st tb st' tb' : Nat → Int} (h : TI n N st tb) {l : List Int} (hl : zD n l) {d : Nat} (h1 : ∀ e, e < d → tb (zpr (zcode l) e) ≠ -1 ∧ st (tb (zpr (zcode l) e)).toNat ≠ zcode l) (h2 : tb (zpr (zcode l) d) = -1) (es : st' = zu st N (zcode l)) (et : tb' = zu tb (zpr (zcode l) d) (N : Int)) : TI n (N + 1) st' tb' ∧ (∀ i, i < N → st i ≠ zcode l) := by
  sorry
theorem z_numberOf {n N : Nat} {st tb : Nat → Int} (hn : n ≤ 5) (h : TI n N st tb) {l : List Int} (hl : zD n l) (x1 x2 : Int) (e1 : x1 = zcode l) (e2 : x2 = (N : Int)) : zok (f_HM_numberOf x1 x2 st tb) (zNP n N st x1) := by
  sorry
