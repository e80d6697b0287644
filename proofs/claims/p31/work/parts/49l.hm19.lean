def zHt (row : Nat → Int) (j : Nat) : Int := if (j : Int) < row 0 then row (9 + j) else 0
def zHs (row : Nat → Int) : Nat → Int
  | 0 => 0
  | c + 1 => zHs row c + zHt row c
theorem zHt_r {row : Nat → Int} (h0 : RI row) (j : Nat) (hj : j < 12) : 0 ≤ zHt row j ∧ zHt row j ≤ 10 := by
  sorry
theorem zHs_m {row : Nat → Int} (h0 : RI row) {n : Nat} (hs : zHs row 4 = (n : Int)) : ∀ c, c < 4 → 0 ≤ zHs row c ∧ zHs row c + zHt row c ≤ (n : Int) := by
  sorry
theorem zbase_count (a : Int) (s k : Nat) : (zbase (s + k)).count a = (zbase s).count a + ((List.range k).map (fun i : Nat => (s : Int) + (i : Int) + 1)).count a := by
  sorry
theorem zcol_sq {sm : Nat → Int} {c t : Nat} {s : Nat} (h : ∀ i : Nat, i < t → sm (5 * c + i) = (s : Int) + (i : Int)) : zcol sm c t = (List.range t).map (fun i : Nat => (s : Int) + (i : Int) + 1) := by
  sorry
theorem zSm_start {row sm ta : Nat → Int} (h0 : RI row) {n : Nat} (hn : n ≤ 5) (hs : zHs row 4 = (n : Int)) (h : ∀ j, j < 4 → ta j = zHt row j ∧ ∀ i : Nat, (i : Int) < zHt row j → sm (5 * j + i) = zHs row j + (i : Int)) : zSm n sm ta := by
  sorry
def zSI (row sm ta : Nat → Int) (c : Nat) : Prop := ∀ j, j < c → ta j = zHt row j ∧ ∀ i : Nat, (i : Int) < zHt row j → sm (5 * j + i) = zHs row j + (i : Int)

theorem z_fs66 (n : Nat) (row : Nat → Int) (h0 : RI row) (hn : n ≤ 5) (hs : zHs row 4 = (n : Int)) (k31 : (Int → Int → Int → Int → Int → Int → Int → Int → (Nat → Int) → (Nat → Int) → (Nat → Int) → (Nat → Int) → (Nat → Int) → (Nat → Int) → (Nat → Int) → (Nat → Int) → (Nat → Int) → Option (Int × Int × Int × Int × Int × (Nat → Int) × (Nat → Int) × (Nat → Int) × (Nat → Int) × (Nat → Int) × (Nat → Int) × (Nat → Int) × (Nat → Int) × (Nat → Int)))) (P : (Int × Int × Int × Int × Int × (Nat → Int) × (Nat → Int) × (Nat → Int) × (Nat → Int) × (Nat → Int) × (Nat → Int) × (Nat → Int) × (Nat → Int) × (Nat → Int)) → Prop) (x1 : Int) (c : Nat) (hc : c < 4) (law brk val sum nS : Int) (set rest st tb nx costs ta : Nat → Int) (ht : ta c = zHt row c) (hk : ∀ (x2 : Int) (wei sm : Nat → Int), x2 = zHs row (c + 1) → zR wei 0 30 → zSI row sm ta (c + 1) → zok (k31 x1 x2 ((c : Int) + 1) law brk val sum nS set rest wei st tb nx costs sm ta) P) : ∀ (m i : Nat) (x2 x3 x4 : Int) (wei sm : Nat → Int), x3 = (c : Int) → x4 = (i : Int) → x2 = zHs row c + (i : Int) → (i : Int) ≤ zHt row c → zR wei 0 30 → zSI row sm ta c → (∀ i' : Nat, i' < i → sm (5 * c + i') = zHs row c + (i' : Int)) → zHt row c - (i : Int) + 1 ≤ (m : Int) → zok (f_HM_findStates_66 row k31 m x1 x2 x3 x4 law brk val sum nS set rest wei st tb nx costs sm ta) P := by
  sorry
theorem z_fs31 (n : Nat) (row : Nat → Int) (h0 : RI row) (hn : n ≤ 5) (hs : zHs row 4 = (n : Int)) (x1 : Int) (e1 : x1 = (n : Int)) (law brk val sum nS : Int) (set rest st tb nx costs : Nat → Int) (hC : zR costs (-1) 99) (eN : nS = 0) (hT : ∀ p, p < 16384 → tb p = -1) : ∀ (m c : Nat) (x2 x3 : Int) (wei sm ta : Nat → Int), x3 = (c : Int) → c ≤ 4 → x2 = zHs row c → zR wei 0 30 → zSI row sm ta c → 5 - c ≤ m → zok (f_HM_findStates_31 row m x1 x2 x3 law brk val sum nS set rest wei st tb nx costs sm ta) (zFS n row) := by
  sorry
theorem z_fs2 (n : Nat) (row : Nat → Int) (h0 : RI row) (hn : n ≤ 5) (hs : zHs row 4 = (n : Int)) (x1 : Int) (e1 : x1 = (n : Int)) (law brk val sum nS : Int) (set rest wei st nx costs sm ta : Nat → Int) (hC : zR costs (-1) 99) (hW : zR wei 0 30) : ∀ (m p : Nat) (x2 : Int) (tb : Nat → Int), x2 = (p : Int) → p ≤ 16384 → (∀ q, q < p → tb q = -1) → 16385 - p ≤ m → zok (f_HM_findStates_2 row m x1 x2 law brk val sum nS set rest wei st tb nx costs sm ta) (zFS n row) := by
  sorry
theorem z_findStates {n : Nat} {row : Nat → Int} (h0 : RI row) (hn : n ≤ 5) (hs : zHs row 4 = (n : Int)) (x1 : Int) (e1 : x1 = (n : Int)) (law brk val sum nS : Int) (set rest wei st tb nx costs sm ta : Nat → Int) (hC : zR costs (-1) 99) (hW : zR wei 0 30) : zok (f_HM_findStates x1 row law brk val sum nS set rest wei st tb nx costs sm ta) (zFS n row) := by
  sorry
