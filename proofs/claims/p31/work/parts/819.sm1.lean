/-! COLUMNS of both -/
def TOPV (h w : Nat → Int) (c : Nat) : Int := if h c = 0 then 0 else w (10 * c + (h c - 1).toNat)
def CREL (many : Int) (hts wts H W : Nat → Int) : Prop := (∀ c : Nat, (c : Int) < many → H c = hts c) ∧ (∀ c i : Nat, (c : Int) < many → (i : Int) < hts c → W (10 * c + i) = wts (10 * c + i))
theorem CREL_top {many : Int} {hts wts H W : Nat → Int} (h : CREL many hts wts H W) {c : Nat} (hc : (c : Int) < many) (hh : 0 ≤ hts c) : TOPV H W c = TOPV hts wts c := by
  sorry
theorem k_has {x many v : Int} (hx : -2147483648 ≤ x ∧ x ≤ 2147483647) (hm : 0 ≤ many ∧ many ≤ 12) (h : f_Columns_has x many = some v) : ((0 ≤ x ∧ x < many) ∧ v = 1) ∨ ((x < 0 ∨ many ≤ x) ∧ v = 0) := by
  sorry
theorem k_hasN {c : Nat} {many v : Int} (hm : 0 ≤ many ∧ many ≤ 12) (hc : (c : Int) < many) (h : f_Columns_has (c : Int) many = some v) : v = 1 := by
  sorry
theorem k_high {c : Nat} {many v : Int} {hts : Nat → Int} (hm : 0 ≤ many ∧ many ≤ 12) (hc : (c : Int) < many) (h : f_Columns_high (c : Int) many hts = some v) : v = hts c := by
  sorry
theorem k_top {c : Nat} {many v : Int} {hts wts : Nat → Int} (hm : 0 ≤ many ∧ many ≤ 12) (hh : zR hts 0 10) (hc : (c : Int) < many) (h : f_Columns_top (c : Int) many hts wts = some v) : v = TOPV hts wts c := by
  sorry
theorem k_put {c : Nat} {many x : Int} {hts wts : Nat → Int} {v : Int × (Nat → Int) × (Nat → Int)} (hm : 0 ≤ many ∧ many ≤ 12) (hh : zR hts 0 10) (hc : (c : Int) < many) (h : f_Columns_put (c : Int) x many hts wts = some v) : (hts c < 10 ∧ v = (1, zu hts c (hts c + 1), zu wts (10 * c + (hts c).toNat) x)) ∨ (hts c = 10 ∧ v = (0, hts, wts)) := by
  sorry
theorem k_move {a b : Nat} {many : Int} {hts wts : Nat → Int} {v : (Nat → Int) × (Nat → Int)} (hm : 0 ≤ many ∧ many ≤ 12) (hh : zR hts 0 10) (ha : (a : Int) < many) (hb : (b : Int) < many) (hab : a ≠ b) (h1 : 0 < hts a) (h2 : hts b < 10) (h : f_Columns_move (a : Int) (b : Int) many hts wts = some v) : v = (zu (zu hts b (hts b + 1)) a (hts a - 1), zu wts (10 * b + (hts b).toNat) (TOPV hts wts a)) := by
  sorry
theorem r_columns {row : Nat → Int} {v : Int} (h : f_HM_columns row = some v) : v = row 0 := by
  sorry
theorem x_bool {v : Int} {o : Int} (hv : v = 0 ∨ v = 1) (h : (if ¬ (zi_w v = 0 ∨ zi_w v = 1) then none else some v) = some o) : o = v := by
  sorry
theorem r_isColumn {x v : Int} {row : Nat → Int} (hx : -2147483648 ≤ x ∧ x ≤ 2147483647) (hm : 0 ≤ row 0 ∧ row 0 ≤ 12) (h : f_HM_isColumn x row = some v) : ((0 ≤ x ∧ x < row 0) ∧ v = 1) ∨ ((x < 0 ∨ row 0 ≤ x) ∧ v = 0) := by
  sorry
theorem r_isChild {x v : Int} {row : Nat → Int} (hx : -2147483648 ≤ x ∧ x ≤ 2147483647) (hm : 0 ≤ row 1 ∧ row 1 ≤ 6) (h : f_HM_isChild x row = some v) : ((0 ≤ x ∧ x < row 1) ∧ v = 1) ∨ ((x < 0 ∨ row 1 ≤ x) ∧ v = 0) := by
  sorry
theorem r_top {c : Nat} {v : Int} {H W : Nat → Int} (hc : c < 12) (hh : 0 ≤ H c ∧ H c ≤ 10) (h : f_HM_top (c : Int) H W = some v) : v = TOPV H W c := by
  sorry
theorem r_shift {a b : Nat} {H W : Nat → Int} {v : (Nat → Int) × (Nat → Int)} (ha : a < 12) (hb : b < 12) (hab : a ≠ b) (hA : 0 ≤ H a ∧ H a ≤ 10) (hB : 0 ≤ H b ∧ H b ≤ 10) (h : f_HM_shift (a : Int) (b : Int) H W = some v) : v = (zu (zu H a (H a - 1)) b (H b + 1), zu W (10 * b + (H b).toNat) (TOPV H W a)) := by
  sorry
theorem CREL_move {many : Int} {hts wts H W : Nat → Int} (h : CREL many hts wts H W) (hh : zR hts 0 10) {a b : Nat} (ha : (a : Int) < many) (hb : (b : Int) < many) (hab : a ≠ b) (h1 : 0 < hts a) (h2 : hts b < 10) : CREL many (zu (zu hts b (hts b + 1)) a (hts a - 1)) (zu wts (10 * b + (hts b).toNat) (TOPV hts wts a)) (zu (zu H a (H a - 1)) b (H b + 1)) (zu W (10 * b + (H b).toNat) (TOPV H W a)) := by
  sorry
/-! steep places -/
def STP (many : Int) (h : Nat → Int) (st : Int) (c d : Int) : Prop := (0 ≤ c ∧ c < many) ∧ (0 ≤ d ∧ d < many) ∧ st < h c.toNat - h d.toNat
def LSP (many : Int) (h : Nat → Int) (st : Int) (k : Nat) (v : Int) : Prop :=
  (v = -1 ∧ ∀ c : Nat, k ≤ c → (c : Int) < many → ¬ STP many h st c (c - 1) ∧ ¬ STP many h st c (c + 1)) ∨
  (∃ c : Nat, v = (c : Int) ∧ k ≤ c ∧ (c : Int) < many ∧ (STP many h st c (c - 1) ∨ STP many h st c (c + 1)) ∧ ∀ e : Nat, k ≤ e → e < c → ¬ STP many h st e (e - 1) ∧ ¬ STP many h st e (e + 1))
theorem LSP_u {many : Int} {h : Nat → Int} {st : Int} {k : Nat} {v w : Int} (a : LSP many h st k v) (b : LSP many h st k w) : v = w := by
  sorry
theorem STP_agr {many : Int} {h g : Nat → Int} {st c d : Int} (e : ∀ c : Nat, (c : Int) < many → g c = h c) (s : STP many h st c d) : STP many g st c d := by
  sorry
theorem LSP_agr {many : Int} {h g : Nat → Int} {st : Int} {k : Nat} {v : Int} (e : ∀ c : Nat, (c : Int) < many → g c = h c) (s : LSP many h st k v) : LSP many g st k v := by
  sorry
theorem k_isSteep {c d st many v : Int} {hts : Nat → Int} (hc : -10 ≤ c ∧ c ≤ 20) (hd : -10 ≤ d ∧ d ≤ 20) (hm : 0 ≤ many ∧ many ≤ 12) (hs : 0 ≤ st ∧ st ≤ 100) (hh : zR hts 0 10) (h : f_Columns_isSteep c d st many hts = some v) : (v = 1 ∧ STP many hts st c d) ∨ (v = 0 ∧ ¬ STP many hts st c d) := by
  sorry
theorem k_lowest_2 {st many : Int} {hts : Nat → Int} (hm : 0 ≤ many ∧ many ≤ 12) (hs : 0 ≤ st ∧ st ≤ 100) (hh : zR hts 0 10) : ∀ (N k : Nat) (v : Int), k ≤ 12 → f_Columns_lowestSteep_2 many hts N st (k : Int) = some v → LSP many hts st k v := by
  sorry
theorem k_lowest {st many v : Int} {hts : Nat → Int} (hm : 0 ≤ many ∧ many ≤ 12) (hs : 0 ≤ st ∧ st ≤ 100) (hh : zR hts 0 10) (h : f_Columns_lowestSteep st many hts = some v) : LSP many hts st 0 v := by
  sorry
theorem r_isSteep {c d v : Int} {row H : Nat → Int} (hc : 0 ≤ c ∧ c < row 0) (hd : -10 ≤ d ∧ d ≤ 20) (hm : 0 ≤ row 0 ∧ row 0 ≤ 12) (hs : 0 ≤ row 7 ∧ row 7 ≤ 100) (hh : ∀ c : Nat, (c : Int) < row 0 → 0 ≤ H c ∧ H c ≤ 10) (h : f_HM_isSteep c d row H = some v) : (v = 1 ∧ STP (row 0) H (row 7) c d) ∨ (v = 0 ∧ ¬ STP (row 0) H (row 7) c d) := by
  sorry
theorem r_steepest_2 {row H : Nat → Int} (hm : 0 ≤ row 0 ∧ row 0 ≤ 12) (hs : 0 ≤ row 7 ∧ row 7 ≤ 100) (hh : ∀ c : Nat, (c : Int) < row 0 → 0 ≤ H c ∧ H c ≤ 10) : ∀ (N k : Nat) (v : Int), k ≤ 12 → f_HM_steepest_2 row H N (k : Int) = some v → LSP (row 0) H (row 7) k v := by
  sorry
theorem r_steepest {row H : Nat → Int} {v : Int} (hm : 0 ≤ row 0 ∧ row 0 ≤ 12) (hs : 0 ≤ row 7 ∧ row 7 ≤ 100) (hh : ∀ c : Nat, (c : Int) < row 0 → 0 ≤ H c ∧ H c ≤ 10) (h : f_HM_steepest row H = some v) : LSP (row 0) H (row 7) 0 v := by
  sorry
/-! slides -/
def SQ (h : Nat → Int) : Nat → Int
  | 0 => 0
  | k + 1 => SQ h k + h k * h k
theorem SQ_u {h : Nat → Int} {c : Nat} {v : Int} : ∀ k, (k ≤ c → SQ (zu h c v) k = SQ h k) ∧ (c < k → SQ (zu h c v) k = SQ h k + v * v - h c * h c) := by
  sorry
theorem SQ_r {h : Nat → Int} (hh : zR h 0 10) : ∀ k, 0 ≤ SQ h k ∧ SQ h k ≤ 100 * (k : Int) := by
  sorry
theorem SQ_0 {h : Nat → Int} (hh : zR h 0 10) : ∀ k, SQ h k ≤ 0 → ∀ c, c < k → h c = 0 := by
  sorry
theorem sq_m (x : Int) : (x - 1) * (x - 1) = x * x - 2 * x + 1 := by
  sorry
theorem sq_p (x : Int) : (x + 1) * (x + 1) = x * x + 2 * x + 1 := by
  sorry
theorem move_r {hts : Nat → Int} (hh : zR hts 0 10) {a b : Nat} (hab : a ≠ b) (h1 : 0 < hts a) (h2 : hts b < 10) : zR (zu (zu hts b (hts b + 1)) a (hts a - 1)) 0 10 := fun c => by
  have ba := hh a
  have bb := hh b
  have bc := hh c
  by_cases e : c = a
  · subst e; rw [zu_eq]; omega
  · rw [zu_ne _ _ e]
    by_cases e2 : c = b
    · subst e2; rw [zu_eq]; omega
    · rw [zu_ne _ _ e2]; exact bc
theorem SQ_move {hts : Nat → Int} {a b : Nat} (ha : a < 12) (hb : b < 12) (hab : a ≠ b) (h : 2 ≤ hts a - hts b) : SQ (zu (zu hts b (hts b + 1)) a (hts a - 1)) 12 + 2 ≤ SQ hts 12 := by
  sorry
theorem slide_eq {many : Int} {row : Nat → Int} (hm : 0 ≤ many ∧ many ≤ 12) (em : many = row 0) (hs : 1 ≤ row 7 ∧ row 7 ≤ 100) {V U : Int × (Nat → Int) × (Nat → Int)} : ∀ (N M n : Nat) (hts wts H W : Nat → Int) (s : Int), zR hts 0 10 → CREL many hts wts H W → 2 * (n : Int) + SQ hts 12 ≤ 1200 → LSP (row 0) H (row 7) 0 s → f_Columns_settle_2 many N (row 7) (n : Int) hts wts = some V → f_HM_slideAll_7 row M (n : Int) s H W = some U → V.1 = U.1 ∧ zR V.2.1 0 10 ∧ CREL many V.2.1 V.2.2 U.2.1 U.2.2 := by
  sorry
/-! shades -/
theorem shade_eq {many pl sl : Int} {hts H row : Nat → Int} (hm : 0 ≤ many ∧ many ≤ 12) (em : many = row 0) (hp : 0 ≤ pl ∧ pl ≤ 11) (hs : 1 ≤ sl ∧ sl ≤ 9) (es : sl = row 6) (hh : zR hts 0 10) (hH : ∀ c : Nat, (c : Int) < many → H c = hts c) : ∀ (N M k : Nat) (x v w : Int), k ≤ 12 → (0 ≤ x ∧ x ≤ 10) → f_Columns_shadeAt_5 many hts N pl sl x (k : Int) = some v → f_HM_shadeAt_4 row H M pl x (k : Int) = some w → v = w ∧ 0 ≤ v ∧ v ≤ 10 := by
  sorry
/-! load, store -/
theorem r_load31 {row : Nat → Int} : ∀ (N k : Nat) (H W : Nat → Int) (o : (Nat → Int) × (Nat → Int)), k ≤ 120 → (∀ j, j < k → W j = row (21 + j)) → f_HM_load_31 row N (k : Int) H W = some o → o.1 = H ∧ ∀ j, j < 120 → o.2 j = row (21 + j) := by
  sorry
theorem r_load2 {row : Nat → Int} : ∀ (N k : Nat) (H W : Nat → Int) (o : (Nat → Int) × (Nat → Int)), k ≤ 12 → (∀ j, j < k → H j = row (9 + j)) → f_HM_load_2 row N (k : Int) H W = some o → (∀ j, j < 12 → o.1 j = row (9 + j)) ∧ ∀ j, j < 120 → o.2 j = row (21 + j) := by
  sorry
theorem r_load {row H W : Nat → Int} {o : (Nat → Int) × (Nat → Int)} (h : f_HM_load row H W = some o) : (∀ j, j < 12 → o.1 j = row (9 + j)) ∧ ∀ j, j < 120 → o.2 j = row (21 + j) := by
  sorry
theorem r_store33 {H W : Nat → Int} : ∀ (N k : Nat) (row o : Nat → Int), k ≤ 120 → f_HM_store_33 H W N (k : Int) row = some o → (∀ j, k ≤ j → j < 120 → o (21 + j) = W j) ∧ ∀ y, (y < 21 + k ∨ 141 ≤ y) → o y = row y := by
  sorry
theorem r_store2 {H W : Nat → Int} {m : Int} (hm : 0 ≤ m ∧ m ≤ 12) : ∀ (N k : Nat) (row o : Nat → Int), (k : Int) ≤ m → row 0 = m → f_HM_store_2 H W N (k : Int) row = some o → (∀ j : Nat, k ≤ j → (j : Int) < m → o (9 + j) = H j) ∧ (∀ j, j < 120 → o (21 + j) = W j) ∧ ∀ y : Nat, (y < 9 + k ∨ ((9 + m ≤ (y : Int)) ∧ y < 21) ∨ 141 ≤ y) → o y = row y := by
  sorry
theorem r_store {H W row o : Nat → Int} (hm : 0 ≤ row 0 ∧ row 0 ≤ 12) (h : f_HM_store H W row = some o) : (∀ j : Nat, (j : Int) < row 0 → o (9 + j) = H j) ∧ (∀ j, j < 120 → o (21 + j) = W j) ∧ ∀ y : Nat, (y < 9 ∨ 141 ≤ y) → o y = row y := by
  sorry
