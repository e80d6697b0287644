/-! THE LEXERS -/
abbrev isL (x : Int) : Prop := 97 ≤ x ∧ x ≤ 122
abbrev isD (x : Int) : Prop := 48 ≤ x ∧ x ≤ 57
def WQ (T : Nat → Int) (f r w : Nat) : Prop := (r : Int) - (f : Int) = zsl w ∧ ∀ j : Nat, (j : Int) < zsl w → T (f + j) = zch w j
theorem zsl_2 {w : Nat} (hw : w < 14) : 2 ≤ zsl w ∧ zsl w ≤ 8 := by
  sorry
theorem zch_r {w : Nat} (hw : w < 14) {j : Nat} (hj : (j : Int) < zsl w) : 97 ≤ zch w j ∧ zch w j ≤ 122 := by
  sorry
theorem l_isWord_15 (w : Nat) (hw : w < 14) (T : Nat → Int) (hT : zR T 0 255) (f : Nat) (hf : (f : Int) + zsl w ≤ 400) : ∀ (n : Nat) (x4 : Int), 0 ≤ x4 → x4 ≤ zsl w → (∀ j : Nat, (j : Int) < x4 → T (f + j) = zch w j) → zsl w + 1 - x4 ≤ (n : Int) → zok (f_LawReader_isWord_15 w T n (f : Int) x4) (fun o => (o = 1 ∧ ∀ j : Nat, (j : Int) < zsl w → T (f + j) = zch w j) ∨ (o = 0 ∧ ¬ ∀ j : Nat, (j : Int) < zsl w → T (f + j) = zch w j)) := by
  sorry
theorem l_isWord (w : Nat) (hw : w < 14) (T : Nat → Int) (hT : zR T 0 255) (f r : Nat) (hfr : f ≤ r) (hr : r ≤ 400) : zok (f_LawReader_isWord (f : Int) (r : Int) w T) (fun o => (o = 1 ∧ WQ T f r w) ∨ (o = 0 ∧ ¬ WQ T f r w)) := by
  sorry
theorem l_wordOf (T : Nat → Int) (hT : zR T 0 255) (f r : Nat) (hfr : f ≤ r) (hr : r ≤ 400) : zok (f_LawReader_wordOf (f : Int) (r : Int) T) (fun o => (∃ w : Nat, w < 8 ∧ o = (w : Int) ∧ WQ T f r w) ∨ (o = -1 ∧ ∀ w : Nat, w < 8 → ¬ WQ T f r w)) := by
  sorry
theorem l_ruleWordOf (T : Nat → Int) (hT : zR T 0 255) (f r : Nat) (hfr : f ≤ r) (hr : r ≤ 400) : zok (f_LawReader_ruleWordOf (f : Int) (r : Int) T) (fun o => (∃ w : Nat, (8 ≤ w ∧ w < 14) ∧ o = 252 + (w : Int) ∧ WQ T f r w) ∨ (o = 256 ∧ ∀ w : Nat, (8 ≤ w ∧ w < 14) → ¬ WQ T f r w)) := by
  sorry
/-- the number that digits spell -/
def DV (T : Nat → Int) (f : Nat) : Nat → Int
  | 0 => 0
  | k + 1 => DV T f k * 10 + T (f + k) - 48
theorem DV_0 {T : Nat → Int} {f : Nat} : ∀ k : Nat, (∀ j, j < k → isD (T (f + j))) → 0 ≤ DV T f k := by
  sorry
theorem DV_mono {T : Nat → Int} {f : Nat} : ∀ (k d : Nat), (∀ j, j < k + d → isD (T (f + j))) → DV T f k ≤ DV T f (k + d) := by
  sorry
theorem l_numberOf_5 (T : Nat → Int) (hT : zR T 0 255) (f r : Nat) (hr : r ≤ 400) (hD : ∀ j, f ≤ j → j < r → isD (T j)) : ∀ (n : Nat) (k : Nat) (x3 x4 : Int), f + k ≤ r → x4 = ((f + k : Nat) : Int) → x3 = DV T f k → x3 ≤ 1000 → (r : Int) + 1 - x4 ≤ (n : Int) → zok (f_LawReader_numberOf_5 T n (r : Int) x3 x4) (fun o => (DV T f (r - f) ≤ 1000 ∧ o = DV T f (r - f)) ∨ (1000 < DV T f (r - f) ∧ o = -1)) := by
  sorry
theorem l_numberOf (T : Nat → Int) (hT : zR T 0 255) (f r : Nat) (hfr : f ≤ r) (hr : r ≤ 400) (hD : ∀ j, f ≤ j → j < r → isD (T j)) : zok (f_LawReader_numberOf (f : Int) (r : Int) T) (fun o => (DV T f (r - f) ≤ 1000 ∧ o = DV T f (r - f)) ∨ (1000 < DV T f (r - f) ∧ o = -1)) := by
  sorry
theorem zi_and255 {x : Int} (h : 0 ≤ x ∧ x ≤ 255) : zi_and x 255 = x := by
  sorry
/-- a token's end -/
def TEND (T : Nat → Int) (n q r : Nat) : Prop := q < r ∧ r ≤ n ∧ ((isL (T q) ∧ (∀ j, q ≤ j → j < r → isL (T j)) ∧ (r = n ∨ ¬ isL (T r))) ∨ (isD (T q) ∧ (∀ j, q ≤ j → j < r → isD (T j)) ∧ (r = n ∨ ¬ isD (T r))) ∨ (¬ isL (T q) ∧ ¬ isD (T q) ∧ r = q + 1))
theorem TEND_u {T : Nat → Int} {n q r r' : Nat} (h : TEND T n q r) (g : TEND T n q r') : r = r' := by
  sorry
/-- the class's token -/
def CT (T : Nat → Int) (q r : Nat) (c v : Int) : Prop :=
  (isL (T q) ∧ ((∃ w : Nat, w < 8 ∧ WQ T q r w ∧ c = 259 ∧ v = (w : Int)) ∨ (∃ w : Nat, (8 ≤ w ∧ w < 14) ∧ WQ T q r w ∧ c = 252 + (w : Int)) ∨ ((∀ w : Nat, w < 14 → ¬ WQ T q r w) ∧ c = 256))) ∨
  (isD (T q) ∧ ((DV T q (r - q) ≤ 1000 ∧ c = 258 ∧ v = DV T q (r - q)) ∨ (1000 < DV T q (r - q) ∧ c = 256))) ∨ (¬ isL (T q) ∧ ¬ isD (T q) ∧ c = T q)
theorem l_note (T : Nat → Int) (hT : zR T 0 255) (n q r k : Nat) (hn : n ≤ 400) (hk : k ≤ 400) (h : TEND T n q r) (tk vl : Nat → Int) : zok (f_LawReader_note (q : Int) (r : Int) (k : Int) T tk vl) (fun o => CT T q r (o.1 k) (o.2 k) ∧ ∀ j : Nat, j ≠ k → o.1 j = tk j ∧ o.2 j = vl j) := by
  sorry
/-- what lies read of the class's tokens: k tokens, the last one's end is x4 -/
def SP (T : Nat → Int) (n : Nat) (tk pl vl : Nat → Int) (k : Nat) (x4 : Nat) : Prop :=
  ∃ qs rs : Nat → Nat, (∀ i, i < k → pl i = (qs i : Int) ∧ T (qs i) ≠ 32 ∧ TEND T n (qs i) (rs i) ∧ CT T (qs i) (rs i) (tk i) (vl i)) ∧
    (∀ i, i < k → ∀ j, (if i = 0 then 0 else rs (i - 1)) ≤ j → j < qs i → T j = 32) ∧ (∀ i, i < k → (if i = 0 then 0 else rs (i - 1)) ≤ qs i) ∧ x4 = (if k = 0 then 0 else rs (k - 1)) ∧ k ≤ x4
theorem SP_next {T : Nat → Int} {n : Nat} {tk pl vl tk' pl' vl' : Nat → Int} {k x4 q r : Nat} (h : SP T n tk pl vl k x4) (hb : ∀ j, x4 ≤ j → j < q → T j = 32) (hq : x4 ≤ q) (hn : T q ≠ 32) (he : TEND T n q r) (hc : CT T q r (tk' k) (vl' k)) (hp : pl' k = (q : Int)) (hk : ∀ j : Nat, j < k → tk' j = tk j ∧ vl' j = vl j ∧ pl' j = pl j) : SP T n tk' pl' vl' (k + 1) r := by
  sorry
theorem l_split_39 (T : Nat → Int) (hT : zR T 0 255) (n q k : Nat) (hn : n ≤ 400) (hk : k ≤ 400) (hq : q < n) (k8 : Int → Int → Int → Int → (Nat → Int) → (Nat → Int) → (Nat → Int) → Option ((Nat → Int) × (Nat → Int) × (Nat → Int))) (Q : (Nat → Int) × (Nat → Int) × (Nat → Int) → Prop) (tk pl vl : Nat → Int)
    (hk8 : ∀ (r : Nat) (tk' pl' vl' : Nat → Int), TEND T n q r → CT T q r (tk' k) (vl' k) → pl' k = (q : Int) → (∀ j : Nat, j < k → tk' j = tk j ∧ vl' j = vl j ∧ pl' j = pl j) → zok (k8 (n : Int) ((k + 1 : Nat) : Int) (r : Int) ((q + 1 : Nat) : Int) tk' pl' vl') Q) :
    ∀ (N : Nat) (r : Nat), q < r → r ≤ n → (isL (T q) → ∀ j, q ≤ j → j < r → isL (T j)) → (isD (T q) → ∀ j, q ≤ j → j < r → isD (T j)) → (¬ isL (T q) → ¬ isD (T q) → r = q + 1) → (n : Int) + 1 - (r : Int) ≤ (N : Int) → zok (f_LawReader_split_39 T k8 N (n : Int) (k : Int) (r : Int) (q : Int) tk pl vl) Q := by
  sorry
theorem l_split_8 (T : Nat → Int) (hT : zR T 0 255) (n : Nat) (hn : n ≤ 400) : ∀ (N : Nat) (k x4 x5 : Nat) (tk pl vl : Nat → Int), SP T n tk pl vl k x4 → x4 ≤ n → x5 ≤ n → (∀ j, x4 ≤ j → j < x5 → T j = 32) → (n : Int) + 1 - (x5 : Int) ≤ (N : Int) → zok (f_LawReader_split_8 T N (n : Int) (k : Int) (x4 : Int) (x5 : Int) tk pl vl) (fun o => ∃ m z : Nat, SP T n o.1 o.2.1 o.2.2 m z ∧ z ≤ n ∧ (∀ j, z ≤ j → j < n → T j = 32) ∧ o.1 m = 257 ∧ o.2.1 m = (n : Int)) := by
  sorry
theorem l_split (T : Nat → Int) (hT : zR T 0 255) (n : Nat) (hn : n ≤ 400) (tk pl vl : Nat → Int) : zok (f_LawReader_split (n : Int) T tk pl vl) (fun o => ∃ m z : Nat, SP T n o.1 o.2.1 o.2.2 m z ∧ z ≤ n ∧ (∀ j, z ≤ j → j < n → T j = 32) ∧ o.1 m = 257 ∧ o.2.1 m = (n : Int)) := by
  sorry
