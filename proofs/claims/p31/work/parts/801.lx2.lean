/-! THE REFERENCE'S LEXER -/
def WL (T : Nat → Int) (q : Nat) : Nat → Int
  | 0 => 0
  | k + 1 => if k < 10 then WL T q k * 32 + T (q + k) - 96 else -1
def WD (T : Nat → Int) (q : Nat) : Nat → Int
  | 0 => 0
  | k + 1 => if WD T q k ≤ 1000000 then WD T q k * 10 + T (q + k) - 48 else WD T q k
theorem WD_r {T : Nat → Int} {q : Nat} : ∀ k : Nat, (∀ j, j < k → isD (T (q + j))) → 0 ≤ WD T q k ∧ WD T q k ≤ 10000009 := by
  sorry
/-- while the number is small both tell the same -/
theorem WD_DV {T : Nat → Int} {q : Nat} : ∀ k : Nat, (∀ j, j < k → isD (T (q + j))) → (WD T q k = DV T q k) ∨ (1000000 < WD T q k ∧ 1000000 < DV T q k) := by
  sorry
def SO (T : Nat → Int) (n q : Nat) : Int := if q = n then 0 else if 97 ≤ T q ∧ T q ≤ 122 then 1 else if 48 ≤ T q ∧ T q ≤ 57 then 2 else 3
def WO (T : Nat → Int) (n q r : Nat) : Int := if q = n then 0 else if 97 ≤ T q ∧ T q ≤ 122 then WL T q (r - q) else if 48 ≤ T q ∧ T q ≤ 57 then WD T q (r - q) else T q
theorem l_next_243n (T : Nat → Int) (n q r : Nat) (s w : Int) (hs : 0 ≤ s ∧ s ≤ 3) (h2 : s ≠ 2) (N : Nat) : zok (f_HM_next_243 (n : Int) T (N + 1) (q : Int) (r : Int) s w) (fun o => o = ((q : Int), (r : Int), s, w)) := by
  sorry
theorem l_next_243 (T : Nat → Int) (hT : zR T 0 255) (n q : Nat) (hn : n ≤ 400) : ∀ (N r : Nat) (w : Int), q ≤ r → r ≤ n → (∀ j, q ≤ j → j < r → isD (T j)) → w = WD T q (r - q) → (n : Int) + 1 - (r : Int) ≤ (N : Int) → zok (f_HM_next_243 (n : Int) T N (q : Int) (r : Int) 2 w) (fun o => ∃ r' : Nat, o = ((q : Int), (r' : Int), 2, WD T q (r' - q)) ∧ r ≤ r' ∧ r' ≤ n ∧ (∀ j, q ≤ j → j < r' → isD (T j)) ∧ (r' = n ∨ ¬ isD (T r'))) := by
  sorry
theorem l_next_149n (T : Nat → Int) (n q r : Nat) (s w : Int) (hs : 0 ≤ s ∧ s ≤ 3) (h1 : s ≠ 1) (P : Int × Int × Int × Int → Prop) (h : zok (f_HM_next_243 (n : Int) T zfu (q : Int) (r : Int) s w) P) (N : Nat) : zok (f_HM_next_149 (n : Int) T (N + 1) (q : Int) (r : Int) s w) P := by
  sorry
theorem zfu_s : zfu = (zfu - 1) + 1 := by unfold zfu; rfl
theorem l_next_149 (T : Nat → Int) (hT : zR T 0 255) (n q : Nat) (hn : n ≤ 400) : ∀ (N r : Nat) (w : Int), q ≤ r → r ≤ n → (∀ j, q ≤ j → j < r → isL (T j)) → w = WL T q (r - q) → (n : Int) + 1 - (r : Int) ≤ (N : Int) → zok (f_HM_next_149 (n : Int) T N (q : Int) (r : Int) 1 w) (fun o => ∃ r' : Nat, o = ((q : Int), (r' : Int), 1, WL T q (r' - q)) ∧ r ≤ r' ∧ r' ≤ n ∧ (∀ j, q ≤ j → j < r' → isL (T j)) ∧ (r' = n ∨ ¬ isL (T r'))) := by
  sorry
def NXQ (T : Nat → Int) (n p : Nat) (o : Int × Int × Int × Int) : Prop := ∃ q r : Nat, p ≤ q ∧ q ≤ n ∧ (∀ j, p ≤ j → j < q → T j = 32) ∧ ((q = n ∧ r = n) ∨ (q < n ∧ T q ≠ 32 ∧ TEND T n q r)) ∧ o = ((q : Int), (r : Int), SO T n q, WO T n q r)
theorem l_next_46 (T : Nat → Int) (hT : zR T 0 255) (n p q : Nat) (hn : n ≤ 400) (h1 : p ≤ q) (h2 : q ≤ n) (h3 : ∀ j, p ≤ j → j < q → T j = 32) (h4 : q = n ∨ T q ≠ 32) (to so wo : Int) : zok (f_HM_next_46 (n : Int) T (q : Int) to so wo) (NXQ T n p) := by
  sorry
theorem l_next_8 (T : Nat → Int) (hT : zR T 0 255) (n p : Nat) (hn : n ≤ 400) : ∀ (N q : Nat) (to so wo : Int), p ≤ q → q ≤ n → (∀ j, p ≤ j → j < q → T j = 32) → (n : Int) + 1 - (q : Int) ≤ (N : Int) → zok (f_HM_next_8 (n : Int) T N (q : Int) to so wo) (NXQ T n p) := by
  sorry
theorem l_next (T : Nat → Int) (hT : zR T 0 255) (n p : Nat) (hn : n ≤ 400) (hp : p ≤ n) (fr so wo : Int) : zok (f_HM_next (n : Int) T fr (p : Int) so wo) (NXQ T n p) := by
  sorry
/-! both have the same tokens: where they begin, where they end -/
def LXS (T : Nat → Int) (n m : Nat) (qs rs : Nat → Nat) : Prop :=
  (∀ i, i < m → qs i < n ∧ T (qs i) ≠ 32 ∧ TEND T n (qs i) (rs i)) ∧ (qs m = n ∧ rs m = n) ∧ (∀ i, i ≤ m → (if i = 0 then 0 else rs (i - 1)) ≤ qs i) ∧ ∀ i, i ≤ m → ∀ j, (if i = 0 then 0 else rs (i - 1)) ≤ j → j < qs i → T j = 32
theorem NB_u {T : Nat → Int} {n p q q' : Nat} (h1 : p ≤ q) (h2 : ∀ j, p ≤ j → j < q → T j = 32) (h3 : q = n ∨ T q ≠ 32) (hq : q ≤ n) (g1 : p ≤ q') (g2 : ∀ j, p ≤ j → j < q' → T j = 32) (g3 : q' = n ∨ T q' ≠ 32) (hq' : q' ≤ n) : q = q' := by
  sorry
theorem NXQ_i {T : Nat → Int} {n m : Nat} {qs rs : Nat → Nat} (h : LXS T n m qs rs) {i : Nat} (hi : i ≤ m) {o : Int × Int × Int × Int} (ho : NXQ T n (if i = 0 then 0 else rs (i - 1)) o) : o = ((qs i : Int), (rs i : Int), SO T n (qs i), WO T n (qs i) (rs i)) := by
  sorry
theorem LXS_of {T : Nat → Int} {n m z : Nat} {tk pl vl : Nat → Int} (h : SP T n tk pl vl m z) (hz : z ≤ n) (hb : ∀ j, z ≤ j → j < n → T j = 32) (hp : pl m = (n : Int)) : ∃ qs rs : Nat → Nat, LXS T n m qs rs ∧ (∀ i, i ≤ m → pl i = (qs i : Int)) ∧ (∀ i, i < m → CT T (qs i) (rs i) (tk i) (vl i)) ∧ m ≤ n := by
  sorry
/-! a token in both tongues -/
def zcd (w : Nat) : Int := ([3417476, 674919554696, 777297172, 215533, 655, 271592, 12791, 661069, 21285043, 67155, 294, 498, 1476, 14836] : List Int).getD w 0
def TKR (c v s w : Int) : Prop := (-1 ≤ w ∧ w ≤ 2000000000000000) ∧
  ((s = 1 ∧ ((∃ k : Nat, k < 8 ∧ c = 259 ∧ v = (k : Int) ∧ w = zcd k) ∨ (∃ k : Nat, (8 ≤ k ∧ k < 14) ∧ c = 252 + (k : Int) ∧ w = zcd k) ∨ (c = 256 ∧ ∀ k : Nat, k < 14 → w ≠ zcd k))) ∨
  (s = 2 ∧ ((c = 258 ∧ v = w ∧ 0 ≤ w ∧ w ≤ 1000) ∨ (c = 256 ∧ 1000 < w))) ∨ (s = 3 ∧ c = w ∧ 0 ≤ c ∧ c ≤ 255) ∨ (s = 0 ∧ c = 257))
def LF (T : Nat → Int) (f : Nat) : Nat → Int
  | 0 => 0
  | k + 1 => LF T f k * 32 + T (f + k) - 96
theorem LF_0 {T : Nat → Int} {f : Nat} : ∀ k : Nat, (∀ j, j < k → isL (T (f + j))) → 0 ≤ LF T f k := by
  sorry
theorem LF_inj {T U : Nat → Int} {f g : Nat} : ∀ (a b : Nat), (∀ j, j < a → isL (T (f + j))) → (∀ j, j < b → isL (U (g + j))) → LF T f a = LF U g b → a = b ∧ ∀ j, j < a → T (f + j) = U (g + j) := by
  sorry
theorem LF_ext {T U : Nat → Int} {f g : Nat} : ∀ k : Nat, (∀ j, j < k → T (f + j) = U (g + j)) → LF T f k = LF U g k := by
  sorry
theorem LF_b {T : Nat → Int} {f : Nat} : ∀ k : Nat, (∀ j, j < k → isL (T (f + j))) → LF T f k < (32 ^ k : Nat) := by
  sorry
theorem WL_is {T : Nat → Int} {q : Nat} : ∀ k : Nat, WL T q k = if k ≤ 10 then LF T q k else -1 := by
  sorry
theorem zcd_ok : ∀ w : Fin 14, LF (zch w.val) 0 (zsl w.val).toNat = zcd w.val := by decide +kernel
theorem zcd_0 : ∀ w : Fin 14, 0 ≤ zcd w.val := by decide +kernel
theorem zcd_inj : ∀ a b : Fin 14, zcd a.val = zcd b.val → a = b := by decide +kernel
theorem WL_WQ {T : Nat → Int} {q r : Nat} (hqr : q < r) (hl : ∀ j, q ≤ j → j < r → isL (T j)) {w : Nat} (hw : w < 14) : WL T q (r - q) = zcd w ↔ WQ T q r w := by
  sorry
theorem TKR_of {T : Nat → Int} (hT : zR T 0 255) {n q r : Nat} {c v : Int} (hq : q < n) (he : TEND T n q r) (h : CT T q r c v) : TKR c v (SO T n q) (WO T n q r) := by
  sorry
theorem TKR_end {T : Nat → Int} {n : Nat} {v : Int} : TKR 257 v (SO T n n) (WO T n n n) := by
  sorry
theorem t_isSign {c v s w : Int} (h : TKR c v s w) (x : Int) (hx : 0 ≤ x ∧ x ≤ 255) : zok (f_HM_isSign x s w) (fun o => (o = 1 ∧ c = x) ∨ (o = 0 ∧ c ≠ x)) := by
  sorry
theorem t_isWord {c v s w : Int} (h : TKR c v s w) (k : Nat) (hk : 8 ≤ k ∧ k < 14) (x : Int) (hx : x = zcd k) : zok (f_HM_isWord x s w) (fun o => (o = 1 ∧ c = 252 + (k : Int)) ∨ (o = 0 ∧ c ≠ 252 + (k : Int))) := by
  sorry
