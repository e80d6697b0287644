/-! EXPRESSIONS, whole -/
theorem X_sum {T : Nat → Int} {n m : Nat} {qs rs : Nat → Nat} {tk vl W : Nat → Int} (hL : LEX T n m qs rs tk vl) (hW : ∀ k : Nat, k < 8 → W k = zcd k) {s i p c : Nat} {O op ar pl pa : Nat → Int} {pd0 b0 : Int} {v : Int × Int × Int × Int × (Nat → Int)} {o : OX} (h1 : 1 ≤ i) (hi : i ≤ m) (hs : s ≤ i + 23) (hp : p ≤ 50) (hc : c ≤ 400) (h : f_LawReader_readSum 0 tk vl (s : Int) (i : Int) (p : Int) O = some v)
    (g : f_HM_readExpression 0 (n : Int) T W (qs i : Int) (rs i : Int) (SO T n (qs i)) (WO T n (qs i) (rs i)) (-1) 0 (c : Int) (p : Int) pd0 b0 op ar pl pa = some o) :
    (v.1 = 0 ∧ ∃ i' : Nat, i' ≤ m ∧ v.2.2.1 = (i' : Int) ∧ FL qs o i') ∨ ∃ (s' i' p' c' : Nat) (O' op' ar' pl' pa' : Nat → Int) (ν : LNu), v = (1, (s' : Int), (i' : Int), (p' : Int), O') ∧ o = ((qs i' : Int), (rs i' : Int), SO T n (qs i'), WO T n (qs i') (rs i'), -1, 0, (c' : Int), (p' : Int), 0, 0, op', ar', pl', pa') ∧ (i < i' ∧ i' ≤ m ∧ p' ≤ 50 ∧ s' + i ≤ s + i' ∧ c' ≤ 400) ∧ LEN ν 1 ∧ CSg O O' s s' 19 ν ∧ RSg op ar op' ar' c c' 19 ν := by
  sorry
theorem X_test {T : Nat → Int} {n m : Nat} {qs rs : Nat → Nat} {tk vl W : Nat → Int} (hL : LEX T n m qs rs tk vl) (hW : ∀ k : Nat, k < 8 → W k = zcd k) {s i p c : Nat} {O op ar pl pa : Nat → Int} {pd0 b0 : Int} {v : Int × Int × Int × Int × (Nat → Int)} {o : OX} (h1 : 1 ≤ i) (hi : i ≤ m) (hs : s ≤ i + 23) (hp : p ≤ 50) (hc : c ≤ 400) (h : f_LawReader_readTest 0 tk vl (s : Int) (i : Int) (p : Int) O = some v)
    (g : f_HM_readExpression 1 (n : Int) T W (qs i : Int) (rs i : Int) (SO T n (qs i)) (WO T n (qs i) (rs i)) (-1) 0 (c : Int) (p : Int) pd0 b0 op ar pl pa = some o) :
    (v.1 = 0 ∧ ∃ i' : Nat, i' ≤ m ∧ v.2.2.1 = (i' : Int) ∧ FL qs o i') ∨ ∃ (s' i' p' c' : Nat) (O' op' ar' pl' pa' : Nat → Int) (β : BNu), v = (1, (s' : Int), (i' : Int), (p' : Int), O') ∧ o = ((qs i' : Int), (rs i' : Int), SO T n (qs i'), WO T n (qs i') (rs i'), -1, 0, (c' : Int), (p' : Int), 0, 0, op', ar', pl', pa') ∧ (i < i' ∧ i' ≤ m ∧ p' ≤ 50 ∧ s' + i ≤ s + i' ∧ c' ≤ 400) ∧ CSg O O' s s' 20 (BL β) ∧ RSg op ar op' ar' c c' 20 (BL β) := by
  sorry
/-! A CLAUSE of both -/
theorem RPush_pos {op ar : Nat → Int} {s e d : Nat} {ν : LNu} (h : RPush op ar s e d ν) (hN : LEN ν 1) : s < e := by
  sorry
theorem RVal_of {op ar : Nat → Int} {s e d : Nat} {ν : LNu} (h : RPush op ar s e d ν) (hN : LEN ν 1) : RVal op ar s e d (fun E => (ν E).bind List.head?) := by
  sorry
/-- what a clause is in the reference's rows of clauses and of code -/
def RCN (nC op ar : Nat → Int) (c q : Nat) (bars : Bool) (β : BNu) (ν : (Nat → Int) → Option Int) : Prop :=
  nC q = (if bars then 1 else 0) ∧
  (∃ s e : Nat, nC (q + 5) = (s : Int) ∧ nC (q + 6) = (e : Int) ∧ s ≤ c ∧ e ≤ c ∧ ((e ≤ s ∧ ∀ E, β E = some true) ∨ (s < e ∧ RG op ar s e ∧ ∃ d, d ≤ 100 ∧ BVal op ar s e d β))) ∧
  (bars = false → ∃ s e : Nat, nC (q + 3) = (s : Int) ∧ nC (q + 4) = (e : Int) ∧ s ≤ c ∧ e ≤ c ∧ RG op ar s e ∧ ∃ d, d ≤ 100 ∧ RVal op ar s e d ν)
theorem RG_x {op ar op' ar' : Nat → Int} {s e : Nat} (h : RG op ar s e) (hx : ∀ j, s ≤ j → j < e → op' j = op j ∧ ar' j = ar j) : RG op' ar' s e := fun j h1 h2 => by
  have := hx j h1 h2
  rw [this.1, this.2]
  exact h j h1 h2
theorem RCN_x {nC op ar nC' op' ar' : Nat → Int} {c c' q : Nat} {bars : Bool} {β : BNu} {ν : (Nat → Int) → Option Int} (h : RCN nC op ar c q bars β ν) (hc : c ≤ c') (h1 : ∀ k, k < 8 → nC' (q + k) = nC (q + k)) (h2 : ∀ j, j < c → op' j = op j ∧ ar' j = ar j) : RCN nC' op' ar' c' q bars β ν := by
  sorry
theorem CLC_x {ord ord' : Nat → Int} {base base' p t : Nat} {bars : Bool} {β : BNu} {ν : (Nat → Int) → Option Int} (h : CLC ord base p t bars β ν) (hx : ∀ j, p ≤ j → j ≤ t → ord' (base' + j) = ord (base + j)) : CLC ord' base' p t bars β ν := by
  sorry
theorem p_84 {tk vl O : Nat → Int} {s h0 : Nat} {k i p : Int} {v : Int × Int × Int × Int × (Nat → Int)} (hs : s < 424) (hh : h0 < s) (hk : 0 ≤ k ∧ k < 16) (hO : 0 ≤ O h0 ∧ O h0 ≤ 100000) (h : f_LawReader_readClause_84 tk vl (h0 : Int) k (s : Int) i p O = some v) : v = (1, ((s + 1 : Nat) : Int), i, p, zu (zu O s (16 * 0 + k)) h0 (16 * ((s + 1 : Nat) : Int) + O h0 % 16)) := by
  sorry
/-- behind a clause's head and its sum: the class's orders from s on, the reference's code from c on -/
def CEnd (T : Nat → Int) (n m : Nat) (qs rs : Nat → Nat) (s i c j : Nat) (O nC op ar : Nat → Int) (v : Int × Int × Int × Int × (Nat → Int)) (r : Int × Int × Int × Int × Int × Int × Int × Int × Int × Int × Int × (Nat → Int) × (Nat → Int) × (Nat → Int) × (Nat → Int) × (Nat → Int)) : Prop :=
  (v.1 = 0 ∧ ∃ i' : Nat, i' ≤ m ∧ v.2.2.1 = (i' : Int) ∧ r.2.2.2.2.1 = (qs i' : Int) ∧ r.2.2.2.2.2.1 = 1) ∨
  ∃ (s' i' p' c' : Nat) (O' nC' op' ar' pl' pa' : Nat → Int) (pd' b' : Int) (bars : Bool) (β : BNu) (ν : (Nat → Int) → Option Int), v = (1, (s' : Int), (i' : Int), (p' : Int), O') ∧ r = ((qs i' : Int), (rs i' : Int), SO T n (qs i'), WO T n (qs i') (rs i'), -1, 0, ((j + 1 : Nat) : Int), (c' : Int), (p' : Int), pd', b', nC', op', ar', pl', pa') ∧ (i < i' ∧ i' ≤ m ∧ p' ≤ 50 ∧ c' ≤ 400 ∧ s' ≤ i' + 2 * (j + 1) ∧ c ≤ c') ∧ AGR O O' s ∧ (∃ t, s' = t + 1 ∧ CLC O' 0 s t bars β ν) ∧ AGR nC nC' (8 * j) ∧ AGR op op' c ∧ AGR ar ar' c ∧ RCN nC' op' ar' c' (8 * j) bars β ν
theorem CLC_mk {O2 O4 : Nat → Int} {s s2 d : Nat} {k : Int} {β : BNu} {ν : (Nat → Int) → Option Int} {bars : Bool} (hs2 : s2 ≤ 424) (h0 : O2 s = 0) (hlt : s < s2) (hR : CR O2 (s + 1) s2) (hk : k = if bars then 14 else 13) (hd : d ≤ 31)
    (h4 : O4 = zu (zu O2 s2 (16 * 0 + k)) s (16 * ((s2 + 1 : Nat) : Int) + O2 s % 16))
    (hB : (bars = true ∧ RPush (CO O2) (CA O2) (s + 1) s2 d (BL β)) ∨ (bars = false ∧ ∃ m, RVal (CO O2) (CA O2) (s + 1) m d ν ∧ RPush (CO O2) (CA O2) m s2 d (BL β))) : CLC O4 0 s s2 bars β ν ∧ ∀ j, j < s2 → j ≠ s → O4 j = O2 j := by
  sorry
theorem c_42 {T : Nat → Int} {n m : Nat} {qs rs : Nat → Nat} {tk vl W : Nat → Int} (hL : LEX T n m qs rs tk vl) (hW : ∀ k : Nat, k < 8 → W k = zcd k) {s0 i0 s i p c0 c j : Nat} {O0 O nC0 nC op0 ar0 op ar pl pa : Nat → Int} {pd0 b0 : Int} {v : Int × Int × Int × Int × (Nat → Int)} {r : Int × Int × Int × Int × Int × Int × Int × Int × Int × Int × Int × (Nat → Int) × (Nat → Int) × (Nat → Int) × (Nat → Int) × (Nat → Int)} {x2 : Int} {bars : Bool} {ν : (Nat → Int) → Option Int} (hx2 : x2 = if bars then 0 else 1)
    (hn : i0 < i ∧ i ≤ m ∧ p ≤ 50 ∧ c ≤ 400 ∧ s ≤ i + 2 * j ∧ j < 12 ∧ s0 < s ∧ c0 ≤ c) (hO0 : AGR O0 O s0) (hOs : O s0 = 0) (hR : CR O (s0 + 1) s)
    (hC : (bars = true ∧ s = s0 + 1) ∨ (bars = false ∧ RVal (CO O) (CA O) (s0 + 1) s 19 ν))
    (hnC : AGR nC0 nC (8 * j)) (hn0 : nC (8 * j) = if bars then 1 else 0) (hn3 : nC (8 * j + 3) = (c0 : Int)) (hop : AGR op0 op c0) (har : AGR ar0 ar c0) (hRR : bars = false → RG op ar c0 c ∧ RVal op ar c0 c 19 ν)
    (h : f_LawReader_readClause_42 tk vl (s0 : Int) x2 (s : Int) (i : Int) (p : Int) O = some v)
    (g : f_HM_readClause_130 (n : Int) T W ((8 * j : Nat) : Int) (qs i : Int) (rs i : Int) (SO T n (qs i)) (WO T n (qs i) (rs i)) (-1) 0 ((j + 1 : Nat) : Int) (c : Int) (p : Int) pd0 b0 nC op ar pl pa = some r) : CEnd T n m qs rs s0 i0 c0 j O0 nC0 op0 ar0 v r := by
  sorry
