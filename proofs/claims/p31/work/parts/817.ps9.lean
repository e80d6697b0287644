/-! a clause's head -/
theorem r_71 {n : Int} {T W : Nat → Int} {j : Nat} (hj : j < 12) {nC0 : Nat → Int} {hd ncl : Int} {fr to so wo ft bd c p pd b : Int} {op ar pl pa : Nat → Int} {r : Int × Int × Int × Int × Int × Int × Int × Int × Int × Int × Int × (Nat → Int) × (Nat → Int) × (Nat → Int) × (Nat → Int) × (Nat → Int)} : ∀ (N k : Nat) (nC : Nat → Int), k ≤ 8 → AGR nC0 nC (8 * j) → f_HM_readClause_71 n T W N hd ((8 * j : Nat) : Int) (k : Int) fr to so wo ft bd ncl c p pd b nC op ar pl pa = some r → ∃ (nC2 : Nat → Int) (N2 : Nat), AGR nC0 nC2 (8 * j) ∧ f_HM_readClause_71_b n T W (f_HM_readClause_71 n T W N2) hd ((8 * j : Nat) : Int) 8 fr to so wo ft bd ncl c p pd b nC2 op ar pl pa = some r := by
  sorry
theorem r_130f {n : Int} {T W : Nat → Int} {j : Nat} {ncl fr to so wo ft c p pd b : Int} {nC op ar pl pa : Nat → Int} {x : Int} {r : Int × Int × Int × Int × Int × Int × Int × Int × Int × Int × Int × (Nat → Int) × (Nat → Int) × (Nat → Int) × (Nat → Int) × (Nat → Int)} (h : f_HM_readClause_130 n T W x fr to so wo ft 1 ncl c p pd b nC op ar pl pa = some r) : r.2.2.2.2.1 = ft ∧ r.2.2.2.2.2.1 = 1 := by
  sorry
theorem r_50f {n : Int} {T W : Nat → Int} {ncl fr to so wo c p pd b hd : Int} {nC op ar pl pa : Nat → Int} {r : Int × Int × Int × Int × Int × Int × Int × Int × Int × Int × Int × (Nat → Int) × (Nat → Int) × (Nat → Int) × (Nat → Int) × (Nat → Int)} (h : f_HM_readClause_50 n T W hd 0 fr to so wo (-1) 0 ncl c p pd b nC op ar pl pa = some r) : r.2.2.2.2.1 = fr ∧ r.2.2.2.2.2.1 = 1 := by
  sorry
theorem r_29f {n : Int} {T W : Nat → Int} {fr to so wo c p pd b hd : Int} {nC op ar pl pa : Nat → Int} {r : Int × Int × Int × Int × Int × Int × Int × Int × Int × Int × Int × (Nat → Int) × (Nat → Int) × (Nat → Int) × (Nat → Int) × (Nat → Int)} (hh : hd = -1 ∨ hd = 0 ∨ hd = 1) (h : f_HM_readClause_29 n T W hd fr to so wo (-1) 0 12 c p pd b nC op ar pl pa = some r) : r.2.2.2.2.1 = fr ∧ r.2.2.2.2.2.1 = 1 := by
  sorry
theorem r_cl12 {n : Int} {T W : Nat → Int} {fr to so wo c p pd b : Int} {nC op ar pl pa : Nat → Int} {r : Int × Int × Int × Int × Int × Int × Int × Int × Int × Int × Int × (Nat → Int) × (Nat → Int) × (Nat → Int) × (Nat → Int) × (Nat → Int)} (h : f_HM_readClause n T W fr to so wo (-1) 0 12 c p pd b nC op ar pl pa = some r) : r.2.2.2.2.1 = fr ∧ r.2.2.2.2.2.1 = 1 := by
  sorry
theorem c_clause {T : Nat → Int} {n m : Nat} {qs rs : Nat → Nat} {tk vl W : Nat → Int} (hL : LEX T n m qs rs tk vl) (hW : ∀ k : Nat, k < 8 → W k = zcd k) {s i p c j : Nat} {O nC op ar pl pa : Nat → Int} {pd0 b0 : Int} {v : Int × Int × Int × Int × (Nat → Int)} {r : Int × Int × Int × Int × Int × Int × Int × Int × Int × Int × Int × (Nat → Int) × (Nat → Int) × (Nat → Int) × (Nat → Int) × (Nat → Int)} (hn : i ≤ m ∧ p ≤ 50 ∧ c ≤ 400 ∧ s ≤ i + 2 * j ∧ j < 12)
    (h : f_LawReader_readClause tk vl (s : Int) (i : Int) (p : Int) O = some v) (g : f_HM_readClause (n : Int) T W (qs i : Int) (rs i : Int) (SO T n (qs i)) (WO T n (qs i) (rs i)) (-1) 0 (j : Int) (c : Int) (p : Int) pd0 b0 nC op ar pl pa = some r) : CEnd T n m qs rs s i c j O nC op ar v r := by
  sorry
/-! the clauses so far -/
def RLN (nC op ar : Nat → Int) (c : Nat) : List CSE → Nat → Prop
  | [] => fun _ => True
  | x :: l => fun i => RCN nC op ar c (8 * i) x.1 x.2.1 x.2.2 ∧ RLN nC op ar c l (i + 1)
theorem RLN_x {nC op ar nC' op' ar' : Nat → Int} {c c' : Nat} (hc : c ≤ c') (h2 : ∀ j, j < c → op' j = op j ∧ ar' j = ar j) : ∀ (l : List CSE) (i : Nat), AGR nC nC' (8 * (i + l.length)) → RLN nC op ar c l i → RLN nC' op' ar' c' l i := by
  sorry
theorem RLN_app {nC op ar : Nat → Int} {c : Nat} {x : CSE} : ∀ (l : List CSE) (i : Nat), RLN nC op ar c l i → RCN nC op ar c (8 * (i + l.length)) x.1 x.2.1 x.2.2 → RLN nC op ar c (l ++ [x]) i := by
  sorry
theorem CLL_app {ord : Nat → Int} {base n t : Nat} {x : CSE} : ∀ (l : List CSE) (p : Nat), CLL ord base n l p → CLC ord base n t x.1 x.2.1 x.2.2 → CLL ord base (t + 1) (l ++ [x]) p := by
  sorry
theorem CLL_x {ord ord' : Nat → Int} {base base' n : Nat} : ∀ (l : List CSE) (p : Nat), CLL ord base n l p → (∀ j, p ≤ j → j < n → ord' (base' + j) = ord (base + j)) → CLL ord' base' n l p := by
  sorry
theorem RLL_of {nC op ar row : Nat → Int} {c law : Nat} (hc : c ≤ 400) (h2 : ∀ k, k < c → row (law + 98 + 2 * k) = op k ∧ row (law + 99 + 2 * k) = ar k) : ∀ (l : List CSE) (i : Nat), (∀ k, k < 8 * (i + l.length) → row (law + 2 + k) = nC k) → RLN nC op ar c l i → RLL row law l i := by
  sorry
/-! A LAW's clauses -/
def mkC (bars : Bool) (β : BNu) (ν : (Nat → Int) → Option Int) : CSE := (bars, β, ν)
/-- how both readings end -/
def LEnd (T W : Nat → Int) (n m : Nat) (qs rs : Nat → Nat) (th st tp : Int) (rf row : Nat → Int) (v : Int × Int × Int × Int × (Nat → Int) × (Nat → Int) × (Nat → Int) × (Nat → Int)) (R : Int × Int × Int × Int × Int × Int × Int × Int × Int × Int × Int × Int × Int × Int × Int × (Nat → Int) × (Nat → Int) × (Nat → Int) × (Nat → Int) × (Nat → Int) × (Nat → Int) × (Nat → Int)) : Prop :=
  (∃ (i' : Nat) (fr to so wo a1 a2 a3 a4 a5 : Int) (f1 f2 f3 f4 f5 : Nat → Int), i' ≤ m ∧ v.1 = (qs i' : Int) ∧ f_HM_law_97 T W th st tp fr to so wo (qs i' : Int) 1 a1 a2 a3 a4 a5 rf row f1 f2 f3 f4 f5 = some R) ∨
  (v.1 = -1 ∧ ∃ (l : List CSE) (s' c' : Nat) (fr to so wo a3 a4 a5 : Int) (nC op ar f4 f5 : Nat → Int), l.length ≤ 12 ∧ s' ≤ 424 ∧ c' ≤ 400 ∧ v.2.1 = (s' : Int) ∧ CLL v.2.2.2.2.1 0 s' l 0 ∧ RLN nC op ar c' l 0 ∧ f_HM_law_97 T W th st tp fr to so wo (-1) 0 (l.length : Int) (c' : Int) a3 a4 a5 rf row nC op ar f4 f5 = some R)
theorem l_78b {T W : Nat → Int} {th st tp fr to so wo ft a1 a2 a3 a4 a5 : Int} {rf row f1 f2 f3 f4 f5 : Nat → Int} {N : Nat} {R : Int × Int × Int × Int × Int × Int × Int × Int × Int × Int × Int × Int × Int × Int × Int × (Nat → Int) × (Nat → Int) × (Nat → Int) × (Nat → Int) × (Nat → Int) × (Nat → Int) × (Nat → Int)} (h : f_HM_law_51 T W N th st tp fr to so wo ft 1 a1 a2 a3 a4 a5 rf row f1 f2 f3 f4 f5 = some R) : f_HM_law_97 T W th st tp fr to so wo ft 1 a1 a2 a3 a4 a5 rf row f1 f2 f3 f4 f5 = some R := by
  sorry
theorem l_loop {T : Nat → Int} {n m : Nat} {qs rs : Nat → Nat} {tk vl W : Nat → Int} (hL : LEX T n m qs rs tk vl) (hW : ∀ k : Nat, k < 8 → W k = zcd k) {th st : Int} {rf row tpx plc : Nat → Int} {v : Int × Int × Int × Int × (Nat → Int) × (Nat → Int) × (Nat → Int) × (Nat → Int)} {R : Int × Int × Int × Int × Int × Int × Int × Int × Int × Int × Int × Int × Int × Int × Int × (Nat → Int) × (Nat → Int) × (Nat → Int) × (Nat → Int) × (Nat → Int) × (Nat → Int) × (Nat → Int)} (hpl : ∀ i, i ≤ m → plc i = (qs i : Int)) : ∀ (N j s i p c : Nat) (O nC op ar pl pa : Nat → Int) (pd0 b0 : Int) (l : List CSE), (i ≤ m ∧ p ≤ 50 ∧ c ≤ 400 ∧ s ≤ i + 2 * j ∧ j ≤ 12) → l.length = j → CLL O 0 s l 0 → RLN nC op ar c l 0 → f_LawReader_read_38 tpx N (j : Int) (s : Int) (i : Int) (p : Int) O tk plc vl = some v →
    (∃ (r : Int × Int × Int × Int × Int × Int × Int × Int × Int × Int × Int × (Nat → Int) × (Nat → Int) × (Nat → Int) × (Nat → Int) × (Nat → Int)) (N2 : Nat), f_HM_readClause (n : Int) T W (qs i : Int) (rs i : Int) (SO T n (qs i)) (WO T n (qs i) (rs i)) (-1) 0 (j : Int) (c : Int) (p : Int) pd0 b0 nC op ar pl pa = some r ∧ f_HM_law_51 T W N2 th st (n : Int) r.1 r.2.1 r.2.2.1 r.2.2.2.1 r.2.2.2.2.1 r.2.2.2.2.2.1 r.2.2.2.2.2.2.1 r.2.2.2.2.2.2.2.1 r.2.2.2.2.2.2.2.2.1 r.2.2.2.2.2.2.2.2.2.1 r.2.2.2.2.2.2.2.2.2.2.1 rf row r.2.2.2.2.2.2.2.2.2.2.2.1 r.2.2.2.2.2.2.2.2.2.2.2.2.1 r.2.2.2.2.2.2.2.2.2.2.2.2.2.1 r.2.2.2.2.2.2.2.2.2.2.2.2.2.2.1 r.2.2.2.2.2.2.2.2.2.2.2.2.2.2.2 = some R) → LEnd T W n m qs rs th st (n : Int) rf row v R := by
  sorry
