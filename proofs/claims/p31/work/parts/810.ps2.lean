/-! THE REFERENCE'S SMALL STEPS -/
abbrev OX : Type := Int × Int × Int × Int × Int × Int × Int × Int × Int × Int × (Nat → Int) × (Nat → Int) × (Nat → Int) × (Nat → Int)
def EX (T : Nat → Int) (n : Nat) (W : Nat → Int) (x1 : Int) (qs rs : Nat → Nat) (o : OX) (tn : Int) (i c p pd b : Nat) (op ar pl pa : Nat → Int) : Prop :=
  ∃ N, f_HM_readExpression_20 (n : Int) T W N x1 tn (qs i : Int) (rs i : Int) (SO T n (qs i)) (WO T n (qs i) (rs i)) (-1) 0 (c : Int) (p : Int) (pd : Int) (b : Int) op ar pl pa = some o
def FL (qs : Nat → Nat) (o : OX) (i : Nat) : Prop := o.2.2.2.2.1 = (qs i : Int) ∧ o.2.2.2.2.2.1 = 1
theorem e_bad {n : Int} {T W : Nat → Int} {N : Nat} {x1 tn fr to so wo ft c p pd b : Int} {op ar pl pa : Nat → Int} {o : OX} (h : f_HM_readExpression_20 n T W N x1 tn fr to so wo ft 1 c p pd b op ar pl pa = some o) : o.2.2.2.2.1 = ft ∧ o.2.2.2.2.2.1 = 1 := by
  sorry
theorem x_next {T : Nat → Int} {n m : Nat} {qs rs : Nat → Nat} {tk vl : Nat → Int} (hL : LEX T n m qs rs tk vl) {i : Nat} (hi : i < m) {fr so wo : Int} {o : Int × Int × Int × Int} (h : f_HM_next (n : Int) T fr (rs i : Int) so wo = some o) : o = ((qs (i + 1) : Int), (rs (i + 1) : Int), SO T n (qs (i + 1)), WO T n (qs (i + 1)) (rs (i + 1))) := by
  sorry
theorem x_must1 {T : Nat → Int} {n m : Nat} {qs rs : Nat → Nat} {tk vl : Nat → Int} (hL : LEX T n m qs rs tk vl) {i : Nat} (hi : i < m) {fr so wo : Int} {o : Int × Int × Int × Int × Int × Int} (h : f_HM_must 1 (n : Int) T fr (rs i : Int) so wo (-1) 0 = some o) : o = ((qs (i + 1) : Int), (rs (i + 1) : Int), SO T n (qs (i + 1)), WO T n (qs (i + 1)) (rs (i + 1)), -1, 0) := by
  sorry
theorem x_must0 {n : Int} {T : Nat → Int} {fr to so wo : Int} {o : Int × Int × Int × Int × Int × Int} (h : f_HM_must 0 n T fr to so wo (-1) 0 = some o) : o = (fr, to, so, wo, fr, 1) := by
  sorry
theorem x_in {x lo hi w : Int} (hx : -1000000000000 ≤ x ∧ x ≤ 1000000000000) (hl : -1000000000000 ≤ lo ∧ lo ≤ 1000000000000) (hh : -1000000000000 ≤ hi ∧ hi ≤ 1000000000000) (h : f_HM_in x lo hi = some w) : w = if lo ≤ x ∧ x ≤ hi then 1 else 0 := by
  sorry
def INVb (pl : Nat → Int) : Nat → Int
  | 0 => -1
  | k + 1 => if 30 ≤ pl k then pl k else INVb pl k
def CMV (pl : Nat → Int) : Nat → Int
  | 0 => 0
  | k + 1 => if 20 ≤ pl k ∧ pl k ≤ 23 then CMV pl k else if 24 ≤ pl k ∧ pl k ≤ 26 then 1 else 0
def PLR (pl : Nat → Int) (pd : Nat) : Prop := ∀ k, k < pd → 20 ≤ pl k ∧ pl k ≤ 31
theorem INV_agr {pl pl' : Nat → Int} : ∀ k, AGR pl pl' k → INVb pl' k = INVb pl k := by
  sorry
theorem CMV_agr {pl pl' : Nat → Int} : ∀ k, AGR pl pl' k → CMV pl' k = CMV pl k := by
  sorry
theorem x_inner_4 {pl : Nat → Int} {pd : Nat} (hp : PLR pl pd) (hpd : pd ≤ 400) : ∀ (N k : Nat) (x1 o : Int), k ≤ pd → x1 = INVb pl k → f_HM_inner_4 (pd : Int) pl N x1 (k : Int) = some o → o = INVb pl pd := by
  sorry
theorem x_inner {pl : Nat → Int} {pd : Nat} {o : Int} (hp : PLR pl pd) (hpd : pd ≤ 400) (h : f_HM_inner (pd : Int) pl = some o) : o = INVb pl pd :=
  x_inner_4 hp hpd zfu 0 (-1) o (by omega) rfl (by unfold f_HM_inner at h; exact h)
theorem x_cmp_7 {pl : Nat → Int} {pd : Nat} (hp : PLR pl pd) (hpd : pd ≤ 400) : ∀ (N k : Nat) (o : Int), k ≤ pd → f_HM_isCompared_7 (pd : Int) pl N ((k : Int) - 1) = some o → o = CMV pl k := by
  sorry
theorem x_cmp {pl : Nat → Int} {pd : Nat} {o : Int} (hp : PLR pl pd) (hpd : pd ≤ 400) (h : f_HM_isCompared (pd : Int) pl = some o) : o = CMV pl pd := by
  sorry
/-! settle -/
def BDS (op : Int) : Int := if op < 30 then (if op = 29 then 1 else if op = 28 then 2 else if op = 27 then 3 else if op < 24 then (if op < 22 then 5 else 6) else 4) else 0
theorem x_binds {op r : Int} (h0 : 0 ≤ op ∧ op ≤ 31) (h : f_HM_binds op = some r) : r = BDS op := by
  sorry
theorem x_emit {x y : Int} {c : Nat} {op ar : Nat → Int} {r : Int × (Nat → Int) × (Nat → Int)} (hc : c ≤ 1000) (h : f_HM_emit x y (c : Int) op ar = some r) : c < 400 ∧ r = (((c + 1 : Nat) : Int), zu op c x, zu ar c y) := by
  sorry
theorem x_push {x y : Int} {c : Nat} {op ar : Nat → Int} {r : Int × (Nat → Int) × (Nat → Int)} (hc : c ≤ 1000) (h : f_HM_push x y (c : Int) op ar = some r) : c < 400 ∧ r = (((c + 1 : Nat) : Int), zu op c x, zu ar c y) := by
  sorry
def ST (least : Int) (pl pa : Nat → Int) (c pd : Nat) (op ar : Nat → Int) (r : Int × Int × (Nat → Int) × (Nat → Int)) : Prop := ∃ N, f_HM_settle_0 pl pa N least (c : Int) (pd : Int) op ar = some r
theorem BDS_r (x : Int) : 0 ≤ BDS x ∧ BDS x ≤ 6 := by
  sorry
theorem ST_stop {least : Int} {pl pa : Nat → Int} {c pd : Nat} {op ar : Nat → Int} {r : Int × Int × (Nat → Int) × (Nat → Int)} (hpd : pd ≤ 400) (hl : 0 ≤ least ∧ least ≤ 10) (hp : PLR pl pd) (hs : pd = 0 ∨ BDS (pl (pd - 1)) < least) (h : ST least pl pa c pd op ar r) : r = ((c : Int), (pd : Int), op, ar) := by
  sorry
theorem ST_op {least : Int} {pl pa : Nat → Int} {c k : Nat} {op ar : Nat → Int} {r : Int × Int × (Nat → Int) × (Nat → Int)} (hk : k < 400) (hl : 0 ≤ least ∧ least ≤ BDS (pl k)) (hp : 20 ≤ pl k ∧ pl k ≤ 27) (hc : c ≤ 1000) (h : ST least pl pa c (k + 1) op ar r) : c < 400 ∧ ST least pl pa (c + 1) k (zu op c (pl k)) (zu ar c 0) r := by
  sorry
theorem ST_jump {least : Int} {pl pa : Nat → Int} {c k a : Nat} {op ar : Nat → Int} {r : Int × Int × (Nat → Int) × (Nat → Int)} (hk : k < 400) (hl : 0 ≤ least ∧ least ≤ BDS (pl k)) (hp : pl k = 28 ∨ pl k = 29) (ha : pa k = (a : Int)) (ha2 : a ≤ 1000) (h : ST least pl pa c (k + 1) op ar r) : ST least pl pa c k op (zu ar a (c : Int)) r := by
  sorry
/-! the pile's signs of a sum -/
def PIL (pl : Nat → Int) (pd : Nat) : List Int → Prop
  | [] => True
  | a :: l => pl (pd + l.length) = a ∧ PIL pl pd l
def VL : List Int → LNu → LNu
  | [] => fun ν => ν
  | a :: l => fun ν => VL l (vop a ν)
def AR4 (l : List Int) : Prop := ∀ a ∈ l, 20 ≤ a ∧ a ≤ 23
theorem ST_arith {pl pa : Nat → Int} {pd : Nat} {op0 ar0 : Nat → Int} {c0 d : Nat} {least : Int} {r : Int × Int × (Nat → Int) × (Nat → Int)} (hl : 0 ≤ least ∧ least ≤ 5) : ∀ (l : List Int) (c : Nat) (op ar : Nat → Int) (ν : LNu), AR4 l → PIL pl pd l → RSg op0 ar0 op ar c0 c d ν → LEN ν (l.length + 1) → l.length + 1 ≤ d → c ≤ 400 → pd + l.length ≤ 400 → ST least pl pa c (pd + l.length) op ar r → ∃ (c' : Nat) (op' ar' : Nat → Int), c' ≤ 400 ∧ RSg op0 ar0 op' ar' c0 c' d (VL l ν) ∧ LEN (VL l ν) 1 ∧ ST least pl pa c' pd op' ar' r := by
  sorry
