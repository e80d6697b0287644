/-! A CLAUSE in the reference's row -/
def RNG (row : Nat → Int) (law s e : Nat) : Prop := ∀ k, s ≤ k → k < e → (0 ≤ rop row law k ∧ rop row law k < 30) ∧ (-1000000000 ≤ rar row law k ∧ rar row law k ≤ 1000000000) ∧ (28 ≤ rop row law k → 0 ≤ rar row law k)
def RCL (row : Nat → Int) (law q : Nat) (bars : Bool) (β : (Nat → Int) → Option Bool) (ν : (Nat → Int) → Option Int) : Prop :=
  row q = (if bars then 1 else 0) ∧
  (∃ s e : Nat, row (q + 5) = (s : Int) ∧ row (q + 6) = (e : Int) ∧ s ≤ 400 ∧ e ≤ 400 ∧ ((e ≤ s ∧ ∀ E, β E = some true) ∨ (s < e ∧ RNG row law s e ∧ ∃ d, d ≤ 100 ∧ BVal (rop row law) (rar row law) s e d β))) ∧
  (bars = false → ∃ s e : Nat, row (q + 3) = (s : Int) ∧ row (q + 4) = (e : Int) ∧ s ≤ 400 ∧ e ≤ 400 ∧ RNG row law s e ∧ ∃ d, d ≤ 100 ∧ RVal (rop row law) (rar row law) s e d ν)
def soV (bars : Bool) (β : (Nat → Int) → Option Bool) (ν : (Nat → Int) → Option Int) (E : Nat → Int) : Option Int := match bars, β E, ν E with | true, some true, _ => some 0 | false, some true, some x => some x | _, _, _ => none
theorem r_so59 {row set E : Nat → Int} {law q : Nat} {br val sum : Int} {rest : Nat → Int} {bars : Bool} {β : (Nat → Int) → Option Bool} {ν : (Nat → Int) → Option Int} {o : Int × Int × Int × Int × (Nat → Int)} (hlaw : law ≤ 4700) (hq : q ≤ 5000) (hw : ∀ j, j < 8 → set (j + 1) = E j) (hE : EOK E) (hR : RCL row law q bars β ν) (hβ : β E = some true)
    (h : f_HM_isSo_59 (law : Int) row set (q : Int) br val sum rest = some o) : (bars = true ∧ o.1 = 1) ∨ (bars = false ∧ ((ν E = none ∧ o.1 = 0) ∨ ∃ x, ν E = some x ∧ o.1 = 1 ∧ o.2.2.2.1 = x)) := by
  sorry
theorem r_so {row set E : Nat → Int} {law q : Nat} {br val sum : Int} {rest : Nat → Int} {bars : Bool} {β : (Nat → Int) → Option Bool} {ν : (Nat → Int) → Option Int} {o : Int × Int × Int × Int × (Nat → Int)} (hlaw : law ≤ 4700) (hq : q ≤ 5000) (hw : ∀ j, j < 8 → set (j + 1) = E j) (hE : EOK E) (hR : RCL row law q bars β ν)
    (h : f_HM_isSo (q : Int) (law : Int) row set br val sum rest = some o) : (β E = some true ∧ ((bars = true ∧ o.1 = 1) ∨ (bars = false ∧ ((ν E = none ∧ o.1 = 0) ∨ ∃ x, ν E = some x ∧ o.1 = 1 ∧ o.2.2.2.1 = x)))) ∨ (β E ≠ some true ∧ o.1 = 0) := by
  sorry
/-- what lies in the row from clause i on: the clauses' list -/
def RLL (row : Nat → Int) (law : Nat) : List CSE → Nat → Prop
  | [] => fun _ => True
  | c :: l => fun i => RCL row law (law + 2 + 8 * i) c.1 c.2.1 c.2.2 ∧ RLL row law l (i + 1)
/-- the reference's way through the clauses: none, where one bars -/
def rwS (E : Nat → Int) : List CSE → Int → Option Int
  | [] => fun x => some x
  | c :: l => fun x => match c.1, c.2.1 E, c.2.2 E with
    | true, some true, _ => none
    | false, some true, some y => rwS E l y
    | _, _, _ => rwS E l x
theorem rwS_c {E : Nat → Int} {c : CSE} {l : List CSE} {x : Int} (h : c.2.1 E ≠ some true) : rwS E (c :: l) x = rwS E l x := by
  sorry
theorem r_239 {row set rest : Nat → Int} {x law br val sum : Int} {o : Int × Int × Int × Int × Int × (Nat → Int) × (Nat → Int)} (hx : -1000000000 ≤ x ∧ x ≤ 1000000000) (h : f_HM_tiring_239 row x law br val sum set rest = some o) : o.1 = max 0 (min 99 x) := by
  sorry
theorem r_tir {row set E : Nat → Int} {law : Nat} {o : Int × Int × Int × Int × Int × (Nat → Int) × (Nat → Int)} (hlaw : law ≤ 4700) (hw : ∀ j, j < 8 → set (j + 1) = E j) (hE : EOK E) : ∀ (l : List CSE) (i : Nat) (x br val sum : Int) (rest : Nat → Int), row (law + 1) = ((l.length + i : Nat) : Int) → l.length + i ≤ 12 → RLL row law l i → (-1000000000 ≤ x ∧ x ≤ 1000000000) → (∃ N, f_HM_tiring_175 row N x (i : Int) (law : Int) br val sum set rest = some o) → match rwS E l x with | none => o.1 = -1 | some y => o.1 = max 0 (min 99 y) := by
  sorry
