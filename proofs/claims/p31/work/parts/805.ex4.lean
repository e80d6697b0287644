/-! A CLAUSE in the class's orders -/
theorem HR_head {words ord : Nat → Int} {base n : Nat} {o : Int × Int × Int × (Nat → Int)} {res cE k c : Nat} {piled til bar : Int} {pile : Nat → Int} (hn : n ≤ 424) (hb : base ≤ 2120) (hr : res ≤ k) (hk : k < n) (hv : ord (base + k) = 16 * (c : Int)) (hc : c ≤ 424)
    (h : HR words ord base n o res cE k piled til bar pile) : HR words ord base n o res c (k + 1) 0 til bar pile := by
  sorry
theorem HR_tires {words ord : Nat → Int} {base n : Nat} {o : Int × Int × Int × (Nat → Int)} {res cE k : Nat} {til bar : Int} {pile : Nat → Int} {b : Bool} {l : List Int} (hn : n ≤ 424) (hb : base ≤ 2120) (hr : res ≤ k) (hk : k < n) (hv : 0 ≤ ord (base + k) ∧ ord (base + k) ≤ 100000) (h13 : ord (base + k) % 16 = 13) (hP : PREP pile (bv b :: l)) (hB : BND l) (hl : l.length ≤ 31)
    (h : HR words ord base n o res cE k ((bv b :: l).length : Int) til bar pile) :
    (b = false → HR words ord base n o res cE (k + 1) (l.length : Int) til bar pile) ∧ (b = true → ∀ x l', l = x :: l' → HR words ord base n o res cE (k + 1) (l'.length : Int) (max 0 (min 99 x)) bar pile) := by
  sorry
theorem HR_bars {words ord : Nat → Int} {base n : Nat} {o : Int × Int × Int × (Nat → Int)} {res cE k : Nat} {til bar : Int} {pile : Nat → Int} {b : Bool} {l : List Int} (hn : n ≤ 424) (hb : base ≤ 2120) (hr : res ≤ k) (hk : k < n) (hv : 0 ≤ ord (base + k) ∧ ord (base + k) ≤ 100000) (h14 : ord (base + k) % 16 = 14) (hP : PREP pile (bv b :: l)) (hl : l.length ≤ 31) (hbar : bar = 0 ∨ bar = 1)
    (h : HR words ord base n o res cE k ((bv b :: l).length : Int) til bar pile) :
    HR words ord base n o res cE (k + 1) (l.length : Int) til (if b then 1 else bar) pile := by
  sorry
def COP (ord : Nat → Int) (base : Nat) : Nat → Int := fun j => cop (ord (base + j))
def CAR (ord : Nat → Int) (base : Nat) : Nat → Int := fun j => car (ord (base + j))
/-- a clause from p to t, where its last order stands -/
def CLC (ord : Nat → Int) (base p t : Nat) (bars : Bool) (β : (Nat → Int) → Option Bool) (ν : (Nat → Int) → Option Int) : Prop :=
  ord (base + p) = 16 * ((t + 1 : Nat) : Int) ∧ p < t ∧ (∀ j, p ≤ j → j ≤ t → 0 ≤ ord (base + j) ∧ ord (base + j) ≤ 100000) ∧
  ((bars = true ∧ ord (base + t) % 16 = 14 ∧ ∃ d, d ≤ 31 ∧ BVal (COP ord base) (CAR ord base) (p + 1) t d β) ∨
   (bars = false ∧ ord (base + t) % 16 = 13 ∧ ∃ m d, d ≤ 31 ∧ RVal (COP ord base) (CAR ord base) (p + 1) m d ν ∧ BVal (COP ord base) (CAR ord base) m t d β))
def clT (bars : Bool) (β : (Nat → Int) → Option Bool) (ν : (Nat → Int) → Option Int) (E : Nat → Int) (til : Int) : Int := match bars, β E, ν E with | false, some true, some x => max 0 (min 99 x) | _, _, _ => til
def clB (bars : Bool) (β : (Nat → Int) → Option Bool) (E : Nat → Int) (bar : Int) : Int := match bars, β E with | true, some true => 1 | _, _ => bar
theorem HR_bval {words ord E : Nat → Int} {base n s e d : Nat} {o : Int × Int × Int × (Nat → Int)} {res cE : Nat} {til bar : Int} {pile : Nat → Int} {st : List Int} {ν : (Nat → Int) → Option Int} (hn : n ≤ 424) (hb : base ≤ 2120) (hw : ∀ j, j < 8 → words j = E j) (hE : EOK E) (hv : ∀ j, s ≤ j → j < e → 0 ≤ ord (base + j) ∧ ord (base + j) ≤ 100000) (hc : cE ≤ n) (hec : e ≤ cE) (hd : st.length + d ≤ 32) (hr : res ≤ s) (hP : PREP pile st) (hB : BND st) (hN : RVal (COP ord base) (CAR ord base) s e d ν) (h : HR words ord base n o res cE s (st.length : Int) til bar pile) :
    (∀ x, ν E = some x → ∃ (res' : Nat) (pile' : Nat → Int), res' ≤ e ∧ HR words ord base n o res' cE e ((x :: st).length : Int) til bar pile' ∧ PREP pile' (x :: st)) ∧ (ν E = none → ∃ (piled' : Int) (pile' : Nat → Int), HR words ord base n o cE cE cE piled' til bar pile') := by
  sorry
theorem HR_clause {words ord E : Nat → Int} {base n p t : Nat} {o : Int × Int × Int × (Nat → Int)} {res cE : Nat} {piled til bar : Int} {pile : Nat → Int} {bars : Bool} {β : (Nat → Int) → Option Bool} {ν : (Nat → Int) → Option Int} (hn : n ≤ 424) (hb : base ≤ 2120) (hw : ∀ j, j < 8 → words j = E j) (hE : EOK E) (hC : CLC ord base p t bars β ν) (ht : t + 1 ≤ n) (hr : res ≤ p) (hbar : bar = 0 ∨ bar = 1) (h : HR words ord base n o res cE p piled til bar pile) :
    ∃ (res' : Nat) (piled' : Int) (pile' : Nat → Int), res' ≤ t + 1 ∧ HR words ord base n o res' (t + 1) (t + 1) piled' (clT bars β ν E til) (clB bars β E bar) pile' := by
  sorry
/-! A LAW: its clauses -/
def CSE : Type := Bool × ((Nat → Int) → Option Bool) × ((Nat → Int) → Option Int)
def CLL (ord : Nat → Int) (base n : Nat) : List CSE → Nat → Prop
  | [] => fun p => p = n
  | c :: l => fun p => ∃ t, CLC ord base p t c.1 c.2.1 c.2.2 ∧ CLL ord base n l (t + 1)
theorem CLL_le {ord : Nat → Int} {base n : Nat} : ∀ (l : List CSE) (p : Nat), CLL ord base n l p → p ≤ n := by
  sorry
def lwS (E : Nat → Int) : List CSE → Int → Int → Int × Int
  | [] => fun til bar => (til, bar)
  | c :: l => fun til bar => lwS E l (clT c.1 c.2.1 c.2.2 E til) (clB c.1 c.2.1 E bar)
theorem clB_r {bars : Bool} {β : (Nat → Int) → Option Bool} {E : Nat → Int} {bar : Int} (h : bar = 0 ∨ bar = 1) : clB bars β E bar = 0 ∨ clB bars β E bar = 1 := by
  sorry
theorem HR_law {words ord E : Nat → Int} {base n : Nat} {o : Int × Int × Int × (Nat → Int)} (hn : n ≤ 424) (hb : base ≤ 2120) (hw : ∀ j, j < 8 → words j = E j) (hE : EOK E) : ∀ (l : List CSE) (p res cE : Nat) (piled til bar : Int) (pile : Nat → Int), CLL ord base n l p → res ≤ p → (bar = 0 ∨ bar = 1) → HR words ord base n o res cE p piled til bar pile → o.2.1 = (lwS E l til bar).1 ∧ o.2.2.1 = (lwS E l til bar).2 := by
  sorry
theorem hear_law {words ord E pile : Nat → Int} {base n : Nat} {o : Int × Int × Int × (Nat → Int)} {l : List CSE} {piled til bar : Int} (hn : n ≤ 424) (hb : base ≤ 2120) (hw : ∀ j, j < 8 → words j = E j) (hE : EOK E) (hC : CLL ord base n l 0) (hbar : bar = 0 ∨ bar = 1) (h : f_Judge_hear (base : Int) (n : Int) words ord piled til bar pile = some o) : o.2.1 = (lwS E l til bar).1 ∧ o.2.2.1 = (lwS E l til bar).2 :=
  HR_law hn hb hw hE l 0 0 0 piled til bar pile hC (Nat.le_refl _) hbar ⟨zfu, by unfold f_Judge_hear at h; exact h⟩

