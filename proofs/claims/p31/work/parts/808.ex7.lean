/-! A LAW of both -/
def LW2 (ord ordered row : Nat → Int) (k : Nat) : Prop := ∃ l : List CSE, l.length ≤ 12 ∧ (0 ≤ ordered k ∧ ordered k ≤ 424) ∧ CLL ord (424 * k) (ordered k).toNat l 0 ∧ row (181 + 900 * k) = (l.length : Int) ∧ RLL row (180 + 900 * k) l 0
theorem x_size {x w : Int} (hx : -1000 ≤ x ∧ x ≤ 1000) (h : f_HM_size x = some w) : w = (if x < 0 then -x else x) := by
  sorry
theorem x_abs {x : Int} (hx : -1000 ≤ x ∧ x ≤ 1000) : zi_abs x = (if x < 0 then -x else x) := by
  sorry
theorem zu8 {f : Nat → Int} {a0 a1 a2 a3 a4 a5 a6 a7 : Int} : ∀ j, j < 8 → zu (zu (zu (zu (zu (zu (zu (zu f 0 a0) 1 a1) 2 a2) 3 a3) 4 a4) 5 a5) 6 a6) 7 a7 j = ([a0, a1, a2, a3, a4, a5, a6, a7] : List Int).getD j 0 := by
  sorry
theorem zu9 {f : Nat → Int} {a0 a1 a2 a3 a4 a5 a6 a7 : Int} : ∀ j, j < 8 → zu (zu (zu (zu (zu (zu (zu (zu f 1 a0) 2 a1) 3 a2) 4 a3) 5 a4) 6 a5) 7 a6) 8 a7 (j + 1) = ([a0, a1, a2, a3, a4, a5, a6, a7] : List Int).getD j 0 := by
  sorry
theorem EOK_8 {a0 a1 a2 a3 a4 a5 a6 a7 : Int} (h : (0 ≤ a0 ∧ a0 ≤ 100) ∧ (0 ≤ a1 ∧ a1 ≤ 100) ∧ (0 ≤ a2 ∧ a2 ≤ 100) ∧ (0 ≤ a3 ∧ a3 ≤ 100) ∧ (0 ≤ a4 ∧ a4 ≤ 100) ∧ (0 ≤ a5 ∧ a5 ≤ 100) ∧ (0 ≤ a6 ∧ a6 ≤ 100) ∧ (0 ≤ a7 ∧ a7 ≤ 100)) : EOK (fun j => ([a0, a1, a2, a3, a4, a5, a6, a7] : List Int).getD j 0) := by
  sorry
theorem lw_fin {E : Nat → Int} {l : List CSE} {d u1 w1 ti ba : Int} (hd : 0 ≤ d ∧ d ≤ 99) (h1 : ti = (lwS E l d 0).1 ∧ ba = (lwS E l d 0).2) (hu : u1 = if ba = 0 then ti else -1) (hw : match rwS E l d with | none => w1 = -1 | some y => w1 = max 0 (min 99 y)) : u1 = w1 := by
  sorry
theorem k_182 {ch la fo : Int} {st ex te orr od : Nat → Int} {pi ti ba : Int} {wo pl : Nat → Int} {u : Int × Int × Int × Int × (Nat → Int) × (Nat → Int)} (hb : ba = 0 ∨ ba = 1) (h : f_Judge_effort_182 ch la fo st ex te orr od pi ti ba wo pl = some u) : u.1 = if ba = 0 then ti else -1 := by
  sorry
theorem lwS_b {E : Nat → Int} : ∀ (l : List CSE) (til bar : Int), (bar = 0 ∨ bar = 1) → ((lwS E l til bar).2 = 0 ∨ (lwS E l til bar).2 = 1) := by
  sorry
theorem eff_tir {x1 x2 x3 x4 x5 x6 ch la fo : Int} {st ex te ord od wo pl row set rest : Nat → Int} {pi ti ba lw br va su : Int} {u : Int × Int × Int × Int × (Nat → Int) × (Nat → Int)} {w : Int × Int × Int × Int × Int × (Nat → Int) × (Nat → Int)}
    (hx : (0 ≤ x1 ∧ x1 < ch ∧ ch ≤ 6) ∧ (0 ≤ x2 ∧ x2 ≤ 11) ∧ (0 ≤ x3 ∧ x3 ≤ 11) ∧ (0 ≤ x4 ∧ x4 ≤ 30) ∧ (0 ≤ x5 ∧ x5 ≤ 10) ∧ (0 ≤ x6 ∧ x6 ≤ 10)) (hs : st x1.toNat = row (153 + 3 * x1.toNat) ∧ 0 ≤ st x1.toNat ∧ st x1.toNat ≤ 60) (he : ex x1.toNat = row (154 + 3 * x1.toNat) ∧ 0 ≤ ex x1.toNat ∧ ex x1.toNat ≤ 1) (ht : te 0 = row 5 ∧ 0 ≤ te 0 ∧ te 0 ≤ 99)
    (hf : fo = row 4 ∧ -1 ≤ fo ∧ fo < la ∧ la ≤ 6) (hl : 0 ≤ fo → LW2 ord od row fo.toNat)
    (h1 : f_Judge_effort x1 x2 x3 x4 x5 x6 ch la fo st ex te ord od pi ti ba wo pl = some u) (h2 : f_HM_tiring x1 x4 x2 x3 x5 x6 row lw br va su set rest = some w) : u.1 = w.1 := by
  sorry
