/-! OUR OWN: the reference reads a law: what it has written is well made -/
def zB (p : Nat → Int) : Nat → Nat
  | 0 => 0
  | n + 1 => zB p n + (if 20 ≤ p n ∧ p n ≤ 26 then 1 else 0)
def zN (p : Nat → Int) : Nat → Nat
  | 0 => 0
  | n + 1 => zN p n + (if 20 ≤ p n ∧ p n ≤ 27 then 1 else 0)
theorem zB_ge {p : Nat → Int} {i n : Nat} {v : Int} (h : n ≤ i) : zB (zu p i v) n = zB p n := by
  sorry
theorem zN_ge {p : Nat → Int} {i n : Nat} {v : Int} (h : n ≤ i) : zN (zu p i v) n = zN p n := by
  sorry
theorem zB_s (p : Nat → Int) (n : Nat) : (20 ≤ p n ∧ p n ≤ 26 ∧ zB p (n + 1) = zB p n + 1) ∨ (¬ (20 ≤ p n ∧ p n ≤ 26) ∧ zB p (n + 1) = zB p n) := by
  sorry
theorem zN_s (p : Nat → Int) (n : Nat) : (20 ≤ p n ∧ p n ≤ 27 ∧ zN p (n + 1) = zN p n + 1) ∨ (¬ (20 ≤ p n ∧ p n ≤ 27) ∧ zN p (n + 1) = zN p n) := by
  sorry
/-- an instruction that stands; where its way is not known yet, it waits on the pile -/
def zps (op ar : Nat → Int) (D : Nat → Nat) (nC m : Nat) (pl pa : Nat → Int) (k : Nat) : Prop :=
  (0 ≤ op k ∧ op k ≤ 8 ∧ D (k + 1) = D k + 1) ∨
  (20 ≤ op k ∧ op k ≤ 26 ∧ D (k + 1) + 1 = D k ∧ 2 ≤ D k) ∨
  (op k = 27 ∧ D (k + 1) = D k ∧ 1 ≤ D k) ∨
  ((op k = 28 ∨ op k = 29) ∧ D (k + 1) + 1 = D k ∧ ((∃ a : Nat, ar k = (a : Int) ∧ k < a ∧ a ≤ nC ∧ D a = D k) ∨ (∃ i, i < m ∧ (pl i = 28 ∨ pl i = 29) ∧ pa i = (k : Int))))
def PC (s : Nat) (op0 ar0 : Nat → Int) (D : Nat → Nat) (nC m : Nat) (op ar pl pa : Nat → Int) : Prop :=
  s ≤ nC ∧ D s = 0 ∧ (∀ k, k < s → op k = op0 k ∧ ar k = ar0 k) ∧
  (∀ i, i < m → (pl i = 28 ∨ pl i = 29) → ∃ a : Nat, pa i = (a : Int) ∧ s ≤ a ∧ a < nC ∧ D a = zB pl i + 1) ∧
  (∀ k, s ≤ k → k < nC → zps op ar D nC m pl pa k)
def PS (pl : Nat → Int) (m : Nat) : Prop := ∀ i j, i < j → j < m → pl i = 31 → (20 ≤ pl j ∧ pl j ≤ 23) ∨ pl j = 31
def NS (pl : Nat → Int) (m : Nat) : Prop := ∀ i, i < m → pl i ≠ 31
def PG (s : Nat) (op0 ar0 : Nat → Int) (nC m : Nat) (op ar pl pa : Nat → Int) (c : Nat) : Prop :=
  ∃ D : Nat → Nat, PC s op0 ar0 D nC m op ar pl pa ∧ D nC = zB pl m + c
/-- one more depth behind the last instruction -/
def zDu (D : Nat → Nat) (i d : Nat) : Nat → Nat := fun j => if j = i then d else D j
theorem zDu_eq (D : Nat → Nat) (i d : Nat) : zDu D i d i = d := by unfold zDu; rw [if_pos rfl]
theorem zDu_ne (D : Nat → Nat) {i j : Nat} (d : Nat) (h : j ≠ i) : zDu D i d j = D j := by unfold zDu; rw [if_neg h]
theorem PG_pop {s : Nat} {op0 ar0 : Nat → Int} {nC m : Nat} {op ar pl pa : Nat → Int} {c : Nat} (h : PG s op0 ar0 nC (m + 1) op ar pl pa c) (hb : 30 ≤ pl m) : PG s op0 ar0 nC m op ar pl pa c := by
  sorry
theorem PG_andor {s : Nat} {op0 ar0 : Nat → Int} {nC m : Nat} {op ar pl pa : Nat → Int} (h : PG s op0 ar0 nC (m + 1) op ar pl pa 1) (hb : pl m = 28 ∨ pl m = 29) : PG s op0 ar0 nC m op (zu ar (pa m).toNat (nC : Int)) pl pa 1 := by
  sorry
/-- what stood stands, when an instruction comes behind it -/
theorem PC_more {s : Nat} {op0 ar0 : Nat → Int} {D : Nat → Nat} {nC m : Nat} {op ar pl pa : Nat → Int} {v w : Int} {d : Nat} (h : PC s op0 ar0 D nC m op ar pl pa) (hn : zps (zu op nC v) (zu ar nC w) (zDu D (nC + 1) d) (nC + 1) m pl pa nC) : PC s op0 ar0 (zDu D (nC + 1) d) (nC + 1) m (zu op nC v) (zu ar nC w) pl pa := by
  sorry
theorem PC_sub {s : Nat} {op0 ar0 : Nat → Int} {D : Nat → Nat} {nC m : Nat} {op ar pl pa : Nat → Int} (h : PC s op0 ar0 D nC (m + 1) op ar pl pa) (hb : pl m ≠ 28 ∧ pl m ≠ 29) : PC s op0 ar0 D nC m op ar pl pa := by
  sorry
theorem PG_emitop {s : Nat} {op0 ar0 : Nat → Int} {nC m : Nat} {op ar pl pa : Nat → Int} {w : Int} (h : PG s op0 ar0 nC (m + 1) op ar pl pa 1) (hb : 20 ≤ pl m ∧ pl m ≤ 27) : PG s op0 ar0 (nC + 1) m (zu op nC (pl m)) (zu ar nC w) pl pa 1 := by
  sorry
theorem PG_leaf {s : Nat} {op0 ar0 : Nat → Int} {nC m : Nat} {op ar pl pa : Nat → Int} {v w : Int} (h : PG s op0 ar0 nC m op ar pl pa 0) (hv : 0 ≤ v ∧ v ≤ 8) : PG s op0 ar0 (nC + 1) m (zu op nC v) (zu ar nC w) pl pa 1 := by
  sorry
theorem PC_push {s : Nat} {op0 ar0 : Nat → Int} {D : Nat → Nat} {nC m : Nat} {op ar pl pa : Nat → Int} {v w : Int} (h : PC s op0 ar0 D nC m op ar pl pa) (hv : v ≠ 28 ∧ v ≠ 29) : PC s op0 ar0 D nC (m + 1) op ar (zu pl m v) (zu pa m w) := by
  sorry
theorem PG_push {s : Nat} {op0 ar0 : Nat → Int} {nC m : Nat} {op ar pl pa : Nat → Int} {v w : Int} {c d : Nat} (h : PG s op0 ar0 nC m op ar pl pa c) (hv : (20 ≤ v ∧ v ≤ 26 ∧ c = 1 ∧ d = 0) ∨ ((v = 27 ∨ v = 30 ∨ v = 31) ∧ c = d)) : PG s op0 ar0 nC (m + 1) op ar (zu pl m v) (zu pa m w) d := by
  sorry
theorem PG_wait {s : Nat} {op0 ar0 : Nat → Int} {nC m : Nat} {op ar pl pa : Nat → Int} {v w : Int} (h : PG s op0 ar0 nC m op ar pl pa 1) (hv : v = 28 ∨ v = 29) : PG s op0 ar0 (nC + 1) (m + 1) (zu op nC v) (zu ar nC w) (zu pl m v) (zu pa m (nC : Int)) 0 := by
  sorry
/-- an end: nothing waits -/
theorem PG_end {s : Nat} {op0 ar0 : Nat → Int} {nC : Nat} {op ar pl pa : Nat → Int} (h : PG s op0 ar0 nC 0 op ar pl pa 1) : ∃ D : Nat → Nat, D s = 0 ∧ s ≤ nC ∧ (∀ k, k < s → op k = op0 k ∧ ar k = ar0 k) ∧ (∀ k, s ≤ k → k ≤ nC → D k ≤ k - s) ∧ ∀ k, s ≤ k → k < nC → zcs (fun j => if j % 2 = 0 then op ((j - 98) / 2) else ar ((j - 98) / 2)) D nC k := by
  sorry
