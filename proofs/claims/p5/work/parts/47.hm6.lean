/-! OUR OWN: the reference reads a law: what it has written is well made -/
def zB (p : Nat → Int) : Nat → Nat
  | 0 => 0
  | n + 1 => zB p n + (if 20 ≤ p n ∧ p n ≤ 26 then 1 else 0)
def zN (p : Nat → Int) : Nat → Nat
  | 0 => 0
  | n + 1 => zN p n + (if 20 ≤ p n ∧ p n ≤ 27 then 1 else 0)
theorem zB_ge {p : Nat → Int} {i n : Nat} {v : Int} (h : n ≤ i) : zB (zu p i v) n = zB p n := by
  induction n with
  | zero => rfl
  | succ n ih => show zB (zu p i v) n + _ = zB p n + _; rw [ih (by omega), zu_ne _ _ (by omega)]
theorem zN_ge {p : Nat → Int} {i n : Nat} {v : Int} (h : n ≤ i) : zN (zu p i v) n = zN p n := by
  induction n with
  | zero => rfl
  | succ n ih => show zN (zu p i v) n + _ = zN p n + _; rw [ih (by omega), zu_ne _ _ (by omega)]
theorem zB_s (p : Nat → Int) (n : Nat) : (20 ≤ p n ∧ p n ≤ 26 ∧ zB p (n + 1) = zB p n + 1) ∨ (¬ (20 ≤ p n ∧ p n ≤ 26) ∧ zB p (n + 1) = zB p n) := by
  by_cases h : 20 ≤ p n ∧ p n ≤ 26
  · exact Or.inl ⟨h.1, h.2, by show zB p n + _ = _; rw [if_pos h]⟩
  · exact Or.inr ⟨h, by show zB p n + _ = _; rw [if_neg h]; rfl⟩
theorem zN_s (p : Nat → Int) (n : Nat) : (20 ≤ p n ∧ p n ≤ 27 ∧ zN p (n + 1) = zN p n + 1) ∨ (¬ (20 ≤ p n ∧ p n ≤ 27) ∧ zN p (n + 1) = zN p n) := by
  by_cases h : 20 ≤ p n ∧ p n ≤ 27
  · exact Or.inl ⟨h.1, h.2, by show zN p n + _ = _; rw [if_pos h]⟩
  · exact Or.inr ⟨h, by show zN p n + _ = _; rw [if_neg h]; rfl⟩
/-- an instruction that stands; where its way is not known yet, it waits on the pile -/
def zps (op ar : Nat → Int) (D : Nat → Nat) (nC m : Nat) (pl pa : Nat → Int) (k : Nat) : Prop :=
  (0 ≤ op k ∧ op k ≤ 8 ∧ D (k + 1) = D k + 1) ∨
  (20 ≤ op k ∧ op k ≤ 26 ∧ D (k + 1) + 1 = D k ∧ 2 ≤ D k) ∨
  (op k = 27 ∧ D (k + 1) = D k ∧ 1 ≤ D k) ∨
  ((op k = 28 ∨ op k = 29) ∧ D (k + 1) + 1 = D k ∧ ((∃ a : Nat, ar k = (a : Int) ∧ k < a ∧ a ≤ nC ∧ D a = D k) ∨ (∃ i, i < m ∧ (pl i = 28 ∨ pl i = 29) ∧ pa i = (k : Int))))
def PC (s : Nat) (op0 ar0 : Nat → Int) (D : Nat → Nat) (nC m : Nat) (op ar pl pa : Nat → Int) : Prop :=
  s ≤ nC ∧ D s = 0 ∧ (∀ k, k < s → op k = op0 k ∧ ar k = ar0 k) ∧
  (∀ i, i < m → (pl i = 28 ∨ pl i = 29) → ∃ a : Nat, pa i = (a : Int) ∧ s ≤ a ∧ a < nC ∧ D a = zB pl i + 1) ∧
  (∀ k, s ≤ k → k < nC → zps op ar D nC m pl pa k)
def PS (pl : Nat → Int) (m : Nat) : Prop := ∀ i j, i < j → j < m → pl i = 31 → (20 ≤ pl j ∧ pl j ≤ 23) ∨ pl j = 31
def NS (pl : Nat → Int) (m : Nat) : Prop := ∀ i, i < m → pl i ≠ 31
def PG (s : Nat) (op0 ar0 : Nat → Int) (nC m : Nat) (op ar pl pa : Nat → Int) (c : Nat) : Prop :=
  ∃ D : Nat → Nat, PC s op0 ar0 D nC m op ar pl pa ∧ D nC = zB pl m + c
/-- one more depth behind the last instruction -/
def zDu (D : Nat → Nat) (i d : Nat) : Nat → Nat := fun j => if j = i then d else D j
theorem zDu_eq (D : Nat → Nat) (i d : Nat) : zDu D i d i = d := by unfold zDu; rw [if_pos rfl]
theorem zDu_ne (D : Nat → Nat) {i j : Nat} (d : Nat) (h : j ≠ i) : zDu D i d j = D j := by unfold zDu; rw [if_neg h]
theorem PG_pop {s : Nat} {op0 ar0 : Nat → Int} {nC m : Nat} {op ar pl pa : Nat → Int} {c : Nat} (h : PG s op0 ar0 nC (m + 1) op ar pl pa c) (hb : 30 ≤ pl m) : PG s op0 ar0 nC m op ar pl pa c := by
  obtain ⟨D, ⟨h1, h2, h3, h4, h5⟩, h6⟩ := h
  refine ⟨D, ⟨h1, h2, h3, fun i hi hp => h4 i (by omega) hp, fun k k1 k2 => ?_⟩, ?_⟩
  · rcases h5 k k1 k2 with q | q | q | ⟨q1, q2, q3⟩
    · exact Or.inl q
    · exact Or.inr (Or.inl q)
    · exact Or.inr (Or.inr (Or.inl q))
    · refine Or.inr (Or.inr (Or.inr ⟨q1, q2, ?_⟩))
      rcases q3 with q | ⟨i, i1, i2, i3⟩
      · exact Or.inl q
      · refine Or.inr ⟨i, ?_, i2, i3⟩
        by_cases e : i = m
        · subst e; exfalso; omega
        · omega
  · have := zB_s pl m
    omega
theorem PG_andor {s : Nat} {op0 ar0 : Nat → Int} {nC m : Nat} {op ar pl pa : Nat → Int} (h : PG s op0 ar0 nC (m + 1) op ar pl pa 1) (hb : pl m = 28 ∨ pl m = 29) : PG s op0 ar0 nC m op (zu ar (pa m).toNat (nC : Int)) pl pa 1 := by
  obtain ⟨D, ⟨h1, h2, h3, h4, h5⟩, h6⟩ := h
  obtain ⟨a, a1, a2, a3, a4⟩ := h4 m (by omega) hb
  have ea : (pa m).toNat = a := by omega
  have zb := zB_s pl m
  rw [ea]
  refine ⟨D, ⟨h1, h2, fun k hk => ?_, fun i hi hp => h4 i (by omega) hp, fun k k1 k2 => ?_⟩, by omega⟩
  · rw [zu_ne _ _ (by omega)]; exact h3 k hk
  · rcases h5 k k1 k2 with q | q | q | ⟨q1, q2, q3⟩
    · exact Or.inl q
    · exact Or.inr (Or.inl q)
    · exact Or.inr (Or.inr (Or.inl q))
    · refine Or.inr (Or.inr (Or.inr ⟨q1, q2, ?_⟩))
      by_cases e : k = a
      · subst e
        exact Or.inl ⟨nC, by rw [zu_eq], k2, Nat.le_refl _, by clear q3; omega⟩
      · rcases q3 with ⟨b, b1, b2⟩ | ⟨i, i1, i2, i3⟩
        · exact Or.inl ⟨b, by rw [zu_ne _ _ e]; exact b1, b2⟩
        · refine Or.inr ⟨i, ?_, i2, i3⟩
          by_cases f : i = m
          · subst f; exfalso; omega
          · omega
/-- what stood stands, when an instruction comes behind it -/
theorem PC_more {s : Nat} {op0 ar0 : Nat → Int} {D : Nat → Nat} {nC m : Nat} {op ar pl pa : Nat → Int} {v w : Int} {d : Nat} (h : PC s op0 ar0 D nC m op ar pl pa) (hn : zps (zu op nC v) (zu ar nC w) (zDu D (nC + 1) d) (nC + 1) m pl pa nC) : PC s op0 ar0 (zDu D (nC + 1) d) (nC + 1) m (zu op nC v) (zu ar nC w) pl pa := by
  obtain ⟨h1, h2, h3, h4, h5⟩ := h
  refine ⟨by omega, by rw [zDu_ne _ _ (by omega)]; exact h2, fun k hk => ?_, fun i hi hp => ?_, fun k k1 k2 => ?_⟩
  · rw [zu_ne _ _ (by omega), zu_ne _ _ (by omega)]; exact h3 k hk
  · obtain ⟨a, a1, a2, a3, a4⟩ := h4 i hi hp
    exact ⟨a, a1, a2, by omega, by rw [zDu_ne _ _ (by omega)]; exact a4⟩
  · by_cases e : k = nC
    · subst e; exact hn
    · have hz := h5 k k1 (by omega)
      unfold zps at hz ⊢
      rw [zu_ne _ _ e, zu_ne _ _ e, zDu_ne D d (show k + 1 ≠ nC + 1 by omega), zDu_ne D d (show k ≠ nC + 1 by omega)]
      rcases hz with q | q | q | ⟨q1, q2, q3⟩
      · exact Or.inl q
      · exact Or.inr (Or.inl q)
      · exact Or.inr (Or.inr (Or.inl q))
      · refine Or.inr (Or.inr (Or.inr ⟨q1, q2, ?_⟩))
        rcases q3 with ⟨b, b1, b2, b3, b4⟩ | q
        · exact Or.inl ⟨b, b1, b2, by omega, by rw [zDu_ne _ _ (by omega)]; exact b4⟩
        · exact Or.inr q
theorem PC_sub {s : Nat} {op0 ar0 : Nat → Int} {D : Nat → Nat} {nC m : Nat} {op ar pl pa : Nat → Int} (h : PC s op0 ar0 D nC (m + 1) op ar pl pa) (hb : pl m ≠ 28 ∧ pl m ≠ 29) : PC s op0 ar0 D nC m op ar pl pa := by
  obtain ⟨h1, h2, h3, h4, h5⟩ := h
  refine ⟨h1, h2, h3, fun i hi hp => h4 i (by omega) hp, fun k k1 k2 => ?_⟩
  rcases h5 k k1 k2 with q | q | q | ⟨q1, q2, q3⟩
  · exact Or.inl q
  · exact Or.inr (Or.inl q)
  · exact Or.inr (Or.inr (Or.inl q))
  · refine Or.inr (Or.inr (Or.inr ⟨q1, q2, ?_⟩))
    rcases q3 with q | ⟨i, i1, i2, i3⟩
    · exact Or.inl q
    · refine Or.inr ⟨i, ?_, i2, i3⟩
      by_cases e : i = m
      · subst e; exfalso; omega
      · omega
theorem PG_emitop {s : Nat} {op0 ar0 : Nat → Int} {nC m : Nat} {op ar pl pa : Nat → Int} {w : Int} (h : PG s op0 ar0 nC (m + 1) op ar pl pa 1) (hb : 20 ≤ pl m ∧ pl m ≤ 27) : PG s op0 ar0 (nC + 1) m (zu op nC (pl m)) (zu ar nC w) pl pa 1 := by
  obtain ⟨D, hc, h6⟩ := h
  have zb := zB_s pl m
  refine ⟨zDu D (nC + 1) (zB pl m + 1), PC_more (PC_sub hc (by omega)) ?_, by rw [zDu_eq]⟩
  unfold zps
  rw [zu_eq, zDu_eq, zDu_ne D _ (show nC ≠ nC + 1 by omega)]
  by_cases e : pl m = 27
  · exact Or.inr (Or.inr (Or.inl ⟨e, by omega, by omega⟩))
  · exact Or.inr (Or.inl ⟨hb.1, by omega, by omega, by omega⟩)
theorem PG_leaf {s : Nat} {op0 ar0 : Nat → Int} {nC m : Nat} {op ar pl pa : Nat → Int} {v w : Int} (h : PG s op0 ar0 nC m op ar pl pa 0) (hv : 0 ≤ v ∧ v ≤ 8) : PG s op0 ar0 (nC + 1) m (zu op nC v) (zu ar nC w) pl pa 1 := by
  obtain ⟨D, hc, h6⟩ := h
  refine ⟨zDu D (nC + 1) (zB pl m + 1), PC_more hc ?_, by rw [zDu_eq]⟩
  unfold zps
  rw [zu_eq, zDu_eq, zDu_ne D _ (show nC ≠ nC + 1 by omega)]
  exact Or.inl ⟨hv.1, hv.2, by omega⟩
theorem PC_push {s : Nat} {op0 ar0 : Nat → Int} {D : Nat → Nat} {nC m : Nat} {op ar pl pa : Nat → Int} {v w : Int} (h : PC s op0 ar0 D nC m op ar pl pa) (hv : v ≠ 28 ∧ v ≠ 29) : PC s op0 ar0 D nC (m + 1) op ar (zu pl m v) (zu pa m w) := by
  obtain ⟨h1, h2, h3, h4, h5⟩ := h
  refine ⟨h1, h2, h3, fun i hi hp => ?_, fun k k1 k2 => ?_⟩
  · by_cases e : i = m
    · subst e; rw [zu_eq] at hp; exfalso; omega
    · rw [zu_ne _ _ e] at hp
      obtain ⟨a, a1, a2, a3, a4⟩ := h4 i (by omega) hp
      exact ⟨a, by rw [zu_ne _ _ e]; exact a1, a2, a3, by rw [zB_ge (by omega)]; exact a4⟩
  · rcases h5 k k1 k2 with q | q | q | ⟨q1, q2, q3⟩
    · exact Or.inl q
    · exact Or.inr (Or.inl q)
    · exact Or.inr (Or.inr (Or.inl q))
    · refine Or.inr (Or.inr (Or.inr ⟨q1, q2, ?_⟩))
      rcases q3 with q | ⟨i, i1, i2, i3⟩
      · exact Or.inl q
      · exact Or.inr ⟨i, by omega, by rw [zu_ne _ _ (by omega)]; exact i2, by rw [zu_ne _ _ (by omega)]; exact i3⟩
theorem PG_push {s : Nat} {op0 ar0 : Nat → Int} {nC m : Nat} {op ar pl pa : Nat → Int} {v w : Int} {c d : Nat} (h : PG s op0 ar0 nC m op ar pl pa c) (hv : (20 ≤ v ∧ v ≤ 26 ∧ c = 1 ∧ d = 0) ∨ ((v = 27 ∨ v = 30 ∨ v = 31) ∧ c = d)) : PG s op0 ar0 nC (m + 1) op ar (zu pl m v) (zu pa m w) d := by
  obtain ⟨D, hc, h6⟩ := h
  refine ⟨D, PC_push hc (by omega), ?_⟩
  have zb := zB_s (zu pl m v) m
  rw [zu_eq, zB_ge (Nat.le_refl _)] at zb
  omega
theorem PG_wait {s : Nat} {op0 ar0 : Nat → Int} {nC m : Nat} {op ar pl pa : Nat → Int} {v w : Int} (h : PG s op0 ar0 nC m op ar pl pa 1) (hv : v = 28 ∨ v = 29) : PG s op0 ar0 (nC + 1) (m + 1) (zu op nC v) (zu ar nC w) (zu pl m v) (zu pa m (nC : Int)) 0 := by
  obtain ⟨D, ⟨h1, h2, h3, h4, h5⟩, h6⟩ := h
  have zb := zB_s (zu pl m v) m
  rw [zu_eq, zB_ge (Nat.le_refl _)] at zb
  refine ⟨zDu D (nC + 1) (zB pl m), ⟨by omega, by rw [zDu_ne _ _ (by omega)]; exact h2, fun k hk => ?_, fun i hi hp => ?_, fun k k1 k2 => ?_⟩, by rw [zDu_eq]; omega⟩
  · rw [zu_ne _ _ (by omega), zu_ne _ _ (by omega)]; exact h3 k hk
  · by_cases e : i = m
    · subst e
      exact ⟨nC, by rw [zu_eq], h1, by omega, by rw [zDu_ne _ _ (by omega), zB_ge (Nat.le_refl _)]; exact h6⟩
    · rw [zu_ne _ _ e] at hp
      obtain ⟨a, a1, a2, a3, a4⟩ := h4 i (by omega) hp
      exact ⟨a, by rw [zu_ne _ _ e]; exact a1, a2, by omega, by rw [zDu_ne _ _ (by omega), zB_ge (by omega)]; exact a4⟩
  · by_cases e : k = nC
    · subst e
      unfold zps
      rw [zu_eq, zDu_eq, zDu_ne D _ (show k ≠ k + 1 by omega)]
      exact Or.inr (Or.inr (Or.inr ⟨hv, by omega, Or.inr ⟨m, by omega, by rw [zu_eq]; exact hv, by rw [zu_eq]⟩⟩))
    · have hz := h5 k k1 (by omega)
      unfold zps at hz ⊢
      rw [zu_ne _ _ e, zu_ne _ _ e, zDu_ne D _ (show k + 1 ≠ nC + 1 by omega), zDu_ne D _ (show k ≠ nC + 1 by omega)]
      rcases hz with q | q | q | ⟨q1, q2, q3⟩
      · exact Or.inl q
      · exact Or.inr (Or.inl q)
      · exact Or.inr (Or.inr (Or.inl q))
      · refine Or.inr (Or.inr (Or.inr ⟨q1, q2, ?_⟩))
        rcases q3 with ⟨b, b1, b2, b3, b4⟩ | ⟨i, i1, i2, i3⟩
        · exact Or.inl ⟨b, b1, b2, by omega, by rw [zDu_ne _ _ (by omega)]; exact b4⟩
        · exact Or.inr ⟨i, by omega, by rw [zu_ne _ _ (by omega)]; exact i2, by rw [zu_ne _ _ (by omega)]; exact i3⟩
/-- an end: nothing waits -/
theorem PG_end {s : Nat} {op0 ar0 : Nat → Int} {nC : Nat} {op ar pl pa : Nat → Int} (h : PG s op0 ar0 nC 0 op ar pl pa 1) : ∃ D : Nat → Nat, D s = 0 ∧ s ≤ nC ∧ (∀ k, k < s → op k = op0 k ∧ ar k = ar0 k) ∧ (∀ k, s ≤ k → k ≤ nC → D k ≤ k - s) ∧ ∀ k, s ≤ k → k < nC → zcs (fun j => if j % 2 = 0 then op ((j - 98) / 2) else ar ((j - 98) / 2)) D nC k := by
  obtain ⟨D, ⟨h1, h2, h3, h4, h5⟩, h6⟩ := h
  have key : ∀ k, s ≤ k → k ≤ nC → D k ≤ k - s := by
    intro k
    induction k with
    | zero => intro k1 k2; have e : s = 0 := by omega
              subst e; omega
    | succ k ih =>
      intro k1 k2
      by_cases e : k + 1 = s
      · rw [e, h2]; omega
      · have hz := h5 k (by omega) (by omega)
        have := ih (by omega) (by omega)
        unfold zps at hz
        rcases hz with q | q | q | q <;> omega
  refine ⟨D, h2, h1, h3, key, fun k k1 k2 => ?_⟩
  have hz := h5 k k1 k2
  unfold zcs
  dsimp only
  rw [show (98 + 2 * k) % 2 = 0 by omega, show (99 + 2 * k) % 2 = 1 by omega, show (98 + 2 * k - 98) / 2 = k by omega, show (99 + 2 * k - 98) / 2 = k by omega]
  rw [if_pos rfl, if_neg (by decide)]
  rcases hz with q | q | q | ⟨q1, q2, q3⟩
  · exact Or.inl q
  · exact Or.inr (Or.inl q)
  · exact Or.inr (Or.inr (Or.inl q))
  · refine Or.inr (Or.inr (Or.inr ⟨q1, q2, ?_⟩))
    rcases q3 with q | ⟨i, i1, _⟩
    · exact q
    · omega
