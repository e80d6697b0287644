/-! conditions as numbers -/
abbrev BNu : Type := (Nat → Int) → Option Bool
def BL (β : BNu) : LNu := fun E => ((β E).map bv).map (fun x => [x])
def NOTB (β : BNu) : BNu := fun E => (β E).map (fun b => !b)
def NTK : Nat → BNu → BNu
  | 0 => fun β => β
  | k + 1 => fun β => NTK k (NOTB β)
theorem NOTB_2 (β : BNu) : NOTB (NOTB β) = β := by
  sorry
theorem NTK_is : ∀ (k : Nat) (β : BNu), NTK k β = if k % 2 = 1 then NOTB β else β := by
  sorry
theorem BL_len (β : BNu) : LEN (BL β) 1 := fun E l _ h => by
  unfold BL at h
  cases hb : β E with
  | none => rw [hb] at h; exact nomatch h
  | some b => rw [hb] at h; cases h; rfl
theorem RPush_c {op ar : Nat → Int} {s e d : Nat} {ν μ : LNu} (h : ∀ E, EOK E → ν E = μ E) (g : RPush op ar s e d ν) : RPush op ar s e d μ := by
  sorry
theorem CS_c {O O' : Nat → Int} {s s' d : Nat} {ν μ : LNu} (h : ∀ E, EOK E → ν E = μ E) (g : CSg O O' s s' d ν) : CSg O O' s s' d μ := ⟨g.1, g.2.1, RPush_c h g.2.2⟩
theorem RS_c {op ar op' ar' : Nat → Int} {c c' d : Nat} {ν μ : LNu} (h : ∀ E, EOK E → ν E = μ E) (g : RSg op ar op' ar' c c' d ν) : RSg op ar op' ar' c c' d μ := ⟨g.1, g.2.1, RPush_c h g.2.2⟩
def BOF (ν : LNu) : BNu := fun E => (ν E).map (fun l => decide (l.head? = some 1))
theorem wop_01 {o a b x : Int} (ho : 24 ≤ o ∧ o < 27) (h : wop o a b = some x) : x = 0 ∨ x = 1 := by
  sorry
theorem BOF_is {μ : LNu} {o : Int} (ho : 24 ≤ o ∧ o < 27) (hN : LEN μ 2) : ∀ E, EOK E → vop o μ E = BL (BOF (vop o μ)) E := fun E hE => by
  cases hv : vop o μ E with
  | none => unfold BL BOF; rw [hv]; rfl
  | some l =>
    have h1 := LEN_op (k := 0) (o := o) hN E l hE hv
    unfold vop at hv
    cases hm : μ E with
    | none => rw [hm] at hv; exact nomatch hv
    | some l0 =>
      rw [hm] at hv
      have g := hN E l0 hE hm
      match l0, g with
      | b :: a :: [], g =>
        dsimp only at hv
        cases hw : wop o a b with
        | none => rw [hw] at hv; exact nomatch hv
        | some x =>
          rw [hw] at hv
          dsimp only at hv
          have hv2 : vop o μ E = some [x] := by unfold vop; rw [hm]; dsimp only; rw [hw]
          cases hv
          unfold BL BOF
          rw [hv2]
          rcases wop_01 ho hw with z | z <;> subst z <;> rfl
theorem CS_not {O O1 : Nat → Int} {s s1 d : Nat} {β : BNu} (h : CSg O O1 s s1 d (BL β)) (hd : 1 ≤ d) : CSg O (zu O1 s1 (16 * 0 + 10)) s (s1 + 1) d (BL (NOTB β)) := by
  sorry
theorem RS_not {op ar op1 ar1 : Nat → Int} {c c1 d : Nat} {β : BNu} (h : RSg op ar op1 ar1 c c1 d (BL β)) (hd : 1 ≤ d) : RSg op ar (zu op1 c1 27) (zu ar1 c1 0) c (c1 + 1) d (BL (NOTB β)) := by
  sorry
theorem ST_nots {pl pa : Nat → Int} {pd : Nat} {op0 ar0 : Nat → Int} {c0 d : Nat} {least : Int} {r : Int × Int × (Nat → Int) × (Nat → Int)} (hl : 0 ≤ least ∧ least ≤ 3) (hd : 1 ≤ d) : ∀ (k c : Nat) (op ar : Nat → Int) (β : BNu), (∀ j, j < k → pl (pd + j) = 27) → RSg op0 ar0 op ar c0 c d (BL β) → c ≤ 400 → pd + k ≤ 400 → ST least pl pa c (pd + k) op ar r → ∃ (c' : Nat) (op' ar' : Nat → Int), c' ≤ 400 ∧ RSg op0 ar0 op' ar' c0 c' d (BL (NTK k β)) ∧ ST least pl pa c' pd op' ar' r := by
  sorry
theorem VL_len : ∀ (l : List Int) (ν : LNu), LEN ν (l.length + 1) → LEN (VL l ν) 1 := by
  sorry
def QOut (T : Nat → Int) (n m : Nat) (qs rs : Nat → Nat) (tk vl W : Nat → Int) (x1 : Int) (o : OX) (b s0 i0 c0 pd : Nat) (O0 op0 ar0 pl0 pa0 : Nat → Int) (v : Int × Int × Int × Int × (Nat → Int)) : Prop :=
    (v.1 = 0 ∧ ∃ i' : Nat, i' ≤ m ∧ v.2.2.1 = (i' : Int) ∧ FL qs o i') ∨
    ∃ (s' i' p' c' pd' : Nat) (O' op' ar' pl' pa' : Nat → Int) (β : BNu), v = (1, (s' : Int), (i' : Int), (p' : Int), O') ∧ (i0 < i' ∧ i' ≤ m ∧ p' ≤ 50 ∧ s' + i0 ≤ s0 + i' ∧ c' ≤ 400 ∧ pd ≤ pd' ∧ pd' ≤ 400) ∧ CSg O0 O' s0 s' (20 - 2 * b) (BL β) ∧ AGR pl0 pl' pd ∧ AGR pa0 pa' pd ∧ PLR pl' pd' ∧ INVb pl' pd' = INVb pl0 pd ∧ (∀ (least : Int) r, 0 ≤ least ∧ least ≤ 2 → ST least pl' pa' c' pd' op' ar' r → ∃ (c2 : Nat) (op2 ar2 : Nat → Int), c2 ≤ 400 ∧ RSg op0 ar0 op2 ar2 c0 c2 (20 - 2 * b) (BL β) ∧ ST least pl' pa' c2 pd op2 ar2 r) ∧ EX T n W x1 qs rs o 2 i' c' p' pd' b op' ar' pl' pa'
def TOut (T : Nat → Int) (n m : Nat) (qs rs : Nat → Nat) (tk vl W : Nat → Int) (x1 : Int) (o : OX) (b s0 i0 c0 pd : Nat) (O0 op0 ar0 pl0 pa0 : Nat → Int) (v : Int × Int × Int × Int × (Nat → Int)) : Prop :=
    (v.1 = 0 ∧ ∃ i' : Nat, i' ≤ m ∧ v.2.2.1 = (i' : Int) ∧ FL qs o i') ∨
    ∃ (s' i' p' c' pd' : Nat) (O' op' ar' pl' pa' : Nat → Int) (β : BNu), v = (1, (s' : Int), (i' : Int), (p' : Int), O') ∧ (i0 < i' ∧ i' ≤ m ∧ p' ≤ 50 ∧ s' + i0 ≤ s0 + i' ∧ c' ≤ 400 ∧ pd ≤ pd' ∧ pd' ≤ 400) ∧ CSg O0 O' s0 s' (20 - 2 * b) (BL β) ∧ AGR pl0 pl' pd ∧ AGR pa0 pa' pd ∧ PLR pl' pd' ∧ INVb pl' pd' = INVb pl0 pd ∧ (∀ (least : Int) r, 1 ≤ least ∧ least ≤ 1 → ST least pl' pa' c' pd' op' ar' r → ∃ (c2 : Nat) (op2 ar2 : Nat → Int), c2 ≤ 400 ∧ RSg op0 ar0 op2 ar2 c0 c2 (20 - 2 * b) (BL β) ∧ ST least pl' pa' c2 pd op2 ar2 r) ∧ (tk i' ≠ 264 ∧ tk i' ≠ 263) ∧ EX T n W x1 qs rs o 2 i' c' p' pd' b op' ar' pl' pa'
def PPlain (T : Nat → Int) (n m : Nat) (qs rs : Nat → Nat) (tk vl W : Nat → Int) (x1 : Int) (o : OX) (f : Int → (Nat → Int) → (Nat → Int) → Int → Int → Int → (Nat → Int) → Option (Int × Int × Int × Int × (Nat → Int))) : Prop :=
  ∀ (b s i p : Nat) (O : Nat → Int) (v : Int × Int × Int × Int × (Nat → Int)), b ≤ 8 → 1 ≤ i → i ≤ m → s ≤ i + 23 → p ≤ 50 → f (b : Int) tk vl (s : Int) (i : Int) (p : Int) O = some v →
  ∀ (c pd : Nat) (op ar pl pa : Nat → Int), c ≤ 400 → pd ≤ 400 → PLR pl pd → (pd = 0 ∨ 27 ≤ pl (pd - 1)) ∧ (INVb pl pd = 30 ∨ (INVb pl pd = -1 ∧ x1 = 1)) → EX T n W x1 qs rs o 0 i c p pd b op ar pl pa → QOut T n m qs rs tk vl W x1 o b s i c pd O op ar pl pa v
def PTest (T : Nat → Int) (n m : Nat) (qs rs : Nat → Nat) (tk vl W : Nat → Int) (x1 : Int) (o : OX) (f : Int → (Nat → Int) → (Nat → Int) → Int → Int → Int → (Nat → Int) → Option (Int × Int × Int × Int × (Nat → Int))) : Prop :=
  ∀ (b s i p : Nat) (O : Nat → Int) (v : Int × Int × Int × Int × (Nat → Int)), b ≤ 8 → 1 ≤ i → i ≤ m → s ≤ i + 23 → p ≤ 50 → f (b : Int) tk vl (s : Int) (i : Int) (p : Int) O = some v →
  ∀ (c pd : Nat) (op ar pl pa : Nat → Int), c ≤ 400 → pd ≤ 400 → PLR pl pd → (pd = 0 ∧ x1 = 1) ∨ (1 ≤ pd ∧ pl (pd - 1) = 30) → EX T n W x1 qs rs o 0 i c p pd b op ar pl pa → TOut T n m qs rs tk vl W x1 o b s i c pd O op ar pl pa v
theorem p_148 {fT fQ : Int → (Nat → Int) → (Nat → Int) → Int → Int → Int → (Nat → Int) → Option (Int × Int × Int × Int × (Nat → Int))} {tk vl O : Nat → Int} {t : Int} {s : Nat} {i p : Int} {v : Int × Int × Int × Int × (Nat → Int)} (hs : s < 424) (ht : t = 0 ∨ t = 1) (h : f_LawReader_readPlain_148 fT fQ tk vl t (s : Int) i p O = some v) : (t = 0 ∧ v = (1, (s : Int), i, p, O)) ∨ (t = 1 ∧ v = (1, ((s + 1 : Nat) : Int), i, p, zu O s (16 * 0 + 10))) := by
  sorry
theorem q_end {T : Nat → Int} {n m : Nat} {qs rs : Nat → Nat} {tk vl W : Nat → Int} {x1 : Int} {o : OX} (hL : LEX T n m qs rs tk vl) (hW : ∀ k : Nat, k < 8 → W k = zcd k) (hx : x1 = 0 ∨ x1 = 1) {fT fQ : Int → (Nat → Int) → (Nat → Int) → Int → Int → Int → (Nat → Int) → Option (Int × Int × Int × Int × (Nat → Int))} {b s0 i0 c0 pd : Nat} {O0 op0 ar0 pl0 pa0 : Nat → Int} {v : Int × Int × Int × Int × (Nat → Int)} (hb : b ≤ 8) (hs0 : s0 ≤ i0 + 23) (hi0 : 1 ≤ i0) (hP0 : PLR pl0 pd) (hpd : pd ≤ 400) {k : Nat} {t : Int} {s i p c pd' : Nat} {O op ar pl pa : Nat → Int} {β : BNu} (ht : t = ((k % 2 : Nat) : Int))
    (hn : i0 < i ∧ i ≤ m ∧ p ≤ 50 ∧ s + (k % 2) + i0 ≤ s0 + i ∧ c ≤ 400 ∧ pd + k ≤ pd' ∧ pd' ≤ 400) (hC : CSg O0 O s0 s (20 - 2 * b) (BL β)) (ha : AGR pl0 pl pd) (hA : AGR pa0 pa pd) (hk : ∀ j, j < k → pl (pd + j) = 27) (hP : PLR pl pd') (hI : INVb pl pd' = INVb pl0 pd)
    (hS : ∀ (least : Int) r, 0 ≤ least ∧ least ≤ 2 → ST least pl pa c pd' op ar r → ∃ (c2 : Nat) (op2 ar2 : Nat → Int), c2 ≤ 400 ∧ RSg op0 ar0 op2 ar2 c0 c2 (20 - 2 * b) (BL β) ∧ ST least pl pa c2 (pd + k) op2 ar2 r)
    (hE : EX T n W x1 qs rs o 2 i c p pd' b op ar pl pa) (h : f_LawReader_readPlain_148 fT fQ tk vl t (s : Int) (i : Int) (p : Int) O = some v) : QOut T n m qs rs tk vl W x1 o b s0 i0 c0 pd O0 op0 ar0 pl0 pa0 v := by
  sorry
theorem CMV_top {pl : Nat → Int} {pd : Nat} (h : pd = 0 ∨ 27 ≤ pl (pd - 1)) : CMV pl pd = 0 := by
  sorry
theorem INV_1 {pl : Nat → Int} {pd : Nat} (h : pl pd < 30) : INVb pl (pd + 1) = INVb pl pd := by
  sorry
theorem INV_nots {pl : Nat → Int} {pd : Nat} : ∀ k, (∀ j, j < k → pl (pd + j) = 27) → INVb pl (pd + k) = INVb pl pd := by
  sorry
theorem p_cmp {x w : Int} (hx : 0 ≤ x ∧ x ≤ 300) (h : f_LawReader_comparisonOf x = some w) : (∃ q, TKC x q ∧ w = q - 17) ∨ ((∀ q, ¬ TKC x q) ∧ w = -1) := by
  sorry
theorem q_37 {T : Nat → Int} {n m : Nat} {qs rs : Nat → Nat} {tk vl W : Nat → Int} {x1 : Int} {o : OX} (hL : LEX T n m qs rs tk vl) (hW : ∀ k : Nat, k < 8 → W k = zcd k) (hx : x1 = 0 ∨ x1 = 1) {fT fQ : Int → (Nat → Int) → (Nat → Int) → Int → Int → Int → (Nat → Int) → Option (Int × Int × Int × Int × (Nat → Int))} (hT : PTest T n m qs rs tk vl W x1 o fT) {b s0 i0 c0 pd : Nat} {O0 op0 ar0 pl0 pa0 : Nat → Int} {v : Int × Int × Int × Int × (Nat → Int)} (hb : b ≤ 8) (hs0 : s0 ≤ i0 + 23) (hi0 : 1 ≤ i0) (hP0 : PLR pl0 pd) (hpd : pd ≤ 400) (hI0 : INVb pl0 pd = 30 ∨ (INVb pl0 pd = -1 ∧ x1 = 1)) {k : Nat} {t : Int} {i p : Nat} {pl pa : Nat → Int} (hcx : pd + k = 0 ∨ 27 ≤ pl (pd + k - 1)) (ht : t = ((k % 2 : Nat) : Int)) (hc : c0 ≤ 400)
    (hn : i0 + k ≤ i ∧ i ≤ m ∧ p ≤ 50 ∧ pd + k ≤ 400) (ha : AGR pl0 pl pd) (hA : AGR pa0 pa pd) (hk : ∀ j, j < k → pl (pd + j) = 27) (hP : PLR pl (pd + k)) (hno : tk i ≠ 265)
    (hE : EX T n W x1 qs rs o 0 i c0 p (pd + k) b op0 ar0 pl pa) (h : f_LawReader_readPlain_37 fT fQ tk vl (b : Int) t (s0 : Int) (i : Int) (p : Int) O0 = some v) : QOut T n m qs rs tk vl W x1 o b s0 i0 c0 pd O0 op0 ar0 pl0 pa0 v := by
  sorry
