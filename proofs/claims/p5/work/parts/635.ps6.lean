/-! conditions as numbers -/
abbrev BNu : Type := (Nat → Int) → Option Bool
def BL (β : BNu) : LNu := fun E => ((β E).map bv).map (fun x => [x])
def NOTB (β : BNu) : BNu := fun E => (β E).map (fun b => !b)
def NTK : Nat → BNu → BNu
  | 0 => fun β => β
  | k + 1 => fun β => NTK k (NOTB β)
theorem NOTB_2 (β : BNu) : NOTB (NOTB β) = β := by
  funext E
  unfold NOTB
  cases β E with
  | none => rfl
  | some b => cases b <;> rfl
theorem NTK_is : ∀ (k : Nat) (β : BNu), NTK k β = if k % 2 = 1 then NOTB β else β := by
  intro k
  induction k with
  | zero => intro β; rfl
  | succ k ih =>
    intro β
    show NTK k (NOTB β) = _
    rw [ih]
    by_cases h : k % 2 = 1
    · rw [if_pos h, if_neg (by omega), NOTB_2]
    · rw [if_neg h, if_pos (by omega)]
theorem BL_len (β : BNu) : LEN (BL β) 1 := fun E l _ h => by
  unfold BL at h
  cases hb : β E with
  | none => rw [hb] at h; exact nomatch h
  | some b => rw [hb] at h; cases h; rfl
theorem RPush_c {op ar : Nat → Int} {s e d : Nat} {ν μ : LNu} (h : ∀ E, EOK E → ν E = μ E) (g : RPush op ar s e d ν) : RPush op ar s e d μ := by
  refine ⟨g.1, fun E hE => ?_⟩
  have q := g.2 E hE
  rw [h E hE] at q
  exact q
theorem CS_c {O O' : Nat → Int} {s s' d : Nat} {ν μ : LNu} (h : ∀ E, EOK E → ν E = μ E) (g : CSg O O' s s' d ν) : CSg O O' s s' d μ := ⟨g.1, g.2.1, RPush_c h g.2.2⟩
theorem RS_c {op ar op' ar' : Nat → Int} {c c' d : Nat} {ν μ : LNu} (h : ∀ E, EOK E → ν E = μ E) (g : RSg op ar op' ar' c c' d ν) : RSg op ar op' ar' c c' d μ := ⟨g.1, g.2.1, RPush_c h g.2.2⟩
def BOF (ν : LNu) : BNu := fun E => (ν E).map (fun l => decide (l.head? = some 1))
theorem wop_01 {o a b x : Int} (ho : 24 ≤ o ∧ o < 27) (h : wop o a b = some x) : x = 0 ∨ x = 1 := by
  unfold wop at h
  by_cases g : -1000000000 ≤ wopv o a b ∧ wopv o a b ≤ 1000000000
  · rw [if_pos g] at h
    cases h
    unfold wopv
    rw [if_neg (by omega), if_neg (by omega), if_neg (by omega), if_neg (by omega)]
    split
    · split
      · exact Or.inr rfl
      · exact Or.inl rfl
    · split
      · split
        · exact Or.inr rfl
        · exact Or.inl rfl
      · split
        · exact Or.inr rfl
        · exact Or.inl rfl
  · rw [if_neg g] at h; exact nomatch h
theorem BOF_is {μ : LNu} {o : Int} (ho : 24 ≤ o ∧ o < 27) (hN : LEN μ 2) : ∀ E, EOK E → vop o μ E = BL (BOF (vop o μ)) E := fun E hE => by
  cases hv : vop o μ E with
  | none => unfold BL BOF; rw [hv]; rfl
  | some l =>
    have h1 := LEN_op (k := 0) (o := o) hN E l hE hv
    unfold vop at hv
    cases hm : μ E with
    | none => rw [hm] at hv; exact nomatch hv
    | some l0 =>
      rw [hm] at hv
      have g := hN E l0 hE hm
      match l0, g with
      | b :: a :: [], g =>
        dsimp only at hv
        cases hw : wop o a b with
        | none => rw [hw] at hv; exact nomatch hv
        | some x =>
          rw [hw] at hv
          dsimp only at hv
          have hv2 : vop o μ E = some [x] := by unfold vop; rw [hm]; dsimp only; rw [hw]
          cases hv
          unfold BL BOF
          rw [hv2]
          rcases wop_01 ho hw with z | z <;> subst z <;> rfl
theorem CS_not {O O1 : Nat → Int} {s s1 d : Nat} {β : BNu} (h : CSg O O1 s s1 d (BL β)) (hd : 1 ≤ d) : CSg O (zu O1 s1 (16 * 0 + 10)) s (s1 + 1) d (BL (NOTB β)) := by
  have h12 := h.2.2.1
  refine ⟨AGR_t h.1 (AGR_u h12) (Nat.le_refl _), fun j h1 h2 => ?_, ?_⟩
  · rcases Nat.lt_or_ge j s1 with q | q
    · rw [zu_ne _ _ (by omega)]; exact h.2.1 j h1 q
    · rw [show j = s1 from by omega, zu_eq]; omega
  · refine BVal_not (β := β) (RPush_x h.2.2 (Nat.le_refl _) (CO_agr (fun j h1 h2 => zu_ne _ _ (by omega)))) ?_ hd
    show cop (zu O1 s1 (16 * 0 + 10) s1) = 27
    rw [zu_eq]; decide
theorem RS_not {op ar op1 ar1 : Nat → Int} {c c1 d : Nat} {β : BNu} (h : RSg op ar op1 ar1 c c1 d (BL β)) (hd : 1 ≤ d) : RSg op ar (zu op1 c1 27) (zu ar1 c1 0) c (c1 + 1) d (BL (NOTB β)) := by
  have h12 := h.2.2.1
  refine ⟨⟨AGR_t h.1.1 (AGR_u h12) (Nat.le_refl _), AGR_t h.1.2 (AGR_u h12) (Nat.le_refl _)⟩, fun j h1 h2 => ?_, ?_⟩
  · rcases Nat.lt_or_ge j c1 with q | q
    · rw [zu_ne _ _ (by omega), zu_ne _ _ (by omega)]; exact h.2.1 j h1 q
    · rw [show j = c1 from by omega, zu_eq, zu_eq]; omega
  · exact BVal_not (β := β) (RPush_x h.2.2 (Nat.le_refl _) (fun j h1 h2 => ⟨zu_ne _ _ (by omega), zu_ne _ _ (by omega)⟩)) (zu_eq _ _ _) hd
theorem ST_nots {pl pa : Nat → Int} {pd : Nat} {op0 ar0 : Nat → Int} {c0 d : Nat} {least : Int} {r : Int × Int × (Nat → Int) × (Nat → Int)} (hl : 0 ≤ least ∧ least ≤ 3) (hd : 1 ≤ d) : ∀ (k c : Nat) (op ar : Nat → Int) (β : BNu), (∀ j, j < k → pl (pd + j) = 27) → RSg op0 ar0 op ar c0 c d (BL β) → c ≤ 400 → pd + k ≤ 400 → ST least pl pa c (pd + k) op ar r → ∃ (c' : Nat) (op' ar' : Nat → Int), c' ≤ 400 ∧ RSg op0 ar0 op' ar' c0 c' d (BL (NTK k β)) ∧ ST least pl pa c' pd op' ar' r := by
  intro k
  induction k with
  | zero => intro c op ar β _ hR hc _ h; exact ⟨c, op, ar, hc, hR, h⟩
  | succ k ih =>
    intro c op ar β hp hR hc hpd h
    have ek := hp k (by omega)
    have g := ST_op (k := pd + k) (by omega) (by rw [ek, (by decide : BDS 27 = 3)]; exact hl) (by rw [ek]; decide) (by omega) h
    rw [ek] at g
    exact ih (c + 1) _ _ (NOTB β) (fun j hj => hp j (by omega)) (RS_not hR hd) (by omega) (by omega) g.2
theorem VL_len : ∀ (l : List Int) (ν : LNu), LEN ν (l.length + 1) → LEN (VL l ν) 1 := by
  intro l
  induction l with
  | nil => intro ν h; exact h
  | cons a l ih => intro ν h; exact ih (vop a ν) (LEN_op (k := l.length) h)
def QOut (T : Nat → Int) (n m : Nat) (qs rs : Nat → Nat) (tk vl W : Nat → Int) (x1 : Int) (o : OX) (b s0 i0 c0 pd : Nat) (O0 op0 ar0 pl0 pa0 : Nat → Int) (v : Int × Int × Int × Int × (Nat → Int)) : Prop :=
    (v.1 = 0 ∧ ∃ i' : Nat, i' ≤ m ∧ v.2.2.1 = (i' : Int) ∧ FL qs o i') ∨
    ∃ (s' i' p' c' pd' : Nat) (O' op' ar' pl' pa' : Nat → Int) (β : BNu), v = (1, (s' : Int), (i' : Int), (p' : Int), O') ∧ (i0 < i' ∧ i' ≤ m ∧ p' ≤ 50 ∧ s' + i0 ≤ s0 + i' ∧ c' ≤ 400 ∧ pd ≤ pd' ∧ pd' ≤ 400) ∧ CSg O0 O' s0 s' (20 - 2 * b) (BL β) ∧ AGR pl0 pl' pd ∧ AGR pa0 pa' pd ∧ PLR pl' pd' ∧ INVb pl' pd' = INVb pl0 pd ∧ (∀ (least : Int) r, 0 ≤ least ∧ least ≤ 2 → ST least pl' pa' c' pd' op' ar' r → ∃ (c2 : Nat) (op2 ar2 : Nat → Int), c2 ≤ 400 ∧ RSg op0 ar0 op2 ar2 c0 c2 (20 - 2 * b) (BL β) ∧ ST least pl' pa' c2 pd op2 ar2 r) ∧ EX T n W x1 qs rs o 2 i' c' p' pd' b op' ar' pl' pa'
def TOut (T : Nat → Int) (n m : Nat) (qs rs : Nat → Nat) (tk vl W : Nat → Int) (x1 : Int) (o : OX) (b s0 i0 c0 pd : Nat) (O0 op0 ar0 pl0 pa0 : Nat → Int) (v : Int × Int × Int × Int × (Nat → Int)) : Prop :=
    (v.1 = 0 ∧ ∃ i' : Nat, i' ≤ m ∧ v.2.2.1 = (i' : Int) ∧ FL qs o i') ∨
    ∃ (s' i' p' c' pd' : Nat) (O' op' ar' pl' pa' : Nat → Int) (β : BNu), v = (1, (s' : Int), (i' : Int), (p' : Int), O') ∧ (i0 < i' ∧ i' ≤ m ∧ p' ≤ 50 ∧ s' + i0 ≤ s0 + i' ∧ c' ≤ 400 ∧ pd ≤ pd' ∧ pd' ≤ 400) ∧ CSg O0 O' s0 s' (20 - 2 * b) (BL β) ∧ AGR pl0 pl' pd ∧ AGR pa0 pa' pd ∧ PLR pl' pd' ∧ INVb pl' pd' = INVb pl0 pd ∧ (∀ (least : Int) r, 1 ≤ least ∧ least ≤ 1 → ST least pl' pa' c' pd' op' ar' r → ∃ (c2 : Nat) (op2 ar2 : Nat → Int), c2 ≤ 400 ∧ RSg op0 ar0 op2 ar2 c0 c2 (20 - 2 * b) (BL β) ∧ ST least pl' pa' c2 pd op2 ar2 r) ∧ (tk i' ≠ 264 ∧ tk i' ≠ 263) ∧ EX T n W x1 qs rs o 2 i' c' p' pd' b op' ar' pl' pa'
def PPlain (T : Nat → Int) (n m : Nat) (qs rs : Nat → Nat) (tk vl W : Nat → Int) (x1 : Int) (o : OX) (f : Int → (Nat → Int) → (Nat → Int) → Int → Int → Int → (Nat → Int) → Option (Int × Int × Int × Int × (Nat → Int))) : Prop :=
  ∀ (b s i p : Nat) (O : Nat → Int) (v : Int × Int × Int × Int × (Nat → Int)), b ≤ 8 → 1 ≤ i → i ≤ m → s ≤ i + 23 → p ≤ 50 → f (b : Int) tk vl (s : Int) (i : Int) (p : Int) O = some v →
  ∀ (c pd : Nat) (op ar pl pa : Nat → Int), c ≤ 400 → pd ≤ 400 → PLR pl pd → (pd = 0 ∨ 27 ≤ pl (pd - 1)) ∧ (INVb pl pd = 30 ∨ (INVb pl pd = -1 ∧ x1 = 1)) → EX T n W x1 qs rs o 0 i c p pd b op ar pl pa → QOut T n m qs rs tk vl W x1 o b s i c pd O op ar pl pa v
def PTest (T : Nat → Int) (n m : Nat) (qs rs : Nat → Nat) (tk vl W : Nat → Int) (x1 : Int) (o : OX) (f : Int → (Nat → Int) → (Nat → Int) → Int → Int → Int → (Nat → Int) → Option (Int × Int × Int × Int × (Nat → Int))) : Prop :=
  ∀ (b s i p : Nat) (O : Nat → Int) (v : Int × Int × Int × Int × (Nat → Int)), b ≤ 8 → 1 ≤ i → i ≤ m → s ≤ i + 23 → p ≤ 50 → f (b : Int) tk vl (s : Int) (i : Int) (p : Int) O = some v →
  ∀ (c pd : Nat) (op ar pl pa : Nat → Int), c ≤ 400 → pd ≤ 400 → PLR pl pd → (pd = 0 ∧ x1 = 1) ∨ (1 ≤ pd ∧ pl (pd - 1) = 30) → EX T n W x1 qs rs o 0 i c p pd b op ar pl pa → TOut T n m qs rs tk vl W x1 o b s i c pd O op ar pl pa v
theorem p_148 {fT fQ : Int → (Nat → Int) → (Nat → Int) → Int → Int → Int → (Nat → Int) → Option (Int × Int × Int × Int × (Nat → Int))} {tk vl O : Nat → Int} {t : Int} {s : Nat} {i p : Int} {v : Int × Int × Int × Int × (Nat → Int)} (hs : s < 424) (ht : t = 0 ∨ t = 1) (h : f_LawReader_readPlain_148 fT fQ tk vl t (s : Int) i p O = some v) : (t = 0 ∧ v = (1, (s : Int), i, p, O)) ∨ (t = 1 ∧ v = (1, ((s + 1 : Nat) : Int), i, p, zu O s (16 * 0 + 10))) := by
  unfold f_LawReader_readPlain_148 at h
  rcases ht with z | z <;> subst z
  · replace h := xp_t (by decide +kernel) h
    cases h
    exact Or.inl ⟨rfl, rfl⟩
  · replace h := xp_f (by decide +kernel) h
    obtain ⟨u1, u2, u3, e, h⟩ := xz_d3 h
    have g := p_order hs (by decide) (by decide) e
    cases g
    cases h
    exact Or.inr ⟨rfl, rfl⟩
theorem q_end {T : Nat → Int} {n m : Nat} {qs rs : Nat → Nat} {tk vl W : Nat → Int} {x1 : Int} {o : OX} (hL : LEX T n m qs rs tk vl) (hW : ∀ k : Nat, k < 8 → W k = zcd k) (hx : x1 = 0 ∨ x1 = 1) {fT fQ : Int → (Nat → Int) → (Nat → Int) → Int → Int → Int → (Nat → Int) → Option (Int × Int × Int × Int × (Nat → Int))} {b s0 i0 c0 pd : Nat} {O0 op0 ar0 pl0 pa0 : Nat → Int} {v : Int × Int × Int × Int × (Nat → Int)} (hb : b ≤ 8) (hs0 : s0 ≤ i0 + 23) (hi0 : 1 ≤ i0) (hP0 : PLR pl0 pd) (hpd : pd ≤ 400) {k : Nat} {t : Int} {s i p c pd' : Nat} {O op ar pl pa : Nat → Int} {β : BNu} (ht : t = ((k % 2 : Nat) : Int))
    (hn : i0 < i ∧ i ≤ m ∧ p ≤ 50 ∧ s + (k % 2) + i0 ≤ s0 + i ∧ c ≤ 400 ∧ pd + k ≤ pd' ∧ pd' ≤ 400) (hC : CSg O0 O s0 s (20 - 2 * b) (BL β)) (ha : AGR pl0 pl pd) (hA : AGR pa0 pa pd) (hk : ∀ j, j < k → pl (pd + j) = 27) (hP : PLR pl pd') (hI : INVb pl pd' = INVb pl0 pd)
    (hS : ∀ (least : Int) r, 0 ≤ least ∧ least ≤ 2 → ST least pl pa c pd' op ar r → ∃ (c2 : Nat) (op2 ar2 : Nat → Int), c2 ≤ 400 ∧ RSg op0 ar0 op2 ar2 c0 c2 (20 - 2 * b) (BL β) ∧ ST least pl pa c2 (pd + k) op2 ar2 r)
    (hE : EX T n W x1 qs rs o 2 i c p pd' b op ar pl pa) (h : f_LawReader_readPlain_148 fT fQ tk vl t (s : Int) (i : Int) (p : Int) O = some v) : QOut T n m qs rs tk vl W x1 o b s0 i0 c0 pd O0 op0 ar0 pl0 pa0 v := by
  have hnm := hL.2.1
  have hm := hL.2.2.1
  have fin : ∀ (least : Int) r, 0 ≤ least ∧ least ≤ 2 → ST least pl pa c pd' op ar r → ∃ (c2 : Nat) (op2 ar2 : Nat → Int), c2 ≤ 400 ∧ RSg op0 ar0 op2 ar2 c0 c2 (20 - 2 * b) (BL (NTK k β)) ∧ ST least pl pa c2 pd op2 ar2 r := fun least r hl hr => by
    obtain ⟨c2, op2, ar2, w1, w2, w3⟩ := hS least r hl hr
    exact ST_nots (by omega) (by omega) k c2 op2 ar2 β hk w2 w1 (by omega) w3
  rw [NTK_is] at fin
  rcases p_148 (by omega) (by omega) h with ⟨z, e⟩ | ⟨z, e⟩
  · rw [if_neg (by omega)] at fin
    exact Or.inr ⟨s, i, p, c, pd', O, op, ar, pl, pa, β, e, ⟨by omega, by omega, by omega, by omega, by omega, by omega, by omega⟩, hC, ha, hA, hP, hI, fin, hE⟩
  · rw [if_pos (by omega)] at fin
    exact Or.inr ⟨s + 1, i, p, c, pd', _, op, ar, pl, pa, NOTB β, e, ⟨by omega, by omega, by omega, by omega, by omega, by omega, by omega⟩, CS_not hC (by omega), ha, hA, hP, hI, fin, hE⟩
theorem CMV_top {pl : Nat → Int} {pd : Nat} (h : pd = 0 ∨ 27 ≤ pl (pd - 1)) : CMV pl pd = 0 := by
  cases pd with
  | zero => rfl
  | succ k =>
    have h1 : 27 ≤ pl k := by
      rcases h with h | h
      · omega
      · exact h
    show (if 20 ≤ pl k ∧ pl k ≤ 23 then CMV pl k else if 24 ≤ pl k ∧ pl k ≤ 26 then 1 else 0) = 0
    rw [if_neg (by omega), if_neg (by omega)]
theorem INV_1 {pl : Nat → Int} {pd : Nat} (h : pl pd < 30) : INVb pl (pd + 1) = INVb pl pd := by
  show (if 30 ≤ pl pd then pl pd else INVb pl pd) = INVb pl pd
  rw [if_neg (by omega)]
theorem INV_nots {pl : Nat → Int} {pd : Nat} : ∀ k, (∀ j, j < k → pl (pd + j) = 27) → INVb pl (pd + k) = INVb pl pd := by
  intro k
  induction k with
  | zero => intro _; rfl
  | succ k ih =>
    intro h
    have e := h k (by omega)
    exact (INV_1 (pd := pd + k) (by omega)).trans (ih (fun j hj => h j (by omega)))
theorem p_cmp {x w : Int} (hx : 0 ≤ x ∧ x ≤ 300) (h : f_LawReader_comparisonOf x = some w) : (∃ q, TKC x q ∧ w = q - 17) ∨ ((∀ q, ¬ TKC x q) ∧ w = -1) := by
  unfold f_LawReader_comparisonOf at h
  rw [zwi (x := x) (by omega)] at h
  by_cases c1 : x = 60
  · rw [if_pos c1] at h; cases h; exact Or.inl ⟨24, Or.inl ⟨c1, rfl⟩, rfl⟩
  · rw [if_neg c1] at h
    by_cases c2 : x = 61
    · rw [if_pos c2] at h; cases h; exact Or.inl ⟨26, Or.inr (Or.inr ⟨c2, rfl⟩), rfl⟩
    · rw [if_neg c2] at h
      by_cases c3 : x = 62
      · rw [if_pos c3] at h; cases h; exact Or.inl ⟨25, Or.inr (Or.inl ⟨c3, rfl⟩), rfl⟩
      · rw [if_neg c3] at h; cases h
        exact Or.inr ⟨fun q z => by unfold TKC at z; omega, rfl⟩
theorem q_37 {T : Nat → Int} {n m : Nat} {qs rs : Nat → Nat} {tk vl W : Nat → Int} {x1 : Int} {o : OX} (hL : LEX T n m qs rs tk vl) (hW : ∀ k : Nat, k < 8 → W k = zcd k) (hx : x1 = 0 ∨ x1 = 1) {fT fQ : Int → (Nat → Int) → (Nat → Int) → Int → Int → Int → (Nat → Int) → Option (Int × Int × Int × Int × (Nat → Int))} (hT : PTest T n m qs rs tk vl W x1 o fT) {b s0 i0 c0 pd : Nat} {O0 op0 ar0 pl0 pa0 : Nat → Int} {v : Int × Int × Int × Int × (Nat → Int)} (hb : b ≤ 8) (hs0 : s0 ≤ i0 + 23) (hi0 : 1 ≤ i0) (hP0 : PLR pl0 pd) (hpd : pd ≤ 400) (hI0 : INVb pl0 pd = 30 ∨ (INVb pl0 pd = -1 ∧ x1 = 1)) {k : Nat} {t : Int} {i p : Nat} {pl pa : Nat → Int} (hcx : pd + k = 0 ∨ 27 ≤ pl (pd + k - 1)) (ht : t = ((k % 2 : Nat) : Int)) (hc : c0 ≤ 400)
    (hn : i0 + k ≤ i ∧ i ≤ m ∧ p ≤ 50 ∧ pd + k ≤ 400) (ha : AGR pl0 pl pd) (hA : AGR pa0 pa pd) (hk : ∀ j, j < k → pl (pd + j) = 27) (hP : PLR pl (pd + k)) (hno : tk i ≠ 265)
    (hE : EX T n W x1 qs rs o 0 i c0 p (pd + k) b op0 ar0 pl pa) (h : f_LawReader_readPlain_37 fT fQ tk vl (b : Int) t (s0 : Int) (i : Int) (p : Int) O0 = some v) : QOut T n m qs rs tk vl W x1 o b s0 i0 c0 pd O0 op0 ar0 pl0 pa0 v := by
  have hnm := hL.2.1
  have hm := hL.2.2.1
  have hr := (tk_r (hL.2.2.2.2.1 i hn.2.1)).1
  have e := e_plain hL hW hn.2.1 (by omega) hn.2.2.1 hn.2.2.2 hb hE
  have I1 : INVb pl (pd + k) = INVb pl0 pd := (INV_nots k hk).trans (INV_agr pd ha)
  unfold f_LawReader_readPlain_37 at h
  replace h := p_tok hL hn.2.1 h
  rw [zwi (x := tk i) (by omega), zwi (x := 40) (by decide)] at h
  by_cases c40 : tk i = 40
  · rw [if_neg (fun z => z c40), zwi (x := 8) (by decide), zwi (x := (b : Int)) (by omega)] at h
    rcases Nat.lt_or_ge b 8 with hb8 | hb8
    · rw [if_neg (by omega)] at h
      obtain ⟨v20, v21, e3, h⟩ := xz_d2 h
      rcases p_pass hL hn.2.1 (by decide) (by decide) e3 with ⟨_, him, q2⟩ | ⟨q1, _⟩
      · cases q2
        replace h := xp_n (xp_f (by decide +kernel) h)
        obtain ⟨v6, v7, v8, v9, a10, e4, h⟩ := xz_d5 h
        have E1 : pd + k < 400 ∧ EX T n W x1 qs rs o 0 (i + 1) c0 p (pd + k + 1) (b + 1) op0 ar0 (zu pl (pd + k) 30) (zu pa (pd + k) 0) := by
          rcases e with e | e | e | e
          · omega
          · exact e.2.2.2
          · omega
          · omega
        rcases hT (b + 1) s0 (i + 1) p O0 _ (by omega) (by omega) (by omega) (by omega) hn.2.2.1 e4 c0 (pd + k + 1) op0 ar0 (zu pl (pd + k) 30) (zu pa (pd + k) 0) hc (by omega) (PLR_u hP (by decide)) (Or.inr ⟨by omega, by rw [show pd + k + 1 - 1 = pd + k from by omega, zu_eq]⟩) E1.2 with ⟨g1, i', g2, g3, g4⟩ | ⟨s', i', p', c', pd', O', op', ar', pl', pa', β, gv, gn, gC, ga, gb, gP, gI, gS, gt, gE⟩
        · replace g1 : v6 = 0 := g1
          replace g3 : v8 = (i' : Int) := g3
          subst g1
          replace h := xp_t (by decide +kernel) h
          cases h
          exact Or.inl ⟨rfl, i', g2, g3, g4⟩
        · cases gv
          replace h := xp_f (by decide +kernel) h
          obtain ⟨v28, v29, e5, h⟩ := xz_d2 h
          have etop : pl' (pd + k) = 30 := by rw [ga (pd + k) (by omega), zu_eq]
          have I2 : INVb pl' pd' = 30 := by
            rw [gI]
            show (if 30 ≤ zu pl (pd + k) 30 (pd + k) then zu pl (pd + k) 30 (pd + k) else INVb (zu pl (pd + k) 30) (pd + k)) = 30
            rw [zu_eq, if_pos (by decide)]
          rcases e_test hL gn.2.1 (by omega) gn.2.2.1 gn.2.2.2.2.2.2 (by omega) gP gE with z | z | ⟨_, z | ⟨_, z1, z2⟩ | ⟨_, z1, him2, r, z2, z3⟩⟩
          · omega
          · omega
          · omega
          · rcases p_pass hL gn.2.1 (by decide) (by decide) e5 with ⟨y, _⟩ | ⟨_, y⟩
            · exact absurd y z1
            · cases y
              replace h := xp_f (by decide +kernel) h
              cases h
              exact Or.inl ⟨rfl, i', gn.2.1, rfl, z2⟩
          · rcases p_pass hL gn.2.1 (by decide) (by decide) e5 with ⟨_, _, y⟩ | ⟨y, _⟩
            · cases y
              replace h := xp_t (by decide +kernel) h
              obtain ⟨c2, op2, ar2, w1, w2, w3⟩ := gS 1 r (by decide) z2
              have P2 : PLR pl' (pd + k + 1) := fun j hj => gP j (by omega)
              have w5 := ST_stop (by omega) (by decide) P2 (Or.inr (by rw [show pd + k + 1 - 1 = pd + k from by omega, etop]; decide)) w3
              have w6 := z3 c2 (pd + k) b op2 ar2 w5 rfl
              have ga2 : AGR pl pl' (pd + k) := fun j hj => by rw [ga j (by omega), zu_ne _ _ (by omega)]
              have gb2 : AGR pa pa' (pd + k) := fun j hj => by rw [gb j (by omega), zu_ne _ _ (by omega)]
              refine q_end hL hW hx hb hs0 hi0 hP0 hpd (k := k) (c := c2) (op := op2) (ar := ar2) (pd' := pd + k) ht ⟨by omega, by omega, by omega, by omega, by omega, by omega, by omega⟩ (CS_d gC (by omega)) (AGR_t ha (AGR_w ga2 (by omega : pd ≤ pd + k)) (Nat.le_refl _)) (AGR_t hA (AGR_w gb2 (by omega : pd ≤ pd + k)) (Nat.le_refl _)) (fun j hj => by rw [ga2 _ (by omega)]; exact hk j hj) (PLR_agr hP ga2) ((INV_agr _ ga2).trans I1) (fun least r hl hr => ⟨c2, op2, ar2, w1, RS_d w2 (by omega), hr⟩) w6 h
            · exact absurd z1 y
      · exact absurd c40 q1
    · rw [if_pos (by omega)] at h
      cases h
      rcases e with e | e | ⟨_, _, e⟩ | e
      · omega
      · omega
      · exact Or.inl ⟨rfl, i, hn.2.1, rfl, e⟩
      · omega
  · rw [if_pos c40] at h
    have E1 : EX T n W x1 qs rs o 1 i c0 p (pd + k) b op0 ar0 pl pa := by
      rcases e with e | e | e | e
      · omega
      · omega
      · omega
      · exact e.2
    obtain ⟨v2, v3, v4, v5, a6, e4, h⟩ := xz_d5 h
    rcases S_sum hL hW hx b s0 i p O0 _ hb (by omega) hn.2.1 (by omega) hn.2.2.1 e4 c0 (pd + k) op0 ar0 pl pa hc hn.2.2.2 hP (by rcases hcx with z | z; exact Or.inl z; exact Or.inr (by omega)) E1 with ⟨g1, i', g2, g3, g4⟩ | ⟨s1, i1, p1, c1, O1, op1, ar1, pl1, pa1, ν1, l1, gv, gn, gA, gP, gL, gC, gR, ga, gb, gN, gE⟩
    · replace g1 : v2 = 0 := g1
      replace g3 : v4 = (i' : Int) := g3
      subst g1
      replace h := xp_f (by decide +kernel) h
      cases h
      exact Or.inl ⟨rfl, i', g2, g3, g4⟩
    · cases gv
      replace h := xp_t (by decide +kernel) h
      replace h := p_tok hL gn.2.1 h
      obtain ⟨v8, e5, h⟩ := xz_d1 h
      have hr1 := (tk_r (hL.2.2.2.2.1 i1 gn.2.1)).1
      have P1 : PLR pl1 (pd + k) := PLR_agr hP ga
      have J1 : INVb pl1 (pd + k + l1.length) = INVb pl0 pd := (INV_pend l1 gA gP).trans ((INV_agr _ ga).trans I1)
      have M1 : CMV pl1 (pd + k + l1.length) = 0 := (CMV_pend l1 gA gP).trans ((CMV_agr _ ga).trans (CMV_top hcx))
      rcases e_sum hL gn.2.1 (by omega) gn.2.2.1 gn.2.2.2.2.2.2 hb hx (PLR_pend P1 l1 gA gP) gE with ⟨q, r, q1, _⟩ | ⟨_, z | z | z | z | ⟨_, _, _, z1, z2⟩ | ⟨_, _, _, q, r, z1, him1, z2, z3⟩⟩
      · exfalso; unfold TKO at q1; unfold NOP at gN; omega
      · omega
      · omega
      · omega
      · omega
      · rcases p_cmp (by omega) e5 with ⟨q, y, _⟩ | ⟨_, y⟩
        · exact absurd y (z1 q)
        · subst y
          replace h := xp_t (by decide +kernel) h
          cases h
          exact Or.inl ⟨rfl, i1, gn.2.1, rfl, z2⟩
      · rcases p_cmp (by omega) e5 with ⟨q', y, ey⟩ | ⟨y, _⟩
        · have eq : q' = q := by unfold TKC at y z1; omega
          subst eq
          have hq : 24 ≤ q' ∧ q' < 27 := by unfold TKC at y; omega
          subst ey
          rw [zwi (x := q' - 17) (by omega), zwi (x := -1) (by decide), if_neg (by omega)] at h
          replace h := p_tok hL gn.2.1 h
          obtain ⟨v10, v11, e6, h⟩ := xz_d2 h
          rcases p_pass hL gn.2.1 (by omega) (by unfold TKC at y; omega) e6 with ⟨_, _, y2⟩ | ⟨y2, _⟩
          · cases y2
            replace h := xp_f (by decide +kernel) h
            obtain ⟨v12, v13, v14, v15, a16, e7, h⟩ := xz_d5 h
            obtain ⟨c2, op2, ar2, w1, w2, w3, w4⟩ := ST_arith (by decide) l1 c1 op1 ar1 ν1 gA gP gR gL (by omega) (by omega) (by omega) z2
            have hst : pd + k = 0 ∨ BDS (pl1 (pd + k - 1)) < 5 := by
              rcases hcx with z | z
              · exact Or.inl z
              · rcases Nat.eq_zero_or_pos (pd + k) with z5 | z5
                · exact Or.inl z5
                · right
                  rw [ga _ (by omega)]
                  have := BDS_hi (x := pl (pd + k - 1)) (by omega)
                  omega
            have w5 := ST_stop (by omega) (by decide) P1 hst w4
            obtain ⟨w6, w7⟩ := z3 c2 (pd + k) op2 ar2 w5 (by omega)
            have PQ : PLR (zu pl1 (pd + k) q') (pd + k + 1) := PLR_u P1 (by omega)
            rcases S_sum hL hW hx b s1 (i1 + 1) p1 _ _ hb (by omega) (by omega) (by omega) gn.2.2.1 e7 c2 (pd + k + 1) op2 ar2 _ _ w1 (by omega) PQ (Or.inr (by rw [show pd + k + 1 - 1 = pd + k from by omega, zu_eq]; omega)) w7 with ⟨g1, i', g2, g3, g4⟩ | ⟨s3, i3, p3, c3, O3, op3, ar3, pl3, pa3, ν3, l3, hv, hn3, hA3, hP3, hL3, hC3, hR3, ha3, hb3, hN3, hE3⟩
            · replace g1 : v12 = 0 := g1
              replace g3 : v14 = (i' : Int) := g3
              subst g1
              replace h := xp_f (by decide +kernel) h
              cases h
              exact Or.inl ⟨rfl, i', g2, g3, g4⟩
            · cases hv
              replace h := xp_t (by decide +kernel) h
              obtain ⟨v17, v18, a19, e8, h⟩ := xz_d3 h
              have g1 := p_order (by omega) (by omega) (by decide) e8
              cases g1
              have e3q : pl3 (pd + k) = q' := by rw [ha3 _ (by omega), zu_eq]
              have a13 : AGR pl1 pl3 (pd + k) := fun j hj => by rw [ha3 j (by omega), zu_ne _ _ (by omega)]
              have b13 : AGR pa1 pa3 (pd + k) := fun j hj => by rw [hb3 j (by omega), zu_ne _ _ (by omega)]
              have a03 : AGR pl pl3 (pd + k) := AGR_t ga a13 (Nat.le_refl _)
              have b03 : AGR pa pa3 (pd + k) := AGR_t gb b13 (Nat.le_refl _)
              have P3 : PLR pl3 (pd + k + 1) := PLR_agr PQ ha3
              have J2 : INVb pl3 (pd + k + 1 + l3.length) = INVb pl0 pd := (INV_pend l3 hA3 hP3).trans ((INV_1 (pd := pd + k) (by omega)).trans ((INV_agr _ a03).trans I1))
              have M2 : CMV pl3 (pd + k + 1 + l3.length) = 1 := by
                rw [CMV_pend l3 hA3 hP3]
                show (if 20 ≤ pl3 (pd + k) ∧ pl3 (pd + k) ≤ 23 then CMV pl3 (pd + k) else if 24 ≤ pl3 (pd + k) ∧ pl3 (pd + k) ≤ 26 then 1 else 0) = 1
                rw [e3q, if_neg (by omega), if_pos (by omega)]
              have PP3 := PLR_pend P3 l3 hA3 hP3
              have hCC := CS_app (d := 20 - 2 * b) gC hC3 w3 (by omega) (by omega)
              rcases e_sum hL hn3.2.1 (by omega) hn3.2.2.1 hn3.2.2.2.2.2.2 hb hx PP3 hE3 with ⟨q, r, q1, _⟩ | ⟨_, z | z | z | ⟨_, _, _, z⟩ | z | z⟩
              · exfalso; unfold TKO at q1; unfold NOP at hN3; omega
              · omega
              · omega
              · omega
              · have hdd : 2 ≤ 20 - 2 * b := by omega
                have L3 : LEN (VL l3 ν3) 1 := VL_len l3 ν3 hL3
                have LL : LEN (vapp (VL l1 ν1) (VL l3 ν3)) 2 := LEN_app w3 L3
                have hCe : 16 * 0 + (q' - 17) = 16 * 0 + (q' - 17) := rfl
                have hC4 := CS_op (k := 0) (o := q' - 17) hCC (by omega) LL (by omega)
                rw [show q' - 17 + 17 = q' from by omega] at hC4
                have hC5 := CS_c (BOF_is hq LL) hC4
                refine q_end hL hW hx hb hs0 hi0 hP0 hpd (k := k) ht ⟨by omega, hn3.2.1, hn3.2.2.1, by omega, hn3.2.2.2.2.1, by omega, hn3.2.2.2.2.2.2⟩ hC5 (AGR_t ha (AGR_w a03 (by omega : pd ≤ pd + k)) (Nat.le_refl _)) (AGR_t hA (AGR_w b03 (by omega : pd ≤ pd + k)) (Nat.le_refl _)) (fun j hj => by rw [a03 _ (by omega)]; exact hk j hj) PP3 J2 (fun least r hl hr => ?_) z h
                obtain ⟨c4, op4, ar4, y1, y2, y3, y4⟩ := ST_arith (by omega) l3 c3 op3 ar3 ν3 hA3 hP3 hR3 hL3 (by omega) hn3.2.2.2.2.1 hn3.2.2.2.2.2.2 hr
                have bq : BDS q' = 4 := by
                  have : q' = 24 ∨ q' = 25 ∨ q' = 26 := by omega
                  rcases this with z | z | z <;> rw [z] <;> decide
                have y5 := ST_op (k := pd + k) (by omega) (by rw [e3q, bq]; omega) (by rw [e3q]; omega) (by omega) y4
                rw [e3q] at y5
                have hRR := RS_app (d := 20 - 2 * b) w2 y2 w3 (by omega) (by omega)
                exact ⟨c4 + 1, _, _, by omega, RS_c (BOF_is hq LL) (RS_op (k := 0) hRR (by omega) LL (by omega)), y5.2⟩
              · omega
              · omega
          · exact absurd rfl y2
        · exact absurd z1 (y q)
