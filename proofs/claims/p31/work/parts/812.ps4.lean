theorem r_and {T : Nat → Int} {n m : Nat} {qs rs : Nat → Nat} {tk vl W : Nat → Int} {x1 : Int} {o : OX} (hL : LEX T n m qs rs tk vl) {i c p pd b : Nat} {op ar pl pa : Nat → Int} {t a1 a2 a3 a4 a5 a6 a7 a9 a10 : Int} {f1 f2 f3 f4 : Nat → Int} (hi : i ≤ m) (hc : c ≤ 1000) (hp : p ≤ 50) (hpd : pd ≤ 400) (hb : b ≤ 8) (him : i < m) (h : f_HM_behindTest_22 (n : Int) T 1 (qs i : Int) (rs i : Int) (SO T n (qs i)) (WO T n (qs i) (rs i)) (-1) 0 (c : Int) (pd : Int) (b : Int) op ar pl pa = some (t, a1, a2, a3, a4, a5, a6, a7, a9, a10, f1, f2, f3, f4)) (g : ∃ N, f_HM_readExpression_20 (n : Int) T W N x1 t a1 a2 a3 a4 a5 a6 a7 (p : Int) a9 a10 f1 f2 f3 f4 = some o) : ∃ r, ST 2 pl pa c pd op ar r ∧ ∀ (c' pd' : Nat) (op' ar' : Nat → Int), r = ((c' : Int), (pd' : Int), op', ar') → c' ≤ 1000 → pd' ≤ 1000 → c' < 400 ∧ pd' < 400 ∧ EX T n W x1 qs rs o 0 (i + 1) (c' + 1) p (pd' + 1) b (zu op' c' 28) (zu ar' c' 0) (zu pl pd' 28) (zu pa pd' (c' : Int)) := by
  sorry
theorem r_or {T : Nat → Int} {n m : Nat} {qs rs : Nat → Nat} {tk vl W : Nat → Int} {x1 : Int} {o : OX} (hL : LEX T n m qs rs tk vl) {i c p pd b : Nat} {op ar pl pa : Nat → Int} {t a1 a2 a3 a4 a5 a6 a7 a9 a10 : Int} {f1 f2 f3 f4 : Nat → Int} (hi : i ≤ m) (hc : c ≤ 1000) (hp : p ≤ 50) (hpd : pd ≤ 400) (hb : b ≤ 8) (him : i < m) (h : f_HM_behindTest_22 (n : Int) T 0 (qs i : Int) (rs i : Int) (SO T n (qs i)) (WO T n (qs i) (rs i)) (-1) 0 (c : Int) (pd : Int) (b : Int) op ar pl pa = some (t, a1, a2, a3, a4, a5, a6, a7, a9, a10, f1, f2, f3, f4)) (g : ∃ N, f_HM_readExpression_20 (n : Int) T W N x1 t a1 a2 a3 a4 a5 a6 a7 (p : Int) a9 a10 f1 f2 f3 f4 = some o) : ∃ r, ST 1 pl pa c pd op ar r ∧ ∀ (c' pd' : Nat) (op' ar' : Nat → Int), r = ((c' : Int), (pd' : Int), op', ar') → c' ≤ 1000 → pd' ≤ 1000 → c' < 400 ∧ pd' < 400 ∧ EX T n W x1 qs rs o 0 (i + 1) (c' + 1) p (pd' + 1) b (zu op' c' 29) (zu ar' c' 0) (zu pl pd' 29) (zu pa pd' (c' : Int)) := by
  sorry
theorem e_test {T : Nat → Int} {n m : Nat} {qs rs : Nat → Nat} {tk vl W : Nat → Int} {x1 : Int} {o : OX} (hL : LEX T n m qs rs tk vl) {i c p pd b : Nat} {op ar pl pa : Nat → Int} (hi : i ≤ m) (hc : c ≤ 1000) (hp : p ≤ 50) (hpd : pd ≤ 400) (hb : b ≤ 8) (hP : PLR pl pd) (h : EX T n W x1 qs rs o 2 i c p pd b op ar pl pa) :
    (tk i = 264 ∧ i < m ∧ ∃ r, ST 2 pl pa c pd op ar r ∧ ∀ (c' pd' : Nat) (op' ar' : Nat → Int), r = ((c' : Int), (pd' : Int), op', ar') → c' ≤ 1000 → pd' ≤ 1000 → c' < 400 ∧ pd' < 400 ∧ EX T n W x1 qs rs o 0 (i + 1) (c' + 1) p (pd' + 1) b (zu op' c' 28) (zu ar' c' 0) (zu pl pd' 28) (zu pa pd' (c' : Int))) ∨
    (tk i = 263 ∧ i < m ∧ ∃ r, ST 1 pl pa c pd op ar r ∧ ∀ (c' pd' : Nat) (op' ar' : Nat → Int), r = ((c' : Int), (pd' : Int), op', ar') → c' ≤ 1000 → pd' ≤ 1000 → c' < 400 ∧ pd' < 400 ∧ EX T n W x1 qs rs o 0 (i + 1) (c' + 1) p (pd' + 1) b (zu op' c' 29) (zu ar' c' 0) (zu pl pd' 29) (zu pa pd' (c' : Int))) ∨
    ((tk i ≠ 264 ∧ tk i ≠ 263) ∧ ((INVb pl pd = -1 ∧ EX T n W x1 qs rs o 4 i c p pd b op ar pl pa) ∨ (INVb pl pd ≠ -1 ∧ tk i ≠ 41 ∧ FL qs o i) ∨
      (INVb pl pd ≠ -1 ∧ tk i = 41 ∧ i < m ∧ ∃ r, ST 1 pl pa c pd op ar r ∧ ∀ (c' pd' b' : Nat) (op' ar' : Nat → Int), r = ((c' : Int), ((pd' + 1 : Nat) : Int), op', ar') → b = b' + 1 → EX T n W x1 qs rs o 2 (i + 1) c' p pd' b' op' ar' pl pa))) := by
  sorry
theorem e_over {T : Nat → Int} {n : Nat} {qs rs : Nat → Nat} {W : Nat → Int} {x1 : Int} {o : OX} {i c p pd b : Nat} {op ar pl pa : Nat → Int} (h : EX T n W x1 qs rs o 4 i c p pd b op ar pl pa) : ∃ (r1 r2 : Int) (r3 r4 : Nat → Int), ST 1 pl pa c pd op ar (r1, r2, r3, r4) ∧ o = ((qs i : Int), (rs i : Int), SO T n (qs i), WO T n (qs i) (rs i), -1, 0, r1, (p : Int), r2, (b : Int), r3, r4, pl, pa) := by
  sorry
/-! the pile above a context -/
theorem PIL_agr {pl pl' : Nat → Int} {pd : Nat} : ∀ l : List Int, AGR pl pl' (pd + l.length) → PIL pl pd l → PIL pl' pd l := by
  sorry
theorem INV_pend {pl : Nat → Int} {pd : Nat} : ∀ l : List Int, AR4 l → PIL pl pd l → INVb pl (pd + l.length) = INVb pl pd := by
  sorry
theorem CMV_pend {pl : Nat → Int} {pd : Nat} : ∀ l : List Int, AR4 l → PIL pl pd l → CMV pl (pd + l.length) = CMV pl pd := by
  sorry
theorem PLR_pend {pl : Nat → Int} {pd : Nat} (hP : PLR pl pd) : ∀ l : List Int, AR4 l → PIL pl pd l → PLR pl (pd + l.length) := by
  sorry
theorem PLR_agr {pl pl' : Nat → Int} {pd : Nat} (h : PLR pl pd) (g : AGR pl pl' pd) : PLR pl' pd := fun k hk => by rw [g k hk]; exact h k hk
theorem PLR_u {pl : Nat → Int} {pd : Nat} {x : Int} (h : PLR pl pd) (hx : 20 ≤ x ∧ x ≤ 31) : PLR (zu pl pd x) (pd + 1) := fun k hk => by
  rcases Nat.lt_or_ge k pd with q | q
  · rw [zu_ne _ _ (by omega)]; exact h k q
  · rw [show k = pd from by omega, zu_eq]; exact hx
theorem AGR_w {f g : Nat → Int} {k l : Nat} (h : AGR f g l) (hk : k ≤ l) : AGR f g k := fun j hj => h j (by omega)
def PPart (T : Nat → Int) (n m : Nat) (qs rs : Nat → Nat) (tk vl W : Nat → Int) (x1 : Int) (o : OX) (f : Int → (Nat → Int) → (Nat → Int) → Int → Int → Int → (Nat → Int) → Option (Int × Int × Int × Int × (Nat → Int))) : Prop :=
  ∀ (b s i p : Nat) (O : Nat → Int) (v : Int × Int × Int × Int × (Nat → Int)), b ≤ 8 → 1 ≤ i → i ≤ m → s ≤ i + 23 → p ≤ 50 → f (b : Int) tk vl (s : Int) (i : Int) (p : Int) O = some v →
  ∀ (c pd : Nat) (op ar pl pa : Nat → Int), c ≤ 400 → pd ≤ 400 → PLR pl pd → EX T n W x1 qs rs o 1 i c p pd b op ar pl pa →
    (v.1 = 0 ∧ ∃ i' : Nat, i' ≤ m ∧ v.2.2.1 = (i' : Int) ∧ FL qs o i') ∨
    ∃ (s' i' p' c' : Nat) (O' op' ar' pl' pa' : Nat → Int) (ν : LNu), v = (1, (s' : Int), (i' : Int), (p' : Int), O') ∧ (i < i' ∧ i' ≤ m ∧ p' ≤ 50 ∧ s' + i ≤ s + i' ∧ c' ≤ 400) ∧ LEN ν 1 ∧ CSg O O' s s' (17 - 2 * b) ν ∧ RSg op ar op' ar' c c' (17 - 2 * b) ν ∧ AGR pl pl' pd ∧ AGR pa pa' pd ∧ EX T n W x1 qs rs o 3 i' c' p' pd b op' ar' pl' pa'
def PSum (T : Nat → Int) (n m : Nat) (qs rs : Nat → Nat) (tk vl W : Nat → Int) (x1 : Int) (o : OX) (f : Int → (Nat → Int) → (Nat → Int) → Int → Int → Int → (Nat → Int) → Option (Int × Int × Int × Int × (Nat → Int))) : Prop :=
  ∀ (b s i p : Nat) (O : Nat → Int) (v : Int × Int × Int × Int × (Nat → Int)), b ≤ 8 → 1 ≤ i → i ≤ m → s ≤ i + 23 → p ≤ 50 → f (b : Int) tk vl (s : Int) (i : Int) (p : Int) O = some v →
  ∀ (c pd : Nat) (op ar pl pa : Nat → Int), c ≤ 400 → pd ≤ 400 → PLR pl pd → (pd = 0 ∨ 24 ≤ pl (pd - 1)) → EX T n W x1 qs rs o 1 i c p pd b op ar pl pa →
    (v.1 = 0 ∧ ∃ i' : Nat, i' ≤ m ∧ v.2.2.1 = (i' : Int) ∧ FL qs o i') ∨
    ∃ (s' i' p' c' : Nat) (O' op' ar' pl' pa' : Nat → Int) (ν : LNu) (l : List Int), v = (1, (s' : Int), (i' : Int), (p' : Int), O') ∧ (i < i' ∧ i' ≤ m ∧ p' ≤ 50 ∧ s' + i ≤ s + i' ∧ c' ≤ 400 ∧ l.length ≤ 2 ∧ pd + l.length ≤ 400) ∧ AR4 l ∧ PIL pl' pd l ∧ LEN ν (l.length + 1) ∧ CSg O O' s s' (19 - 2 * b) (VL l ν) ∧ RSg op ar op' ar' c c' (19 - 2 * b) ν ∧ AGR pl pl' pd ∧ AGR pa pa' pd ∧ NOP (tk i') ∧ EX T n W x1 qs rs o 3 i' c' p' (pd + l.length) b op' ar' pl' pa'
theorem BDS_hi {x : Int} (h : 24 ≤ x) : BDS x ≤ 4 := by
  sorry
theorem p_125 {T : Nat → Int} {n m : Nat} {qs rs : Nat → Nat} {tk vl : Nat → Int} (hL : LEX T n m qs rs tk vl) {i : Nat} (hi : i < m) {k : Int} {s p : Nat} {O : Nat → Int} {v : Int × Int × Int × Int × (Nat → Int)} {f1 f2 : Int → (Nat → Int) → (Nat → Int) → Int → Int → Int → (Nat → Int) → Option (Int × Int × Int × Int × (Nat → Int))} (hs : s < 424) (hk : 0 ≤ k ∧ k < 16) (hv : 0 ≤ vl i ∧ vl i ≤ 5000) (h7 : tk i ≠ 257) (h : f_LawReader_readPart_125 f1 f2 tk vl k (s : Int) (i : Int) (p : Int) O = some v) : v = (1, ((s + 1 : Nat) : Int), ((i + 1 : Nat) : Int), (p : Int), zu O s (16 * vl i + k)) := by
  sorry
theorem s_part {T : Nat → Int} {n m : Nat} {qs rs : Nat → Nat} {tk vl W : Nat → Int} {x1 : Int} {o : OX} (hL : LEX T n m qs rs tk vl) (hW : ∀ k : Nat, k < 8 → W k = zcd k) (hx : x1 = 0 ∨ x1 = 1) {fS fP : Int → (Nat → Int) → (Nat → Int) → Int → Int → Int → (Nat → Int) → Option (Int × Int × Int × Int × (Nat → Int))} (hS : PSum T n m qs rs tk vl W x1 o fS) : PPart T n m qs rs tk vl W x1 o (fb_LawReader_readPart fS fP) := by
  sorry
