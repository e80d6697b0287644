/-! the nots -/
theorem q_4 {T : Nat → Int} {n m : Nat} {qs rs : Nat → Nat} {tk vl W : Nat → Int} {x1 : Int} {o : OX} (hL : LEX T n m qs rs tk vl) (hW : ∀ k : Nat, k < 8 → W k = zcd k) (hx : x1 = 0 ∨ x1 = 1) {fT fQ : Int → (Nat → Int) → (Nat → Int) → Int → Int → Int → (Nat → Int) → Option (Int × Int × Int × Int × (Nat → Int))} (hT : PTest T n m qs rs tk vl W x1 o fT) {b s0 i0 c0 pd : Nat} {O0 op0 ar0 pl0 pa0 : Nat → Int} {v : Int × Int × Int × Int × (Nat → Int)} (hb : b ≤ 8) (hs0 : s0 ≤ i0 + 23) (hi0 : 1 ≤ i0) (hP0 : PLR pl0 pd) (hpd : pd ≤ 400) (hI0 : INVb pl0 pd = 30 ∨ (INVb pl0 pd = -1 ∧ x1 = 1)) (hc1 : pd = 0 ∨ 27 ≤ pl0 (pd - 1)) (hc : c0 ≤ 400) : ∀ (N k : Nat) (t : Int) (i p : Nat) (pl pa : Nat → Int), t = ((k % 2 : Nat) : Int) → (i = i0 + k ∧ i ≤ m ∧ p ≤ 50 ∧ pd + k ≤ 400) → AGR pl0 pl pd → AGR pa0 pa pd → (∀ j, j < k → pl (pd + j) = 27) → PLR pl (pd + k) → EX T n W x1 qs rs o 0 i c0 p (pd + k) b op0 ar0 pl pa → f_LawReader_readPlain_4 fT fQ tk vl N (b : Int) t (k : Int) (s0 : Int) (i : Int) (p : Int) O0 = some v → QOut T n m qs rs tk vl W x1 o b s0 i0 c0 pd O0 op0 ar0 pl0 pa0 v := by
  sorry
theorem s_plain {T : Nat → Int} {n m : Nat} {qs rs : Nat → Nat} {tk vl W : Nat → Int} {x1 : Int} {o : OX} (hL : LEX T n m qs rs tk vl) (hW : ∀ k : Nat, k < 8 → W k = zcd k) (hx : x1 = 0 ∨ x1 = 1) {fT fQ : Int → (Nat → Int) → (Nat → Int) → Int → Int → Int → (Nat → Int) → Option (Int × Int × Int × Int × (Nat → Int))} (hT : PTest T n m qs rs tk vl W x1 o fT) : PPlain T n m qs rs tk vl W x1 o (fb_LawReader_readPlain fT fQ) := by
  sorry
/-! the ands, the ors -/
def OI (a : Option Nat) : Int := match a with | none => -1 | some k => (k : Int)
def ON (a : Option Nat) : Nat := match a with | none => 0 | some _ => 1
def PAT (O : Nat → Int) (a : Option Nat) (s : Nat) : Nat → Int := match a with | none => O | some k => zu O k (16 * (s : Int) + O k % 16)
def PBT (ar : Nat → Int) (a : Option Nat) (c : Nat) : Nat → Int := match a with | none => ar | some k => zu ar k (c : Int)
theorem ON_1 (a : Option Nat) : ON a ≤ 1 := by cases a with
  | none => exact Nat.zero_le _
  | some k => exact Nat.le_refl _
theorem PAT_ne {O : Nat → Int} {a : Option Nat} {s j : Nat} (h : a ≠ some j) : PAT O a s j = O j := by
  sorry
theorem PAT_eq {O : Nat → Int} {a : Option Nat} {s j : Nat} (h : a = some j) : PAT O a s j = 16 * (s : Int) + O j % 16 := by subst h; exact zu_eq _ _ _
theorem PBT_ne {O : Nat → Int} {a : Option Nat} {s j : Nat} (h : a ≠ some j) : PBT O a s j = O j := by
  sorry
theorem PBT_eq {O : Nat → Int} {a : Option Nat} {s j : Nat} (h : a = some j) : PBT O a s j = (s : Int) := by subst h; exact zu_eq _ _ _
theorem p_aimO {a : Option Nat} {s : Nat} {O o : Nat → Int} (hs : s ≤ 424) (ha : ∀ k, a = some k → k < s ∧ 0 ≤ O k ∧ O k ≤ 100000) (h : f_LawReader_aimHere (OI a) (s : Int) O = some o) : o = PAT O a s := by
  sorry
theorem cop_m {v x : Int} (h : v % 16 = 11 ∨ v % 16 = 12) : cop (16 * x + v % 16) = cop v := by
  sorry
def PIJ (pl pa : Nat → Int) (pd : Nat) (ro ra : Option Nat) : Prop := (∀ k, ro = some k → pl pd = 29 ∧ pa pd = (k : Int)) ∧ (∀ k, ra = some k → pl (pd + ON ro) = 28 ∧ pa (pd + ON ro) = (k : Int))
theorem PIJ_agr {pl pa pl' pa' : Nat → Int} {pd : Nat} {ro ra : Option Nat} (h : PIJ pl pa pd ro ra) (g1 : AGR pl pl' (pd + ON ro + ON ra)) (g2 : AGR pa pa' (pd + ON ro + ON ra)) : PIJ pl' pa' pd ro ra := by
  sorry
theorem ST_two {pl pa : Nat → Int} {pd c : Nat} {op ar : Nat → Int} {ro ra : Option Nat} {r : Int × Int × (Nat → Int) × (Nat → Int)} (hJ : PIJ pl pa pd ro ra) (hP : PLR pl (pd + ON ro + ON ra)) (hpd : pd + ON ro + ON ra ≤ 400) (hcx : pd = 0 ∨ pl (pd - 1) = 30) (hra : ∀ k, ra = some k → k ≤ 1000) (h : ST 2 pl pa c (pd + ON ro + ON ra) op ar r) : r = ((c : Int), ((pd + ON ro : Nat) : Int), op, PBT ar ra c) := by
  sorry
theorem ST_one {pl pa : Nat → Int} {pd c : Nat} {op ar : Nat → Int} {ro ra : Option Nat} {r : Int × Int × (Nat → Int) × (Nat → Int)} (hJ : PIJ pl pa pd ro ra) (hpd : pd + ON ro + ON ra ≤ 400) (hra : ∀ k, ra = some k → k ≤ 1000) (hro : ∀ k, ro = some k → k ≤ 1000) (h : ST 1 pl pa c (pd + ON ro + ON ra) op ar r) : ST 1 pl pa c pd op (PBT (PBT ar ra c) ro c) r := by
  sorry
/-! conditions so far: both codes' halves -/
theorem G_and {op ar op1 ar1 op3 ar3 : Nat → Int} {s k m d : Nat} {a o : Option Nat} {ψ : (Nat → Int) → Option Nat} {β : BNu} (h : PRE op ar s k d a o ψ) (h1 : ∀ j, s ≤ j → j < k → op3 j = op j) (h2 : ∀ j, s ≤ j → j < k → a ≠ some j → o ≠ some j → ar3 j = ar j) (hb : RPush op1 ar1 k m d (BL β)) (h3 : ∀ j, k ≤ j → j < m → op3 j = op1 j ∧ ar3 j = ar1 j) (ho : op3 m = 28) (ha : ∀ i, a = some i → ar3 i = (m : Int)) (hao : ∀ i, a = some i → o ≠ some i) (hd : 1 ≤ d) : PRE op3 ar3 s (m + 1) d (some m) o (ψand ψ β) :=
  PRE_and (ar0 := ar) (d0 := d) (PRE_x h (Nat.le_refl _) (fun j j1 j2 => ⟨h1 j j1 j2, fun _ _ => rfl⟩)) (RPush_x hb (Nat.le_refl _) h3) (Nat.le_refl _) hd ho h2 ha hao
theorem G_or {op ar op1 ar1 op3 ar3 : Nat → Int} {s k m d : Nat} {a o : Option Nat} {ψ : (Nat → Int) → Option Nat} {β : BNu} (h : PRE op ar s k d a o ψ) (h1 : ∀ j, s ≤ j → j < k → op3 j = op j) (h2 : ∀ j, s ≤ j → j < k → a ≠ some j → o ≠ some j → ar3 j = ar j) (hb : RPush op1 ar1 k m d (BL β)) (h3 : ∀ j, k ≤ j → j < m → op3 j = op1 j ∧ ar3 j = ar1 j) (ho : op3 m = 29) (ha : ∀ i, a = some i → ar3 i = (m : Int)) (hoo : ∀ i, o = some i → ar3 i = (m : Int)) (hd : 1 ≤ d) : PRE op3 ar3 s (m + 1) d none (some m) (ψor ψ β) :=
  PRE_or (ar0 := ar) (d0 := d) (PRE_x h (Nat.le_refl _) (fun j j1 j2 => ⟨h1 j j1 j2, fun _ _ => rfl⟩)) (RPush_x hb (Nat.le_refl _) h3) (Nat.le_refl _) hd ho h2 ha hoo
theorem G_end {op ar op1 ar1 op3 ar3 : Nat → Int} {s k m d : Nat} {a o : Option Nat} {ψ : (Nat → Int) → Option Nat} {β : BNu} (h : PRE op ar s k d a o ψ) (h1 : ∀ j, s ≤ j → j < k → op3 j = op j) (h2 : ∀ j, s ≤ j → j < k → a ≠ some j → o ≠ some j → ar3 j = ar j) (hb : RPush op1 ar1 k m d (BL β)) (h3 : ∀ j, k ≤ j → j < m → op3 j = op1 j ∧ ar3 j = ar1 j) (ha : ∀ i, a = some i → ar3 i = (m : Int)) (hoo : ∀ i, o = some i → ar3 i = (m : Int)) (hd : 1 ≤ d) : RPush op3 ar3 s m d (BL (ψend ψ β)) :=
  PRE_end (ar0 := ar) (d0 := d) (PRE_x h (Nat.le_refl _) (fun j j1 j2 => ⟨h1 j j1 j2, fun _ _ => rfl⟩)) (RPush_x hb (Nat.le_refl _) h3) (Nat.le_refl _) hd h2 ha hoo
/-- a half: the code so far, its open jumps -/
def HC (O0 O : Nat → Int) (s0 s d : Nat) (a o : Option Nat) (ψ : (Nat → Int) → Option Nat) : Prop :=
  PRE (CO O) (CA O) s0 s d a o ψ ∧ CR O s0 s ∧ AGR O0 O s0 ∧ (∀ k, a = some k → O k % 16 = 11) ∧ (∀ k, o = some k → O k % 16 = 12)
def HRR (op0 ar0 op ar : Nat → Int) (c0 c d : Nat) (a o : Option Nat) (ψ : (Nat → Int) → Option Nat) : Prop :=
  PRE op ar c0 c d a o ψ ∧ RG op ar c0 c ∧ (AGR op0 op c0 ∧ AGR ar0 ar c0) ∧ (∀ k, a = some k → op k = 28) ∧ (∀ k, o = some k → op k = 29)
theorem HC_o {O0 O : Nat → Int} {s0 s d : Nat} {a o : Option Nat} {ψ : (Nat → Int) → Option Nat} (h : HC O0 O s0 s d a o ψ) : s0 ≤ s ∧ (∀ k, a = some k → (s0 ≤ k ∧ k < s) ∧ o ≠ some k) ∧ (∀ k, o = some k → (s0 ≤ k ∧ k < s) ∧ a ≠ some k) := by
  sorry
theorem HRR_o {op0 ar0 op ar : Nat → Int} {s0 s d : Nat} {a o : Option Nat} {ψ : (Nat → Int) → Option Nat} (h : HRR op0 ar0 op ar s0 s d a o ψ) : s0 ≤ s ∧ (∀ k, a = some k → (s0 ≤ k ∧ k < s) ∧ o ≠ some k) ∧ (∀ k, o = some k → (s0 ≤ k ∧ k < s) ∧ a ≠ some k) := by
  sorry
/-- the class's patched code: what it is at each place -/
theorem PAT_v {O0 O O1 : Nat → Int} {s0 s s1 d : Nat} {a o : Option Nat} {ψ : (Nat → Int) → Option Nat} (h : HC O0 O s0 s d a o ψ) (g : AGR O O1 s) (b2 : Option Nat) (hb : b2 = none ∨ b2 = o) :
    (∀ j, j < s → a ≠ some j → b2 ≠ some j → PAT (PAT O1 a s1) b2 s1 j = O j) ∧ (∀ j, s ≤ j → PAT (PAT O1 a s1) b2 s1 j = O1 j) ∧ (∀ j, a = some j → PAT (PAT O1 a s1) b2 s1 j = 16 * (s1 : Int) + O j % 16) ∧ (∀ j, b2 = some j → PAT (PAT O1 a s1) b2 s1 j = 16 * (s1 : Int) + O j % 16) := by
  sorry
theorem HC_all {O0 O O1 : Nat → Int} {s0 s s1 d : Nat} {a o : Option Nat} {ψ : (Nat → Int) → Option Nat} {β : BNu} (h : HC O0 O s0 s d a o ψ) (g : CSg O O1 s s1 d (BL β)) (b2 : Option Nat) (hb : b2 = none ∨ b2 = o) (hs1 : s1 ≤ 424) (P : Nat → Int) (hP : ∀ j, j < s1 → P j = PAT (PAT O1 a s1) b2 s1 j) :
    (∀ j, s0 ≤ j → j < s → CO P j = CO O j) ∧ (∀ j, s0 ≤ j → j < s → a ≠ some j → b2 ≠ some j → CA P j = CA O j) ∧ (∀ j, s ≤ j → j < s1 → CO P j = CO O1 j ∧ CA P j = CA O1 j) ∧ (∀ i, a = some i → CA P i = (s1 : Int)) ∧ (∀ i, b2 = some i → CA P i = (s1 : Int)) ∧ CR P s0 s1 ∧ AGR O0 P s0 ∧ (∀ k, o = some k → P k % 16 = 12) := by
  sorry
theorem HC_and {O0 O O1 : Nat → Int} {s0 s s1 d : Nat} {a o : Option Nat} {ψ : (Nat → Int) → Option Nat} {β : BNu} (h : HC O0 O s0 s d a o ψ) (g : CSg O O1 s s1 d (BL β)) (hs1 : s1 ≤ 424) (hd : 1 ≤ d) : HC O0 (zu (PAT O1 a s1) s1 (16 * 0 + 11)) s0 (s1 + 1) d (some s1) o (ψand ψ β) := by
  sorry
theorem HC_or {O0 O O1 : Nat → Int} {s0 s s1 d : Nat} {a o : Option Nat} {ψ : (Nat → Int) → Option Nat} {β : BNu} (h : HC O0 O s0 s d a o ψ) (g : CSg O O1 s s1 d (BL β)) (hs1 : s1 ≤ 424) (hd : 1 ≤ d) : HC O0 (zu (PAT (PAT O1 a s1) o s1) s1 (16 * 0 + 12)) s0 (s1 + 1) d none (some s1) (ψor ψ β) := by
  sorry
theorem HC_end {O0 O O1 : Nat → Int} {s0 s s1 d : Nat} {a o : Option Nat} {ψ : (Nat → Int) → Option Nat} {β : BNu} (h : HC O0 O s0 s d a o ψ) (g : CSg O O1 s s1 d (BL β)) (hs1 : s1 ≤ 424) (hd : 1 ≤ d) : CSg O0 (PAT (PAT O1 a s1) o s1) s0 s1 d (BL (ψend ψ β)) := by
  sorry
/-- the reference's patched code -/
theorem HRR_all {op0 ar0 op ar op1 ar1 : Nat → Int} {c0 c c1 d : Nat} {a o : Option Nat} {ψ : (Nat → Int) → Option Nat} {β : BNu} (h : HRR op0 ar0 op ar c0 c d a o ψ) (g : RSg op ar op1 ar1 c c1 d (BL β)) (b2 : Option Nat) (hb : b2 = none ∨ b2 = o) (hc1 : c1 ≤ 1000) (P Q : Nat → Int) (hQ : ∀ j, j < c1 → Q j = op1 j) (hP : ∀ j, j < c1 → P j = PBT (PBT ar1 a c1) b2 c1 j) :
    (∀ j, c0 ≤ j → j < c → Q j = op j) ∧ (∀ j, c0 ≤ j → j < c → a ≠ some j → b2 ≠ some j → P j = ar j) ∧ (∀ j, c ≤ j → j < c1 → Q j = op1 j ∧ P j = ar1 j) ∧ (∀ i, a = some i → P i = (c1 : Int)) ∧ (∀ i, b2 = some i → P i = (c1 : Int)) ∧ RG Q P c0 c1 ∧ (AGR op0 Q c0 ∧ AGR ar0 P c0) ∧ (∀ k, o = some k → Q k = 29) := by
  sorry
theorem HRR_and {op0 ar0 op ar op1 ar1 : Nat → Int} {c0 c c1 d : Nat} {a o : Option Nat} {ψ : (Nat → Int) → Option Nat} {β : BNu} (h : HRR op0 ar0 op ar c0 c d a o ψ) (g : RSg op ar op1 ar1 c c1 d (BL β)) (hc1 : c1 ≤ 1000) (hd : 1 ≤ d) : HRR op0 ar0 (zu op1 c1 28) (zu (PBT ar1 a c1) c1 0) c0 (c1 + 1) d (some c1) o (ψand ψ β) := by
  sorry
theorem HRR_or {op0 ar0 op ar op1 ar1 : Nat → Int} {c0 c c1 d : Nat} {a o : Option Nat} {ψ : (Nat → Int) → Option Nat} {β : BNu} (h : HRR op0 ar0 op ar c0 c d a o ψ) (g : RSg op ar op1 ar1 c c1 d (BL β)) (hc1 : c1 ≤ 1000) (hd : 1 ≤ d) : HRR op0 ar0 (zu op1 c1 29) (zu (PBT (PBT ar1 a c1) o c1) c1 0) c0 (c1 + 1) d none (some c1) (ψor ψ β) := by
  sorry
theorem HRR_end {op0 ar0 op ar op1 ar1 : Nat → Int} {c0 c c1 d : Nat} {a o : Option Nat} {ψ : (Nat → Int) → Option Nat} {β : BNu} (h : HRR op0 ar0 op ar c0 c d a o ψ) (g : RSg op ar op1 ar1 c c1 d (BL β)) (hc1 : c1 ≤ 1000) (hd : 1 ≤ d) : RSg op0 ar0 op1 (PBT (PBT ar1 a c1) o c1) c0 c1 d (BL (ψend ψ β)) := by
  sorry
/-! a TEST's loop -/
def TLoop (T : Nat → Int) (n m : Nat) (qs rs : Nat → Nat) (tk vl W : Nat → Int) (x1 : Int) (o : OX) (b s0 i0 c0 pd : Nat) (O0 op0 ar0 pl0 pa0 : Nat → Int) (x2 x3 : Int) (x4 s i p c : Nat) (O op ar pl pa : Nat → Int) : Prop :=
  ∃ (ca co ra ro : Option Nat) (ψ : (Nat → Int) → Option Nat), (x2 = OI ca ∧ x3 = OI co) ∧ (x4 + 1 ≤ i ∧ i ≤ m ∧ p ≤ 50 ∧ s + i0 ≤ s0 + i ∧ i0 ≤ i ∧ c ≤ 400 ∧ (pd + ON ro + ON ra) ≤ 400) ∧ HC O0 O s0 s (20 - 2 * b) ca co ψ ∧ HRR op0 ar0 op ar c0 c (20 - 2 * b) ra ro ψ ∧ PIJ pl pa pd ro ra ∧ AGR pl0 pl pd ∧ AGR pa0 pa pd ∧ PLR pl (pd + ON ro + ON ra) ∧ INVb pl (pd + ON ro + ON ra) = INVb pl0 pd ∧ EX T n W x1 qs rs o 0 i c p (pd + ON ro + ON ra) b op ar pl pa
theorem t_7 {T : Nat → Int} {n m : Nat} {qs rs : Nat → Nat} {tk vl W : Nat → Int} {x1 : Int} {o : OX} (hL : LEX T n m qs rs tk vl) (hW : ∀ k : Nat, k < 8 → W k = zcd k) (hx : x1 = 0 ∨ x1 = 1) {fT fQ : Int → (Nat → Int) → (Nat → Int) → Int → Int → Int → (Nat → Int) → Option (Int × Int × Int × Int × (Nat → Int))} (hQ : PPlain T n m qs rs tk vl W x1 o fQ) {b s0 i0 c0 pd : Nat} {O0 op0 ar0 pl0 pa0 : Nat → Int} {v : Int × Int × Int × Int × (Nat → Int)} (hb : b ≤ 8) (hs0 : s0 ≤ i0 + 23) (hi0 : 1 ≤ i0) (hP0 : PLR pl0 pd) (hcx : (pd = 0 ∧ x1 = 1) ∨ (1 ≤ pd ∧ pl0 (pd - 1) = 30)) : ∀ (N : Nat) (x2 x3 : Int) (x4 s i p c : Nat) (O op ar pl pa : Nat → Int), TLoop T n m qs rs tk vl W x1 o b s0 i0 c0 pd O0 op0 ar0 pl0 pa0 x2 x3 x4 s i p c O op ar pl pa → f_LawReader_readTest_7 fT fQ tk vl N (b : Int) x2 x3 (x4 : Int) (s : Int) (i : Int) (p : Int) O = some v → TOut T n m qs rs tk vl W x1 o b s0 i0 c0 pd O0 op0 ar0 pl0 pa0 v := by
  sorry
theorem s_test {T : Nat → Int} {n m : Nat} {qs rs : Nat → Nat} {tk vl W : Nat → Int} {x1 : Int} {o : OX} (hL : LEX T n m qs rs tk vl) (hW : ∀ k : Nat, k < 8 → W k = zcd k) (hx : x1 = 0 ∨ x1 = 1) {fT fQ : Int → (Nat → Int) → (Nat → Int) → Int → Int → Int → (Nat → Int) → Option (Int × Int × Int × Int × (Nat → Int))} (hQ : PPlain T n m qs rs tk vl W x1 o fQ) : PTest T n m qs rs tk vl W x1 o (fb_LawReader_readTest fT fQ) := by
  sorry
theorem t_both {T : Nat → Int} {n m : Nat} {qs rs : Nat → Nat} {tk vl W : Nat → Int} {x1 : Int} {o : OX} (hL : LEX T n m qs rs tk vl) (hW : ∀ k : Nat, k < 8 → W k = zcd k) (hx : x1 = 0 ∨ x1 = 1) : ∀ D : Nat, PTest T n m qs rs tk vl W x1 o (g_LawReader_readTest D).1 ∧ PPlain T n m qs rs tk vl W x1 o (g_LawReader_readTest D).2 := by
  sorry
theorem S_test {T : Nat → Int} {n m : Nat} {qs rs : Nat → Nat} {tk vl W : Nat → Int} {x1 : Int} {o : OX} (hL : LEX T n m qs rs tk vl) (hW : ∀ k : Nat, k < 8 → W k = zcd k) (hx : x1 = 0 ∨ x1 = 1) : PTest T n m qs rs tk vl W x1 o f_LawReader_readTest := fun b s i p O v h1 h2 h3 h4 h5 h => (t_both hL hW hx zdp).1 b s i p O v h1 h2 h3 h4 h5 (by unfold f_LawReader_readTest at h; exact h)

