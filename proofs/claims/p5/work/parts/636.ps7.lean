/-! the nots -/
theorem q_4 {T : Nat → Int} {n m : Nat} {qs rs : Nat → Nat} {tk vl W : Nat → Int} {x1 : Int} {o : OX} (hL : LEX T n m qs rs tk vl) (hW : ∀ k : Nat, k < 8 → W k = zcd k) (hx : x1 = 0 ∨ x1 = 1) {fT fQ : Int → (Nat → Int) → (Nat → Int) → Int → Int → Int → (Nat → Int) → Option (Int × Int × Int × Int × (Nat → Int))} (hT : PTest T n m qs rs tk vl W x1 o fT) {b s0 i0 c0 pd : Nat} {O0 op0 ar0 pl0 pa0 : Nat → Int} {v : Int × Int × Int × Int × (Nat → Int)} (hb : b ≤ 8) (hs0 : s0 ≤ i0 + 23) (hi0 : 1 ≤ i0) (hP0 : PLR pl0 pd) (hpd : pd ≤ 400) (hI0 : INVb pl0 pd = 30 ∨ (INVb pl0 pd = -1 ∧ x1 = 1)) (hc1 : pd = 0 ∨ 27 ≤ pl0 (pd - 1)) (hc : c0 ≤ 400) : ∀ (N k : Nat) (t : Int) (i p : Nat) (pl pa : Nat → Int), t = ((k % 2 : Nat) : Int) → (i = i0 + k ∧ i ≤ m ∧ p ≤ 50 ∧ pd + k ≤ 400) → AGR pl0 pl pd → AGR pa0 pa pd → (∀ j, j < k → pl (pd + j) = 27) → PLR pl (pd + k) → EX T n W x1 qs rs o 0 i c0 p (pd + k) b op0 ar0 pl pa → f_LawReader_readPlain_4 fT fQ tk vl N (b : Int) t (k : Int) (s0 : Int) (i : Int) (p : Int) O0 = some v → QOut T n m qs rs tk vl W x1 o b s0 i0 c0 pd O0 op0 ar0 pl0 pa0 v := by
  have hnm := hL.2.1
  have hm := hL.2.2.1
  intro N
  induction N with
  | zero => intro k t i p pl pa _ _ _ _ _ _ _ h; exact nomatch h
  | succ N ih =>
    intro k t i p pl pa ht hn ha hA hk hP hE h
    replace h : f_LawReader_readPlain_4_b fT fQ tk vl (f_LawReader_readPlain_4 fT fQ tk vl N) (b : Int) t (k : Int) (s0 : Int) (i : Int) (p : Int) O0 = some v := h
    unfold f_LawReader_readPlain_4_b at h
    rw [zwi (x := 400) (by decide), zwi (x := (k : Int)) (by omega), if_neg (by omega)] at h
    obtain ⟨v1, v2, e1, h⟩ := xz_d2 h
    rcases p_pass hL hn.2.1 (by decide) (by decide) e1 with ⟨q1, him, y⟩ | ⟨q1, y⟩ <;> cases y
    · replace h := xp_f (by decide +kernel) h
      have E1 : pd + k < 400 ∧ EX T n W x1 qs rs o 0 (i + 1) c0 p (pd + k + 1) b op0 ar0 (zu pl (pd + k) 27) (zu pa (pd + k) 0) := by
        rcases e_plain hL hW hn.2.1 (by omega) hn.2.2.1 hn.2.2.2 hb hE with e | e | e | e
        · exact e.2.2
        · omega
        · omega
        · omega
      have go : ∀ t' : Int, t' = (((k + 1) % 2 : Nat) : Int) → f_LawReader_readPlain_30 fT fQ tk vl (f_LawReader_readPlain_4 fT fQ tk vl N) (b : Int) (k : Int) t' (s0 : Int) ((i + 1 : Nat) : Int) (p : Int) O0 = some v → QOut T n m qs rs tk vl W x1 o b s0 i0 c0 pd O0 op0 ar0 pl0 pa0 v := fun t' ht' h => by
        unfold f_LawReader_readPlain_30 at h
        replace h := xp_n h
        refine ih (k + 1) t' (i + 1) p (zu pl (pd + k) 27) (zu pa (pd + k) 0) ht' ⟨by omega, by omega, by omega, by omega⟩ (AGR_t ha (AGR_u (by omega)) (Nat.le_refl _)) (AGR_t hA (AGR_u (by omega)) (Nat.le_refl _)) (fun j hj => ?_) (PLR_u hP (by decide)) E1.2 h
        rcases Nat.lt_or_ge j k with z | z
        · rw [zu_ne _ _ (by omega)]; exact hk j z
        · rw [show j = k from by omega, zu_eq]
      have ht2 : t = 0 ∨ t = 1 := by omega
      rcases ht2 with z | z
      · subst z
        replace h := xp_f (by decide +kernel) h
        exact go 1 (by omega) h
      · subst z
        replace h := xp_t (by decide +kernel) h
        exact go 0 (by omega) h
    · replace h := xp_t (by decide +kernel) h
      refine q_37 hL hW hx hT hb hs0 hi0 hP0 hpd hI0 ?_ ht hc ⟨by omega, by omega, by omega, by omega⟩ ha hA hk hP q1 hE h
      rcases Nat.eq_zero_or_pos k with z | z
      · subst z
        rcases hc1 with y | y
        · exact Or.inl y
        · rcases Nat.eq_zero_or_pos pd with w | w
          · exact Or.inl w
          · right
            rw [show pd + 0 - 1 = pd - 1 from rfl, ha (pd - 1) (by omega)]
            exact y
      · right
        have := hk (k - 1) (by omega)
        rw [show pd + k - 1 = pd + (k - 1) from by omega, this]
        decide
theorem s_plain {T : Nat → Int} {n m : Nat} {qs rs : Nat → Nat} {tk vl W : Nat → Int} {x1 : Int} {o : OX} (hL : LEX T n m qs rs tk vl) (hW : ∀ k : Nat, k < 8 → W k = zcd k) (hx : x1 = 0 ∨ x1 = 1) {fT fQ : Int → (Nat → Int) → (Nat → Int) → Int → Int → Int → (Nat → Int) → Option (Int × Int × Int × Int × (Nat → Int))} (hT : PTest T n m qs rs tk vl W x1 o fT) : PPlain T n m qs rs tk vl W x1 o (fb_LawReader_readPlain fT fQ) := by
  intro b s i p O v hb h1i hi hs hp h c pd op ar pl pa hc hpd hP hcx hE
  unfold fb_LawReader_readPlain at h
  exact q_4 hL hW hx hT hb hs h1i hP hpd hcx.2 hcx.1 hc zfu 0 0 i p pl pa rfl ⟨by omega, hi, hp, by omega⟩ AGR_0 AGR_0 (fun j hj => by omega) hP hE h
/-! the ands, the ors -/
def OI (a : Option Nat) : Int := match a with | none => -1 | some k => (k : Int)
def ON (a : Option Nat) : Nat := match a with | none => 0 | some _ => 1
def PAT (O : Nat → Int) (a : Option Nat) (s : Nat) : Nat → Int := match a with | none => O | some k => zu O k (16 * (s : Int) + O k % 16)
def PBT (ar : Nat → Int) (a : Option Nat) (c : Nat) : Nat → Int := match a with | none => ar | some k => zu ar k (c : Int)
theorem ON_1 (a : Option Nat) : ON a ≤ 1 := by cases a with
  | none => exact Nat.zero_le _
  | some k => exact Nat.le_refl _
theorem PAT_ne {O : Nat → Int} {a : Option Nat} {s j : Nat} (h : a ≠ some j) : PAT O a s j = O j := by
  cases a with
  | none => rfl
  | some k => exact zu_ne _ _ (fun e => h (by rw [e]))
theorem PAT_eq {O : Nat → Int} {a : Option Nat} {s j : Nat} (h : a = some j) : PAT O a s j = 16 * (s : Int) + O j % 16 := by subst h; exact zu_eq _ _ _
theorem PBT_ne {O : Nat → Int} {a : Option Nat} {s j : Nat} (h : a ≠ some j) : PBT O a s j = O j := by
  cases a with
  | none => rfl
  | some k => exact zu_ne _ _ (fun e => h (by rw [e]))
theorem PBT_eq {O : Nat → Int} {a : Option Nat} {s j : Nat} (h : a = some j) : PBT O a s j = (s : Int) := by subst h; exact zu_eq _ _ _
theorem p_aimO {a : Option Nat} {s : Nat} {O o : Nat → Int} (hs : s ≤ 424) (ha : ∀ k, a = some k → k < s ∧ 0 ≤ O k ∧ O k ≤ 100000) (h : f_LawReader_aimHere (OI a) (s : Int) O = some o) : o = PAT O a s := by
  cases a with
  | none => exact p_aim0 h
  | some k =>
    have := ha k rfl
    exact p_aim hs this.1 this.2 h
theorem cop_m {v x : Int} (h : v % 16 = 11 ∨ v % 16 = 12) : cop (16 * x + v % 16) = cop v := by
  unfold cop
  rw [if_neg (by omega), if_neg (by omega), if_pos (by omega), if_neg (by omega), if_neg (by omega), if_pos (by omega)]
  omega
def PIJ (pl pa : Nat → Int) (pd : Nat) (ro ra : Option Nat) : Prop := (∀ k, ro = some k → pl pd = 29 ∧ pa pd = (k : Int)) ∧ (∀ k, ra = some k → pl (pd + ON ro) = 28 ∧ pa (pd + ON ro) = (k : Int))
theorem PIJ_agr {pl pa pl' pa' : Nat → Int} {pd : Nat} {ro ra : Option Nat} (h : PIJ pl pa pd ro ra) (g1 : AGR pl pl' (pd + ON ro + ON ra)) (g2 : AGR pa pa' (pd + ON ro + ON ra)) : PIJ pl' pa' pd ro ra := by
  refine ⟨fun k hk => ?_, fun k hk => ?_⟩
  · have e := h.1 k hk
    have z : ON ro = 1 := by rw [hk]; rfl
    rw [g1 pd (by omega), g2 pd (by omega)]
    exact e
  · have e := h.2 k hk
    have z : ON ra = 1 := by rw [hk]; rfl
    rw [g1 _ (by omega), g2 _ (by omega)]
    exact e
theorem ST_two {pl pa : Nat → Int} {pd c : Nat} {op ar : Nat → Int} {ro ra : Option Nat} {r : Int × Int × (Nat → Int) × (Nat → Int)} (hJ : PIJ pl pa pd ro ra) (hP : PLR pl (pd + ON ro + ON ra)) (hpd : pd + ON ro + ON ra ≤ 400) (hcx : pd = 0 ∨ pl (pd - 1) = 30) (hra : ∀ k, ra = some k → k ≤ 1000) (h : ST 2 pl pa c (pd + ON ro + ON ra) op ar r) : r = ((c : Int), ((pd + ON ro : Nat) : Int), op, PBT ar ra c) := by
  have fin : ∀ ar', ST 2 pl pa c (pd + ON ro) op ar' r → r = ((c : Int), ((pd + ON ro : Nat) : Int), op, ar') := fun ar' h => by
    refine ST_stop (by omega) (by decide) (fun j hj => hP j (by omega)) ?_ h
    cases ro with
    | none =>
      rcases hcx with z | z
      · exact Or.inl z
      · right
        show BDS (pl (pd + 0 - 1)) < 2
        rw [show pd + 0 - 1 = pd - 1 from rfl, z]
        decide
    | some k =>
      right
      have := (hJ.1 k rfl).1
      show BDS (pl (pd + 1 - 1)) < 2
      rw [show pd + 1 - 1 = pd from by omega, this]
      decide
  cases ra with
  | none => exact fin ar h
  | some k =>
    have e := hJ.2 k rfl
    have hpd' : pd + ON ro + 1 ≤ 400 := hpd
    exact fin _ (ST_jump (by omega) (by rw [e.1]; decide) (Or.inl e.1) e.2 (hra k rfl) h)
theorem ST_one {pl pa : Nat → Int} {pd c : Nat} {op ar : Nat → Int} {ro ra : Option Nat} {r : Int × Int × (Nat → Int) × (Nat → Int)} (hJ : PIJ pl pa pd ro ra) (hpd : pd + ON ro + ON ra ≤ 400) (hra : ∀ k, ra = some k → k ≤ 1000) (hro : ∀ k, ro = some k → k ≤ 1000) (h : ST 1 pl pa c (pd + ON ro + ON ra) op ar r) : ST 1 pl pa c pd op (PBT (PBT ar ra c) ro c) r := by
  have h1 : ST 1 pl pa c (pd + ON ro) op (PBT ar ra c) r := by
    cases ra with
    | none => exact h
    | some k =>
      have e := hJ.2 k rfl
      have hpd' : pd + ON ro + 1 ≤ 400 := hpd
      exact ST_jump (by omega) (by rw [e.1]; decide) (Or.inl e.1) e.2 (hra k rfl) h
  cases ro with
  | none => exact h1
  | some k =>
    have e := hJ.1 k rfl
    have hpd' : pd + 1 + ON ra ≤ 400 := hpd
    exact ST_jump (by omega) (by rw [e.1]; decide) (Or.inr e.1) e.2 (hro k rfl) h1
/-! conditions so far: both codes' halves -/
theorem G_and {op ar op1 ar1 op3 ar3 : Nat → Int} {s k m d : Nat} {a o : Option Nat} {ψ : (Nat → Int) → Option Nat} {β : BNu} (h : PRE op ar s k d a o ψ) (h1 : ∀ j, s ≤ j → j < k → op3 j = op j) (h2 : ∀ j, s ≤ j → j < k → a ≠ some j → o ≠ some j → ar3 j = ar j) (hb : RPush op1 ar1 k m d (BL β)) (h3 : ∀ j, k ≤ j → j < m → op3 j = op1 j ∧ ar3 j = ar1 j) (ho : op3 m = 28) (ha : ∀ i, a = some i → ar3 i = (m : Int)) (hao : ∀ i, a = some i → o ≠ some i) (hd : 1 ≤ d) : PRE op3 ar3 s (m + 1) d (some m) o (ψand ψ β) :=
  PRE_and (ar0 := ar) (d0 := d) (PRE_x h (Nat.le_refl _) (fun j j1 j2 => ⟨h1 j j1 j2, fun _ _ => rfl⟩)) (RPush_x hb (Nat.le_refl _) h3) (Nat.le_refl _) hd ho h2 ha hao
theorem G_or {op ar op1 ar1 op3 ar3 : Nat → Int} {s k m d : Nat} {a o : Option Nat} {ψ : (Nat → Int) → Option Nat} {β : BNu} (h : PRE op ar s k d a o ψ) (h1 : ∀ j, s ≤ j → j < k → op3 j = op j) (h2 : ∀ j, s ≤ j → j < k → a ≠ some j → o ≠ some j → ar3 j = ar j) (hb : RPush op1 ar1 k m d (BL β)) (h3 : ∀ j, k ≤ j → j < m → op3 j = op1 j ∧ ar3 j = ar1 j) (ho : op3 m = 29) (ha : ∀ i, a = some i → ar3 i = (m : Int)) (hoo : ∀ i, o = some i → ar3 i = (m : Int)) (hd : 1 ≤ d) : PRE op3 ar3 s (m + 1) d none (some m) (ψor ψ β) :=
  PRE_or (ar0 := ar) (d0 := d) (PRE_x h (Nat.le_refl _) (fun j j1 j2 => ⟨h1 j j1 j2, fun _ _ => rfl⟩)) (RPush_x hb (Nat.le_refl _) h3) (Nat.le_refl _) hd ho h2 ha hoo
theorem G_end {op ar op1 ar1 op3 ar3 : Nat → Int} {s k m d : Nat} {a o : Option Nat} {ψ : (Nat → Int) → Option Nat} {β : BNu} (h : PRE op ar s k d a o ψ) (h1 : ∀ j, s ≤ j → j < k → op3 j = op j) (h2 : ∀ j, s ≤ j → j < k → a ≠ some j → o ≠ some j → ar3 j = ar j) (hb : RPush op1 ar1 k m d (BL β)) (h3 : ∀ j, k ≤ j → j < m → op3 j = op1 j ∧ ar3 j = ar1 j) (ha : ∀ i, a = some i → ar3 i = (m : Int)) (hoo : ∀ i, o = some i → ar3 i = (m : Int)) (hd : 1 ≤ d) : RPush op3 ar3 s m d (BL (ψend ψ β)) :=
  PRE_end (ar0 := ar) (d0 := d) (PRE_x h (Nat.le_refl _) (fun j j1 j2 => ⟨h1 j j1 j2, fun _ _ => rfl⟩)) (RPush_x hb (Nat.le_refl _) h3) (Nat.le_refl _) hd h2 ha hoo
/-- a half: the code so far, its open jumps -/
def HC (O0 O : Nat → Int) (s0 s d : Nat) (a o : Option Nat) (ψ : (Nat → Int) → Option Nat) : Prop :=
  PRE (CO O) (CA O) s0 s d a o ψ ∧ CR O s0 s ∧ AGR O0 O s0 ∧ (∀ k, a = some k → O k % 16 = 11) ∧ (∀ k, o = some k → O k % 16 = 12)
def HRR (op0 ar0 op ar : Nat → Int) (c0 c d : Nat) (a o : Option Nat) (ψ : (Nat → Int) → Option Nat) : Prop :=
  PRE op ar c0 c d a o ψ ∧ RG op ar c0 c ∧ (AGR op0 op c0 ∧ AGR ar0 ar c0) ∧ (∀ k, a = some k → op k = 28) ∧ (∀ k, o = some k → op k = 29)
theorem HC_o {O0 O : Nat → Int} {s0 s d : Nat} {a o : Option Nat} {ψ : (Nat → Int) → Option Nat} (h : HC O0 O s0 s d a o ψ) : s0 ≤ s ∧ (∀ k, a = some k → (s0 ≤ k ∧ k < s) ∧ o ≠ some k) ∧ (∀ k, o = some k → (s0 ≤ k ∧ k < s) ∧ a ≠ some k) := by
  refine ⟨h.1.1, fun k hk => ⟨h.1.2.1 k hk, fun e => ?_⟩, fun k hk => ⟨h.1.2.2.1 k hk, fun e => ?_⟩⟩
  · have := h.2.2.2.1 k hk; have := h.2.2.2.2 k e; omega
  · have := h.2.2.2.1 k e; have := h.2.2.2.2 k hk; omega
theorem HRR_o {op0 ar0 op ar : Nat → Int} {s0 s d : Nat} {a o : Option Nat} {ψ : (Nat → Int) → Option Nat} (h : HRR op0 ar0 op ar s0 s d a o ψ) : s0 ≤ s ∧ (∀ k, a = some k → (s0 ≤ k ∧ k < s) ∧ o ≠ some k) ∧ (∀ k, o = some k → (s0 ≤ k ∧ k < s) ∧ a ≠ some k) := by
  refine ⟨h.1.1, fun k hk => ⟨h.1.2.1 k hk, fun e => ?_⟩, fun k hk => ⟨h.1.2.2.1 k hk, fun e => ?_⟩⟩
  · have := h.2.2.2.1 k hk; have := h.2.2.2.2 k e; omega
  · have := h.2.2.2.1 k e; have := h.2.2.2.2 k hk; omega
/-- the class's patched code: what it is at each place -/
theorem PAT_v {O0 O O1 : Nat → Int} {s0 s s1 d : Nat} {a o : Option Nat} {ψ : (Nat → Int) → Option Nat} (h : HC O0 O s0 s d a o ψ) (g : AGR O O1 s) (b2 : Option Nat) (hb : b2 = none ∨ b2 = o) :
    (∀ j, j < s → a ≠ some j → b2 ≠ some j → PAT (PAT O1 a s1) b2 s1 j = O j) ∧ (∀ j, s ≤ j → PAT (PAT O1 a s1) b2 s1 j = O1 j) ∧ (∀ j, a = some j → PAT (PAT O1 a s1) b2 s1 j = 16 * (s1 : Int) + O j % 16) ∧ (∀ j, b2 = some j → PAT (PAT O1 a s1) b2 s1 j = 16 * (s1 : Int) + O j % 16) := by
  have q := HC_o h
  have bo : ∀ j, b2 = some j → o = some j := fun j hj => by
    rcases hb with e | e
    · rw [e] at hj; exact nomatch hj
    · rw [← e]; exact hj
  refine ⟨fun j h1 h2 h3 => ?_, fun j h1 => ?_, fun j h1 => ?_, fun j h1 => ?_⟩
  · rw [PAT_ne h3, PAT_ne h2, g j h1]
  · rw [PAT_ne (fun e => by have := (q.2.2 j (bo j e)).1; omega), PAT_ne (fun e => by have := (q.2.1 j e).1; omega)]
  · rw [PAT_ne (fun e => (q.2.1 j h1).2 (bo j e)), PAT_eq h1, g j (q.2.1 j h1).1.2]
  · have := q.2.2 j (bo j h1)
    rw [PAT_eq h1, PAT_ne this.2, g j this.1.2]
theorem HC_all {O0 O O1 : Nat → Int} {s0 s s1 d : Nat} {a o : Option Nat} {ψ : (Nat → Int) → Option Nat} {β : BNu} (h : HC O0 O s0 s d a o ψ) (g : CSg O O1 s s1 d (BL β)) (b2 : Option Nat) (hb : b2 = none ∨ b2 = o) (hs1 : s1 ≤ 424) (P : Nat → Int) (hP : ∀ j, j < s1 → P j = PAT (PAT O1 a s1) b2 s1 j) :
    (∀ j, s0 ≤ j → j < s → CO P j = CO O j) ∧ (∀ j, s0 ≤ j → j < s → a ≠ some j → b2 ≠ some j → CA P j = CA O j) ∧ (∀ j, s ≤ j → j < s1 → CO P j = CO O1 j ∧ CA P j = CA O1 j) ∧ (∀ i, a = some i → CA P i = (s1 : Int)) ∧ (∀ i, b2 = some i → CA P i = (s1 : Int)) ∧ CR P s0 s1 ∧ AGR O0 P s0 ∧ (∀ k, o = some k → P k % 16 = 12) := by
  have q := HC_o h
  have hs := g.2.2.1
  obtain ⟨v1, v2, v3, v4⟩ := PAT_v (s1 := s1) h g.1 b2 hb
  have bo : ∀ j, b2 = some j → o = some j := fun j hj => by
    rcases hb with e | e
    · rw [e] at hj; exact nomatch hj
    · rw [← e]; exact hj
  have ja : ∀ j, a = some j → P j = 16 * (s1 : Int) + O j % 16 ∧ O j % 16 = 11 := fun j hj => ⟨by rw [hP j (by have := (q.2.1 j hj).1; omega)]; exact v3 j hj, h.2.2.2.1 j hj⟩
  have jb : ∀ j, b2 = some j → P j = 16 * (s1 : Int) + O j % 16 ∧ O j % 16 = 12 := fun j hj => ⟨by rw [hP j (by have := (q.2.2 j (bo j hj)).1; omega)]; exact v4 j hj, h.2.2.2.2 j (bo j hj)⟩
  have jn : ∀ j, j < s → a ≠ some j → b2 ≠ some j → P j = O j := fun j h1 h2 h3 => by rw [hP j (by omega)]; exact v1 j h1 h2 h3
  have je : ∀ j, s ≤ j → j < s1 → P j = O1 j := fun j h1 h2 => by rw [hP j h2]; exact v2 j h1
  refine ⟨fun j h1 h2 => ?_, fun j h1 h2 h3 h4 => ?_, fun j h1 h2 => ?_, fun i hi => ?_, fun i hi => ?_, fun j h1 h2 => ?_, fun j h1 => ?_, fun k hk => ?_⟩
  · unfold CO
    by_cases e : a = some j
    · rw [(ja j e).1, cop_m (Or.inl (ja j e).2)]
    · by_cases e2 : b2 = some j
      · rw [(jb j e2).1, cop_m (Or.inr (jb j e2).2)]
      · rw [jn j h2 e e2]
  · unfold CA
    rw [jn j h2 h3 h4]
  · unfold CO CA
    rw [je j h1 h2]
    exact ⟨rfl, rfl⟩
  · have := ja i hi
    unfold CA car
    omega
  · have := jb i hi
    unfold CA car
    omega
  · rcases Nat.lt_or_ge j s with z | z
    · by_cases e : a = some j
      · have := ja j e; omega
      · by_cases e2 : b2 = some j
        · have := jb j e2; omega
        · rw [jn j z e e2]; exact h.2.1 j h1 z
    · rw [je j z h2]; exact g.2.1 j z h2
  · rw [jn j (by omega) (fun e => by have := (q.2.1 j e).1; omega) (fun e => by have := (q.2.2 j (bo j e)).1; omega)]
    exact h.2.2.1 j h1
  · by_cases e2 : b2 = some k
    · have := jb k e2; omega
    · have := q.2.2 k hk
      rw [jn k this.1.2 this.2 e2]
      exact h.2.2.2.2 k hk
theorem HC_and {O0 O O1 : Nat → Int} {s0 s s1 d : Nat} {a o : Option Nat} {ψ : (Nat → Int) → Option Nat} {β : BNu} (h : HC O0 O s0 s d a o ψ) (g : CSg O O1 s s1 d (BL β)) (hs1 : s1 ≤ 424) (hd : 1 ≤ d) : HC O0 (zu (PAT O1 a s1) s1 (16 * 0 + 11)) s0 (s1 + 1) d (some s1) o (ψand ψ β) := by
  have q := HC_o h
  have hs := g.2.2.1
  obtain ⟨w1, w2, w3, w4, w5, w6, w7, w8⟩ := HC_all h g none (Or.inl rfl) hs1 (zu (PAT O1 a s1) s1 (16 * 0 + 11)) (fun j hj => zu_ne _ _ (by omega))
  refine ⟨G_and h.1 w1 (fun j j1 j2 j3 j4 => w2 j j1 j2 j3 (fun e => nomatch e)) g.2.2 w3 ?_ w4 (fun i hi => (q.2.1 i hi).2) hd, fun j h1 h2 => ?_, w7, fun k hk => ?_, w8⟩
  · show cop (zu (PAT O1 a s1) s1 (16 * 0 + 11) s1) = 28
    rw [zu_eq]; decide
  · rcases Nat.lt_or_ge j s1 with z | z
    · exact w6 j h1 z
    · rw [show j = s1 from by omega, zu_eq]; decide
  · cases hk
    rw [zu_eq]; decide
theorem HC_or {O0 O O1 : Nat → Int} {s0 s s1 d : Nat} {a o : Option Nat} {ψ : (Nat → Int) → Option Nat} {β : BNu} (h : HC O0 O s0 s d a o ψ) (g : CSg O O1 s s1 d (BL β)) (hs1 : s1 ≤ 424) (hd : 1 ≤ d) : HC O0 (zu (PAT (PAT O1 a s1) o s1) s1 (16 * 0 + 12)) s0 (s1 + 1) d none (some s1) (ψor ψ β) := by
  have q := HC_o h
  have hs := g.2.2.1
  obtain ⟨w1, w2, w3, w4, w5, w6, w7, w8⟩ := HC_all h g o (Or.inr rfl) hs1 (zu (PAT (PAT O1 a s1) o s1) s1 (16 * 0 + 12)) (fun j hj => zu_ne _ _ (by omega))
  refine ⟨G_or h.1 w1 w2 g.2.2 w3 ?_ w4 w5 hd, fun j h1 h2 => ?_, w7, (fun k hk => nomatch hk), fun k hk => ?_⟩
  · show cop (zu (PAT (PAT O1 a s1) o s1) s1 (16 * 0 + 12) s1) = 29
    rw [zu_eq]; decide
  · rcases Nat.lt_or_ge j s1 with z | z
    · exact w6 j h1 z
    · rw [show j = s1 from by omega, zu_eq]; decide
  · cases hk
    rw [zu_eq]; decide
theorem HC_end {O0 O O1 : Nat → Int} {s0 s s1 d : Nat} {a o : Option Nat} {ψ : (Nat → Int) → Option Nat} {β : BNu} (h : HC O0 O s0 s d a o ψ) (g : CSg O O1 s s1 d (BL β)) (hs1 : s1 ≤ 424) (hd : 1 ≤ d) : CSg O0 (PAT (PAT O1 a s1) o s1) s0 s1 d (BL (ψend ψ β)) := by
  obtain ⟨w1, w2, w3, w4, w5, w6, w7, w8⟩ := HC_all h g o (Or.inr rfl) hs1 (PAT (PAT O1 a s1) o s1) (fun j hj => rfl)
  exact ⟨w7, w6, G_end h.1 w1 w2 g.2.2 w3 w4 w5 hd⟩
/-- the reference's patched code -/
theorem HRR_all {op0 ar0 op ar op1 ar1 : Nat → Int} {c0 c c1 d : Nat} {a o : Option Nat} {ψ : (Nat → Int) → Option Nat} {β : BNu} (h : HRR op0 ar0 op ar c0 c d a o ψ) (g : RSg op ar op1 ar1 c c1 d (BL β)) (b2 : Option Nat) (hb : b2 = none ∨ b2 = o) (hc1 : c1 ≤ 1000) (P Q : Nat → Int) (hQ : ∀ j, j < c1 → Q j = op1 j) (hP : ∀ j, j < c1 → P j = PBT (PBT ar1 a c1) b2 c1 j) :
    (∀ j, c0 ≤ j → j < c → Q j = op j) ∧ (∀ j, c0 ≤ j → j < c → a ≠ some j → b2 ≠ some j → P j = ar j) ∧ (∀ j, c ≤ j → j < c1 → Q j = op1 j ∧ P j = ar1 j) ∧ (∀ i, a = some i → P i = (c1 : Int)) ∧ (∀ i, b2 = some i → P i = (c1 : Int)) ∧ RG Q P c0 c1 ∧ (AGR op0 Q c0 ∧ AGR ar0 P c0) ∧ (∀ k, o = some k → Q k = 29) := by
  have q := HRR_o h
  have hs := g.2.2.1
  have bo : ∀ j, b2 = some j → o = some j := fun j hj => by
    rcases hb with e | e
    · rw [e] at hj; exact nomatch hj
    · rw [← e]; exact hj
  have jq : ∀ j, j < c → Q j = op j := fun j h1 => by rw [hQ j (by omega), g.1.1 j h1]
  have jn : ∀ j, j < c → a ≠ some j → b2 ≠ some j → P j = ar j := fun j h1 h2 h3 => by rw [hP j (by omega), PBT_ne h3, PBT_ne h2, g.1.2 j h1]
  have je : ∀ j, c ≤ j → j < c1 → P j = ar1 j := fun j h1 h2 => by rw [hP j h2, PBT_ne (fun e => by have := (q.2.2 j (bo j e)).1; omega), PBT_ne (fun e => by have := (q.2.1 j e).1; omega)]
  have ja : ∀ j, a = some j → P j = (c1 : Int) := fun j hj => by
    have := q.2.1 j hj
    rw [hP j (by omega), PBT_ne (fun e => this.2 (bo j e)), PBT_eq hj]
  have jb : ∀ j, b2 = some j → P j = (c1 : Int) := fun j hj => by
    have := q.2.2 j (bo j hj)
    rw [hP j (by omega), PBT_eq hj]
  refine ⟨fun j h1 h2 => jq j h2, fun j h1 h2 h3 h4 => jn j h2 h3 h4, fun j h1 h2 => ⟨hQ j h2, je j h1 h2⟩, ja, jb, fun j h1 h2 => ?_, ⟨fun j h1 => ?_, fun j h1 => ?_⟩, fun k hk => ?_⟩
  · rcases Nat.lt_or_ge j c with z | z
    · rw [jq j z]
      have := h.2.1 j h1 z
      by_cases e : a = some j
      · rw [ja j e]; omega
      · by_cases e2 : b2 = some j
        · rw [jb j e2]; omega
        · rw [jn j z e e2]; exact this
    · rw [hQ j h2, je j z h2]; exact g.2.1 j z h2
  · rw [jq j (by omega)]; exact h.2.2.1.1 j h1
  · rw [jn j (by omega) (fun e => by have := (q.2.1 j e).1; omega) (fun e => by have := (q.2.2 j (bo j e)).1; omega)]
    exact h.2.2.1.2 j h1
  · have := q.2.2 k hk
    rw [jq k this.1.2]
    exact h.2.2.2.2 k hk
theorem HRR_and {op0 ar0 op ar op1 ar1 : Nat → Int} {c0 c c1 d : Nat} {a o : Option Nat} {ψ : (Nat → Int) → Option Nat} {β : BNu} (h : HRR op0 ar0 op ar c0 c d a o ψ) (g : RSg op ar op1 ar1 c c1 d (BL β)) (hc1 : c1 ≤ 1000) (hd : 1 ≤ d) : HRR op0 ar0 (zu op1 c1 28) (zu (PBT ar1 a c1) c1 0) c0 (c1 + 1) d (some c1) o (ψand ψ β) := by
  have q := HRR_o h
  have hs := g.2.2.1
  obtain ⟨w1, w2, w3, w4, w5, w6, w7, w8⟩ := HRR_all h g none (Or.inl rfl) hc1 (zu (PBT ar1 a c1) c1 0) (zu op1 c1 28) (fun j hj => zu_ne _ _ (by omega)) (fun j hj => zu_ne _ _ (by omega))
  refine ⟨G_and h.1 w1 (fun j j1 j2 j3 j4 => w2 j j1 j2 j3 (fun e => nomatch e)) g.2.2 w3 (zu_eq _ _ _) w4 (fun i hi => (q.2.1 i hi).2) hd, fun j h1 h2 => ?_, w7, fun k hk => ?_, w8⟩
  · rcases Nat.lt_or_ge j c1 with z | z
    · exact w6 j h1 z
    · rw [show j = c1 from by omega, zu_eq, zu_eq]; decide
  · cases hk
    exact zu_eq _ _ _
theorem HRR_or {op0 ar0 op ar op1 ar1 : Nat → Int} {c0 c c1 d : Nat} {a o : Option Nat} {ψ : (Nat → Int) → Option Nat} {β : BNu} (h : HRR op0 ar0 op ar c0 c d a o ψ) (g : RSg op ar op1 ar1 c c1 d (BL β)) (hc1 : c1 ≤ 1000) (hd : 1 ≤ d) : HRR op0 ar0 (zu op1 c1 29) (zu (PBT (PBT ar1 a c1) o c1) c1 0) c0 (c1 + 1) d none (some c1) (ψor ψ β) := by
  have q := HRR_o h
  have hs := g.2.2.1
  obtain ⟨w1, w2, w3, w4, w5, w6, w7, w8⟩ := HRR_all h g o (Or.inr rfl) hc1 (zu (PBT (PBT ar1 a c1) o c1) c1 0) (zu op1 c1 29) (fun j hj => zu_ne _ _ (by omega)) (fun j hj => zu_ne _ _ (by omega))
  refine ⟨G_or h.1 w1 w2 g.2.2 w3 (zu_eq _ _ _) w4 w5 hd, fun j h1 h2 => ?_, w7, (fun k hk => nomatch hk), fun k hk => ?_⟩
  · rcases Nat.lt_or_ge j c1 with z | z
    · exact w6 j h1 z
    · rw [show j = c1 from by omega, zu_eq, zu_eq]; decide
  · cases hk
    exact zu_eq _ _ _
theorem HRR_end {op0 ar0 op ar op1 ar1 : Nat → Int} {c0 c c1 d : Nat} {a o : Option Nat} {ψ : (Nat → Int) → Option Nat} {β : BNu} (h : HRR op0 ar0 op ar c0 c d a o ψ) (g : RSg op ar op1 ar1 c c1 d (BL β)) (hc1 : c1 ≤ 1000) (hd : 1 ≤ d) : RSg op0 ar0 op1 (PBT (PBT ar1 a c1) o c1) c0 c1 d (BL (ψend ψ β)) := by
  obtain ⟨w1, w2, w3, w4, w5, w6, w7, w8⟩ := HRR_all h g o (Or.inr rfl) hc1 (PBT (PBT ar1 a c1) o c1) op1 (fun j hj => rfl) (fun j hj => rfl)
  exact ⟨w7, w6, G_end h.1 w1 w2 g.2.2 w3 w4 w5 hd⟩
/-! a TEST's loop -/
def TLoop (T : Nat → Int) (n m : Nat) (qs rs : Nat → Nat) (tk vl W : Nat → Int) (x1 : Int) (o : OX) (b s0 i0 c0 pd : Nat) (O0 op0 ar0 pl0 pa0 : Nat → Int) (x2 x3 : Int) (x4 s i p c : Nat) (O op ar pl pa : Nat → Int) : Prop :=
  ∃ (ca co ra ro : Option Nat) (ψ : (Nat → Int) → Option Nat), (x2 = OI ca ∧ x3 = OI co) ∧ (x4 + 1 ≤ i ∧ i ≤ m ∧ p ≤ 50 ∧ s + i0 ≤ s0 + i ∧ i0 ≤ i ∧ c ≤ 400 ∧ (pd + ON ro + ON ra) ≤ 400) ∧ HC O0 O s0 s (20 - 2 * b) ca co ψ ∧ HRR op0 ar0 op ar c0 c (20 - 2 * b) ra ro ψ ∧ PIJ pl pa pd ro ra ∧ AGR pl0 pl pd ∧ AGR pa0 pa pd ∧ PLR pl (pd + ON ro + ON ra) ∧ INVb pl (pd + ON ro + ON ra) = INVb pl0 pd ∧ EX T n W x1 qs rs o 0 i c p (pd + ON ro + ON ra) b op ar pl pa
theorem t_7 {T : Nat → Int} {n m : Nat} {qs rs : Nat → Nat} {tk vl W : Nat → Int} {x1 : Int} {o : OX} (hL : LEX T n m qs rs tk vl) (hW : ∀ k : Nat, k < 8 → W k = zcd k) (hx : x1 = 0 ∨ x1 = 1) {fT fQ : Int → (Nat → Int) → (Nat → Int) → Int → Int → Int → (Nat → Int) → Option (Int × Int × Int × Int × (Nat → Int))} (hQ : PPlain T n m qs rs tk vl W x1 o fQ) {b s0 i0 c0 pd : Nat} {O0 op0 ar0 pl0 pa0 : Nat → Int} {v : Int × Int × Int × Int × (Nat → Int)} (hb : b ≤ 8) (hs0 : s0 ≤ i0 + 23) (hi0 : 1 ≤ i0) (hP0 : PLR pl0 pd) (hcx : (pd = 0 ∧ x1 = 1) ∨ (1 ≤ pd ∧ pl0 (pd - 1) = 30)) : ∀ (N : Nat) (x2 x3 : Int) (x4 s i p c : Nat) (O op ar pl pa : Nat → Int), TLoop T n m qs rs tk vl W x1 o b s0 i0 c0 pd O0 op0 ar0 pl0 pa0 x2 x3 x4 s i p c O op ar pl pa → f_LawReader_readTest_7 fT fQ tk vl N (b : Int) x2 x3 (x4 : Int) (s : Int) (i : Int) (p : Int) O = some v → TOut T n m qs rs tk vl W x1 o b s0 i0 c0 pd O0 op0 ar0 pl0 pa0 v := by
  have hnm := hL.2.1
  have hm := hL.2.2.1
  have hI0 : INVb pl0 pd = 30 ∨ (INVb pl0 pd = -1 ∧ x1 = 1) := by
    rcases hcx with ⟨z1, z2⟩ | ⟨z1, z2⟩
    · subst z1
      exact Or.inr ⟨rfl, z2⟩
    · left
      cases pd with
      | zero => omega
      | succ k =>
        have z3 : pl0 k = 30 := z2
        show (if 30 ≤ pl0 k then pl0 k else INVb pl0 k) = 30
        rw [z3, if_pos (by decide)]
  intro N
  induction N with
  | zero => intro x2 x3 x4 s i p c O op ar pl pa _ h; exact nomatch h
  | succ N ih =>
    intro x2 x3 x4 s i p c O op ar pl pa hS h
    obtain ⟨ca, co, ra, ro, ψ, ⟨e2, e3⟩, hn, hC, hR, hJ, hA1, hA2, hP, hI, hE⟩ := hS
    subst e2
    subst e3
    have o1 := ON_1 ro
    have o2 := ON_1 ra
    have cb := HC_o hC
    have rb := HRR_o hR
    replace h : f_LawReader_readTest_7_b fT fQ tk vl (f_LawReader_readTest_7 fT fQ tk vl N) (b : Int) (OI ca) (OI co) (x4 : Int) (s : Int) (i : Int) (p : Int) O = some v := h
    unfold f_LawReader_readTest_7_b at h
    rw [zwi (x := 400) (by decide), zwi (x := (x4 : Int)) (by omega), if_neg (by omega)] at h
    obtain ⟨v1, v2, v3, v4, a5, e1, h⟩ := xz_d5 h
    have htop : (pd + ON ro + ON ra) = 0 ∨ 27 ≤ pl ((pd + ON ro + ON ra) - 1) := by
      cases ra with
      | some k =>
        right
        have := (hJ.2 k rfl).1
        show 27 ≤ pl (pd + ON ro + 1 - 1)
        rw [show pd + ON ro + 1 - 1 = pd + ON ro from by omega, this]; decide
      | none =>
        cases ro with
        | some k =>
          right
          have := (hJ.1 k rfl).1
          show 27 ≤ pl (pd + 1 + 0 - 1)
          rw [show pd + 1 + 0 - 1 = pd from by omega, this]; decide
        | none =>
          rcases hcx with ⟨z1, _⟩ | ⟨z1, z2⟩
          · exact Or.inl z1
          · right
            show 27 ≤ pl (pd + 0 + 0 - 1)
            rw [show pd + 0 + 0 - 1 = pd - 1 from rfl, hA1 (pd - 1) (by omega), z2]; decide
    rcases hQ b s i p O _ hb (by omega) hn.2.1 (by omega) hn.2.2.1 e1 c (pd + ON ro + ON ra) op ar pl pa hn.2.2.2.2.2.1 hn.2.2.2.2.2.2 hP ⟨htop, by rw [hI]; exact hI0⟩ hE with ⟨g1, i', g2, g3, g4⟩ | ⟨s1, i1, p1, c1, pd1, O1, op1, ar1, pl1, pa1, β, gv, gn, gC, ga, gb, gP, gI, gS, gE⟩
    · replace g1 : v1 = 0 := g1
      replace g3 : v3 = (i' : Int) := g3
      subst g1
      replace h := xp_t (by decide +kernel) h
      cases h
      exact Or.inl ⟨rfl, i', g2, g3, g4⟩
    · cases gv
      replace h := xp_f (by decide +kernel) h
      have hss := gC.2.2.1
      have J1 := PIJ_agr hJ ga gb
      have A1 : AGR pl0 pl1 pd := AGR_t hA1 (AGR_w ga (by omega : pd ≤ (pd + ON ro + ON ra))) (Nat.le_refl _)
      have A2 : AGR pa0 pa1 pd := AGR_t hA2 (AGR_w gb (by omega : pd ≤ (pd + ON ro + ON ra))) (Nat.le_refl _)
      have PJ : PLR pl1 (pd + ON ro + ON ra) := PLR_agr hP ga
      have cx1 : pd = 0 ∨ pl1 (pd - 1) = 30 := by
        rcases hcx with ⟨z1, _⟩ | ⟨z1, z2⟩
        · exact Or.inl z1
        · right; rw [A1 (pd - 1) (by omega)]; exact z2
      have hra : ∀ k, ra = some k → k ≤ 1000 := fun k hk => by have := (rb.2.1 k hk).1; omega
      have hro : ∀ k, ro = some k → k ≤ 1000 := fun k hk => by have := (rb.2.2 k hk).1; omega
      have II : INVb pl1 pd1 = INVb pl0 pd := gI.trans hI
      have IB : INVb pl1 pd = INVb pl0 pd := INV_agr pd A1
      obtain ⟨a6, e6, h⟩ := xz_d1 h
      have g6 := p_aimO (a := ca) (by omega) (fun k hk => by
        have z := (cb.2.1 k hk).1
        rw [gC.1 k (by omega)]
        exact ⟨by omega, hC.2.1 k z.1 z.2⟩) e6
      subst g6
      obtain ⟨v7, v8, e7, h⟩ := xz_d2 h
      have eT := e_test hL gn.2.1 (by omega) gn.2.2.1 gn.2.2.2.2.2.2 hb gP gE
      rcases p_pass hL gn.2.1 (by decide) (by decide) e7 with ⟨q1, him, y⟩ | ⟨q1, y⟩ <;> cases y
      · replace h := xp_f (by decide +kernel) h
        obtain ⟨v15, v16, a17, e8, h⟩ := xz_d3 h
        have g8 := p_order (by omega) (by decide) (by decide) e8
        cases g8
        unfold f_LawReader_readTest_76 at h
        replace h := xp_n h
        rcases eT with ⟨_, _, r, z1, z2⟩ | z | z
        · obtain ⟨c2, op2, ar2, w1, w2, w3⟩ := gS 2 r (by decide) z1
          have w4 := ST_two J1 PJ hn.2.2.2.2.2.2 cx1 hra w3
          obtain ⟨w5, w6, w7⟩ := z2 c2 (pd + ON ro) op2 _ w4 (by omega) (by omega)
          refine ih (OI (some s1)) (OI co) (x4 + 1) (s1 + 1) (i1 + 1) p1 (c2 + 1) _ _ _ _ _ ⟨some s1, co, some c2, ro, ψand ψ β, ⟨rfl, rfl⟩, ⟨by omega, by omega, by omega, by omega, by omega, by omega, by show pd + ON ro + 1 ≤ 400; omega⟩, HC_and hC gC (by omega) (by omega), HRR_and hR w2 (by omega) (by omega), ⟨fun k hk => ?_, fun k hk => ?_⟩, AGR_t A1 (AGR_u (by omega)) (Nat.le_refl _), AGR_t A2 (AGR_u (by omega)) (Nat.le_refl _), PLR_u (fun j hj => PJ j (by omega)) (by decide), ?_, w7⟩ h
          · have z : ON ro = 1 := by rw [hk]; rfl
            rw [zu_ne _ _ (by omega), zu_ne _ _ (by omega)]
            exact J1.1 k hk
          · cases hk
            exact ⟨zu_eq _ _ _, zu_eq _ _ _⟩
          · show INVb (zu pl1 (pd + ON ro) 28) (pd + ON ro + 1) = INVb pl0 pd
            rw [INV_1 (by rw [zu_eq]; decide), INV_agr _ (AGR_u (Nat.le_refl _))]
            cases ro with
            | none => exact IB
            | some k => exact (INV_1 (pd := pd) (by rw [(J1.1 k rfl).1]; decide)).trans IB
        · omega
        · omega
      · replace h := xp_t (by decide +kernel) h
        obtain ⟨a9, e9, h⟩ := xz_d1 h
        have g9 := p_aimO (a := co) (by omega) (fun k hk => by
          have z := cb.2.2 k hk
          rw [PAT_ne z.2, gC.1 k (by omega)]
          exact ⟨by omega, hC.2.1 k z.1.1 z.1.2⟩) e9
        subst g9
        obtain ⟨v10, v11, e10, h⟩ := xz_d2 h
        rcases p_pass hL gn.2.1 (by decide) (by decide) e10 with ⟨q2, him, y⟩ | ⟨q2, y⟩ <;> cases y
        · replace h := xp_t (by decide +kernel) h
          obtain ⟨v12, v13, a14, e8, h⟩ := xz_d3 h
          have g8 := p_order (by omega) (by decide) (by decide) e8
          cases g8
          unfold f_LawReader_readTest_76 at h
          replace h := xp_n h
          rcases eT with z | ⟨_, _, r, z1, z2⟩ | z
          · omega
          · obtain ⟨c2, op2, ar2, w1, w2, w3⟩ := gS 1 r (by decide) z1
            have w4 := ST_stop (by omega) (by decide) (fun j hj => PJ j (by omega)) (by
              rcases cx1 with z | z
              · exact Or.inl z
              · right; rw [z]; decide) (ST_one J1 hn.2.2.2.2.2.2 hra hro w3)
            obtain ⟨w5, w6, w7⟩ := z2 c2 pd op2 _ w4 (by omega) (by omega)
            refine ih (OI none) (OI (some s1)) (x4 + 1) (s1 + 1) (i1 + 1) p1 (c2 + 1) _ _ _ _ _ ⟨none, some s1, none, some c2, ψor ψ β, ⟨rfl, rfl⟩, ⟨by omega, by omega, by omega, by omega, by omega, by omega, by show pd + 1 + 0 ≤ 400; omega⟩, HC_or hC gC (by omega) (by omega), HRR_or hR w2 (by omega) (by omega), ⟨fun k hk => ?_, (fun k hk => nomatch hk)⟩, AGR_t A1 (AGR_u (by omega)) (Nat.le_refl _), AGR_t A2 (AGR_u (by omega)) (Nat.le_refl _), PLR_u (fun j hj => PJ j (by omega)) (by decide), ?_, w7⟩ h
            · cases hk
              exact ⟨zu_eq _ _ _, zu_eq _ _ _⟩
            · show INVb (zu pl1 pd 29) (pd + 1) = INVb pl0 pd
              rw [INV_1 (by rw [zu_eq]; decide), INV_agr _ (AGR_u (Nat.le_refl _))]
              exact IB
          · omega
        · replace h := xp_f (by decide +kernel) h
          cases h
          refine Or.inr ⟨s1, i1, p1, c1, pd1, _, op1, ar1, pl1, pa1, ψend ψ β, rfl, ⟨by omega, by omega, by omega, by omega, by omega, by omega, by omega⟩, HC_end hC gC (by omega) (by omega), A1, A2, gP, II, fun least r hl hr => ?_, ⟨q1, q2⟩, gE⟩
          have hz : least = 1 := by omega
          subst hz
          obtain ⟨c2, op2, ar2, w1, w2, w3⟩ := gS 1 r (by decide) hr
          exact ⟨c2, op2, _, w1, HRR_end hR w2 (by omega) (by omega), ST_one J1 hn.2.2.2.2.2.2 hra hro w3⟩
theorem s_test {T : Nat → Int} {n m : Nat} {qs rs : Nat → Nat} {tk vl W : Nat → Int} {x1 : Int} {o : OX} (hL : LEX T n m qs rs tk vl) (hW : ∀ k : Nat, k < 8 → W k = zcd k) (hx : x1 = 0 ∨ x1 = 1) {fT fQ : Int → (Nat → Int) → (Nat → Int) → Int → Int → Int → (Nat → Int) → Option (Int × Int × Int × Int × (Nat → Int))} (hQ : PPlain T n m qs rs tk vl W x1 o fQ) : PTest T n m qs rs tk vl W x1 o (fb_LawReader_readTest fT fQ) := by
  intro b s i p O v hb h1i hi hs hp h c pd op ar pl pa hc hpd hP hcx hE
  unfold fb_LawReader_readTest at h
  exact t_7 hL hW hx hQ hb hs h1i hP hcx zfu (-1) (-1) 0 s i p c O op ar pl pa ⟨none, none, none, none, _, ⟨rfl, rfl⟩, ⟨by omega, hi, hp, by omega, by omega, hc, hpd⟩, ⟨PRE_0, (fun j h1 h2 => by omega), AGR_0, (fun k hk => nomatch hk), (fun k hk => nomatch hk)⟩, ⟨PRE_0, (fun j h1 h2 => by omega), ⟨AGR_0, AGR_0⟩, (fun k hk => nomatch hk), (fun k hk => nomatch hk)⟩, ⟨(fun k hk => nomatch hk), (fun k hk => nomatch hk)⟩, AGR_0, AGR_0, hP, rfl, hE⟩ h
theorem t_both {T : Nat → Int} {n m : Nat} {qs rs : Nat → Nat} {tk vl W : Nat → Int} {x1 : Int} {o : OX} (hL : LEX T n m qs rs tk vl) (hW : ∀ k : Nat, k < 8 → W k = zcd k) (hx : x1 = 0 ∨ x1 = 1) : ∀ D : Nat, PTest T n m qs rs tk vl W x1 o (g_LawReader_readTest D).1 ∧ PPlain T n m qs rs tk vl W x1 o (g_LawReader_readTest D).2 := by
  intro D
  induction D with
  | zero => exact ⟨(fun b s i p O v _ _ _ _ _ h => nomatch h), (fun b s i p O v _ _ _ _ _ h => nomatch h)⟩
  | succ D ih => exact ⟨s_test hL hW hx ih.2, s_plain hL hW hx ih.1⟩
theorem S_test {T : Nat → Int} {n m : Nat} {qs rs : Nat → Nat} {tk vl W : Nat → Int} {x1 : Int} {o : OX} (hL : LEX T n m qs rs tk vl) (hW : ∀ k : Nat, k < 8 → W k = zcd k) (hx : x1 = 0 ∨ x1 = 1) : PTest T n m qs rs tk vl W x1 o f_LawReader_readTest := fun b s i p O v h1 h2 h3 h4 h5 h => (t_both hL hW hx zdp).1 b s i p O v h1 h2 h3 h4 h5 (by unfold f_LawReader_readTest at h; exact h)
