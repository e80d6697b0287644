theorem r_and {T : Nat → Int} {n m : Nat} {qs rs : Nat → Nat} {tk vl W : Nat → Int} {x1 : Int} {o : OX} (hL : LEX T n m qs rs tk vl) {i c p pd b : Nat} {op ar pl pa : Nat → Int} {t a1 a2 a3 a4 a5 a6 a7 a9 a10 : Int} {f1 f2 f3 f4 : Nat → Int} (hi : i ≤ m) (hc : c ≤ 1000) (hp : p ≤ 50) (hpd : pd ≤ 400) (hb : b ≤ 8) (him : i < m) (h : f_HM_behindTest_22 (n : Int) T 1 (qs i : Int) (rs i : Int) (SO T n (qs i)) (WO T n (qs i) (rs i)) (-1) 0 (c : Int) (pd : Int) (b : Int) op ar pl pa = some (t, a1, a2, a3, a4, a5, a6, a7, a9, a10, f1, f2, f3, f4)) (g : ∃ N, f_HM_readExpression_20 (n : Int) T W N x1 t a1 a2 a3 a4 a5 a6 a7 (p : Int) a9 a10 f1 f2 f3 f4 = some o) : ∃ r, ST 2 pl pa c pd op ar r ∧ ∀ (c' pd' : Nat) (op' ar' : Nat → Int), r = ((c' : Int), (pd' : Int), op', ar') → c' ≤ 1000 → pd' ≤ 1000 → c' < 400 ∧ pd' < 400 ∧ EX T n W x1 qs rs o 0 (i + 1) (c' + 1) p (pd' + 1) b (zu op' c' 28) (zu ar' c' 0) (zu pl pd' 28) (zu pa pd' (c' : Int)) := by
  unfold f_HM_behindTest_22 at h
  replace h := xp_f (by decide +kernel) h
  unfold f_HM_behindTest_32 at h
  obtain ⟨v1, v2, w3, w4, e1, h⟩ := xz_d4 h
  replace h := xp_f (by decide +kernel) h
  unfold f_HM_behindTest_47 at h
  obtain ⟨v5, w6, w7, e2, h⟩ := xz_d3 h
  replace h := xp_f (by decide +kernel) h
  unfold f_HM_behindTest_66 at h
  obtain ⟨v8, w9, w10, e3, h⟩ := xz_d3 h
  obtain ⟨v11, v12, v13, v14, e4, h⟩ := xz_d4 h
  have g2 := x_next hL him e4
  cases g2
  refine ⟨(v1, v2, w3, w4), ⟨zfu, by unfold f_HM_settle at e1; exact e1⟩, fun c' pd' op' ar' er h1 h2 => ?_⟩
  cases er
  obtain ⟨g3, g4⟩ := x_push h2 e2
  cases g4
  obtain ⟨g5, g6⟩ := x_emit h1 e3
  cases g6
  cases h
  exact ⟨g5, g3, g⟩
theorem r_or {T : Nat → Int} {n m : Nat} {qs rs : Nat → Nat} {tk vl W : Nat → Int} {x1 : Int} {o : OX} (hL : LEX T n m qs rs tk vl) {i c p pd b : Nat} {op ar pl pa : Nat → Int} {t a1 a2 a3 a4 a5 a6 a7 a9 a10 : Int} {f1 f2 f3 f4 : Nat → Int} (hi : i ≤ m) (hc : c ≤ 1000) (hp : p ≤ 50) (hpd : pd ≤ 400) (hb : b ≤ 8) (him : i < m) (h : f_HM_behindTest_22 (n : Int) T 0 (qs i : Int) (rs i : Int) (SO T n (qs i)) (WO T n (qs i) (rs i)) (-1) 0 (c : Int) (pd : Int) (b : Int) op ar pl pa = some (t, a1, a2, a3, a4, a5, a6, a7, a9, a10, f1, f2, f3, f4)) (g : ∃ N, f_HM_readExpression_20 (n : Int) T W N x1 t a1 a2 a3 a4 a5 a6 a7 (p : Int) a9 a10 f1 f2 f3 f4 = some o) : ∃ r, ST 1 pl pa c pd op ar r ∧ ∀ (c' pd' : Nat) (op' ar' : Nat → Int), r = ((c' : Int), (pd' : Int), op', ar') → c' ≤ 1000 → pd' ≤ 1000 → c' < 400 ∧ pd' < 400 ∧ EX T n W x1 qs rs o 0 (i + 1) (c' + 1) p (pd' + 1) b (zu op' c' 29) (zu ar' c' 0) (zu pl pd' 29) (zu pa pd' (c' : Int)) := by
  unfold f_HM_behindTest_22 at h
  replace h := xp_t (by decide +kernel) h
  unfold f_HM_behindTest_32 at h
  obtain ⟨v1, v2, w3, w4, e1, h⟩ := xz_d4 h
  replace h := xp_t (by decide +kernel) h
  unfold f_HM_behindTest_47 at h
  obtain ⟨v5, w6, w7, e2, h⟩ := xz_d3 h
  replace h := xp_t (by decide +kernel) h
  unfold f_HM_behindTest_66 at h
  obtain ⟨v8, w9, w10, e3, h⟩ := xz_d3 h
  obtain ⟨v11, v12, v13, v14, e4, h⟩ := xz_d4 h
  have g2 := x_next hL him e4
  cases g2
  refine ⟨(v1, v2, w3, w4), ⟨zfu, by unfold f_HM_settle at e1; exact e1⟩, fun c' pd' op' ar' er h1 h2 => ?_⟩
  cases er
  obtain ⟨g3, g4⟩ := x_push h2 e2
  cases g4
  obtain ⟨g5, g6⟩ := x_emit h1 e3
  cases g6
  cases h
  exact ⟨g5, g3, g⟩
theorem e_test {T : Nat → Int} {n m : Nat} {qs rs : Nat → Nat} {tk vl W : Nat → Int} {x1 : Int} {o : OX} (hL : LEX T n m qs rs tk vl) {i c p pd b : Nat} {op ar pl pa : Nat → Int} (hi : i ≤ m) (hc : c ≤ 1000) (hp : p ≤ 50) (hpd : pd ≤ 400) (hb : b ≤ 8) (hP : PLR pl pd) (h : EX T n W x1 qs rs o 2 i c p pd b op ar pl pa) :
    (tk i = 264 ∧ i < m ∧ ∃ r, ST 2 pl pa c pd op ar r ∧ ∀ (c' pd' : Nat) (op' ar' : Nat → Int), r = ((c' : Int), (pd' : Int), op', ar') → c' ≤ 1000 → pd' ≤ 1000 → c' < 400 ∧ pd' < 400 ∧ EX T n W x1 qs rs o 0 (i + 1) (c' + 1) p (pd' + 1) b (zu op' c' 28) (zu ar' c' 0) (zu pl pd' 28) (zu pa pd' (c' : Int))) ∨
    (tk i = 263 ∧ i < m ∧ ∃ r, ST 1 pl pa c pd op ar r ∧ ∀ (c' pd' : Nat) (op' ar' : Nat → Int), r = ((c' : Int), (pd' : Int), op', ar') → c' ≤ 1000 → pd' ≤ 1000 → c' < 400 ∧ pd' < 400 ∧ EX T n W x1 qs rs o 0 (i + 1) (c' + 1) p (pd' + 1) b (zu op' c' 29) (zu ar' c' 0) (zu pl pd' 29) (zu pa pd' (c' : Int))) ∨
    ((tk i ≠ 264 ∧ tk i ≠ 263) ∧ ((INVb pl pd = -1 ∧ EX T n W x1 qs rs o 4 i c p pd b op ar pl pa) ∨ (INVb pl pd ≠ -1 ∧ tk i ≠ 41 ∧ FL qs o i) ∨
      (INVb pl pd ≠ -1 ∧ tk i = 41 ∧ i < m ∧ ∃ r, ST 1 pl pa c pd op ar r ∧ ∀ (c' pd' b' : Nat) (op' ar' : Nat → Int), r = ((c' : Int), ((pd' + 1 : Nat) : Int), op', ar') → b = b' + 1 → EX T n W x1 qs rs o 2 (i + 1) c' p pd' b' op' ar' pl pa))) := by
  obtain ⟨N, h⟩ := h
  cases N with
  | zero => exact nomatch h
  | succ N =>
    replace h : f_HM_readExpression_20_b (n : Int) T W (f_HM_readExpression_20 (n : Int) T W N) x1 2 (qs i : Int) (rs i : Int) (SO T n (qs i)) (WO T n (qs i) (rs i)) (-1) 0 (c : Int) (p : Int) (pd : Int) (b : Int) op ar pl pa = some o := h
    unfold f_HM_readExpression_20_b at h
    replace h := xp_f (by decide +kernel) (xp_f (by decide +kernel) h)
    replace h := xp_t (by decide +kernel) (xp_t (by decide +kernel) (xp_t (by decide +kernel) h))
    obtain ⟨t, a1, a2, a3, a4, a5, a6, a7, a9, a10, f1, f2, f3, f4, e1, h⟩ := xz_d14 h
    unfold f_HM_readExpression_72 at h
    unfold f_HM_behindTest at e1
    obtain ⟨v1, e2, e1⟩ := xz_d1 e1
    rcases x_word hL hi 12 (by decide) (by rfl) e2 with ⟨q1, q2⟩ | ⟨q1, q2⟩
    · subst q1
      replace e1 := xp_t (by decide +kernel) e1
      have him := LEX_lt hL hi (by omega)
      exact Or.inl ⟨by omega, him, r_and hL hi hc hp hpd hb him e1 ⟨N, h⟩⟩
    · subst q1
      replace e1 := xp_f (by decide +kernel) e1
      obtain ⟨v2, e3, e1⟩ := xz_d1 e1
      rcases x_word hL hi 11 (by decide) (by rfl) e3 with ⟨q3, q4⟩ | ⟨q3, q4⟩
      · subst q3
        replace e1 := xp_f (by decide +kernel) e1
        have him := LEX_lt hL hi (by omega)
        exact Or.inr (Or.inl ⟨by omega, him, r_or hL hi hc hp hpd hb him e1 ⟨N, h⟩⟩)
      · subst q3
        replace e1 := xp_t (by decide +kernel) e1
        refine Or.inr (Or.inr ⟨⟨by omega, by omega⟩, ?_⟩)
        obtain ⟨v3, e4, e1⟩ := xz_d1 e1
        have g1 := x_inner hP hpd e4
        have ir := INV_r pd hP
        subst g1
        rw [zwi (x := INVb pl pd) (by omega), zwi (x := -1) (by decide)] at e1
        by_cases c2 : INVb pl pd = -1
        · rw [if_neg (fun z => z c2)] at e1
          cases e1
          exact Or.inl ⟨c2, N, h⟩
        · rw [if_pos c2] at e1
          obtain ⟨v4, e5, e1⟩ := xz_d1 e1
          obtain ⟨u5, u6, u7, u8, u9, u10, e6, e1⟩ := xz_d6 e1
          rcases x_sign hL hi (by decide) e5 with ⟨q5, q6⟩ | ⟨q5, q6⟩
          · subst q5
            have him := LEX_lt hL hi (by omega)
            have g2 := x_must1 hL him e6
            cases g2
            replace e1 := xp_f (by decide +kernel) e1
            obtain ⟨u11, u12, w13, w14, e7, e1⟩ := xz_d4 e1
            replace e1 := xp_n (xp_n e1)
            refine Or.inr (Or.inr ⟨c2, q6, him, (u11, u12, w13, w14), ⟨zfu, by unfold f_HM_settle at e7; exact e7⟩, fun c' pd' b' op' ar' er eb => ?_⟩)
            cases er
            subst eb
            rw [show ((pd' + 1 : Nat) : Int) - 1 = (pd' : Int) from by omega, show ((b' + 1 : Nat) : Int) - 1 = (b' : Int) from by omega] at e1
            cases e1
            exact ⟨N, h⟩
          · subst q5
            have g2 := x_must0 e6
            cases g2
            replace e1 := xp_t (by decide +kernel) e1
            cases e1
            exact Or.inr (Or.inl ⟨c2, q6, e_bad h⟩)
theorem e_over {T : Nat → Int} {n : Nat} {qs rs : Nat → Nat} {W : Nat → Int} {x1 : Int} {o : OX} {i c p pd b : Nat} {op ar pl pa : Nat → Int} (h : EX T n W x1 qs rs o 4 i c p pd b op ar pl pa) : ∃ (r1 r2 : Int) (r3 r4 : Nat → Int), ST 1 pl pa c pd op ar (r1, r2, r3, r4) ∧ o = ((qs i : Int), (rs i : Int), SO T n (qs i), WO T n (qs i) (rs i), -1, 0, r1, (p : Int), r2, (b : Int), r3, r4, pl, pa) := by
  obtain ⟨N, h⟩ := h
  cases N with
  | zero => exact nomatch h
  | succ N =>
    replace h : f_HM_readExpression_20_b (n : Int) T W (f_HM_readExpression_20 (n : Int) T W N) x1 4 (qs i : Int) (rs i : Int) (SO T n (qs i)) (WO T n (qs i) (rs i)) (-1) 0 (c : Int) (p : Int) (pd : Int) (b : Int) op ar pl pa = some o := h
    unfold f_HM_readExpression_20_b at h
    replace h := xp_t (by decide +kernel) (xp_f (by decide +kernel) h)
    unfold f_HM_readExpression_76 at h
    obtain ⟨v1, v2, w3, w4, e1, h⟩ := xz_d4 h
    cases h
    exact ⟨v1, v2, w3, w4, ⟨zfu, by unfold f_HM_settle at e1; exact e1⟩, rfl⟩
/-! the pile above a context -/
theorem PIL_agr {pl pl' : Nat → Int} {pd : Nat} : ∀ l : List Int, AGR pl pl' (pd + l.length) → PIL pl pd l → PIL pl' pd l := by
  intro l
  induction l with
  | nil => intro _ _; trivial
  | cons a l ih =>
    intro h g
    rw [List.length_cons] at h
    exact ⟨by rw [h (pd + l.length) (by omega)]; exact g.1, ih (fun j hj => h j (by omega)) g.2⟩
theorem INV_pend {pl : Nat → Int} {pd : Nat} : ∀ l : List Int, AR4 l → PIL pl pd l → INVb pl (pd + l.length) = INVb pl pd := by
  intro l
  induction l with
  | nil => intro _ _; rfl
  | cons a l ih =>
    intro h g
    have ha := h a List.mem_cons_self
    have e := ih (fun x hx => h x (List.mem_cons_of_mem _ hx)) g.2
    show (if 30 ≤ pl (pd + l.length) then pl (pd + l.length) else INVb pl (pd + l.length)) = INVb pl pd
    rw [g.1, if_neg (by omega), e]
theorem CMV_pend {pl : Nat → Int} {pd : Nat} : ∀ l : List Int, AR4 l → PIL pl pd l → CMV pl (pd + l.length) = CMV pl pd := by
  intro l
  induction l with
  | nil => intro _ _; rfl
  | cons a l ih =>
    intro h g
    have ha := h a List.mem_cons_self
    have e := ih (fun x hx => h x (List.mem_cons_of_mem _ hx)) g.2
    show (if 20 ≤ pl (pd + l.length) ∧ pl (pd + l.length) ≤ 23 then CMV pl (pd + l.length) else if 24 ≤ pl (pd + l.length) ∧ pl (pd + l.length) ≤ 26 then 1 else 0) = CMV pl pd
    rw [g.1, if_pos ha, e]
theorem PLR_pend {pl : Nat → Int} {pd : Nat} (hP : PLR pl pd) : ∀ l : List Int, AR4 l → PIL pl pd l → PLR pl (pd + l.length) := by
  intro l
  induction l with
  | nil => intro _ _; exact hP
  | cons a l ih =>
    intro h g k hk
    have ha := h a List.mem_cons_self
    have e := ih (fun x hx => h x (List.mem_cons_of_mem _ hx)) g.2
    rw [List.length_cons] at hk
    rcases Nat.lt_or_ge k (pd + l.length) with q | q
    · exact e k q
    · rw [show k = pd + l.length from by omega, g.1]; omega
theorem PLR_agr {pl pl' : Nat → Int} {pd : Nat} (h : PLR pl pd) (g : AGR pl pl' pd) : PLR pl' pd := fun k hk => by rw [g k hk]; exact h k hk
theorem PLR_u {pl : Nat → Int} {pd : Nat} {x : Int} (h : PLR pl pd) (hx : 20 ≤ x ∧ x ≤ 31) : PLR (zu pl pd x) (pd + 1) := fun k hk => by
  rcases Nat.lt_or_ge k pd with q | q
  · rw [zu_ne _ _ (by omega)]; exact h k q
  · rw [show k = pd from by omega, zu_eq]; exact hx
theorem AGR_w {f g : Nat → Int} {k l : Nat} (h : AGR f g l) (hk : k ≤ l) : AGR f g k := fun j hj => h j (by omega)
def PPart (T : Nat → Int) (n m : Nat) (qs rs : Nat → Nat) (tk vl W : Nat → Int) (x1 : Int) (o : OX) (f : Int → (Nat → Int) → (Nat → Int) → Int → Int → Int → (Nat → Int) → Option (Int × Int × Int × Int × (Nat → Int))) : Prop :=
  ∀ (b s i p : Nat) (O : Nat → Int) (v : Int × Int × Int × Int × (Nat → Int)), b ≤ 8 → 1 ≤ i → i ≤ m → s ≤ i + 23 → p ≤ 50 → f (b : Int) tk vl (s : Int) (i : Int) (p : Int) O = some v →
  ∀ (c pd : Nat) (op ar pl pa : Nat → Int), c ≤ 400 → pd ≤ 400 → PLR pl pd → EX T n W x1 qs rs o 1 i c p pd b op ar pl pa →
    (v.1 = 0 ∧ ∃ i' : Nat, i' ≤ m ∧ v.2.2.1 = (i' : Int) ∧ FL qs o i') ∨
    ∃ (s' i' p' c' : Nat) (O' op' ar' pl' pa' : Nat → Int) (ν : LNu), v = (1, (s' : Int), (i' : Int), (p' : Int), O') ∧ (i < i' ∧ i' ≤ m ∧ p' ≤ 50 ∧ s' + i ≤ s + i' ∧ c' ≤ 400) ∧ LEN ν 1 ∧ CSg O O' s s' (17 - 2 * b) ν ∧ RSg op ar op' ar' c c' (17 - 2 * b) ν ∧ AGR pl pl' pd ∧ AGR pa pa' pd ∧ EX T n W x1 qs rs o 3 i' c' p' pd b op' ar' pl' pa'
def PSum (T : Nat → Int) (n m : Nat) (qs rs : Nat → Nat) (tk vl W : Nat → Int) (x1 : Int) (o : OX) (f : Int → (Nat → Int) → (Nat → Int) → Int → Int → Int → (Nat → Int) → Option (Int × Int × Int × Int × (Nat → Int))) : Prop :=
  ∀ (b s i p : Nat) (O : Nat → Int) (v : Int × Int × Int × Int × (Nat → Int)), b ≤ 8 → 1 ≤ i → i ≤ m → s ≤ i + 23 → p ≤ 50 → f (b : Int) tk vl (s : Int) (i : Int) (p : Int) O = some v →
  ∀ (c pd : Nat) (op ar pl pa : Nat → Int), c ≤ 400 → pd ≤ 400 → PLR pl pd → (pd = 0 ∨ 24 ≤ pl (pd - 1)) → EX T n W x1 qs rs o 1 i c p pd b op ar pl pa →
    (v.1 = 0 ∧ ∃ i' : Nat, i' ≤ m ∧ v.2.2.1 = (i' : Int) ∧ FL qs o i') ∨
    ∃ (s' i' p' c' : Nat) (O' op' ar' pl' pa' : Nat → Int) (ν : LNu) (l : List Int), v = (1, (s' : Int), (i' : Int), (p' : Int), O') ∧ (i < i' ∧ i' ≤ m ∧ p' ≤ 50 ∧ s' + i ≤ s + i' ∧ c' ≤ 400 ∧ l.length ≤ 2 ∧ pd + l.length ≤ 400) ∧ AR4 l ∧ PIL pl' pd l ∧ LEN ν (l.length + 1) ∧ CSg O O' s s' (19 - 2 * b) (VL l ν) ∧ RSg op ar op' ar' c c' (19 - 2 * b) ν ∧ AGR pl pl' pd ∧ AGR pa pa' pd ∧ NOP (tk i') ∧ EX T n W x1 qs rs o 3 i' c' p' (pd + l.length) b op' ar' pl' pa'
theorem BDS_hi {x : Int} (h : 24 ≤ x) : BDS x ≤ 4 := by
  unfold BDS
  split
  · split
    · decide
    · split
      · decide
      · split
        · decide
        · rw [if_neg (by omega)]; decide
  · decide
theorem p_125 {T : Nat → Int} {n m : Nat} {qs rs : Nat → Nat} {tk vl : Nat → Int} (hL : LEX T n m qs rs tk vl) {i : Nat} (hi : i < m) {k : Int} {s p : Nat} {O : Nat → Int} {v : Int × Int × Int × Int × (Nat → Int)} {f1 f2 : Int → (Nat → Int) → (Nat → Int) → Int → Int → Int → (Nat → Int) → Option (Int × Int × Int × Int × (Nat → Int))} (hs : s < 424) (hk : 0 ≤ k ∧ k < 16) (hv : 0 ≤ vl i ∧ vl i ≤ 5000) (h7 : tk i ≠ 257) (h : f_LawReader_readPart_125 f1 f2 tk vl k (s : Int) (i : Int) (p : Int) O = some v) : v = (1, ((s + 1 : Nat) : Int), ((i + 1 : Nat) : Int), (p : Int), zu O s (16 * vl i + k)) := by
  have hn := hL.2.1
  have hm := hL.2.2.1
  have hr := (tk_r (hL.2.2.2.2.1 i (by omega))).1
  unfold f_LawReader_readPart_125 at h
  replace h := (xp_g h).2
  rw [zwi (x := (i : Int)) (by omega), Int.toNat_natCast] at h
  obtain ⟨v2, v3, a4, e1, h⟩ := xz_d3 h
  have g1 := p_order hs hk hv e1
  cases g1
  replace h := p_tok hL (by omega) h
  obtain ⟨v6, v7, e2, h⟩ := xz_d2 h
  rcases p_pass hL (by omega) (by omega) h7 e2 with ⟨_, _, q⟩ | ⟨q, _⟩
  · cases q
    replace h := xp_f (by decide +kernel) h
    cases h
    rfl
  · exact absurd rfl q
theorem s_part {T : Nat → Int} {n m : Nat} {qs rs : Nat → Nat} {tk vl W : Nat → Int} {x1 : Int} {o : OX} (hL : LEX T n m qs rs tk vl) (hW : ∀ k : Nat, k < 8 → W k = zcd k) (hx : x1 = 0 ∨ x1 = 1) {fS fP : Int → (Nat → Int) → (Nat → Int) → Int → Int → Int → (Nat → Int) → Option (Int × Int × Int × Int × (Nat → Int))} (hS : PSum T n m qs rs tk vl W x1 o fS) : PPart T n m qs rs tk vl W x1 o (fb_LawReader_readPart fS fP) := by
  intro b s i p O v hb h1i hi hs hp h c pd op ar pl pa hc hpd hP hE
  have hn := hL.2.1
  have hm := hL.2.2.1
  have hr := tk_r (hL.2.2.2.2.1 i hi)
  have e := e_part hL hW hi (by omega) hp hpd hb hE
  unfold fb_LawReader_readPart at h
  replace h := p_tok hL hi h
  rw [zwi (x := tk i) (by omega), zwi (x := 91) (by decide)] at h
  by_cases c91 : tk i = 91
  · rw [if_neg (fun z => z c91), zwi (x := 8) (by decide), zwi (x := (b : Int)) (by omega)] at h
    rcases Nat.lt_or_ge b 8 with hb8 | hb8
    · rw [if_neg (by omega)] at h
      obtain ⟨v3, v4, e3, h⟩ := xz_d2 h
      rcases p_pass hL hi (by decide) (by decide) e3 with ⟨_, him, q2⟩ | ⟨q1, _⟩
      · cases q2
        replace h := xp_n (xp_f (by decide +kernel) h)
        obtain ⟨v6, v7, v8, v9, a10, e4, h⟩ := xz_d5 h
        have E1 : pd < 400 ∧ EX T n W x1 qs rs o 1 (i + 1) c p (pd + 1) (b + 1) op ar (zu pl pd 31) (zu pa pd 0) := by
          rcases e with e | e | ⟨w, _, e, _⟩ | ⟨e, _⟩
          · exact e.2.2.2
          · omega
          · omega
          · omega
        rcases hS (b + 1) s (i + 1) p O _ (by omega) (by omega) (by omega) (by omega) hp e4 c (pd + 1) op ar (zu pl pd 31) (zu pa pd 0) hc (by omega) (PLR_u hP (by decide)) (Or.inr (by rw [show pd + 1 - 1 = pd from by omega, zu_eq]; decide)) E1.2 with ⟨g1, i', g2, g3, g4⟩ | ⟨s', i', p', c', O', op', ar', pl', pa', ν, l, gv, gn, gA, gP, gL, gC, gR, ga, gb, gN, gE⟩
        · replace g1 : v6 = 0 := g1
          replace g3 : v8 = (i' : Int) := g3
          subst g1
          replace h := xp_t (by decide +kernel) h
          cases h
          exact Or.inl ⟨rfl, i', g2, g3, g4⟩
        · cases gv
          replace h := xp_f (by decide +kernel) h
          obtain ⟨v11, v12, e5, h⟩ := xz_d2 h
          have P1 : PLR pl' (pd + 1) := PLR_agr (PLR_u hP (by decide)) ga
          have I1 : INVb pl' (pd + 1) = 31 := by
            show (if 30 ≤ pl' pd then pl' pd else INVb pl' pd) = 31
            rw [ga pd (by omega), zu_eq, if_pos (by decide)]
          have I2 := INV_pend l gA gP
          rw [I1] at I2
          have eS := e_sum hL gn.2.1 (by omega) gn.2.2.1 (by omega) (by omega) hx (PLR_pend P1 l gA gP) gE
          rcases eS with ⟨q, r, q1, _⟩ | ⟨_, eS⟩
          · exfalso; unfold TKO at q1; unfold NOP at gN; omega
          · rcases eS with ⟨_, z1, z2⟩ | ⟨_, z1, z2, r, z3, z4⟩ | z | z | z | z
            · rcases p_pass hL gn.2.1 (by decide) (by decide) e5 with ⟨y, _⟩ | ⟨_, y⟩
              · exact absurd y z1
              · cases y
                replace h := xp_t (by decide +kernel) h
                cases h
                exact Or.inl ⟨rfl, i', gn.2.1, rfl, z2⟩
            · rcases p_pass hL gn.2.1 (by decide) (by decide) e5 with ⟨_, _, y⟩ | ⟨y, _⟩
              · cases y
                replace h := xp_f (by decide +kernel) h
                cases h
                obtain ⟨c2, op2, ar2, w1, w2, w3, w4⟩ := ST_arith (by decide) l c' op' ar' ν gA gP gR gL (by omega) (by omega) (by omega) z3
                have w5 := ST_stop (by omega) (by decide) P1 (Or.inr (by rw [show pd + 1 - 1 = pd from by omega, ga pd (by omega), zu_eq]; decide)) w4
                have w6 := z4 c2 pd b op2 ar2 w5 rfl
                refine Or.inr ⟨s', i' + 1, p', c2, _, op2, ar2, pl', pa', VL l ν, rfl, ⟨by omega, by omega, by omega, by omega, w1⟩, w3, CS_d gC (by omega), RS_d w2 (by omega), fun j hj => ?_, fun j hj => ?_, w6⟩
                · rw [ga j (by omega), zu_ne _ _ (by omega)]
                · rw [gb j (by omega), zu_ne _ _ (by omega)]
              · exact absurd z1 y
            · omega
            · omega
            · omega
            · omega
      · exact absurd c91 q1
    · rw [if_pos (by omega)] at h
      cases h
      rcases e with e | e | ⟨w, _, e, _⟩ | ⟨_, e⟩
      · omega
      · omega
      · omega
      · exact Or.inl ⟨rfl, i, hi, rfl, e⟩
  · rw [if_pos c91] at h
    replace h := p_tok hL hi h
    rw [zwi (x := tk i) (by omega), zwi (x := 258) (by decide)] at h
    by_cases c8 : tk i = 258
    · rw [if_neg (fun z => z c8)] at h
      unfold f_LawReader_readPart_74 at h
      replace h := xp_t (by decide +kernel) h
      unfold f_LawReader_readPart_94 at h
      rw [zwi (x := (p : Int)) (by omega), zwi (x := 50) (by decide)] at h
      rcases Nat.lt_or_ge p 50 with hp5 | hp5
      · rw [if_pos (by omega)] at h
        replace h := xp_f (by decide +kernel) (xp_n h)
        have him := LEX_lt hL hi (by omega)
        have g1 := p_125 (p := p + 1) hL him (by omega) (by decide) (by have := hr.2.2.1 c8; omega) (by omega) h
        rcases e with e | ⟨_, _, _, e1, e2, e3⟩ | ⟨w, _, e, _⟩ | ⟨e, _⟩
        · omega
        · exact Or.inr ⟨s + 1, i + 1, p + 1, c + 1, _, _, _, pl, pa, _, g1, ⟨by omega, by omega, by omega, by omega, by omega⟩, LEN_1, CS_d (CS_num e2) (by omega), RS_d (RS_num e2) (by omega), AGR_0, AGR_0, e3⟩
        · omega
        · omega
      · rw [if_neg (by omega)] at h
        cases h
        rcases e with e | e | ⟨w, _, e⟩ | ⟨_, e⟩
        · omega
        · omega
        · omega
        · exact Or.inl ⟨rfl, i, hi, rfl, e⟩
    · rw [if_pos c8] at h
      unfold f_LawReader_readPart_74 at h
      replace h := xp_f (by decide +kernel) h
      replace h := p_tok hL hi h
      rw [zwi (x := tk i) (by omega), zwi (x := 259) (by decide)] at h
      by_cases c9 : tk i = 259
      · rw [if_neg (fun z => z c9)] at h
        unfold f_LawReader_readPart_94 at h
        rw [zwi (x := (p : Int)) (by omega), zwi (x := 50) (by decide)] at h
        rcases Nat.lt_or_ge p 50 with hp5 | hp5
        · rw [if_pos (by omega)] at h
          replace h := xp_t (by decide +kernel) (xp_n h)
          have him := LEX_lt hL hi (by omega)
          have g1 := p_125 (p := p + 1) hL him (by omega) (by decide) (by have := hr.2.2.2 c9; omega) (by omega) h
          rcases e with e | e | ⟨w, e0, _, e1, _, _, e2, e3⟩ | ⟨e, _⟩
          · omega
          · omega
          · rw [e1] at g1
            exact Or.inr ⟨s + 1, i + 1, p + 1, c + 1, _, _, _, pl, pa, _, g1, ⟨by omega, by omega, by omega, by omega, by omega⟩, LEN_1 (f := fun E => E w), CS_d (CS_word e0) (by omega), RS_d (RS_word e0) (by omega), AGR_0, AGR_0, e3⟩
          · omega
        · rw [if_neg (by omega)] at h
          cases h
          rcases e with e | e | ⟨w, _, e⟩ | ⟨_, e⟩
          · omega
          · omega
          · omega
          · exact Or.inl ⟨rfl, i, hi, rfl, e⟩
      · rw [if_pos c9] at h
        cases h
        rcases e with e | e | ⟨w, _, e⟩ | ⟨_, e⟩
        · omega
        · omega
        · omega
        · exact Or.inl ⟨rfl, i, hi, rfl, e⟩
