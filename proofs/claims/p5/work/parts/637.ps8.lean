/-! EXPRESSIONS, whole -/
theorem X_sum {T : Nat → Int} {n m : Nat} {qs rs : Nat → Nat} {tk vl W : Nat → Int} (hL : LEX T n m qs rs tk vl) (hW : ∀ k : Nat, k < 8 → W k = zcd k) {s i p c : Nat} {O op ar pl pa : Nat → Int} {pd0 b0 : Int} {v : Int × Int × Int × Int × (Nat → Int)} {o : OX} (h1 : 1 ≤ i) (hi : i ≤ m) (hs : s ≤ i + 23) (hp : p ≤ 50) (hc : c ≤ 400) (h : f_LawReader_readSum 0 tk vl (s : Int) (i : Int) (p : Int) O = some v)
    (g : f_HM_readExpression 0 (n : Int) T W (qs i : Int) (rs i : Int) (SO T n (qs i)) (WO T n (qs i) (rs i)) (-1) 0 (c : Int) (p : Int) pd0 b0 op ar pl pa = some o) :
    (v.1 = 0 ∧ ∃ i' : Nat, i' ≤ m ∧ v.2.2.1 = (i' : Int) ∧ FL qs o i') ∨ ∃ (s' i' p' c' : Nat) (O' op' ar' pl' pa' : Nat → Int) (ν : LNu), v = (1, (s' : Int), (i' : Int), (p' : Int), O') ∧ o = ((qs i' : Int), (rs i' : Int), SO T n (qs i'), WO T n (qs i') (rs i'), -1, 0, (c' : Int), (p' : Int), 0, 0, op', ar', pl', pa') ∧ (i < i' ∧ i' ≤ m ∧ p' ≤ 50 ∧ s' + i ≤ s + i' ∧ c' ≤ 400) ∧ LEN ν 1 ∧ CSg O O' s s' 19 ν ∧ RSg op ar op' ar' c c' 19 ν := by
  have hnm := hL.2.1
  have hm := hL.2.2.1
  unfold f_HM_readExpression at g
  replace g := xp_t (by decide +kernel) g
  unfold f_HM_readExpression_19 at g
  have hP0 : PLR pl 0 := fun k hk => by omega
  have hx : (0 : Int) = 0 ∨ (0 : Int) = 1 := Or.inl rfl
  rcases S_sum (x1 := 0) (o := o) hL hW hx 0 s i p O v (by decide) h1 hi hs hp h c 0 op ar pl pa hc (by decide) hP0 (Or.inl rfl) ⟨zfu, g⟩ with z | ⟨s', i', p', c', O', op', ar', pl', pa', ν, l, gv, gn, gA, gP, gL, gC, gR, ga, gb, gN, gE⟩
  · exact Or.inl z
  · have P1 : PLR pl' 0 := fun k hk => by omega
    have I1 := INV_pend (pl := pl') (pd := 0) l gA gP
    have i0 : INVb pl' 0 = -1 := rfl
    rw [i0] at I1
    rcases e_sum hL gn.2.1 (by omega) gn.2.2.1 gn.2.2.2.2.2.2 (by decide) hx (PLR_pend P1 l gA gP) gE with ⟨q, r, q1, _⟩ | ⟨_, z | z | ⟨_, _, z⟩ | z | z | z⟩
    · exfalso; unfold TKO at q1; unfold NOP at gN; omega
    · omega
    · omega
    · obtain ⟨r1, r2, r3, r4, z1, z2⟩ := e_over z
      obtain ⟨c2, op2, ar2, w1, w2, w3, w4⟩ := ST_arith (by decide) l c' op' ar' ν gA gP gR gL (by omega) (by omega) (by omega) z1
      have w5 := ST_stop (by omega) (by decide) P1 (Or.inl rfl) w4
      cases w5
      exact Or.inr ⟨s', i', p', c2, O', _, _, pl', pa', VL l ν, gv, z2, ⟨by omega, by omega, by omega, by omega, w1⟩, w3, gC, w2⟩
    · omega
    · omega
    · omega
theorem X_test {T : Nat → Int} {n m : Nat} {qs rs : Nat → Nat} {tk vl W : Nat → Int} (hL : LEX T n m qs rs tk vl) (hW : ∀ k : Nat, k < 8 → W k = zcd k) {s i p c : Nat} {O op ar pl pa : Nat → Int} {pd0 b0 : Int} {v : Int × Int × Int × Int × (Nat → Int)} {o : OX} (h1 : 1 ≤ i) (hi : i ≤ m) (hs : s ≤ i + 23) (hp : p ≤ 50) (hc : c ≤ 400) (h : f_LawReader_readTest 0 tk vl (s : Int) (i : Int) (p : Int) O = some v)
    (g : f_HM_readExpression 1 (n : Int) T W (qs i : Int) (rs i : Int) (SO T n (qs i)) (WO T n (qs i) (rs i)) (-1) 0 (c : Int) (p : Int) pd0 b0 op ar pl pa = some o) :
    (v.1 = 0 ∧ ∃ i' : Nat, i' ≤ m ∧ v.2.2.1 = (i' : Int) ∧ FL qs o i') ∨ ∃ (s' i' p' c' : Nat) (O' op' ar' pl' pa' : Nat → Int) (β : BNu), v = (1, (s' : Int), (i' : Int), (p' : Int), O') ∧ o = ((qs i' : Int), (rs i' : Int), SO T n (qs i'), WO T n (qs i') (rs i'), -1, 0, (c' : Int), (p' : Int), 0, 0, op', ar', pl', pa') ∧ (i < i' ∧ i' ≤ m ∧ p' ≤ 50 ∧ s' + i ≤ s + i' ∧ c' ≤ 400) ∧ CSg O O' s s' 20 (BL β) ∧ RSg op ar op' ar' c c' 20 (BL β) := by
  have hnm := hL.2.1
  have hm := hL.2.2.1
  unfold f_HM_readExpression at g
  replace g := xp_f (by decide +kernel) g
  unfold f_HM_readExpression_19 at g
  have hP0 : PLR pl 0 := fun k hk => by omega
  have hx : (1 : Int) = 0 ∨ (1 : Int) = 1 := Or.inr rfl
  rcases S_test (x1 := 1) (o := o) hL hW hx 0 s i p O v (by decide) h1 hi hs hp h c 0 op ar pl pa hc (by decide) hP0 (Or.inl ⟨rfl, rfl⟩) ⟨zfu, g⟩ with z | ⟨s', i', p', c', pd', O', op', ar', pl', pa', β, gv, gn, gC, ga, gb, gP, gI, gS, gt, gE⟩
  · exact Or.inl z
  · have P1 : PLR pl' 0 := fun k hk => by omega
    have i0 : INVb pl 0 = -1 := rfl
    rw [i0] at gI
    rcases e_test hL gn.2.1 (by omega) gn.2.2.1 gn.2.2.2.2.2.2 (by decide) gP gE with z | z | ⟨_, ⟨_, z⟩ | z | z⟩
    · omega
    · omega
    · obtain ⟨r1, r2, r3, r4, z1, z2⟩ := e_over z
      obtain ⟨c2, op2, ar2, w1, w2, w4⟩ := gS 1 _ (by decide) z1
      have w5 := ST_stop (by omega) (by decide) P1 (Or.inl rfl) w4
      cases w5
      exact Or.inr ⟨s', i', p', c2, O', _, _, pl', pa', β, gv, z2, ⟨by omega, by omega, by omega, by omega, w1⟩, gC, w2⟩
    · omega
    · omega
/-! A CLAUSE of both -/
theorem RPush_pos {op ar : Nat → Int} {s e d : Nat} {ν : LNu} (h : RPush op ar s e d ν) (hN : LEN ν 1) : s < e := by
  rcases Nat.lt_or_ge s e with q | q
  · exact q
  · exfalso
    have e1 : e = s := by have := h.1; omega
    subst e1
    have hE : EOK (fun _ => 0) := fun j _ => by show (0 : Int) ≤ 0 ∧ (0 : Int) ≤ 100; decide
    obtain ⟨k, hk⟩ := (h.2 _ hE).2 [] BND_nil
    cases k with
    | zero =>
      cases hv : ν (fun _ => 0) with
      | none => rw [hv] at hk; exact nomatch hk
      | some l =>
        rw [hv] at hk
        have hk' : some (e, l ++ []) = some (e, []) := hk
        have hl := hN _ l hE hv
        have := congrArg (fun x => (x.map (fun y => y.2.length)).getD 0) hk'
        simp at this
        subst this
        simp at hl
    | succ k => have := hk.1; omega
theorem RVal_of {op ar : Nat → Int} {s e d : Nat} {ν : LNu} (h : RPush op ar s e d ν) (hN : LEN ν 1) : RVal op ar s e d (fun E => (ν E).bind List.head?) := by
  refine RPush_c (fun E hE => ?_) h
  show ν E = ((ν E).bind List.head?).map (fun x => [x])
  cases hv : ν E with
  | none => rfl
  | some l =>
    have hl := hN E l hE hv
    match l, hl with
    | x :: [], _ => rfl
/-- what a clause is in the reference's rows of clauses and of code -/
def RCN (nC op ar : Nat → Int) (c q : Nat) (bars : Bool) (β : BNu) (ν : (Nat → Int) → Option Int) : Prop :=
  nC q = (if bars then 1 else 0) ∧
  (∃ s e : Nat, nC (q + 5) = (s : Int) ∧ nC (q + 6) = (e : Int) ∧ s ≤ c ∧ e ≤ c ∧ ((e ≤ s ∧ ∀ E, β E = some true) ∨ (s < e ∧ RG op ar s e ∧ ∃ d, d ≤ 100 ∧ BVal op ar s e d β))) ∧
  (bars = false → ∃ s e : Nat, nC (q + 3) = (s : Int) ∧ nC (q + 4) = (e : Int) ∧ s ≤ c ∧ e ≤ c ∧ RG op ar s e ∧ ∃ d, d ≤ 100 ∧ RVal op ar s e d ν)
theorem RG_x {op ar op' ar' : Nat → Int} {s e : Nat} (h : RG op ar s e) (hx : ∀ j, s ≤ j → j < e → op' j = op j ∧ ar' j = ar j) : RG op' ar' s e := fun j h1 h2 => by
  have := hx j h1 h2
  rw [this.1, this.2]
  exact h j h1 h2
theorem RCN_x {nC op ar nC' op' ar' : Nat → Int} {c c' q : Nat} {bars : Bool} {β : BNu} {ν : (Nat → Int) → Option Int} (h : RCN nC op ar c q bars β ν) (hc : c ≤ c') (h1 : ∀ k, k < 8 → nC' (q + k) = nC (q + k)) (h2 : ∀ j, j < c → op' j = op j ∧ ar' j = ar j) : RCN nC' op' ar' c' q bars β ν := by
  obtain ⟨g1, ⟨s, e, g2, g3, g4, g5, g6⟩, g7⟩ := h
  refine ⟨by rw [← g1]; exact h1 0 (by decide), ⟨s, e, by rw [← g2]; exact h1 5 (by decide), by rw [← g3]; exact h1 6 (by decide), by omega, by omega, ?_⟩, fun hb => ?_⟩
  · rcases g6 with g6 | ⟨a1, a2, d, a3, a4⟩
    · exact Or.inl g6
    · exact Or.inr ⟨a1, RG_x a2 (fun j _ j2 => h2 j (by omega)), d, a3, RVal_x a4 (Nat.le_refl _) (fun j _ j2 => h2 j (by omega))⟩
  · obtain ⟨s, e, b1, b2, b3, b4, b5, d, b6, b7⟩ := g7 hb
    exact ⟨s, e, by rw [← b1]; exact h1 3 (by decide), by rw [← b2]; exact h1 4 (by decide), by omega, by omega, RG_x b5 (fun j _ j2 => h2 j (by omega)), d, b6, RVal_x b7 (Nat.le_refl _) (fun j _ j2 => h2 j (by omega))⟩
theorem CLC_x {ord ord' : Nat → Int} {base base' p t : Nat} {bars : Bool} {β : BNu} {ν : (Nat → Int) → Option Int} (h : CLC ord base p t bars β ν) (hx : ∀ j, p ≤ j → j ≤ t → ord' (base' + j) = ord (base + j)) : CLC ord' base' p t bars β ν := by
  obtain ⟨h1, h2, h3, h4⟩ := h
  have hco : ∀ a b : Nat, p ≤ a → b ≤ t → ∀ j, a ≤ j → j < b → COP ord' base' j = COP ord base j ∧ CAR ord' base' j = CAR ord base j := fun a b ha hb j j1 j2 => by
    unfold COP CAR
    rw [hx j (by omega) (by omega)]
    exact ⟨rfl, rfl⟩
  refine ⟨by rw [hx p (Nat.le_refl _) (by omega)]; exact h1, h2, fun j j1 j2 => by rw [hx j j1 j2]; exact h3 j j1 j2, ?_⟩
  rcases h4 with ⟨a1, a2, d, a3, a4⟩ | ⟨a1, a2, m, d, a3, a4, a5⟩
  · exact Or.inl ⟨a1, by rw [hx t (by omega) (Nat.le_refl _)]; exact a2, d, a3, RVal_x a4 (Nat.le_refl _) (hco (p + 1) t (by omega) (Nat.le_refl _))⟩
  · have m1 := a4.1
    have m2 := a5.1
    exact Or.inr ⟨a1, by rw [hx t (by omega) (Nat.le_refl _)]; exact a2, m, d, a3, RVal_x a4 (Nat.le_refl _) (hco (p + 1) m (by omega) m2), RVal_x a5 (Nat.le_refl _) (hco m t (by omega) (Nat.le_refl _))⟩
theorem p_84 {tk vl O : Nat → Int} {s h0 : Nat} {k i p : Int} {v : Int × Int × Int × Int × (Nat → Int)} (hs : s < 424) (hh : h0 < s) (hk : 0 ≤ k ∧ k < 16) (hO : 0 ≤ O h0 ∧ O h0 ≤ 100000) (h : f_LawReader_readClause_84 tk vl (h0 : Int) k (s : Int) i p O = some v) : v = (1, ((s + 1 : Nat) : Int), i, p, zu (zu O s (16 * 0 + k)) h0 (16 * ((s + 1 : Nat) : Int) + O h0 % 16)) := by
  unfold f_LawReader_readClause_84 at h
  obtain ⟨u1, u2, u3, e, h⟩ := xz_d3 h
  have g := p_order hs hk (by decide) e
  cases g
  obtain ⟨u4, e2, h⟩ := xz_d1 h
  have g2 := p_aim (by omega) (by omega) (by rw [zu_ne _ _ (by omega)]; exact hO) e2
  subst g2
  cases h
  rw [zu_ne _ _ (by omega)]
/-- behind a clause's head and its sum: the class's orders from s on, the reference's code from c on -/
def CEnd (T : Nat → Int) (n m : Nat) (qs rs : Nat → Nat) (s i c j : Nat) (O nC op ar : Nat → Int) (v : Int × Int × Int × Int × (Nat → Int)) (r : Int × Int × Int × Int × Int × Int × Int × Int × Int × Int × Int × (Nat → Int) × (Nat → Int) × (Nat → Int) × (Nat → Int) × (Nat → Int)) : Prop :=
  (v.1 = 0 ∧ ∃ i' : Nat, i' ≤ m ∧ v.2.2.1 = (i' : Int) ∧ r.2.2.2.2.1 = (qs i' : Int) ∧ r.2.2.2.2.2.1 = 1) ∨
  ∃ (s' i' p' c' : Nat) (O' nC' op' ar' pl' pa' : Nat → Int) (pd' b' : Int) (bars : Bool) (β : BNu) (ν : (Nat → Int) → Option Int), v = (1, (s' : Int), (i' : Int), (p' : Int), O') ∧ r = ((qs i' : Int), (rs i' : Int), SO T n (qs i'), WO T n (qs i') (rs i'), -1, 0, ((j + 1 : Nat) : Int), (c' : Int), (p' : Int), pd', b', nC', op', ar', pl', pa') ∧ (i < i' ∧ i' ≤ m ∧ p' ≤ 50 ∧ c' ≤ 400 ∧ s' ≤ i' + 2 * (j + 1) ∧ c ≤ c') ∧ AGR O O' s ∧ (∃ t, s' = t + 1 ∧ CLC O' 0 s t bars β ν) ∧ AGR nC nC' (8 * j) ∧ AGR op op' c ∧ AGR ar ar' c ∧ RCN nC' op' ar' c' (8 * j) bars β ν
theorem CLC_mk {O2 O4 : Nat → Int} {s s2 d : Nat} {k : Int} {β : BNu} {ν : (Nat → Int) → Option Int} {bars : Bool} (hs2 : s2 ≤ 424) (h0 : O2 s = 0) (hlt : s < s2) (hR : CR O2 (s + 1) s2) (hk : k = if bars then 14 else 13) (hd : d ≤ 31)
    (h4 : O4 = zu (zu O2 s2 (16 * 0 + k)) s (16 * ((s2 + 1 : Nat) : Int) + O2 s % 16))
    (hB : (bars = true ∧ RPush (CO O2) (CA O2) (s + 1) s2 d (BL β)) ∨ (bars = false ∧ ∃ m, RVal (CO O2) (CA O2) (s + 1) m d ν ∧ RPush (CO O2) (CA O2) m s2 d (BL β))) : CLC O4 0 s s2 bars β ν ∧ ∀ j, j < s2 → j ≠ s → O4 j = O2 j := by
  have v1 : ∀ j, j < s2 → j ≠ s → O4 j = O2 j := fun j h1 h2 => by rw [h4, zu_ne _ _ h2, zu_ne _ _ (by omega)]
  have v2 : O4 s = 16 * ((s2 + 1 : Nat) : Int) := by rw [h4, zu_eq, h0]; omega
  have v3 : O4 s2 = 16 * 0 + k := by rw [h4, zu_ne _ _ (by omega), zu_eq]
  have hk2 : 0 ≤ k ∧ k < 16 := by rw [hk]; split <;> decide
  have hco : ∀ a b : Nat, s + 1 ≤ a → b ≤ s2 → ∀ j, a ≤ j → j < b → COP O4 0 j = CO O2 j ∧ CAR O4 0 j = CA O2 j := fun a b ha hb j j1 j2 => by
    unfold COP CAR CO CA
    rw [Nat.zero_add, v1 j (by omega) (by omega)]
    exact ⟨rfl, rfl⟩
  refine ⟨⟨by rw [Nat.zero_add]; exact v2, hlt, fun j j1 j2 => ?_, ?_⟩, v1⟩
  · rw [Nat.zero_add]
    by_cases e : j = s
    · rw [e, v2]; omega
    · by_cases e2 : j = s2
      · rw [e2, v3]; omega
      · rw [v1 j (by omega) e]; exact hR j (by omega) (by omega)
  · rw [Nat.zero_add, v3]
    rcases hB with ⟨b1, b2⟩ | ⟨b1, m, b2, b3⟩ <;> subst b1
    · exact Or.inl ⟨rfl, by rw [hk]; rfl, d, hd, RPush_x b2 (Nat.le_refl _) (hco (s + 1) s2 (Nat.le_refl _) (Nat.le_refl _))⟩
    · have m1 := b2.1
      have m2 := b3.1
      exact Or.inr ⟨rfl, by rw [hk]; rfl, m, d, hd, RVal_x b2 (Nat.le_refl _) (hco (s + 1) m (Nat.le_refl _) m2), RPush_x b3 (Nat.le_refl _) (hco m s2 m1 (Nat.le_refl _))⟩
theorem c_42 {T : Nat → Int} {n m : Nat} {qs rs : Nat → Nat} {tk vl W : Nat → Int} (hL : LEX T n m qs rs tk vl) (hW : ∀ k : Nat, k < 8 → W k = zcd k) {s0 i0 s i p c0 c j : Nat} {O0 O nC0 nC op0 ar0 op ar pl pa : Nat → Int} {pd0 b0 : Int} {v : Int × Int × Int × Int × (Nat → Int)} {r : Int × Int × Int × Int × Int × Int × Int × Int × Int × Int × Int × (Nat → Int) × (Nat → Int) × (Nat → Int) × (Nat → Int) × (Nat → Int)} {x2 : Int} {bars : Bool} {ν : (Nat → Int) → Option Int} (hx2 : x2 = if bars then 0 else 1)
    (hn : i0 < i ∧ i ≤ m ∧ p ≤ 50 ∧ c ≤ 400 ∧ s ≤ i + 2 * j ∧ j < 12 ∧ s0 < s ∧ c0 ≤ c) (hO0 : AGR O0 O s0) (hOs : O s0 = 0) (hR : CR O (s0 + 1) s)
    (hC : (bars = true ∧ s = s0 + 1) ∨ (bars = false ∧ RVal (CO O) (CA O) (s0 + 1) s 19 ν))
    (hnC : AGR nC0 nC (8 * j)) (hn0 : nC (8 * j) = if bars then 1 else 0) (hn3 : nC (8 * j + 3) = (c0 : Int)) (hop : AGR op0 op c0) (har : AGR ar0 ar c0) (hRR : bars = false → RG op ar c0 c ∧ RVal op ar c0 c 19 ν)
    (h : f_LawReader_readClause_42 tk vl (s0 : Int) x2 (s : Int) (i : Int) (p : Int) O = some v)
    (g : f_HM_readClause_130 (n : Int) T W ((8 * j : Nat) : Int) (qs i : Int) (rs i : Int) (SO T n (qs i)) (WO T n (qs i) (rs i)) (-1) 0 ((j + 1 : Nat) : Int) (c : Int) (p : Int) pd0 b0 nC op ar pl pa = some r) : CEnd T n m qs rs s0 i0 c0 j O0 nC0 op0 ar0 v r := by
  have hnm := hL.2.1
  have hm := hL.2.2.1
  -- the reference, as far as the 'if'
  unfold f_HM_readClause_130 at g
  have e4 : (zi_w (((8 * j : Nat) : Int) + 4)).toNat = 8 * j + 4 := by rw [zwi (by omega)]; omega
  have e5 : (zi_w (((8 * j : Nat) : Int) + 5)).toNat = 8 * j + 5 := by rw [zwi (by omega)]; omega
  have e6 : (zi_w (((8 * j : Nat) : Int) + 6)).toNat = 8 * j + 6 := by rw [zwi (by omega)]; omega
  replace g := (xp_s (xp_n (xp_s (xp_n g)).2)).2
  rw [e4, e5] at g
  replace g := xp_f (by decide +kernel) g
  obtain ⟨v5, e7, g⟩ := xz_d1 g
  -- the class, as far as the 'if'
  unfold f_LawReader_readClause_42 at h
  obtain ⟨w1, w2, e8, h⟩ := xz_d2 h
  have kk : (if bars then (14 : Int) else 13) = if bars then 14 else 13 := rfl
  -- the class's last order
  have last : ∀ (s2 : Nat) (i2 p2 : Int) (O2 : Nat → Int), s2 < 424 → s0 < s2 → (0 ≤ O2 s0 ∧ O2 s0 ≤ 100000) → f_LawReader_readClause_72 tk vl (s0 : Int) x2 (s2 : Int) i2 p2 O2 = some v → v = (1, ((s2 + 1 : Nat) : Int), i2, p2, zu (zu O2 s2 (16 * 0 + (if bars then 14 else 13))) s0 (16 * ((s2 + 1 : Nat) : Int) + O2 s0 % 16)) := fun s2 i2 p2 O2 a1 a2 a3 hh => by
    unfold f_LawReader_readClause_72 at hh
    cases bars with
    | true =>
      have ex : x2 = 0 := hx2
      rw [ex] at hh
      exact p_84 a1 a2 (by decide) a3 (xp_t (by decide +kernel) hh)
    | false =>
      have ex : x2 = 1 := hx2
      rw [ex] at hh
      exact p_84 a1 a2 (by decide) a3 (xp_f (by decide +kernel) hh)
  have c456 : ∀ q : Int, zu (zu (zu nC (8 * j + 4) (c : Int)) (8 * j + 5) (c : Int)) (8 * j + 6) q (8 * j) = nC (8 * j) ∧ zu (zu (zu nC (8 * j + 4) (c : Int)) (8 * j + 5) (c : Int)) (8 * j + 6) q (8 * j + 3) = nC (8 * j + 3) ∧ zu (zu (zu nC (8 * j + 4) (c : Int)) (8 * j + 5) (c : Int)) (8 * j + 6) q (8 * j + 4) = (c : Int) ∧ zu (zu (zu nC (8 * j + 4) (c : Int)) (8 * j + 5) (c : Int)) (8 * j + 6) q (8 * j + 5) = (c : Int) ∧ zu (zu (zu nC (8 * j + 4) (c : Int)) (8 * j + 5) (c : Int)) (8 * j + 6) q (8 * j + 6) = q ∧ AGR nC0 (zu (zu (zu nC (8 * j + 4) (c : Int)) (8 * j + 5) (c : Int)) (8 * j + 6) q) (8 * j) := fun q => by
    refine ⟨?_, ?_, ?_, ?_, zu_eq _ _ _, fun k hk => ?_⟩
    · rw [zu_ne _ _ (by omega), zu_ne _ _ (by omega), zu_ne _ _ (by omega)]
    · rw [zu_ne _ _ (by omega), zu_ne _ _ (by omega), zu_ne _ _ (by omega)]
    · rw [zu_ne _ _ (by omega), zu_ne _ _ (by omega), zu_eq]
    · rw [zu_ne _ _ (by omega), zu_eq]
    · rw [zu_ne _ _ (by omega), zu_ne _ _ (by omega), zu_ne _ _ (by omega)]; exact hnC k hk
  have r180 : ∀ {fr to so wo ft bd : Int} {c2 p2 : Int} {pd2 b2 : Int} {op2 ar2 pl2 pa2 : Nat → Int}, f_HM_readClause_180 (n : Int) T W ((8 * j : Nat) : Int) fr to so wo ft bd ((j + 1 : Nat) : Int) c2 p2 pd2 b2 (zu (zu nC (8 * j + 4) (c : Int)) (8 * j + 5) (c : Int)) op2 ar2 pl2 pa2 = some r → r = (fr, to, so, wo, ft, bd, ((j + 1 : Nat) : Int), c2, p2, pd2, b2, zu (zu (zu nC (8 * j + 4) (c : Int)) (8 * j + 5) (c : Int)) (8 * j + 6) c2, op2, ar2, pl2, pa2) := fun hh => by
    unfold f_HM_readClause_180 at hh
    replace hh := (xp_s (xp_n hh)).2
    rw [e6] at hh
    cases hh
    rfl
  rcases p_pass hL hn.2.1 (by decide) (by decide) e8 with ⟨q1, him, y⟩ | ⟨q1, y⟩ <;> cases y
  · -- with an 'if'
    replace h := xp_t (by decide +kernel) h
    obtain ⟨w3, w4, w5, w6, w7, e9, h⟩ := xz_d5 h
    rcases x_word hL hn.2.1 10 (by decide) (by rfl) e7 with ⟨q2, _⟩ | ⟨_, q3⟩
    · subst q2
      replace g := xp_f (by decide +kernel) g
      obtain ⟨u6, u7, u8, u9, e10, g⟩ := xz_d4 g
      have g2 := x_next hL him e10
      cases g2
      obtain ⟨t1, t2, t3, t4, t5, t6, t7, t8, t9, t10, f1, f2, f3, f4, e11, g⟩ := xz_d14 g
      have g3 := r180 g
      subst g3
      rcases X_test hL hW (by omega) (by omega) (by omega) hn.2.2.1 hn.2.2.2.1 e9 e11 with ⟨y1, i', y2, y3, y4, y5⟩ | ⟨s', i', p', c', O', op', ar', pl', pa', β, hv, ho, hb, hCC, hRs⟩
      · replace y1 : w3 = 0 := y1
        replace y3 : w5 = (i' : Int) := y3
        subst y1
        replace h := xp_f (by decide +kernel) h
        cases h
        exact Or.inl ⟨rfl, i', y2, y3, y4, y5⟩
      · cases hv
        cases ho
        replace h := xp_t (by decide +kernel) h
        have hss := hCC.2.2.1
        have hcc := hRs.2.2.1
        have a0 : w7 s0 = O s0 := hCC.1 s0 (by omega)
        have hv2 := last s' _ _ _ (by omega) (by omega) (by rw [a0, hOs]; decide) h
        have mk := CLC_mk (d := 20) (k := if bars then 14 else 13) (β := β) (ν := ν) (bars := bars) (by omega : s' ≤ 424) (a0.trans hOs) (by omega) (fun k k1 k2 => by
          rcases Nat.lt_or_ge k s with z | z
          · rw [hCC.1 k z]; exact hR k k1 z
          · exact hCC.2.1 k z k2) rfl (by decide) rfl (by
          rcases hC with ⟨b1, b2⟩ | ⟨b1, b2⟩
          · refine Or.inl ⟨b1, ?_⟩
            rw [← b2]
            exact hCC.2.2
          · exact Or.inr ⟨b1, s, RVal_x b2 (by decide) (CO_agr (fun k k1 k2 => hCC.1 k k2)), hCC.2.2⟩)
        obtain ⟨n1, n2, n3, n4, n5, n6⟩ := c456 (c' : Int)
        refine Or.inr ⟨s' + 1, i', p', c', _, _, _, _, _, _, _, _, bars, β, ν, hv2, rfl, ⟨by omega, by omega, by omega, by omega, by omega, by omega⟩, fun k hk => ?_, ⟨s', rfl, mk.1⟩, n6, AGR_t hop hRs.1.1 hn.2.2.2.2.2.2.2, AGR_t har hRs.1.2 hn.2.2.2.2.2.2.2, ?_⟩
        · rw [mk.2 k (by omega) (by omega), hCC.1 k (by omega)]; exact hO0 k hk
        · refine ⟨by rw [n1]; exact hn0, ⟨c, c', n4, n5, hcc, Nat.le_refl _, Or.inr ⟨RPush_pos hRs.2.2 (BL_len β), hRs.2.1, 20, by decide, hRs.2.2⟩⟩, fun hb => ?_⟩
          have := hRR hb
          exact ⟨c0, c, by rw [n2]; exact hn3, n3, by omega, hcc, RG_x this.1 (fun k _ k2 => ⟨hRs.1.1 k k2, hRs.1.2 k k2⟩), 19, by decide, RVal_x this.2 (Nat.le_refl _) (fun k _ k2 => ⟨hRs.1.1 k k2, hRs.1.2 k k2⟩)⟩
    · exact absurd q1 q3
  · -- without
    replace h := xp_f (by decide +kernel) h
    obtain ⟨w3, w4, w5, e9, h⟩ := xz_d3 h
    have g1 := p_order (by omega) (by decide) (by decide) e9
    cases g1
    rcases x_word hL hn.2.1 10 (by decide) (by rfl) e7 with ⟨_, q3⟩ | ⟨q2, _⟩
    · exact absurd q3 q1
    · subst q2
      replace g := xp_t (by decide +kernel) g
      have g3 := r180 g
      subst g3
      have a0 : zu O s (16 * 1 + 1) s0 = O s0 := zu_ne _ _ (by omega)
      have hv2 := last (s + 1) _ _ _ (by omega) (by omega) (by rw [a0, hOs]; decide) h
      have hN : RPush (CO (zu O s (16 * 1 + 1))) (CA (zu O s (16 * 1 + 1))) s (s + 1) 20 (BL (fun _ => some true)) := (CS_d (CS_num (O := O) (s := s) (v := 1) (by decide)) (by decide : 1 ≤ 20)).2.2
      have mk := CLC_mk (d := 20) (k := if bars then 14 else 13) (β := fun _ => some true) (ν := ν) (bars := bars) (by omega : s + 1 ≤ 424) (a0.trans hOs) (by omega) (fun k k1 k2 => by
        rcases Nat.lt_or_ge k s with z | z
        · rw [zu_ne _ _ (by omega)]; exact hR k k1 z
        · rw [show k = s from by omega, zu_eq]; decide) rfl (by decide) rfl (by
        rcases hC with ⟨b1, b2⟩ | ⟨b1, b2⟩
        · refine Or.inl ⟨b1, ?_⟩
          rw [← b2]
          exact hN
        · exact Or.inr ⟨b1, s, RVal_x b2 (by decide) (CO_agr (fun k k1 k2 => zu_ne _ _ (by omega))), hN⟩)
      obtain ⟨n1, n2, n3, n4, n5, n6⟩ := c456 (c : Int)
      refine Or.inr ⟨s + 1 + 1, i, p, c, _, _, _, _, _, _, _, _, bars, (fun _ => some true), ν, hv2, rfl, ⟨by omega, by omega, by omega, by omega, by omega, by omega⟩, fun k hk => ?_, ⟨s + 1, rfl, mk.1⟩, n6, hop, har, ?_⟩
      · rw [mk.2 k (by omega) (by omega), zu_ne _ _ (by omega)]; exact hO0 k hk
      · refine ⟨by rw [n1]; exact hn0, ⟨c, c, n4, n5, Nat.le_refl _, Nat.le_refl _, Or.inl ⟨Nat.le_refl _, fun _ => rfl⟩⟩, fun hb => ?_⟩
        have := hRR hb
        exact ⟨c0, c, by rw [n2]; exact hn3, n3, by omega, Nat.le_refl _, this.1, 19, by decide, this.2⟩
