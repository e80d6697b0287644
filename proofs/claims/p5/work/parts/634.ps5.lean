/-! A SUM's loop -/
def SOut (T : Nat → Int) (n m : Nat) (qs rs : Nat → Nat) (tk vl W : Nat → Int) (x1 : Int) (o : OX) (b s0 i0 c0 pd : Nat) (O0 op0 ar0 pl0 pa0 : Nat → Int) (v : Int × Int × Int × Int × (Nat → Int)) : Prop :=
    (v.1 = 0 ∧ ∃ i' : Nat, i' ≤ m ∧ v.2.2.1 = (i' : Int) ∧ FL qs o i') ∨
    ∃ (s' i' p' c' : Nat) (O' op' ar' pl' pa' : Nat → Int) (ν : LNu) (l : List Int), v = (1, (s' : Int), (i' : Int), (p' : Int), O') ∧ (i0 < i' ∧ i' ≤ m ∧ p' ≤ 50 ∧ s' + i0 ≤ s0 + i' ∧ c' ≤ 400 ∧ l.length ≤ 2 ∧ pd + l.length ≤ 400) ∧ AR4 l ∧ PIL pl' pd l ∧ LEN ν (l.length + 1) ∧ CSg O0 O' s0 s' (19 - 2 * b) (VL l ν) ∧ RSg op0 ar0 op' ar' c0 c' (19 - 2 * b) ν ∧ AGR pl0 pl' pd ∧ AGR pa0 pa' pd ∧ NOP (tk i') ∧ EX T n W x1 qs rs o 3 i' c' p' (pd + l.length) b op' ar' pl' pa'
def LFG (g : Int) (l : List Int) : Prop := (g = -1 ∧ l = []) ∨ ((g = 3 ∨ g = 4) ∧ l = [g + 17])
def SLoop (T : Nat → Int) (n m : Nat) (qs rs : Nat → Nat) (tk vl W : Nat → Int) (x1 : Int) (o : OX) (b s0 i0 c0 pd : Nat) (O0 op0 ar0 pl0 pa0 : Nat → Int) (f g : Int) (x4 s i p c : Nat) (O op ar pl pa : Nat → Int) : Prop :=
  ∃ (l' l : List Int) (ν : LNu), LFG g l' ∧ ((f = -1 ∧ l = l') ∨ ((f = 5 ∨ f = 6) ∧ l = (f + 17) :: l')) ∧ (x4 + 1 ≤ i ∧ i ≤ m ∧ p ≤ 50 ∧ s + l.length + i0 ≤ s0 + i ∧ i0 ≤ i ∧ c ≤ 400 ∧ pd + l.length ≤ 400) ∧ LEN ν l.length ∧ CSg O0 O s0 s (19 - 2 * b) ν ∧ RSg op0 ar0 op ar c0 c (19 - 2 * b) ν ∧ PIL pl pd l ∧ AGR pl0 pl pd ∧ AGR pa0 pa pd ∧ EX T n W x1 qs rs o 1 i c p (pd + l.length) b op ar pl pa
theorem LFG_l {g : Int} {l : List Int} (h : LFG g l) : AR4 l ∧ l.length ≤ 1 ∧ (l = [] ∨ ∃ a, (a = 20 ∨ a = 21) ∧ l = [a]) := by
  rcases h with ⟨_, e⟩ | ⟨hg, e⟩
  · subst e
    exact ⟨fun a ha => absurd ha List.not_mem_nil, by decide, Or.inl rfl⟩
  · subst e
    refine ⟨fun a ha => ?_, by simp, Or.inr ⟨g + 17, by omega, rfl⟩⟩
    have := List.mem_singleton.mp ha
    omega
theorem AR4_c {a : Int} {l : List Int} (ha : 20 ≤ a ∧ a ≤ 23) (h : AR4 l) : AR4 (a :: l) := fun x hx => by
  rcases List.mem_cons.mp hx with e | e
  · rw [e]; exact ha
  · exact h x e
theorem PIL_u {pl : Nat → Int} {pd k : Nat} {x : Int} : ∀ l : List Int, pd + l.length ≤ k → PIL pl pd l → PIL (zu pl k x) pd l := fun l hk h => PIL_agr l (AGR_u hk) h
theorem s_sum35 {T : Nat → Int} {n m : Nat} {qs rs : Nat → Nat} {tk vl W : Nat → Int} {x1 : Int} {o : OX} (hL : LEX T n m qs rs tk vl) (hW : ∀ k : Nat, k < 8 → W k = zcd k) (hx : x1 = 0 ∨ x1 = 1) {fS fP : Int → (Nat → Int) → (Nat → Int) → Int → Int → Int → (Nat → Int) → Option (Int × Int × Int × Int × (Nat → Int))} {kk : Int → Int → Int → Int → Int → Int → Int → (Nat → Int) → Option (Int × Int × Int × Int × (Nat → Int))} {b s0 i0 c0 pd : Nat} {O0 op0 ar0 pl0 pa0 : Nat → Int} {v : Int × Int × Int × Int × (Nat → Int)} (hb : b ≤ 8) (hs0 : s0 ≤ i0 + 23) (hi0 : 1 ≤ i0) (hP0 : PLR pl0 pd) (hc0 : pd = 0 ∨ 24 ≤ pl0 (pd - 1))
    (hK : ∀ (f g : Int) (x4 s i p c : Nat) (O op ar pl pa : Nat → Int), SLoop T n m qs rs tk vl W x1 o b s0 i0 c0 pd O0 op0 ar0 pl0 pa0 f g x4 s i p c O op ar pl pa → kk (b : Int) f g (x4 : Int) (s : Int) (i : Int) (p : Int) O = some v → SOut T n m qs rs tk vl W x1 o b s0 i0 c0 pd O0 op0 ar0 pl0 pa0 v)
    {g : Int} {x4 s i p c : Nat} {O op ar pl pa : Nat → Int} {l' l : List Int} {ν ν2 : LNu}
    (hg : LFG g l') (hl : (l = l' ∧ ν2 = ν) ∨ (∃ a, (a = 22 ∨ a = 23) ∧ l = a :: l' ∧ ν2 = vop a ν))
    (hn : x4 + 1 ≤ i ∧ i ≤ m ∧ p ≤ 50 ∧ s + l'.length + i0 ≤ s0 + i ∧ i0 < i ∧ c ≤ 400 ∧ pd + l.length ≤ 400)
    (hN : LEN ν (l.length + 1)) (hN2 : LEN ν2 (l'.length + 1)) (hC : CSg O0 O s0 s (19 - 2 * b) ν2) (hR : RSg op0 ar0 op ar c0 c (19 - 2 * b) ν) (hPi : PIL pl pd l) (hA1 : AGR pl0 pl pd) (hA2 : AGR pa0 pa pd) (hE : EX T n W x1 qs rs o 3 i c p (pd + l.length) b op ar pl pa)
    (h : f_LawReader_readSum_35 fS fP tk vl kk (b : Int) g (x4 : Int) (s : Int) (i : Int) (p : Int) O = some v) : SOut T n m qs rs tk vl W x1 o b s0 i0 c0 pd O0 op0 ar0 pl0 pa0 v := by
  have hnm := hL.2.1
  have hm := hL.2.2.1
  have hgl := LFG_l hg
  have hAl : AR4 l ∧ l.length ≤ l'.length + 1 := by
    rcases hl with ⟨e, _⟩ | ⟨a, ha, e, _⟩ <;> subst e
    · exact ⟨hgl.1, by omega⟩
    · exact ⟨AR4_c (by omega) hgl.1, by simp⟩
  have hPd : PLR pl pd := PLR_agr hP0 hA1
  have hctx : pd = 0 ∨ BDS (pl (pd - 1)) < 5 := by
    rcases hc0 with e | e
    · exact Or.inl e
    · rcases Nat.eq_zero_or_pos pd with z | z
      · exact Or.inl z
      · right
        rw [hA1 (pd - 1) (by omega)]
        have := BDS_hi e
        omega
  have eS := e_sum hL hn.2.1 (by omega) hn.2.2.1 hn.2.2.2.2.2.2 hb hx (PLR_pend hPd l hAl.1 hPi) hE
  -- what settles above the sum's own sign
  have six : ∀ r, ST 6 pl pa c (pd + l.length) op ar r → ∃ (c2 : Nat) (op2 ar2 : Nat → Int), c2 ≤ 400 ∧ RSg op0 ar0 op2 ar2 c0 c2 (19 - 2 * b) ν2 ∧ r = ((c2 : Int), ((pd + l'.length : Nat) : Int), op2, ar2) := fun r hr => by
    have top : ∀ pl : Nat → Int, PIL pl pd l' → AGR pl0 pl pd → (pd + l'.length = 0 ∨ BDS (pl (pd + l'.length - 1)) < 6) := fun pl hp ha => by
      rcases hgl.2.2 with e | ⟨a, h20, e⟩ <;> subst e
      · rcases Nat.eq_zero_or_pos pd with z | z
        · exact Or.inl z
        · right
          show BDS (pl (pd + 0 - 1)) < 6
          rw [ha (pd + 0 - 1) (by omega)]
          rcases hc0 with e | e
          · omega
          · have := BDS_hi e
            show BDS (pl0 (pd - 1)) < 6
            omega
      · right
        show BDS (pl (pd + 0)) < 6
        have e2 : pl (pd + 0) = a := hp.1
        rw [e2]
        rcases h20 with z | z <;> subst z <;> decide
    rcases hl with ⟨e, e2⟩ | ⟨a, ha, e, e2⟩ <;> subst e <;> subst e2
    · have w := ST_stop (by omega) (by decide) (PLR_pend hPd l hAl.1 hPi) (top pl hPi hA1) hr
      exact ⟨c, op, ar, hn.2.2.2.2.2.1, hR, w⟩
    · have ea : pl (pd + l'.length) = a := hPi.1
      have hpl := hn.2.2.2.2.2.2
      rw [List.length_cons] at hpl hN
      have hba : BDS a = 6 := by rcases ha with z | z <;> subst z <;> decide
      have w := ST_op (k := pd + l'.length) (by omega) (by rw [ea, hba]; decide) (by rw [ea]; omega) (by omega) hr
      rw [ea] at w
      have w2 := ST_stop (by omega) (by decide) (PLR_pend hPd l' hgl.1 hPi.2) (top pl hPi.2 hA1) w.2
      exact ⟨c + 1, _, _, by omega, RS_op (k := l'.length) hR (by omega) hN (by omega), w2⟩
  have five : ∀ r, ST 5 pl pa c (pd + l.length) op ar r → ∃ (c2 : Nat) (op2 ar2 : Nat → Int), c2 ≤ 400 ∧ RSg op0 ar0 op2 ar2 c0 c2 (19 - 2 * b) (VL l ν) ∧ r = ((c2 : Int), (pd : Int), op2, ar2) := fun r hr => by
    obtain ⟨c2, op2, ar2, w1, w2, w3, w4⟩ := ST_arith (by decide) l c op ar ν hAl.1 hPi hR hN (by omega) hn.2.2.2.2.2.1 hn.2.2.2.2.2.2 hr
    exact ⟨c2, op2, ar2, w1, w2, ST_stop (by omega) (by decide) hPd hctx w4⟩
  have hV : VL l ν = VL l' ν2 := by
    rcases hl with ⟨e, e2⟩ | ⟨a, ha, e, e2⟩ <;> subst e <;> subst e2 <;> rfl
  have mul : ∀ f : Int, (f = 5 ∨ f = 6) → TKO (tk i) (f + 17) → i < m → f_LawReader_readSum_63 fS fP tk vl kk (b : Int) g (x4 : Int) f (s : Int) ((i + 1 : Nat) : Int) (p : Int) O = some v → SOut T n m qs rs tk vl W x1 o b s0 i0 c0 pd O0 op0 ar0 pl0 pa0 v := fun f hf ht him h => by
    unfold f_LawReader_readSum_63 at h
    rw [zwi (x := f) (by omega), zwi (x := -1) (by decide), if_neg (by omega)] at h
    unfold f_LawReader_readSum_119 at h
    replace h := xp_n h
    rcases eS with ⟨q, r, q1, _, q2, q3⟩ | ⟨q1, _⟩
    · have eq : q = f + 17 := by unfold TKO at q1 ht; omega
      have hbq : BDS q = 6 := by rw [eq]; rcases hf with z | z <;> subst z <;> decide
      rw [hbq] at q2
      obtain ⟨c2, op2, ar2, w1, w2, w3⟩ := six r q2
      have hpl := hn.2.2.2.2.2.2
      have hll : l'.length ≤ l.length := by
        rcases hl with ⟨e, _⟩ | ⟨a, _, e, _⟩ <;> subst e <;> simp
      obtain ⟨w4, w5⟩ := q3 c2 (pd + l'.length) op2 ar2 w3 (by omega)
      refine hK f g (x4 + 1) s (i + 1) p c2 O op2 ar2 _ _ ⟨l', q :: l', ν2, hg, Or.inr ⟨hf, by rw [eq]⟩, ⟨by omega, by omega, by omega, by rw [List.length_cons]; omega, by omega, w1, by rw [List.length_cons]; omega⟩, hN2, hC, w2, ⟨zu_eq _ _ _, PIL_u l' (Nat.le_refl _) ?_⟩, AGR_t hA1 (AGR_u (by omega)) (Nat.le_refl _), AGR_t hA2 (AGR_u (by omega)) (Nat.le_refl _), w5⟩ h
      rcases hl with ⟨e, _⟩ | ⟨a, _, e, _⟩ <;> subst e
      · exact hPi
      · exact hPi.2
    · exfalso; unfold TKO at ht; unfold NOP at q1; omega
  have tail : ∀ (s3 : Nat) (O3 : Nat → Int), tk i ≠ 42 → tk i ≠ 47 → CSg O0 O3 s0 s3 (19 - 2 * b) (VL l ν) → s3 + i0 ≤ s0 + i → f_LawReader_readSum_84 fS fP tk vl kk (b : Int) (-1) (x4 : Int) (s3 : Int) (i : Int) (p : Int) O3 = some v → SOut T n m qs rs tk vl W x1 o b s0 i0 c0 pd O0 op0 ar0 pl0 pa0 v := fun s3 O3 h42 h47 hC3 hs3 h => by
    have add : ∀ g : Int, (g = 3 ∨ g = 4) → TKO (tk i) (g + 17) → i < m → f_LawReader_readSum_111 fS fP tk vl kk (b : Int) (-1) (x4 : Int) g (s3 : Int) ((i + 1 : Nat) : Int) (p : Int) O3 = some v → SOut T n m qs rs tk vl W x1 o b s0 i0 c0 pd O0 op0 ar0 pl0 pa0 v := fun g hg ht him h => by
      unfold f_LawReader_readSum_111 at h
      rw [zwi (x := g) (by omega), zwi (x := -1) (by decide), if_pos (by omega)] at h
      unfold f_LawReader_readSum_119 at h
      replace h := xp_n h
      rcases eS with ⟨q, r, q1, _, q2, q3⟩ | ⟨q1, _⟩
      · have eq : q = g + 17 := by unfold TKO at q1 ht; omega
        have hbq : BDS q = 5 := by rw [eq]; rcases hg with z | z <;> subst z <;> decide
        rw [hbq] at q2
        obtain ⟨c2, op2, ar2, w1, w2, w3⟩ := five r q2
        obtain ⟨w4, w5⟩ := q3 c2 pd op2 ar2 w3 (by omega)
        have hN3 : LEN (VL l ν) 1 := by
          rw [hV]
          rcases hgl.2.2 with e | ⟨a, h20, e⟩ <;> subst e
          · exact hN2
          · exact LEN_op (k := 0) hN2
        exact hK (-1) g (x4 + 1) s3 (i + 1) p c2 O3 op2 ar2 _ _ ⟨[g + 17], [g + 17], VL l ν, Or.inr ⟨hg, rfl⟩, Or.inl ⟨rfl, rfl⟩, ⟨by omega, by omega, by omega, by show s3 + 1 + i0 ≤ s0 + (i + 1); omega, by omega, w1, by show pd + 1 ≤ 400; omega⟩, hN3, hC3, w2, ⟨by rw [← eq]; exact zu_eq _ _ _, trivial⟩, AGR_t hA1 (AGR_u (by omega)) (Nat.le_refl _), AGR_t hA2 (AGR_u (by omega)) (Nat.le_refl _), w5⟩ h
      · exfalso; unfold TKO at ht; unfold NOP at q1; omega
    unfold f_LawReader_readSum_84 at h
    obtain ⟨v1, v2, e1, h⟩ := xz_d2 h
    rcases p_pass hL hn.2.1 (by decide) (by decide) e1 with ⟨q1, him, y⟩ | ⟨q1, y⟩ <;> cases y
    · replace h := xp_f (by decide +kernel) h
      exact add 3 (Or.inl rfl) (Or.inl ⟨q1, rfl⟩) him h
    · replace h := xp_t (by decide +kernel) h
      obtain ⟨v3, v4, e2, h⟩ := xz_d2 h
      rcases p_pass hL hn.2.1 (by decide) (by decide) e2 with ⟨q2, him, y⟩ | ⟨q2, y⟩ <;> cases y
      · replace h := xp_f (by decide +kernel) h
        exact add 4 (Or.inr rfl) (Or.inr (Or.inl ⟨q2, rfl⟩)) him h
      · replace h := xp_t (by decide +kernel) h
        unfold f_LawReader_readSum_111 at h
        replace h := xp_f (by decide +kernel) h
        cases h
        exact Or.inr ⟨s3, i, p, c, O3, op, ar, pl, pa, ν, l, rfl, ⟨by omega, by omega, by omega, by omega, by omega, by omega, by omega⟩, hAl.1, hPi, hN, hC3, hR, hA1, hA2, ⟨q1, q2, h42, h47⟩, hE⟩
  unfold f_LawReader_readSum_35 at h
  obtain ⟨v1, v2, e1, h⟩ := xz_d2 h
  rcases p_pass hL hn.2.1 (by decide) (by decide) e1 with ⟨q1, him, y⟩ | ⟨q1, y⟩ <;> cases y
  · replace h := xp_f (by decide +kernel) h
    exact mul 5 (Or.inl rfl) (Or.inr (Or.inr (Or.inl ⟨q1, rfl⟩))) him h
  · replace h := xp_t (by decide +kernel) h
    obtain ⟨v3, v4, e2, h⟩ := xz_d2 h
    rcases p_pass hL hn.2.1 (by decide) (by decide) e2 with ⟨q2, him, y⟩ | ⟨q2, y⟩ <;> cases y
    · replace h := xp_f (by decide +kernel) h
      exact mul 6 (Or.inr rfl) (Or.inr (Or.inr (Or.inr ⟨q2, rfl⟩))) him h
    · replace h := xp_t (by decide +kernel) h
      unfold f_LawReader_readSum_63 at h
      replace h := xp_t (by decide +kernel) h
      rcases hg with ⟨eg, el⟩ | ⟨eg, el⟩
      · subst eg
        subst el
        replace h := xp_t (by decide +kernel) h
        exact tail s O q1 q2 (by rw [hV]; exact hC) (by have := hn.2.2.2.1; simp only [List.length_nil] at this; omega) h
      · subst el
        have hnn := hn.2.2.2.1
        simp only [List.length_cons, List.length_nil] at hnn
        rw [zwi (x := g) (by omega), zwi (x := -1) (by decide), if_neg (by omega)] at h
        obtain ⟨u1, u2, u3, e3, h⟩ := xz_d3 h
        have g1 := p_order (by omega) (by omega) (by decide) e3
        cases g1
        exact tail (s + 1) _ q1 q2 (by rw [hV]; exact CS_op (k := 0) hC (by omega) hN2 (by omega)) (by omega) h
theorem s_sum7 {T : Nat → Int} {n m : Nat} {qs rs : Nat → Nat} {tk vl W : Nat → Int} {x1 : Int} {o : OX} (hL : LEX T n m qs rs tk vl) (hW : ∀ k : Nat, k < 8 → W k = zcd k) (hx : x1 = 0 ∨ x1 = 1) {fS fP : Int → (Nat → Int) → (Nat → Int) → Int → Int → Int → (Nat → Int) → Option (Int × Int × Int × Int × (Nat → Int))} (hPP : PPart T n m qs rs tk vl W x1 o fP) {b s0 i0 c0 pd : Nat} {O0 op0 ar0 pl0 pa0 : Nat → Int} {v : Int × Int × Int × Int × (Nat → Int)} (hb : b ≤ 8) (hs0 : s0 ≤ i0 + 23) (hi0 : 1 ≤ i0) (hP0 : PLR pl0 pd) (hc0 : pd = 0 ∨ 24 ≤ pl0 (pd - 1)) : ∀ (N : Nat) (f g : Int) (x4 s i p c : Nat) (O op ar pl pa : Nat → Int), SLoop T n m qs rs tk vl W x1 o b s0 i0 c0 pd O0 op0 ar0 pl0 pa0 f g x4 s i p c O op ar pl pa → f_LawReader_readSum_7 fS fP tk vl N (b : Int) f g (x4 : Int) (s : Int) (i : Int) (p : Int) O = some v → SOut T n m qs rs tk vl W x1 o b s0 i0 c0 pd O0 op0 ar0 pl0 pa0 v := by
  have hnm := hL.2.1
  have hm := hL.2.2.1
  intro N
  induction N with
  | zero => intro f g x4 s i p c O op ar pl pa _ h; exact nomatch h
  | succ N ih =>
    intro f g x4 s i p c O op ar pl pa hS h
    obtain ⟨l', l, ν, hg, hf, hn, hN, hC, hR, hPi, hA1, hA2, hE⟩ := hS
    have hgl := LFG_l hg
    have hAl : AR4 l ∧ l.length ≤ 2 := by
      rcases hf with ⟨_, e⟩ | ⟨ef, e⟩ <;> subst e
      · exact ⟨hgl.1, by omega⟩
      · exact ⟨AR4_c (by omega) hgl.1, by rw [List.length_cons]; omega⟩
    have hPd : PLR pl pd := PLR_agr hP0 hA1
    replace h : f_LawReader_readSum_7_b fS fP tk vl (f_LawReader_readSum_7 fS fP tk vl N) (b : Int) f g (x4 : Int) (s : Int) (i : Int) (p : Int) O = some v := h
    unfold f_LawReader_readSum_7_b at h
    rw [zwi (x := 400) (by decide), zwi (x := (x4 : Int)) (by omega), if_neg (by omega)] at h
    obtain ⟨v1, v2, v3, v4, a5, e1, h⟩ := xz_d5 h
    rcases hPP b s i p O _ hb (by omega) hn.2.1 (by omega) hn.2.2.1 e1 c (pd + l.length) op ar pl pa hn.2.2.2.2.2.1 hn.2.2.2.2.2.2 (PLR_pend hPd l hAl.1 hPi) hE with ⟨g1, i', g2, g3, g4⟩ | ⟨s1, i1, p1, c1, O1, op1, ar1, pl1, pa1, νp, gv, gn, gL, gC, gR, ga, gb, gE⟩
    · replace g1 : v1 = 0 := g1
      replace g3 : v3 = (i' : Int) := g3
      subst g1
      replace h := xp_t (by decide +kernel) h
      cases h
      exact Or.inl ⟨rfl, i', g2, g3, g4⟩
    · cases gv
      replace h := xp_f (by decide +kernel) h
      have C1 := CS_app (d := 19 - 2 * b) hC gC hN (Nat.le_refl _) (by omega)
      have R1 := RS_app (d := 19 - 2 * b) hR gR hN (Nat.le_refl _) (by omega)
      have N1 := LEN_app hN gL
      have P1 := PIL_agr l ga hPi
      have A1 := AGR_t hA1 (AGR_w ga (by omega : pd ≤ pd + l.length)) (Nat.le_refl _)
      have A2 := AGR_t hA2 (AGR_w gb (by omega : pd ≤ pd + l.length)) (Nat.le_refl _)
      rcases hf with ⟨ef, e⟩ | ⟨ef, e⟩
      · subst ef
        subst e
        replace h := xp_t (by decide +kernel) h
        exact s_sum35 hL hW hx hb hs0 hi0 hP0 hc0 ih hg (Or.inl ⟨rfl, rfl⟩) ⟨by omega, by omega, by omega, by omega, by omega, by omega, by omega⟩ N1 N1 C1 R1 P1 A1 A2 gE h
      · subst e
        simp only [List.length_cons] at hn hN N1 hAl
        rw [zwi (x := f) (by omega), zwi (x := -1) (by decide), if_neg (by omega)] at h
        obtain ⟨u1, u2, u3, e3, h⟩ := xz_d3 h
        have g1 := p_order (by omega) (by omega) (by decide) e3
        cases g1
        exact s_sum35 hL hW hx hb hs0 hi0 hP0 hc0 ih (l := (f + 17) :: l') hg (Or.inr ⟨f + 17, by omega, rfl, rfl⟩) ⟨by omega, by omega, by omega, by omega, by omega, by omega, by rw [List.length_cons]; omega⟩ N1 (LEN_op (k := l'.length) N1) (CS_op (k := l'.length) C1 (by omega) N1 (by omega)) R1 P1 A1 A2 gE h
theorem s_sum {T : Nat → Int} {n m : Nat} {qs rs : Nat → Nat} {tk vl W : Nat → Int} {x1 : Int} {o : OX} (hL : LEX T n m qs rs tk vl) (hW : ∀ k : Nat, k < 8 → W k = zcd k) (hx : x1 = 0 ∨ x1 = 1) {fS fP : Int → (Nat → Int) → (Nat → Int) → Int → Int → Int → (Nat → Int) → Option (Int × Int × Int × Int × (Nat → Int))} (hPP : PPart T n m qs rs tk vl W x1 o fP) : PSum T n m qs rs tk vl W x1 o (fb_LawReader_readSum fS fP) := by
  intro b s i p O v hb h1i hi hs hp h c pd op ar pl pa hc hpd hP hc0 hE
  unfold fb_LawReader_readSum at h
  exact s_sum7 hL hW hx hPP hb hs h1i hP hc0 zfu (-1) (-1) 0 s i p c O op ar pl pa ⟨[], [], _, Or.inl ⟨rfl, rfl⟩, Or.inl ⟨rfl, rfl⟩, ⟨by omega, hi, hp, by simp only [List.length_nil]; omega, by omega, hc, hpd⟩, LEN_0, CS_0, RS_0, trivial, AGR_0, AGR_0, hE⟩ h
theorem s_both {T : Nat → Int} {n m : Nat} {qs rs : Nat → Nat} {tk vl W : Nat → Int} {x1 : Int} {o : OX} (hL : LEX T n m qs rs tk vl) (hW : ∀ k : Nat, k < 8 → W k = zcd k) (hx : x1 = 0 ∨ x1 = 1) : ∀ D : Nat, PSum T n m qs rs tk vl W x1 o (g_LawReader_readSum D).1 ∧ PPart T n m qs rs tk vl W x1 o (g_LawReader_readSum D).2 := by
  intro D
  induction D with
  | zero => exact ⟨(fun b s i p O v _ _ _ _ _ h => nomatch h), (fun b s i p O v _ _ _ _ _ h => nomatch h)⟩
  | succ D ih => exact ⟨s_sum hL hW hx ih.2, s_part hL hW hx ih.1⟩
theorem S_sum {T : Nat → Int} {n m : Nat} {qs rs : Nat → Nat} {tk vl W : Nat → Int} {x1 : Int} {o : OX} (hL : LEX T n m qs rs tk vl) (hW : ∀ k : Nat, k < 8 → W k = zcd k) (hx : x1 = 0 ∨ x1 = 1) : PSum T n m qs rs tk vl W x1 o f_LawReader_readSum := fun b s i p O v h1 h2 h3 h4 h5 h => (s_both hL hW hx zdp).1 b s i p O v h1 h2 h3 h4 h5 (by unfold f_LawReader_readSum at h; exact h)
