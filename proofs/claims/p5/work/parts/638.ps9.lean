/-! a clause's head -/
theorem r_71 {n : Int} {T W : Nat → Int} {j : Nat} (hj : j < 12) {nC0 : Nat → Int} {hd ncl : Int} {fr to so wo ft bd c p pd b : Int} {op ar pl pa : Nat → Int} {r : Int × Int × Int × Int × Int × Int × Int × Int × Int × Int × Int × (Nat → Int) × (Nat → Int) × (Nat → Int) × (Nat → Int) × (Nat → Int)} : ∀ (N k : Nat) (nC : Nat → Int), k ≤ 8 → AGR nC0 nC (8 * j) → f_HM_readClause_71 n T W N hd ((8 * j : Nat) : Int) (k : Int) fr to so wo ft bd ncl c p pd b nC op ar pl pa = some r → ∃ (nC2 : Nat → Int) (N2 : Nat), AGR nC0 nC2 (8 * j) ∧ f_HM_readClause_71_b n T W (f_HM_readClause_71 n T W N2) hd ((8 * j : Nat) : Int) 8 fr to so wo ft bd ncl c p pd b nC2 op ar pl pa = some r := by
  intro N
  induction N with
  | zero => intro k nC _ _ h; exact nomatch h
  | succ N ih =>
    intro k nC hk hA h
    replace h : f_HM_readClause_71_b n T W (f_HM_readClause_71 n T W N) hd ((8 * j : Nat) : Int) (k : Int) fr to so wo ft bd ncl c p pd b nC op ar pl pa = some r := h
    by_cases e : k = 8
    · subst e
      exact ⟨nC, N, hA, h⟩
    · unfold f_HM_readClause_71_b at h
      rw [zwi (x := 8) (by decide), zwi (x := (k : Int)) (by omega), if_neg (by omega)] at h
      replace h := xp_n (xp_s (xp_n h)).2
      have e1 : (zi_w (((8 * j : Nat) : Int) + (k : Int))).toNat = 8 * j + k := by rw [zwi (by omega)]; omega
      rw [e1] at h
      exact ih (k + 1) _ (by omega) (AGR_t hA (AGR_u (by omega)) (Nat.le_refl _)) h
theorem r_130f {n : Int} {T W : Nat → Int} {j : Nat} {ncl fr to so wo ft c p pd b : Int} {nC op ar pl pa : Nat → Int} {x : Int} {r : Int × Int × Int × Int × Int × Int × Int × Int × Int × Int × Int × (Nat → Int) × (Nat → Int) × (Nat → Int) × (Nat → Int) × (Nat → Int)} (h : f_HM_readClause_130 n T W x fr to so wo ft 1 ncl c p pd b nC op ar pl pa = some r) : r.2.2.2.2.1 = ft ∧ r.2.2.2.2.2.1 = 1 := by
  unfold f_HM_readClause_130 at h
  replace h := (xp_s (xp_n (xp_s (xp_n h)).2)).2
  replace h := xp_t (by decide +kernel) h
  unfold f_HM_readClause_180 at h
  replace h := (xp_s (xp_n h)).2
  cases h
  exact ⟨rfl, rfl⟩
theorem r_50f {n : Int} {T W : Nat → Int} {ncl fr to so wo c p pd b hd : Int} {nC op ar pl pa : Nat → Int} {r : Int × Int × Int × Int × Int × Int × Int × Int × Int × Int × Int × (Nat → Int) × (Nat → Int) × (Nat → Int) × (Nat → Int) × (Nat → Int)} (h : f_HM_readClause_50 n T W hd 0 fr to so wo (-1) 0 ncl c p pd b nC op ar pl pa = some r) : r.2.2.2.2.1 = fr ∧ r.2.2.2.2.2.1 = 1 := by
  unfold f_HM_readClause_50 at h
  obtain ⟨v1, v2, v3, v4, v5, v6, e, h⟩ := xz_d6 h
  have g := x_must0 e
  cases g
  replace h := xp_f (by decide +kernel) h
  cases h
  exact ⟨rfl, rfl⟩
theorem r_29f {n : Int} {T W : Nat → Int} {fr to so wo c p pd b hd : Int} {nC op ar pl pa : Nat → Int} {r : Int × Int × Int × Int × Int × Int × Int × Int × Int × Int × Int × (Nat → Int) × (Nat → Int) × (Nat → Int) × (Nat → Int) × (Nat → Int)} (hh : hd = -1 ∨ hd = 0 ∨ hd = 1) (h : f_HM_readClause_29 n T W hd fr to so wo (-1) 0 12 c p pd b nC op ar pl pa = some r) : r.2.2.2.2.1 = fr ∧ r.2.2.2.2.2.1 = 1 := by
  have f49 : f_HM_readClause_49 n T W hd fr to so wo (-1) 0 12 c p pd b nC op ar pl pa = some r := by
    unfold f_HM_readClause_29 at h
    rcases hh with e | e | e <;> subst e
    · exact xp_t (by decide +kernel) h
    · exact xp_t (by decide +kernel) (xp_f (by decide +kernel) h)
    · exact xp_t (by decide +kernel) (xp_f (by decide +kernel) h)
  unfold f_HM_readClause_49 at f49
  exact r_50f f49
theorem r_cl12 {n : Int} {T W : Nat → Int} {fr to so wo c p pd b : Int} {nC op ar pl pa : Nat → Int} {r : Int × Int × Int × Int × Int × Int × Int × Int × Int × Int × Int × (Nat → Int) × (Nat → Int) × (Nat → Int) × (Nat → Int) × (Nat → Int)} (h : f_HM_readClause n T W fr to so wo (-1) 0 12 c p pd b nC op ar pl pa = some r) : r.2.2.2.2.1 = fr ∧ r.2.2.2.2.2.1 = 1 := by
  unfold f_HM_readClause at h
  obtain ⟨v1, e1, h⟩ := xz_d1 h
  rcases xp_if h with ⟨_, h⟩ | ⟨_, h⟩
  · obtain ⟨v2, e2, h⟩ := xz_d1 h
    rcases xp_if h with ⟨_, h⟩ | ⟨_, h⟩
    · exact r_29f (Or.inl rfl) h
    · exact r_29f (Or.inr (Or.inr rfl)) h
  · exact r_29f (Or.inr (Or.inl rfl)) h
theorem c_clause {T : Nat → Int} {n m : Nat} {qs rs : Nat → Nat} {tk vl W : Nat → Int} (hL : LEX T n m qs rs tk vl) (hW : ∀ k : Nat, k < 8 → W k = zcd k) {s i p c j : Nat} {O nC op ar pl pa : Nat → Int} {pd0 b0 : Int} {v : Int × Int × Int × Int × (Nat → Int)} {r : Int × Int × Int × Int × Int × Int × Int × Int × Int × Int × Int × (Nat → Int) × (Nat → Int) × (Nat → Int) × (Nat → Int) × (Nat → Int)} (hn : i ≤ m ∧ p ≤ 50 ∧ c ≤ 400 ∧ s ≤ i + 2 * j ∧ j < 12)
    (h : f_LawReader_readClause tk vl (s : Int) (i : Int) (p : Int) O = some v) (g : f_HM_readClause (n : Int) T W (qs i : Int) (rs i : Int) (SO T n (qs i)) (WO T n (qs i) (rs i)) (-1) 0 (j : Int) (c : Int) (p : Int) pd0 b0 nC op ar pl pa = some r) : CEnd T n m qs rs s i c j O nC op ar v r := by
  have hnm := hL.2.1
  have hm := hL.2.2.1
  unfold f_LawReader_readClause at h
  obtain ⟨w1, w2, w3, e1, h⟩ := xz_d3 h
  have g1 := p_order (by omega) (by decide) (by decide) e1
  cases g1
  obtain ⟨w4, w5, e2, h⟩ := xz_d2 h
  unfold f_HM_readClause at g
  obtain ⟨u1, e3, g⟩ := xz_d1 g
  have hO1 : zu O s (16 * 0 + 0) s = 0 := by rw [zu_eq]; rfl
  have hCR : CR (zu O s (16 * 0 + 0)) (s + 1) (s + 1) := fun k k1 k2 => by omega
  rcases p_pass hL hn.1 (by decide) (by decide) e2 with ⟨q1, him, y⟩ | ⟨q1, y⟩ <;> cases y
  · -- tires
    replace h := xp_f (by decide +kernel) h
    rcases x_word hL hn.1 8 (by decide) (by rfl) e3 with ⟨q2, _⟩ | ⟨_, q3⟩
    · subst q2
      replace g := xp_f (by decide +kernel) g
      unfold f_HM_readClause_29 at g
      replace g := xp_f (by decide +kernel) g
      rw [zwi (x := 12) (by decide), zwi (x := (j : Int)) (by omega), if_neg (by omega)] at g
      unfold f_HM_readClause_50 at g
      obtain ⟨u2, u3, u4, u5, u6, u7, e4, g⟩ := xz_d6 g
      have g2 := x_must1 hL him e4
      cases g2
      replace g := xp_n (xp_t (by decide +kernel) g)
      obtain ⟨nC2, N2, hA, g⟩ := r_71 (nC0 := nC) (j := j) hn.2.2.2.2 zfu 0 nC (by decide) AGR_0 g
      unfold f_HM_readClause_71_b at g
      replace g := xp_t (by decide +kernel) g
      replace g := (xp_s (xp_n (xp_n (xp_s g).2))).2
      have e5 : (zi_w ((8 * j : Nat) : Int)).toNat = 8 * j := by rw [zwi (by omega)]; omega
      have e6 : (zi_w (((8 * j : Nat) : Int) + 3)).toNat = 8 * j + 3 := by rw [zwi (by omega)]; omega
      rw [e5, e6] at g
      replace g := xp_f (by decide +kernel) g
      obtain ⟨t1, t2, t3, t4, t5, t6, t7, t8, t9, t10, f1, f2, f3, f4, e7, g⟩ := xz_d14 g
      obtain ⟨w8, w9, w10, w11, w12, e8, h⟩ := xz_d5 h
      rcases X_sum hL hW (by omega) (by omega) (by omega) hn.2.1 hn.2.2.1 e8 e7 with ⟨y1, i', y2, y3, y4, y5⟩ | ⟨s', i', p', c', O', op', ar', pl', pa', ν, hv, ho, hb, hN, hCC, hRs⟩
      · replace y1 : w8 = 0 := y1
        replace y3 : w10 = (i' : Int) := y3
        replace y5 : t6 = 1 := y5
        subst y1
        subst y5
        replace h := xp_f (by decide +kernel) h
        cases h
        have g3 := r_130f (j := j) g
        exact Or.inl ⟨rfl, i', y2, y3, g3.1.trans y4, g3.2⟩
      · cases hv
        cases ho
        replace h := xp_t (by decide +kernel) h
        have hss := hCC.2.2.1
        have hcc := hRs.2.2.1
        exact c_42 hL hW (bars := false) (nC0 := nC) (op0 := op) (ar0 := ar) (O0 := O) (i0 := i) (ν := fun E => (ν E).bind List.head?) rfl ⟨by omega, by omega, by omega, by omega, by omega, hn.2.2.2.2, by omega, by omega⟩ (AGR_t (AGR_u (Nat.le_refl _)) hCC.1 (by omega)) ((hCC.1 s (by omega)).trans hO1) hCC.2.1 (Or.inr ⟨rfl, RVal_of hCC.2.2 hN⟩) (AGR_t hA (AGR_t (AGR_u (Nat.le_refl _)) (AGR_u (by omega)) (Nat.le_refl _)) (Nat.le_refl _)) (by rw [zu_ne _ _ (by omega), zu_eq]; rfl) (zu_eq _ _ _) hRs.1.1 hRs.1.2 (fun _ => ⟨hRs.2.1, RVal_of hRs.2.2 hN⟩) h g
    · exact absurd q1 q3
  · replace h := xp_t (by decide +kernel) h
    rcases x_word hL hn.1 8 (by decide) (by rfl) e3 with ⟨_, q3⟩ | ⟨q2, _⟩
    · exact absurd q3 q1
    subst q2
    replace g := xp_t (by decide +kernel) g
    obtain ⟨u2, e4, g⟩ := xz_d1 g
    obtain ⟨w6, w7, e5, h⟩ := xz_d2 h
    rcases p_pass hL hn.1 (by decide) (by decide) e5 with ⟨q4, him, y⟩ | ⟨q4, y⟩ <;> cases y
    · -- bars
      replace h := xp_t (by decide +kernel) h
      rcases x_word hL hn.1 9 (by decide) (by rfl) e4 with ⟨q2, _⟩ | ⟨_, q3⟩
      · subst q2
        replace g := xp_f (by decide +kernel) g
        unfold f_HM_readClause_29 at g
        replace g := xp_f (by decide +kernel) g
        rw [zwi (x := 12) (by decide), zwi (x := (j : Int)) (by omega), if_neg (by omega)] at g
        unfold f_HM_readClause_50 at g
        obtain ⟨u2, u3, u4, u5, u6, u7, e6, g⟩ := xz_d6 g
        have g2 := x_must1 hL him e6
        cases g2
        replace g := xp_n (xp_t (by decide +kernel) g)
        obtain ⟨nC2, N2, hA, g⟩ := r_71 (nC0 := nC) (j := j) hn.2.2.2.2 zfu 0 nC (by decide) AGR_0 g
        unfold f_HM_readClause_71_b at g
        replace g := xp_t (by decide +kernel) g
        replace g := (xp_s (xp_n (xp_n (xp_s g).2))).2
        have e7 : (zi_w ((8 * j : Nat) : Int)).toNat = 8 * j := by rw [zwi (by omega)]; omega
        have e8 : (zi_w (((8 * j : Nat) : Int) + 3)).toNat = 8 * j + 3 := by rw [zwi (by omega)]; omega
        rw [e7, e8] at g
        replace g := xp_t (by decide +kernel) g
        exact c_42 hL hW (bars := true) (nC0 := nC) (op0 := op) (ar0 := ar) (O0 := O) (i0 := i) (ν := fun _ => none) rfl ⟨by omega, by omega, hn.2.1, hn.2.2.1, by omega, hn.2.2.2.2, by omega, Nat.le_refl _⟩ (AGR_u (Nat.le_refl _)) hO1 hCR (Or.inl ⟨rfl, rfl⟩) (AGR_t hA (AGR_t (AGR_u (Nat.le_refl _)) (AGR_u (by omega)) (Nat.le_refl _)) (Nat.le_refl _)) (by rw [zu_ne _ _ (by omega), zu_eq]; rfl) (zu_eq _ _ _) AGR_0 AGR_0 (fun hb => nomatch hb) h g
      · exact absurd q4 q3
    · replace h := xp_f (by decide +kernel) h
      rcases x_word hL hn.1 9 (by decide) (by rfl) e4 with ⟨_, q3⟩ | ⟨q2, _⟩
      · exact absurd q3 q4
      subst q2
      replace g := xp_t (by decide +kernel) g
      unfold f_HM_readClause_29 at g
      replace g := xp_t (by decide +kernel) g
      unfold f_HM_readClause_49 at g
      have g3 := r_50f g
      cases h
      exact Or.inl ⟨rfl, i, hn.1, rfl, g3.1, g3.2⟩
/-! the clauses so far -/
def RLN (nC op ar : Nat → Int) (c : Nat) : List CSE → Nat → Prop
  | [] => fun _ => True
  | x :: l => fun i => RCN nC op ar c (8 * i) x.1 x.2.1 x.2.2 ∧ RLN nC op ar c l (i + 1)
theorem RLN_x {nC op ar nC' op' ar' : Nat → Int} {c c' : Nat} (hc : c ≤ c') (h2 : ∀ j, j < c → op' j = op j ∧ ar' j = ar j) : ∀ (l : List CSE) (i : Nat), AGR nC nC' (8 * (i + l.length)) → RLN nC op ar c l i → RLN nC' op' ar' c' l i := by
  intro l
  induction l with
  | nil => intro i _ _; trivial
  | cons x l ih =>
    intro i hA h
    rw [List.length_cons] at hA
    exact ⟨RCN_x h.1 hc (fun k hk => hA _ (by omega)) h2, ih (i + 1) (fun k hk => hA k (by omega)) h.2⟩
theorem RLN_app {nC op ar : Nat → Int} {c : Nat} {x : CSE} : ∀ (l : List CSE) (i : Nat), RLN nC op ar c l i → RCN nC op ar c (8 * (i + l.length)) x.1 x.2.1 x.2.2 → RLN nC op ar c (l ++ [x]) i := by
  intro l
  induction l with
  | nil => intro i _ h; exact ⟨h, trivial⟩
  | cons y l ih =>
    intro i h g
    rw [List.length_cons] at g
    exact ⟨h.1, ih (i + 1) h.2 (by rw [show i + 1 + l.length = i + (l.length + 1) from by omega]; exact g)⟩
theorem CLL_app {ord : Nat → Int} {base n t : Nat} {x : CSE} : ∀ (l : List CSE) (p : Nat), CLL ord base n l p → CLC ord base n t x.1 x.2.1 x.2.2 → CLL ord base (t + 1) (l ++ [x]) p := by
  intro l
  induction l with
  | nil =>
    intro p h g
    have e : p = n := h
    subst e
    exact ⟨t, g, rfl⟩
  | cons y l ih =>
    intro p h g
    obtain ⟨t1, h1, h2⟩ := h
    exact ⟨t1, h1, ih (t1 + 1) h2 g⟩
theorem CLL_x {ord ord' : Nat → Int} {base base' n : Nat} : ∀ (l : List CSE) (p : Nat), CLL ord base n l p → (∀ j, p ≤ j → j < n → ord' (base' + j) = ord (base + j)) → CLL ord' base' n l p := by
  intro l
  induction l with
  | nil => intro p h _; exact h
  | cons y l ih =>
    intro p h g
    obtain ⟨t1, h1, h2⟩ := h
    have h3 := CLL_le l _ h2
    have h4 := h1.2.1
    exact ⟨t1, CLC_x h1 (fun j j1 j2 => g j j1 (by omega)), ih (t1 + 1) h2 (fun j j1 j2 => g j (by omega) j2)⟩
theorem RLL_of {nC op ar row : Nat → Int} {c law : Nat} (hc : c ≤ 400) (h2 : ∀ k, k < c → row (law + 98 + 2 * k) = op k ∧ row (law + 99 + 2 * k) = ar k) : ∀ (l : List CSE) (i : Nat), (∀ k, k < 8 * (i + l.length) → row (law + 2 + k) = nC k) → RLN nC op ar c l i → RLL row law l i := by
  intro l
  induction l with
  | nil => intro i _ _; trivial
  | cons x l ih =>
    intro i hA h
    rw [List.length_cons] at hA
    obtain ⟨h1, hr⟩ := h
    refine ⟨?_, ih (i + 1) (fun k hk => hA k (by omega)) hr⟩
    obtain ⟨g1, ⟨s, e, g2, g3, g4, g5, g6⟩, g7⟩ := h1
    have at8 : ∀ k, k < 8 → row (law + 2 + 8 * i + k) = nC (8 * i + k) := fun k hk => by
      rw [show law + 2 + 8 * i + k = law + 2 + (8 * i + k) from by omega]
      exact hA _ (by omega)
    have hx : ∀ a b : Nat, b ≤ c → ∀ j, a ≤ j → j < b → rop row law j = op j ∧ rar row law j = ar j := fun a b hb j _ j2 => h2 j (by omega)
    refine ⟨by rw [← g1]; exact at8 0 (by decide), ⟨s, e, by rw [← g2]; exact at8 5 (by decide), by rw [← g3]; exact at8 6 (by decide), by omega, by omega, ?_⟩, fun hb => ?_⟩
    · rcases g6 with g6 | ⟨a1, a2, d, a3, a4⟩
      · exact Or.inl g6
      · exact Or.inr ⟨a1, RG_x a2 (hx s e g5), d, a3, RVal_x a4 (Nat.le_refl _) (hx s e g5)⟩
    · obtain ⟨s, e, b1, b2, b3, b4, b5, d, b6, b7⟩ := g7 hb
      exact ⟨s, e, by rw [← b1]; exact at8 3 (by decide), by rw [← b2]; exact at8 4 (by decide), by omega, by omega, RG_x b5 (hx s e b4), d, b6, RVal_x b7 (Nat.le_refl _) (hx s e b4)⟩
/-! A LAW's clauses -/
def mkC (bars : Bool) (β : BNu) (ν : (Nat → Int) → Option Int) : CSE := (bars, β, ν)
/-- how both readings end -/
def LEnd (T W : Nat → Int) (n m : Nat) (qs rs : Nat → Nat) (th st tp : Int) (rf row : Nat → Int) (v : Int × Int × Int × Int × (Nat → Int) × (Nat → Int) × (Nat → Int) × (Nat → Int)) (R : Int × Int × Int × Int × Int × Int × Int × Int × Int × Int × Int × Int × Int × Int × Int × (Nat → Int) × (Nat → Int) × (Nat → Int) × (Nat → Int) × (Nat → Int) × (Nat → Int) × (Nat → Int)) : Prop :=
  (∃ (i' : Nat) (fr to so wo a1 a2 a3 a4 a5 : Int) (f1 f2 f3 f4 f5 : Nat → Int), i' ≤ m ∧ v.1 = (qs i' : Int) ∧ f_HM_law_97 T W th st tp fr to so wo (qs i' : Int) 1 a1 a2 a3 a4 a5 rf row f1 f2 f3 f4 f5 = some R) ∨
  (v.1 = -1 ∧ ∃ (l : List CSE) (s' c' : Nat) (fr to so wo a3 a4 a5 : Int) (nC op ar f4 f5 : Nat → Int), l.length ≤ 12 ∧ s' ≤ 424 ∧ c' ≤ 400 ∧ v.2.1 = (s' : Int) ∧ CLL v.2.2.2.2.1 0 s' l 0 ∧ RLN nC op ar c' l 0 ∧ f_HM_law_97 T W th st tp fr to so wo (-1) 0 (l.length : Int) (c' : Int) a3 a4 a5 rf row nC op ar f4 f5 = some R)
theorem l_78b {T W : Nat → Int} {th st tp fr to so wo ft a1 a2 a3 a4 a5 : Int} {rf row f1 f2 f3 f4 f5 : Nat → Int} {N : Nat} {R : Int × Int × Int × Int × Int × Int × Int × Int × Int × Int × Int × Int × Int × Int × Int × (Nat → Int) × (Nat → Int) × (Nat → Int) × (Nat → Int) × (Nat → Int) × (Nat → Int) × (Nat → Int)} (h : f_HM_law_51 T W N th st tp fr to so wo ft 1 a1 a2 a3 a4 a5 rf row f1 f2 f3 f4 f5 = some R) : f_HM_law_97 T W th st tp fr to so wo ft 1 a1 a2 a3 a4 a5 rf row f1 f2 f3 f4 f5 = some R := by
  cases N with
  | zero => exact nomatch h
  | succ N =>
    replace h : f_HM_law_51_b T W (f_HM_law_51 T W N) th st tp fr to so wo ft 1 a1 a2 a3 a4 a5 rf row f1 f2 f3 f4 f5 = some R := h
    unfold f_HM_law_51_b at h
    replace h := xp_t (by decide +kernel) h
    unfold f_HM_law_78 at h
    exact xp_t (by decide +kernel) h
theorem l_loop {T : Nat → Int} {n m : Nat} {qs rs : Nat → Nat} {tk vl W : Nat → Int} (hL : LEX T n m qs rs tk vl) (hW : ∀ k : Nat, k < 8 → W k = zcd k) {th st : Int} {rf row tpx plc : Nat → Int} {v : Int × Int × Int × Int × (Nat → Int) × (Nat → Int) × (Nat → Int) × (Nat → Int)} {R : Int × Int × Int × Int × Int × Int × Int × Int × Int × Int × Int × Int × Int × Int × Int × (Nat → Int) × (Nat → Int) × (Nat → Int) × (Nat → Int) × (Nat → Int) × (Nat → Int) × (Nat → Int)} (hpl : ∀ i, i ≤ m → plc i = (qs i : Int)) : ∀ (N j s i p c : Nat) (O nC op ar pl pa : Nat → Int) (pd0 b0 : Int) (l : List CSE), (i ≤ m ∧ p ≤ 50 ∧ c ≤ 400 ∧ s ≤ i + 2 * j ∧ j ≤ 12) → l.length = j → CLL O 0 s l 0 → RLN nC op ar c l 0 → f_LawReader_read_38 tpx N (j : Int) (s : Int) (i : Int) (p : Int) O tk plc vl = some v →
    (∃ (r : Int × Int × Int × Int × Int × Int × Int × Int × Int × Int × Int × (Nat → Int) × (Nat → Int) × (Nat → Int) × (Nat → Int) × (Nat → Int)) (N2 : Nat), f_HM_readClause (n : Int) T W (qs i : Int) (rs i : Int) (SO T n (qs i)) (WO T n (qs i) (rs i)) (-1) 0 (j : Int) (c : Int) (p : Int) pd0 b0 nC op ar pl pa = some r ∧ f_HM_law_51 T W N2 th st (n : Int) r.1 r.2.1 r.2.2.1 r.2.2.2.1 r.2.2.2.2.1 r.2.2.2.2.2.1 r.2.2.2.2.2.2.1 r.2.2.2.2.2.2.2.1 r.2.2.2.2.2.2.2.2.1 r.2.2.2.2.2.2.2.2.2.1 r.2.2.2.2.2.2.2.2.2.2.1 rf row r.2.2.2.2.2.2.2.2.2.2.2.1 r.2.2.2.2.2.2.2.2.2.2.2.2.1 r.2.2.2.2.2.2.2.2.2.2.2.2.2.1 r.2.2.2.2.2.2.2.2.2.2.2.2.2.2.1 r.2.2.2.2.2.2.2.2.2.2.2.2.2.2.2 = some R) → LEnd T W n m qs rs th st (n : Int) rf row v R := by
  have hnm := hL.2.1
  have hm := hL.2.2.1
  intro N
  induction N with
  | zero => intro j s i p c O nC op ar pl pa pd0 b0 l _ _ _ _ h; exact nomatch h
  | succ N ih =>
    intro j s i p c O nC op ar pl pa pd0 b0 l hn hj hC hR h g
    obtain ⟨⟨r1, r2, r3, r4, r5, r6, r7, r8, r9, r10, r11, f1, f2, f3, f4, f5⟩, N2, g1, g2⟩ := g
    dsimp only at g2
    replace h : f_LawReader_read_38_b tpx (f_LawReader_read_38 tpx N) (j : Int) (s : Int) (i : Int) (p : Int) O tk plc vl = some v := h
    unfold f_LawReader_read_38_b at h
    rw [zwi (x := 12) (by decide), zwi (x := (j : Int)) (by omega)] at h
    by_cases c12 : j = 12
    · rw [if_pos (by omega)] at h
      replace h := (xp_g h).2
      rw [zwi (x := (i : Int)) (by omega), Int.toNat_natCast, hpl i hn.1] at h
      cases h
      rw [c12] at g1
      have q := r_cl12 g1
      replace q : r5 = (qs i : Int) ∧ r6 = 1 := q
      obtain ⟨q1, q2⟩ := q
      subst q1
      subst q2
      exact Or.inl ⟨i, _, _, _, _, _, _, _, _, _, _, _, _, _, _, hn.1, rfl, l_78b g2⟩
    · rw [if_neg (by omega)] at h
      obtain ⟨w2, w3, w4, w5, w6, e1, h⟩ := xz_d5 h
      rcases c_clause hL hW ⟨hn.1, hn.2.1, hn.2.2.1, hn.2.2.2.1, by omega⟩ e1 g1 with ⟨y1, i', y2, y3, y4, y5⟩ | ⟨s', i', p', c', O', nC', op', ar', pl', pa', pd', b', bars, β, ν, hv, hr, hb, hO, ⟨t, ht, hCl⟩, hA1, hA2, hA3, hRC⟩
      · replace y1 : w2 = 0 := y1
        replace y3 : w4 = (i' : Int) := y3
        replace y4 : r5 = (qs i' : Int) := y4
        replace y5 : r6 = 1 := y5
        subst y1
        subst y3
        subst y4
        subst y5
        replace h := xp_t (by decide +kernel) h
        replace h := (xp_g h).2
        rw [zwi (x := (i' : Int)) (by omega), Int.toNat_natCast, hpl i' y2] at h
        cases h
        exact Or.inl ⟨i', _, _, _, _, _, _, _, _, _, _, _, _, _, _, y2, rfl, l_78b g2⟩
      · cases hv
        cases hr
        replace h := xp_f (by decide +kernel) h
        replace h := p_tok hL hb.2.1 h
        have hrg := (tk_r (hL.2.2.2.2.1 i' hb.2.1)).1
        rw [zwi (x := tk i') (by omega), zwi (x := 257) (by decide)] at h
        subst ht
        -- the clauses, one more
        have hC2 : CLL w6 0 (t + 1) (l ++ [mkC bars β ν]) 0 := CLL_app (x := mkC bars β ν) l 0 (CLL_x l 0 hC (fun k _ k2 => by rw [Nat.zero_add]; exact hO k k2)) hCl
        have hR2 : RLN f1 f2 f3 c' (l ++ [mkC bars β ν]) 0 := RLN_app (x := mkC bars β ν) l 0 (RLN_x hb.2.2.2.2.2 (fun k hk => ⟨hA2 k hk, hA3 k hk⟩) l 0 (by rw [Nat.zero_add, hj]; exact hA1) hR) (by rw [Nat.zero_add, hj]; exact hRC)
        have hl2 : (l ++ [mkC bars β ν]).length = j + 1 := by rw [List.length_append, hj]; rfl
        cases N2 with
        | zero => exact nomatch g2
        | succ N2 =>
          replace g2 : f_HM_law_51_b T W (f_HM_law_51 T W N2) th st (n : Int) (qs i' : Int) (rs i' : Int) (SO T n (qs i')) (WO T n (qs i') (rs i')) (-1) 0 ((j + 1 : Nat) : Int) (c' : Int) (p' : Int) r10 r11 rf row f1 f2 f3 f4 f5 = some R := g2
          unfold f_HM_law_51_b at g2
          replace g2 := xp_f (by decide +kernel) g2
          obtain ⟨u1, e2, g2⟩ := xz_d1 g2
          have g97 : f_HM_law_97 T W th st (n : Int) (qs i' : Int) (rs i' : Int) (SO T n (qs i')) (WO T n (qs i') (rs i')) (-1) 0 ((l ++ [mkC bars β ν]).length : Int) (c' : Int) (p' : Int) r10 r11 rf row f1 f2 f3 f4 f5 = some R → v.1 = -1 → v.2.1 = ((t + 1 : Nat) : Int) → v.2.2.2.2.1 = w6 → LEnd T W n m qs rs th st (n : Int) rf row v R := fun g97 z1 z2 z3 => Or.inr ⟨z1, l ++ [mkC bars β ν], t + 1, c', _, _, _, _, _, _, _, f1, f2, f3, _, _, by rw [hl2]; omega, by omega, hb.2.2.2.1, z2, by rw [z3]; exact hC2, hR2, g97⟩
          by_cases c7 : tk i' = 257
          · rw [if_neg (fun z => z c7)] at h
            cases h
            rcases x_sign hL hb.2.1 (by decide) e2 with ⟨_, q2⟩ | ⟨q1, _⟩
            · omega
            · subst q1
              replace g2 := xp_t (by decide +kernel) g2
              unfold f_HM_law_78 at g2
              replace g2 := xp_f (by decide +kernel) g2
              have em : i' = m := by
                rcases Nat.lt_or_ge i' m with z | z
                · exfalso
                  have hkk := hL.2.2.2.2.1 i' hb.2.1
                  have hTT := hL.2.2.2.1.1 i' z
                  obtain ⟨_, hk⟩ := hkk
                  have hs0 : SO T n (qs i') ≠ 0 := by
                    unfold SO
                    rw [if_neg (by omega)]
                    split
                    · decide
                    · split
                      · decide
                      · decide
                  rcases hk with ⟨_, ⟨k', a1, a2, a3, a4⟩ | ⟨k', a1, a2, a3⟩ | ⟨a1, a2⟩⟩ | hk | hk | hk <;> omega
                · omega
              have hs : SO T n (qs i') = 0 := by
                unfold SO
                rw [em, hL.2.2.2.1.2.1.1, if_pos rfl]
              have g3 : f_HM_law_97 T W th st (n : Int) (qs i' : Int) (rs i' : Int) (SO T n (qs i')) (WO T n (qs i') (rs i')) (-1) 0 ((j + 1 : Nat) : Int) (c' : Int) (p' : Int) r10 r11 rf row f1 f2 f3 f4 f5 = some R := by
                rw [hs] at g2 ⊢
                exact xp_t (by decide +kernel) g2
              exact g97 (by rw [hl2]; exact g3) rfl rfl rfl
          · rw [if_pos c7] at h
            obtain ⟨w9, w10, e3, h⟩ := xz_d2 h
            have him := LEX_lt hL hb.2.1 c7
            rcases p_pass hL hb.2.1 (by decide) (by decide) e3 with ⟨q1, _, y⟩ | ⟨q1, y⟩ <;> cases y
            · replace h := xp_n (xp_t (by decide +kernel) h)
              rcases x_sign hL hb.2.1 (by decide) e2 with ⟨q2, _⟩ | ⟨_, q3⟩
              · subst q2
                replace g2 := xp_f (by decide +kernel) g2
                obtain ⟨u2, u3, u4, u5, e4, g2⟩ := xz_d4 g2
                have g3 := x_next hL him e4
                cases g3
                obtain ⟨r1, r2, r3, r4, r5, r6, r7, r8, r9, r10, r11, k1, k2, k3, k4, k5, e5, g2⟩ := xz_d16 g2
                exact ih (j + 1) (t + 1) (i' + 1) p' c' w6 f1 f2 f3 f4 f5 _ _ (l ++ [mkC bars β ν]) ⟨by omega, hb.2.2.1, hb.2.2.2.1, by omega, by omega⟩ hl2 hC2 hR2 h ⟨(r1, r2, r3, r4, r5, r6, r7, r8, r9, r10, r11, k1, k2, k3, k4, k5), N2, e5, g2⟩
              · exact absurd q1 q3
            · replace h := xp_f (by decide +kernel) h
              replace h := (xp_g h).2
              rw [zwi (x := (i' : Int)) (by omega), Int.toNat_natCast, hpl i' hb.2.1] at h
              cases h
              rcases x_sign hL hb.2.1 (by decide) e2 with ⟨_, q3⟩ | ⟨q2, _⟩
              · exact absurd q3 q1
              · subst q2
                replace g2 := xp_t (by decide +kernel) g2
                unfold f_HM_law_78 at g2
                replace g2 := xp_f (by decide +kernel) g2
                have hs : SO T n (qs i') ≠ 0 := by
                  have hq := (hL.2.2.2.1.1 i' him).1
                  unfold SO
                  rw [if_neg (by omega)]
                  split
                  · decide
                  · split
                    · decide
                    · decide
                have hsr := (tk_r (hL.2.2.2.2.1 i' hb.2.1)).2.1
                rw [zwi (x := SO T n (qs i')) (by omega), if_neg hs] at g2
                obtain ⟨u2, u3, u4, u5, u6, u7, e4, g2⟩ := xz_d6 g2
                have g3 := x_must0 e4
                cases g3
                exact Or.inl ⟨i', _, _, _, _, _, _, _, _, _, _, _, _, _, _, hb.2.1, rfl, g2⟩
