theorem x_sign {T : Nat → Int} {n m : Nat} {qs rs : Nat → Nat} {tk vl : Nat → Int} (hL : LEX T n m qs rs tk vl) {i : Nat} (hi : i ≤ m) {x : Int} (hx : 0 ≤ x ∧ x ≤ 255) {v : Int} (h : f_HM_isSign x (SO T n (qs i)) (WO T n (qs i) (rs i)) = some v) : (v = 1 ∧ tk i = x) ∨ (v = 0 ∧ tk i ≠ x) := by
  have g := zok_x (t_isSign (hL.2.2.2.2.1 i hi) x hx) h
  exact g
theorem x_word {T : Nat → Int} {n m : Nat} {qs rs : Nat → Nat} {tk vl : Nat → Int} (hL : LEX T n m qs rs tk vl) {i : Nat} (hi : i ≤ m) (k : Nat) (hk : 8 ≤ k ∧ k < 14) {x : Int} (hx : x = zcd k) {v : Int} (h : f_HM_isWord x (SO T n (qs i)) (WO T n (qs i) (rs i)) = some v) : (v = 1 ∧ tk i = 252 + (k : Int)) ∨ (v = 0 ∧ tk i ≠ 252 + (k : Int)) := by
  have g := zok_x (t_isWord (hL.2.2.2.2.1 i hi) k hk x hx) h
  exact g
theorem zcd_r {k : Nat} (hk : k < 14) : 0 ≤ zcd k ∧ zcd k ≤ 700000000000 := by
  have key : ∀ w : Fin 14, 0 ≤ zcd w.val ∧ zcd w.val ≤ 700000000000 := by decide +kernel
  exact key ⟨k, hk⟩
theorem zcd_i {a b : Nat} (ha : a < 14) (hb : b < 14) (h : zcd a = zcd b) : a = b := congrArg Fin.val (zcd_inj ⟨a, ha⟩ ⟨b, hb⟩ h)
theorem t_isPart {c v s w : Int} (h : TKR c v s w) (k : Nat) (hk : k < 8) {o : Int} (e : f_HM_isWord (zcd k) s w = some o) : (o = 1 ∧ c = 259 ∧ v = (k : Int)) ∨ (o = 0 ∧ ¬ (c = 259 ∧ v = (k : Int))) := by
  have hr := tk_r h
  obtain ⟨hb, h⟩ := h
  have zr := zcd_r (k := k) (by omega)
  unfold f_HM_isWord at e
  rw [zwi (x := s) (by omega), zwi (x := 1) (by decide)] at e
  by_cases c1 : s = 1
  · rw [if_neg (fun q => q c1), zwl (x := w) (by omega), zwl (x := zcd k) (by omega)] at e
    by_cases c2 : w = zcd k
    · rw [if_neg (fun q => q c2)] at e
      cases e
      refine Or.inl ⟨rfl, ?_⟩
      rcases h with ⟨_, ⟨k', g1, g2, g3, g4⟩ | ⟨k', g1, g2, g3⟩ | ⟨g1, g2⟩⟩ | h | h | h
      · have := zcd_i (a := k') (b := k) (by omega) (by omega) (by omega)
        subst this
        exact ⟨g2, g3⟩
      · have := zcd_i (a := k') (b := k) (by omega) (by omega) (by omega)
        omega
      · exact absurd c2 (g2 k (by omega))
      · omega
      · omega
      · omega
    · rw [if_pos c2] at e
      cases e
      refine Or.inr ⟨rfl, fun q => ?_⟩
      rcases h with ⟨_, ⟨k', g1, g2, g3, g4⟩ | ⟨k', g1, g2, g3⟩ | ⟨g1, g2⟩⟩ | h | h | h
      · have : k' = k := by omega
        subst this
        exact c2 g4
      all_goals omega
  · rw [if_pos c1] at e
    cases e
    refine Or.inr ⟨rfl, fun q => ?_⟩
    rcases h with h | h | h | h <;> omega
theorem x_part_4 {c v s w : Int} {W : Nat → Int} (hk : TKR c v s w) (hW : ∀ k : Nat, k < 8 → W k = zcd k) : ∀ (N k : Nat) (x1 o : Int), k ≤ 8 → f_HM_partAt_4 s w W N x1 (k : Int) = some o → o = if c = 259 ∧ (k : Int) ≤ v then v + 1 else x1 := by
  have hr := tk_r hk
  intro N
  induction N with
  | zero => intro k x1 o _ h; exact nomatch h
  | succ N ih =>
    intro k x1 o hk8 h
    replace h : f_HM_partAt_4_b s w W (f_HM_partAt_4 s w W N) x1 (k : Int) = some o := h
    unfold f_HM_partAt_4_b at h
    rw [zwi (x := 8) (by decide), zwi (x := (k : Int)) (by omega)] at h
    by_cases d : (8 : Int) ≤ (k : Int)
    · rw [if_pos d] at h
      cases h
      rw [if_neg (by omega)]
    · rw [if_neg d] at h
      replace h := (xp_g h).2
      rw [zwi (x := (k : Int)) (by omega), Int.toNat_natCast, hW k (by omega)] at h
      obtain ⟨v2, e2, h⟩ := xz_d1 h
      rcases t_isPart hk k (by omega) e2 with ⟨g1, g2, g3⟩ | ⟨g1, g2⟩
      · subst g1
        replace h := xp_f (by decide +kernel) h
        replace h := xp_n h
        unfold f_HM_partAt_30 at h
        replace h := xp_n h
        have := ih (k + 1) ((k : Int) + 1) o (by omega) h
        rw [if_neg (by omega)] at this
        rw [if_pos (by omega)]
        omega
      · subst g1
        replace h := xp_t (by decide +kernel) h
        unfold f_HM_partAt_30 at h
        replace h := xp_n h
        have := ih (k + 1) x1 o (by omega) h
        rw [this]
        by_cases q : c = 259 ∧ ((k + 1 : Nat) : Int) ≤ v
        · rw [if_pos q, if_pos (by omega)]
        · rw [if_neg q, if_neg (by omega)]
theorem x_partAt {c v s w : Int} {W : Nat → Int} (hk : TKR c v s w) (hW : ∀ k : Nat, k < 8 → W k = zcd k) {o : Int} (h : f_HM_partAt s w W = some o) : o = if c = 259 then v + 1 else -1 := by
  have hr := tk_r hk
  unfold f_HM_partAt at h
  have g := x_part_4 hk hW zfu 0 (-1) o (by omega) h
  rw [g]
  by_cases q : c = 259
  · rw [if_pos (by omega), if_pos q]
  · rw [if_neg (fun z => q z.1), if_neg q]
theorem x_leaf1 {T : Nat → Int} {n m : Nat} {qs rs : Nat → Nat} {tk vl : Nat → Int} (hL : LEX T n m qs rs tk vl) {i : Nat} (hi : i < m) {x y : Int} {c p : Nat} {op ar : Nat → Int} {r : Int × Int × Int × Int × Int × Int × Int × Int × (Nat → Int) × (Nat → Int)} (hc : c ≤ 1000) (hp : p < 50) (h : f_HM_leaf 1 x y (n : Int) T (qs i : Int) (rs i : Int) (SO T n (qs i)) (WO T n (qs i) (rs i)) (-1) 0 (c : Int) (p : Int) op ar = some r) : c < 400 ∧ r = ((qs (i + 1) : Int), (rs (i + 1) : Int), SO T n (qs (i + 1)), WO T n (qs (i + 1)) (rs (i + 1)), -1, 0, ((c + 1 : Nat) : Int), ((p + 1 : Nat) : Int), zu op c x, zu ar c y) := by
  unfold f_HM_leaf at h
  replace h := xp_f (by decide +kernel) h
  rw [zwi (x := 50) (by decide), zwi (x := (p : Int)) (by omega), if_neg (by omega)] at h
  unfold f_HM_leaf_19 at h
  obtain ⟨v1, v2, v3, v4, v5, v6, e, h⟩ := xz_d6 h
  have g := x_must1 hL hi e
  cases g
  replace h := xp_f (by decide +kernel) h
  obtain ⟨v7, a8, a9, e2, h⟩ := xz_d3 h
  obtain ⟨g1, g2⟩ := x_emit hc e2
  cases g2
  replace h := xp_n h
  cases h
  exact ⟨g1, rfl⟩
theorem x_leaf0 {n : Int} {T : Nat → Int} {z fr to so wo : Int} {x y : Int} {c p : Nat} {op ar : Nat → Int} {r : Int × Int × Int × Int × Int × Int × Int × Int × (Nat → Int) × (Nat → Int)} (hz : z = 0 ∨ (z = 1 ∧ 50 ≤ p)) (hp : p ≤ 50) (h : f_HM_leaf z x y n T fr to so wo (-1) 0 (c : Int) (p : Int) op ar = some r) : r = (fr, to, so, wo, fr, 1, (c : Int), (p : Int), op, ar) := by
  have fin : ∀ h : f_HM_leaf_18 n T x y fr to so wo (-1) 0 (c : Int) (p : Int) op ar = some r, r = (fr, to, so, wo, fr, 1, (c : Int), (p : Int), op, ar) := fun h => by
    unfold f_HM_leaf_18 f_HM_leaf_19 at h
    obtain ⟨v1, v2, v3, v4, v5, v6, e, h⟩ := xz_d6 h
    have g := x_must0 e
    cases g
    replace h := xp_t (by decide +kernel) h
    cases h
    rfl
  unfold f_HM_leaf at h
  rcases hz with hz | ⟨hz, hz2⟩ <;> subst hz
  · exact fin (xp_t (by decide +kernel) h)
  · replace h := xp_f (by decide +kernel) h
    rw [zwi (x := 50) (by decide), zwi (x := (p : Int)) (by omega), if_pos (by omega)] at h
    exact fin h
theorem x_open1 {T : Nat → Int} {n m : Nat} {qs rs : Nat → Nat} {tk vl : Nat → Int} (hL : LEX T n m qs rs tk vl) {i : Nat} (hi : i < m) {x : Int} {pd b : Nat} {pl pa : Nat → Int} {r : Int × Int × Int × Int × Int × Int × Int × Int × (Nat → Int) × (Nat → Int)} (hpd : pd ≤ 1000) (hb : b < 8) (h : f_HM_openBracket x (n : Int) T (qs i : Int) (rs i : Int) (SO T n (qs i)) (WO T n (qs i) (rs i)) (-1) 0 (pd : Int) (b : Int) pl pa = some r) : pd < 400 ∧ r = ((qs (i + 1) : Int), (rs (i + 1) : Int), SO T n (qs (i + 1)), WO T n (qs (i + 1)) (rs (i + 1)), -1, 0, ((pd + 1 : Nat) : Int), ((b + 1 : Nat) : Int), zu pl pd x, zu pa pd 0) := by
  unfold f_HM_openBracket at h
  rw [zwi (x := 8) (by decide), zwi (x := (b : Int)) (by omega), if_neg (by omega)] at h
  unfold f_HM_openBracket_15 at h
  obtain ⟨v1, v2, v3, v4, v5, v6, e, h⟩ := xz_d6 h
  have g := x_must1 hL hi e
  cases g
  replace h := xp_n (xp_f (by decide +kernel) h)
  obtain ⟨v7, a8, a9, e2, h⟩ := xz_d3 h
  obtain ⟨g1, g2⟩ := x_push hpd e2
  cases g2
  cases h
  exact ⟨g1, rfl⟩
theorem x_open0 {n : Int} {T : Nat → Int} {x fr to so wo pd : Int} {pl pa : Nat → Int} {r : Int × Int × Int × Int × Int × Int × Int × Int × (Nat → Int) × (Nat → Int)} (h : f_HM_openBracket x n T fr to so wo (-1) 0 pd 8 pl pa = some r) : r = (fr, to, so, wo, fr, 1, pd, 8, pl, pa) := by
  unfold f_HM_openBracket at h
  replace h := xp_t (by decide +kernel) h
  unfold f_HM_openBracket_15 at h
  obtain ⟨v1, v2, v3, v4, v5, v6, e, h⟩ := xz_d6 h
  have g := x_must0 e
  cases g
  replace h := xp_t (by decide +kernel) h
  cases h
  rfl
theorem r_part {T : Nat → Int} {n m : Nat} {qs rs : Nat → Nat} {tk vl W : Nat → Int} {x1 : Int} {o : OX} (hL : LEX T n m qs rs tk vl) (hW : ∀ k : Nat, k < 8 → W k = zcd k) {i c p pd b : Nat} {op ar pl pa : Nat → Int} {t a1 a2 a3 a4 a5 a6 a7 a8 a9 a10 : Int} {f1 f2 f3 f4 : Nat → Int} (hi : i ≤ m) (hc : c ≤ 1000) (hp : p ≤ 50) (hpd : pd ≤ 1000) (hb : b ≤ 8)
    (h : f_HM_readPart (n : Int) T W (qs i : Int) (rs i : Int) (SO T n (qs i)) (WO T n (qs i) (rs i)) (-1) 0 (c : Int) (p : Int) (pd : Int) (b : Int) op ar pl pa = some (t, a1, a2, a3, a4, a5, a6, a7, a8, a9, a10, f1, f2, f3, f4))
    (g : ∃ N, f_HM_readExpression_20 (n : Int) T W N x1 t a1 a2 a3 a4 a5 a6 a7 a8 a9 a10 f1 f2 f3 f4 = some o) :
    (tk i = 91 ∧ b < 8 ∧ i < m ∧ pd < 400 ∧ EX T n W x1 qs rs o 1 (i + 1) c p (pd + 1) (b + 1) op ar (zu pl pd 31) (zu pa pd 0)) ∨
    (tk i = 258 ∧ i < m ∧ p < 50 ∧ c < 400 ∧ (0 ≤ vl i ∧ vl i ≤ 1000) ∧ EX T n W x1 qs rs o 3 (i + 1) (c + 1) (p + 1) pd b (zu op c 0) (zu ar c (vl i)) pl pa) ∨
    (∃ w : Nat, w < 8 ∧ tk i = 259 ∧ vl i = (w : Int) ∧ i < m ∧ p < 50 ∧ c < 400 ∧ EX T n W x1 qs rs o 3 (i + 1) (c + 1) (p + 1) pd b (zu op c ((w : Int) + 1)) (zu ar c 0) pl pa) ∨
    (((tk i = 91 ∧ b = 8) ∨ (tk i ≠ 91 ∧ (p = 50 ∨ (tk i ≠ 258 ∧ tk i ≠ 259)))) ∧ FL qs o i) := by
  have hk := hL.2.2.2.2.1 i hi
  have hr := tk_r hk
  unfold f_HM_readPart at h
  obtain ⟨v1, e1, h⟩ := xz_d1 h
  rcases x_sign hL hi (by decide) e1 with ⟨q1, q2⟩ | ⟨q1, q2⟩
  · subst q1
    replace h := xp_f (by decide +kernel) h
    obtain ⟨v3, v4, v5, v6, v7, v8, v9, v10, a11, a12, e2, h⟩ := xz_d10 h
    cases h
    rcases Nat.lt_or_ge b 8 with hb8 | hb8
    · have him := LEX_lt hL hi (by omega)
      obtain ⟨g1, g2⟩ := x_open1 hL him hpd hb8 e2
      cases g2
      exact Or.inl ⟨q2, hb8, him, g1, g⟩
    · have eb : b = 8 := by omega
      subst eb
      have g2 := x_open0 e2
      cases g2
      obtain ⟨N, g⟩ := g
      exact Or.inr (Or.inr (Or.inr ⟨Or.inl ⟨q2, rfl⟩, e_bad g⟩))
  · subst q1
    replace h := xp_t (by decide +kernel) h
    obtain ⟨v2, e2, h⟩ := xz_d1 h
    have g2 := x_partAt hk hW e2
    by_cases c9 : tk i = 259
    · rw [if_pos c9] at g2
      subst g2
      have hv := hr.2.2.2 c9
      have hs : SO T n (qs i) = 1 := by
        obtain ⟨_, hk⟩ := hk
        rcases hk with hk | hk | hk | hk <;> omega
      have h45 : f_HM_readPart_45 (n : Int) T W (vl i + 1) (qs i : Int) (rs i : Int) (SO T n (qs i)) (WO T n (qs i) (rs i)) (-1) 0 (c : Int) (p : Int) (pd : Int) (b : Int) op ar pl pa = some (t, a1, a2, a3, a4, a5, a6, a7, a8, a9, a10, f1, f2, f3, f4) := by
        rw [hs] at h ⊢
        exact xp_t (by decide +kernel) h
      unfold f_HM_readPart_45 f_HM_readPart_46 at h45
      rw [zwi (x := vl i + 1) (by omega), zwi (x := -1) (by decide), if_pos (by omega)] at h45
      unfold f_HM_readPart_57 f_HM_readPart_62 at h45
      rw [zwi (x := vl i + 1) (by omega), zwi (x := -1) (by decide), if_pos (by omega)] at h45
      unfold f_HM_readPart_72 at h45
      replace h45 := xp_t (by decide +kernel) h45
      unfold f_HM_readPart_85 at h45
      obtain ⟨u1, u2, u3, u4, u5, u6, u7, u8, b9, b10, e3, h45⟩ := xz_d10 h45
      cases h45
      rcases Nat.lt_or_ge p 50 with hp5 | hp5
      · have him := LEX_lt hL hi (by omega)
        obtain ⟨g1, g2⟩ := x_leaf1 hL him hc hp5 e3
        cases g2
        refine Or.inr (Or.inr (Or.inl ⟨(vl i).toNat, by omega, c9, by omega, him, hp5, g1, ?_⟩))
        rw [show (((vl i).toNat : Nat) : Int) = vl i from by omega]
        exact g
      · have g2 := x_leaf0 (Or.inr ⟨rfl, hp5⟩) hp e3
        cases g2
        obtain ⟨N, g⟩ := g
        exact Or.inr (Or.inr (Or.inr ⟨Or.inr ⟨q2, Or.inl (by omega)⟩, e_bad g⟩))
    · rw [if_neg c9] at g2
      subst g2
      by_cases c8 : tk i = 258
      · have hv := hr.2.2.1 c8
        have hs : SO T n (qs i) = 2 ∧ WO T n (qs i) (rs i) = vl i := by
          obtain ⟨_, hk⟩ := hk
          rcases hk with ⟨_, ⟨k', g1, g2, g3, g4⟩ | ⟨k', g1, g2, g3⟩ | ⟨g1, g2⟩⟩ | hk | hk | hk <;> omega
        have h46 : f_HM_readPart_46 (n : Int) T W (-1) 1 (qs i : Int) (rs i : Int) (SO T n (qs i)) (WO T n (qs i) (rs i)) (-1) 0 (c : Int) (p : Int) (pd : Int) (b : Int) op ar pl pa = some (t, a1, a2, a3, a4, a5, a6, a7, a8, a9, a10, f1, f2, f3, f4) := by
          rw [hs.1, hs.2] at h ⊢
          replace h := xp_f (by decide +kernel) h
          rw [zwl (x := 1000) (by decide), zwl (x := vl i) (by omega), if_neg (by omega)] at h
          exact h
        unfold f_HM_readPart_46 at h46
        replace h46 := xp_f (by decide +kernel) (xp_f (by decide +kernel) h46)
        unfold f_HM_readPart_57 f_HM_readPart_62 at h46
        replace h46 := xp_f (by decide +kernel) h46
        unfold f_HM_readPart_72 at h46
        replace h46 := xp_f (by decide +kernel) h46
        unfold f_HM_readPart_85 at h46
        obtain ⟨u1, u2, u3, u4, u5, u6, u7, u8, b9, b10, e3, h46⟩ := xz_d10 h46
        cases h46
        rcases Nat.lt_or_ge p 50 with hp5 | hp5
        · have him := LEX_lt hL hi (by omega)
          obtain ⟨g1, g2⟩ := x_leaf1 hL him hc hp5 e3
          cases g2
          refine Or.inr (Or.inl ⟨c8, him, hp5, g1, hv, ?_⟩)
          rw [← hs.2]
          exact g
        · have g2 := x_leaf0 (Or.inr ⟨rfl, hp5⟩) hp e3
          cases g2
          obtain ⟨N, g⟩ := g
          exact Or.inr (Or.inr (Or.inr ⟨Or.inr ⟨q2, Or.inl (by omega)⟩, e_bad g⟩))
      · have h45 : f_HM_readPart_45 (n : Int) T W (-1) (qs i : Int) (rs i : Int) (SO T n (qs i)) (WO T n (qs i) (rs i)) (-1) 0 (c : Int) (p : Int) (pd : Int) (b : Int) op ar pl pa = some (t, a1, a2, a3, a4, a5, a6, a7, a8, a9, a10, f1, f2, f3, f4) := by
          by_cases s2 : SO T n (qs i) = 2
          · have hw : 1000 < WO T n (qs i) (rs i) ∧ WO T n (qs i) (rs i) ≤ 2000000000000000 := by
              obtain ⟨hb2, hk⟩ := hk
              rcases hk with hk | hk | hk | hk <;> omega
            rw [zwi (x := SO T n (qs i)) (by omega), zwi (x := 2) (by decide), if_neg (fun z => z s2), zwl (x := 1000) (by decide), zwl (x := WO T n (qs i) (rs i)) (by omega), if_pos (by omega)] at h
            exact h
          · rw [zwi (x := SO T n (qs i)) (by omega), zwi (x := 2) (by decide), if_pos s2] at h
            exact h
        unfold f_HM_readPart_45 f_HM_readPart_46 at h45
        replace h45 := xp_t (by decide +kernel) (xp_f (by decide +kernel) h45)
        unfold f_HM_readPart_62 at h45
        replace h45 := xp_f (by decide +kernel) h45
        unfold f_HM_readPart_72 at h45
        replace h45 := xp_t (by decide +kernel) h45
        unfold f_HM_readPart_85 at h45
        obtain ⟨u1, u2, u3, u4, u5, u6, u7, u8, b9, b10, e3, h45⟩ := xz_d10 h45
        cases h45
        have g2 := x_leaf0 (Or.inl rfl) hp e3
        cases g2
        obtain ⟨N, g⟩ := g
        exact Or.inr (Or.inr (Or.inr ⟨Or.inr ⟨q2, Or.inr ⟨c8, c9⟩⟩, e_bad g⟩))
theorem e_part {T : Nat → Int} {n m : Nat} {qs rs : Nat → Nat} {tk vl W : Nat → Int} {x1 : Int} {o : OX} (hL : LEX T n m qs rs tk vl) (hW : ∀ k : Nat, k < 8 → W k = zcd k) {i c p pd b : Nat} {op ar pl pa : Nat → Int} (hi : i ≤ m) (hc : c ≤ 1000) (hp : p ≤ 50) (hpd : pd ≤ 400) (hb : b ≤ 8) (h : EX T n W x1 qs rs o 1 i c p pd b op ar pl pa) :
    (tk i = 91 ∧ b < 8 ∧ i < m ∧ pd < 400 ∧ EX T n W x1 qs rs o 1 (i + 1) c p (pd + 1) (b + 1) op ar (zu pl pd 31) (zu pa pd 0)) ∨
    (tk i = 258 ∧ i < m ∧ p < 50 ∧ c < 400 ∧ (0 ≤ vl i ∧ vl i ≤ 1000) ∧ EX T n W x1 qs rs o 3 (i + 1) (c + 1) (p + 1) pd b (zu op c 0) (zu ar c (vl i)) pl pa) ∨
    (∃ w : Nat, w < 8 ∧ tk i = 259 ∧ vl i = (w : Int) ∧ i < m ∧ p < 50 ∧ c < 400 ∧ EX T n W x1 qs rs o 3 (i + 1) (c + 1) (p + 1) pd b (zu op c ((w : Int) + 1)) (zu ar c 0) pl pa) ∨
    (((tk i = 91 ∧ b = 8) ∨ (tk i ≠ 91 ∧ (p = 50 ∨ (tk i ≠ 258 ∧ tk i ≠ 259)))) ∧ FL qs o i) := by
  obtain ⟨N, h⟩ := h
  cases N with
  | zero => exact nomatch h
  | succ N =>
    replace h : f_HM_readExpression_20_b (n : Int) T W (f_HM_readExpression_20 (n : Int) T W N) x1 1 (qs i : Int) (rs i : Int) (SO T n (qs i)) (WO T n (qs i) (rs i)) (-1) 0 (c : Int) (p : Int) (pd : Int) (b : Int) op ar pl pa = some o := h
    unfold f_HM_readExpression_20_b at h
    replace h := xp_f (by decide +kernel) (xp_f (by decide +kernel) h)
    replace h := xp_f (by decide +kernel) (xp_t (by decide +kernel) h)
    obtain ⟨t, a1, a2, a3, a4, a5, a6, a7, a8, a9, a10, f1, f2, f3, f4, e1, h⟩ := xz_d15 h
    unfold f_HM_readExpression_72 at h
    exact r_part hL hW hi hc hp (by omega) hb e1 ⟨N, h⟩
theorem e_plain {T : Nat → Int} {n m : Nat} {qs rs : Nat → Nat} {tk vl W : Nat → Int} {x1 : Int} {o : OX} (hL : LEX T n m qs rs tk vl) (hW : ∀ k : Nat, k < 8 → W k = zcd k) {i c p pd b : Nat} {op ar pl pa : Nat → Int} (hi : i ≤ m) (hc : c ≤ 1000) (hp : p ≤ 50) (hpd : pd ≤ 400) (hb : b ≤ 8) (h : EX T n W x1 qs rs o 0 i c p pd b op ar pl pa) :
    (tk i = 265 ∧ i < m ∧ pd < 400 ∧ EX T n W x1 qs rs o 0 (i + 1) c p (pd + 1) b op ar (zu pl pd 27) (zu pa pd 0)) ∨
    (tk i = 40 ∧ b < 8 ∧ i < m ∧ pd < 400 ∧ EX T n W x1 qs rs o 0 (i + 1) c p (pd + 1) (b + 1) op ar (zu pl pd 30) (zu pa pd 0)) ∨
    (tk i = 40 ∧ b = 8 ∧ FL qs o i) ∨
    ((tk i ≠ 265 ∧ tk i ≠ 40) ∧ EX T n W x1 qs rs o 1 i c p pd b op ar pl pa) := by
  obtain ⟨N, h⟩ := h
  cases N with
  | zero => exact nomatch h
  | succ N =>
    replace h : f_HM_readExpression_20_b (n : Int) T W (f_HM_readExpression_20 (n : Int) T W N) x1 0 (qs i : Int) (rs i : Int) (SO T n (qs i)) (WO T n (qs i) (rs i)) (-1) 0 (c : Int) (p : Int) (pd : Int) (b : Int) op ar pl pa = some o := h
    unfold f_HM_readExpression_20_b at h
    replace h := xp_f (by decide +kernel) (xp_f (by decide +kernel) h)
    replace h := xp_f (by decide +kernel) h
    obtain ⟨t, a1, a2, a3, a4, a5, a6, a7, a8, a9, a10, f1, f2, f3, f4, e1, h⟩ := xz_d15 h
    unfold f_HM_readExpression_72 at h
    unfold f_HM_readPlain at e1
    obtain ⟨v1, e2, e1⟩ := xz_d1 e1
    rcases x_word hL hi 13 (by decide) (by rfl) e2 with ⟨q1, q2⟩ | ⟨q1, q2⟩
    · subst q1
      replace e1 := xp_f (by decide +kernel) e1
      obtain ⟨u1, w2, w3, e3, e1⟩ := xz_d3 e1
      obtain ⟨g1, g2⟩ := x_push (by omega) e3
      cases g2
      obtain ⟨u31, u32, u33, u34, e4, e1⟩ := xz_d4 e1
      have q3 : tk i = 265 := by omega
      have him := LEX_lt hL hi (by omega)
      have g3 := x_next hL him e4
      cases g3
      cases e1
      exact Or.inl ⟨q3, him, g1, N, h⟩
    · subst q1
      replace e1 := xp_t (by decide +kernel) e1
      obtain ⟨v2, e3, e1⟩ := xz_d1 e1
      rcases x_sign hL hi (by decide) e3 with ⟨q3, q4⟩ | ⟨q3, q4⟩
      · subst q3
        replace e1 := xp_f (by decide +kernel) e1
        obtain ⟨v3, v4, v5, v6, v7, v8, v9, v10, a11, a12, e4, e1⟩ := xz_d10 e1
        cases e1
        rcases Nat.lt_or_ge b 8 with hb8 | hb8
        · have him := LEX_lt hL hi (by omega)
          obtain ⟨g1, g2⟩ := x_open1 hL him (by omega) hb8 e4
          cases g2
          exact Or.inr (Or.inl ⟨q4, hb8, him, g1, N, h⟩)
        · have eb : b = 8 := by omega
          subst eb
          have g2 := x_open0 e4
          cases g2
          exact Or.inr (Or.inr (Or.inl ⟨q4, rfl, e_bad h⟩))
      · subst q3
        replace e1 := xp_t (by decide +kernel) e1
        obtain ⟨u1, u2, u3, u4, u5, u6, u7, u8, u9, u10, u11, w1, w2, w3, w4, e4, e1⟩ := xz_d15 e1
        cases e1
        refine Or.inr (Or.inr (Or.inr ⟨⟨by omega, q4⟩, N + 1, ?_⟩))
        show f_HM_readExpression_20_b (n : Int) T W (f_HM_readExpression_20 (n : Int) T W N) x1 1 (qs i : Int) (rs i : Int) (SO T n (qs i)) (WO T n (qs i) (rs i)) (-1) 0 (c : Int) (p : Int) (pd : Int) (b : Int) op ar pl pa = some o
        unfold f_HM_readExpression_20_b
        rw [if_neg (by decide +kernel), if_neg (by decide +kernel), if_pos (by decide +kernel), if_neg (by decide +kernel), e4]
        exact h
def TKO (c q : Int) : Prop := (c = 43 ∧ q = 20) ∨ (c = 45 ∧ q = 21) ∨ (c = 42 ∧ q = 22) ∨ (c = 47 ∧ q = 23)
def NOP (c : Int) : Prop := c ≠ 43 ∧ c ≠ 45 ∧ c ≠ 42 ∧ c ≠ 47
def TKC (c q : Int) : Prop := (c = 60 ∧ q = 24) ∨ (c = 62 ∧ q = 25) ∨ (c = 61 ∧ q = 26)
theorem r_cmp1 {T : Nat → Int} {n m : Nat} {qs rs : Nat → Nat} {tk vl W : Nat → Int} {x1 : Int} {o : OX} (hL : LEX T n m qs rs tk vl) {i c p pd b : Nat} {op ar pl pa : Nat → Int} {t a1 a2 a3 a4 a5 a6 a7 a9 a10 : Int} {f1 f2 f3 f4 : Nat → Int} (hi : i ≤ m) (hc : c ≤ 1000) (hp : p ≤ 50) (hpd : pd ≤ 400) (hb : b ≤ 8) (hx : x1 = 0 ∨ x1 = 1) (hP : PLR pl pd) {q : Int} (him : i < m)
    (h : f_HM_behindSum_210 (n : Int) T q 1 (qs i : Int) (rs i : Int) (SO T n (qs i)) (WO T n (qs i) (rs i)) (-1) 0 (c : Int) (pd : Int) (b : Int) op ar pl pa = some (t, a1, a2, a3, a4, a5, a6, a7, a9, a10, f1, f2, f3, f4)) (g : ∃ N, f_HM_readExpression_20 (n : Int) T W N x1 t a1 a2 a3 a4 a5 a6 a7 (p : Int) a9 a10 f1 f2 f3 f4 = some o) : ∃ r, ST 5 pl pa c pd op ar r ∧ ∀ (c' pd' : Nat) (op' ar' : Nat → Int), r = ((c' : Int), (pd' : Int), op', ar') → pd' ≤ 1000 → pd' < 400 ∧ EX T n W x1 qs rs o 1 (i + 1) c' p (pd' + 1) b op' ar' (zu pl pd' q) (zu pa pd' 0) := by
  unfold f_HM_behindSum_210 at h
  obtain ⟨v1, v2, v3, v4, v5, v6, e, h⟩ := xz_d6 h
  have g1 := x_must1 hL him e
  cases g1
  replace h := xp_f (by decide +kernel) h
  obtain ⟨v7, v8, w9, w10, e2, h⟩ := xz_d4 h
  obtain ⟨v11, w12, w13, e3, h⟩ := xz_d3 h
  refine ⟨(v7, v8, w9, w10), ⟨zfu, by unfold f_HM_settle at e2; exact e2⟩, fun c' pd' op' ar' er h1 => ?_⟩
  cases er
  obtain ⟨g2, g3⟩ := x_push h1 e3
  cases g3
  cases h
  exact ⟨g2, g⟩
theorem r_cmp0 {T : Nat → Int} {n m : Nat} {qs rs : Nat → Nat} {tk vl W : Nat → Int} {x1 : Int} {o : OX} (hL : LEX T n m qs rs tk vl) {i c p pd b : Nat} {op ar pl pa : Nat → Int} {t a1 a2 a3 a4 a5 a6 a7 a9 a10 : Int} {f1 f2 f3 f4 : Nat → Int} (hi : i ≤ m) (hc : c ≤ 1000) (hp : p ≤ 50) (hpd : pd ≤ 400) (hb : b ≤ 8) (hx : x1 = 0 ∨ x1 = 1) (hP : PLR pl pd) {q : Int}
    (h : f_HM_behindSum_210 (n : Int) T q 0 (qs i : Int) (rs i : Int) (SO T n (qs i)) (WO T n (qs i) (rs i)) (-1) 0 (c : Int) (pd : Int) (b : Int) op ar pl pa = some (t, a1, a2, a3, a4, a5, a6, a7, a9, a10, f1, f2, f3, f4)) (g : ∃ N, f_HM_readExpression_20 (n : Int) T W N x1 t a1 a2 a3 a4 a5 a6 a7 (p : Int) a9 a10 f1 f2 f3 f4 = some o) : FL qs o i := by
  unfold f_HM_behindSum_210 at h
  obtain ⟨v1, v2, v3, v4, v5, v6, e, h⟩ := xz_d6 h
  have g1 := x_must0 e
  cases g1
  replace h := xp_t (by decide +kernel) h
  cases h
  obtain ⟨N, g⟩ := g
  exact e_bad g
theorem CMV_r (pl : Nat → Int) : ∀ k, CMV pl k = 0 ∨ CMV pl k = 1 := by
  intro k
  induction k with
  | zero => exact Or.inl rfl
  | succ k ih =>
    show (if 20 ≤ pl k ∧ pl k ≤ 23 then CMV pl k else if 24 ≤ pl k ∧ pl k ≤ 26 then 1 else 0) = 0 ∨ (if 20 ≤ pl k ∧ pl k ≤ 23 then CMV pl k else if 24 ≤ pl k ∧ pl k ≤ 26 then 1 else 0) = 1
    split
    · exact ih
    · split
      · exact Or.inr rfl
      · exact Or.inl rfl
theorem r_test {T : Nat → Int} {n m : Nat} {qs rs : Nat → Nat} {tk vl W : Nat → Int} {x1 : Int} {o : OX} (hL : LEX T n m qs rs tk vl) {i c p pd b : Nat} {op ar pl pa : Nat → Int} {t a1 a2 a3 a4 a5 a6 a7 a9 a10 : Int} {f1 f2 f3 f4 : Nat → Int} (hi : i ≤ m) (hc : c ≤ 1000) (hp : p ≤ 50) (hpd : pd ≤ 400) (hb : b ≤ 8) (hx : x1 = 0 ∨ x1 = 1) (hP : PLR pl pd)
    (h : f_HM_behindSum_149 (n : Int) T (qs i : Int) (rs i : Int) (SO T n (qs i)) (WO T n (qs i) (rs i)) (-1) 0 (c : Int) (pd : Int) (b : Int) op ar pl pa = some (t, a1, a2, a3, a4, a5, a6, a7, a9, a10, f1, f2, f3, f4)) (g : ∃ N, f_HM_readExpression_20 (n : Int) T W N x1 t a1 a2 a3 a4 a5 a6 a7 (p : Int) a9 a10 f1 f2 f3 f4 = some o) : (CMV pl pd = 1 ∧ EX T n W x1 qs rs o 2 i c p pd b op ar pl pa) ∨ (CMV pl pd = 0 ∧ (∀ q, ¬ TKC (tk i) q) ∧ FL qs o i) ∨
       (CMV pl pd = 0 ∧ ∃ q r, TKC (tk i) q ∧ i < m ∧ ST 5 pl pa c pd op ar r ∧ ∀ (c' pd' : Nat) (op' ar' : Nat → Int), r = ((c' : Int), (pd' : Int), op', ar') → pd' ≤ 1000 → pd' < 400 ∧ EX T n W x1 qs rs o 1 (i + 1) c' p (pd' + 1) b op' ar' (zu pl pd' q) (zu pa pd' 0)) := by
  have tr := (tk_r (hL.2.2.2.2.1 i hi)).1
  unfold f_HM_behindSum_149 at h
  obtain ⟨v1, e1, h⟩ := xz_d1 h
  have g1 := x_cmp hP hpd e1
  rcases CMV_r pl pd with hz | hz
  · rw [hz] at g1
    subst g1
    refine Or.inr ?_
    replace h := xp_t (by decide +kernel) h
    obtain ⟨v2, e2, h⟩ := xz_d1 h
    rcases x_sign hL hi (by decide) e2 with ⟨q1, q2⟩ | ⟨q1, q2⟩
    · subst q1
      replace h := xp_f (by decide +kernel) h
      have him := LEX_lt hL hi (by omega)
      unfold f_HM_behindSum_188 at h
      replace h := xp_t (by decide +kernel) h
      unfold f_HM_behindSum_205 at h
      obtain ⟨r, g2, g3⟩ := r_cmp1 hL hi hc hp hpd hb hx hP him h g
      exact Or.inr ⟨hz, 24, r, Or.inl ⟨q2, rfl⟩, him, g2, g3⟩
    · subst q1
      replace h := xp_t (by decide +kernel) h
      obtain ⟨v3, e3, h⟩ := xz_d1 h
      rcases x_sign hL hi (by decide) e3 with ⟨q3, q4⟩ | ⟨q3, q4⟩
      · subst q3
        replace h := xp_f (by decide +kernel) h
        have him := LEX_lt hL hi (by omega)
        unfold f_HM_behindSum_188 at h
        replace h := xp_t (by decide +kernel) h
        unfold f_HM_behindSum_205 at h
        obtain ⟨r, g2, g3⟩ := r_cmp1 hL hi hc hp hpd hb hx hP him h g
        exact Or.inr ⟨hz, 25, r, Or.inr (Or.inl ⟨q4, rfl⟩), him, g2, g3⟩
      · subst q3
        replace h := xp_t (by decide +kernel) h
        unfold f_HM_behindSum_188 at h
        replace h := xp_f (by decide +kernel) h
        obtain ⟨v4, e4, h⟩ := xz_d1 h
        rcases x_sign hL hi (by decide) e4 with ⟨q5, q6⟩ | ⟨q5, q6⟩
        · subst q5
          replace h := xp_f (by decide +kernel) h
          have him := LEX_lt hL hi (by omega)
          unfold f_HM_behindSum_205 at h
          obtain ⟨r, g2, g3⟩ := r_cmp1 hL hi hc hp hpd hb hx hP him h g
          exact Or.inr ⟨hz, 26, r, Or.inr (Or.inr ⟨q6, rfl⟩), him, g2, g3⟩
        · subst q5
          replace h := xp_t (by decide +kernel) h
          refine Or.inl ⟨hz, fun q z => ?_, r_cmp0 hL hi hc hp hpd hb hx hP h g⟩
          unfold TKC at z
          omega
  · rw [hz] at g1
    subst g1
    replace h := xp_f (by decide +kernel) h
    cases h
    exact Or.inl ⟨hz, g⟩
theorem INV_r {pl : Nat → Int} : ∀ k, PLR pl k → INVb pl k = -1 ∨ INVb pl k = 30 ∨ INVb pl k = 31 := by
  intro k
  induction k with
  | zero => intro _; exact Or.inl rfl
  | succ k ih =>
    intro h
    have r := h k (by omega)
    show (if 30 ≤ pl k then pl k else INVb pl k) = -1 ∨ (if 30 ≤ pl k then pl k else INVb pl k) = 30 ∨ (if 30 ≤ pl k then pl k else INVb pl k) = 31
    by_cases c : 30 ≤ pl k
    · rw [if_pos c]; omega
    · rw [if_neg c]; exact ih (fun j hj => h j (by omega))
theorem r_sum57 {T : Nat → Int} {n m : Nat} {qs rs : Nat → Nat} {tk vl W : Nat → Int} {x1 : Int} {o : OX} (hL : LEX T n m qs rs tk vl) {i c p pd b : Nat} {op ar pl pa : Nat → Int} {t a1 a2 a3 a4 a5 a6 a7 a9 a10 : Int} {f1 f2 f3 f4 : Nat → Int} (hi : i ≤ m) (hc : c ≤ 1000) (hp : p ≤ 50) (hpd : pd ≤ 400) (hb : b ≤ 8) (hx : x1 = 0 ∨ x1 = 1) (hP : PLR pl pd)
    (h : f_HM_behindSum_57 (n : Int) T x1 (-1) (qs i : Int) (rs i : Int) (SO T n (qs i)) (WO T n (qs i) (rs i)) (-1) 0 (c : Int) (pd : Int) (b : Int) op ar pl pa = some (t, a1, a2, a3, a4, a5, a6, a7, a9, a10, f1, f2, f3, f4)) (g : ∃ N, f_HM_readExpression_20 (n : Int) T W N x1 t a1 a2 a3 a4 a5 a6 a7 (p : Int) a9 a10 f1 f2 f3 f4 = some o) : ((INVb pl pd = 31 ∧ tk i ≠ 93 ∧ FL qs o i) ∨
       (INVb pl pd = 31 ∧ tk i = 93 ∧ i < m ∧ ∃ r, ST 5 pl pa c pd op ar r ∧ ∀ (c' pd' b' : Nat) (op' ar' : Nat → Int), r = ((c' : Int), ((pd' + 1 : Nat) : Int), op', ar') → b = b' + 1 → EX T n W x1 qs rs o 3 (i + 1) c' p pd' b' op' ar' pl pa) ∨
       (INVb pl pd = -1 ∧ x1 = 0 ∧ EX T n W x1 qs rs o 4 i c p pd b op ar pl pa) ∨
       (INVb pl pd ≠ 31 ∧ (INVb pl pd ≠ -1 ∨ x1 ≠ 0) ∧ CMV pl pd = 1 ∧ EX T n W x1 qs rs o 2 i c p pd b op ar pl pa) ∨
       (INVb pl pd ≠ 31 ∧ (INVb pl pd ≠ -1 ∨ x1 ≠ 0) ∧ CMV pl pd = 0 ∧ (∀ q, ¬ TKC (tk i) q) ∧ FL qs o i) ∨
       (INVb pl pd ≠ 31 ∧ (INVb pl pd ≠ -1 ∨ x1 ≠ 0) ∧ CMV pl pd = 0 ∧ ∃ q r, TKC (tk i) q ∧ i < m ∧ ST 5 pl pa c pd op ar r ∧ ∀ (c' pd' : Nat) (op' ar' : Nat → Int), r = ((c' : Int), (pd' : Int), op', ar') → pd' ≤ 1000 → pd' < 400 ∧ EX T n W x1 qs rs o 1 (i + 1) c' p (pd' + 1) b op' ar' (zu pl pd' q) (zu pa pd' 0))) := by
  unfold f_HM_behindSum_57 at h
  replace h := xp_t (by decide +kernel) h
  obtain ⟨v1, e1, h⟩ := xz_d1 h
  have g1 := x_inner hP hpd e1
  have ir := INV_r pd hP
  by_cases c1 : INVb pl pd = 31
  · rw [c1] at g1
    subst g1
    replace h := xp_f (by decide +kernel) h
    obtain ⟨v2, e2, h⟩ := xz_d1 h
    obtain ⟨v3, v4, v5, v6, v7, v8, e3, h⟩ := xz_d6 h
    rcases x_sign hL hi (by decide) e2 with ⟨q1, q2⟩ | ⟨q1, q2⟩
    · subst q1
      have him := LEX_lt hL hi (by omega)
      have g2 := x_must1 hL him e3
      cases g2
      replace h := xp_f (by decide +kernel) h
      obtain ⟨v9, v10, w11, w12, e4, h⟩ := xz_d4 h
      replace h := xp_n (xp_n h)
      refine Or.inr (Or.inl ⟨c1, q2, him, (v9, v10, w11, w12), ⟨zfu, by unfold f_HM_settle at e4; exact e4⟩, fun c' pd' b' op' ar' er eb => ?_⟩)
      cases er
      subst eb
      rw [show ((pd' + 1 : Nat) : Int) - 1 = (pd' : Int) from by omega, show ((b' + 1 : Nat) : Int) - 1 = (b' : Int) from by omega] at h
      cases h
      exact g
    · subst q1
      have g2 := x_must0 e3
      cases g2
      replace h := xp_t (by decide +kernel) h
      cases h
      obtain ⟨N, g⟩ := g
      exact Or.inl ⟨c1, q2, e_bad g⟩
  · subst g1
    rw [zwi (x := INVb pl pd) (by omega), zwi (x := 31) (by decide), zwi (x := -1) (by decide), if_pos c1] at h
    have fin : (INVb pl pd ≠ -1 ∨ x1 ≠ 0) → f_HM_behindSum_149 (n : Int) T (qs i : Int) (rs i : Int) (SO T n (qs i)) (WO T n (qs i) (rs i)) (-1) 0 (c : Int) (pd : Int) (b : Int) op ar pl pa = some (t, a1, a2, a3, a4, a5, a6, a7, a9, a10, f1, f2, f3, f4) → ((INVb pl pd = 31 ∧ tk i ≠ 93 ∧ FL qs o i) ∨
       (INVb pl pd = 31 ∧ tk i = 93 ∧ i < m ∧ ∃ r, ST 5 pl pa c pd op ar r ∧ ∀ (c' pd' b' : Nat) (op' ar' : Nat → Int), r = ((c' : Int), ((pd' + 1 : Nat) : Int), op', ar') → b = b' + 1 → EX T n W x1 qs rs o 3 (i + 1) c' p pd' b' op' ar' pl pa) ∨
       (INVb pl pd = -1 ∧ x1 = 0 ∧ EX T n W x1 qs rs o 4 i c p pd b op ar pl pa) ∨
       (INVb pl pd ≠ 31 ∧ (INVb pl pd ≠ -1 ∨ x1 ≠ 0) ∧ CMV pl pd = 1 ∧ EX T n W x1 qs rs o 2 i c p pd b op ar pl pa) ∨
       (INVb pl pd ≠ 31 ∧ (INVb pl pd ≠ -1 ∨ x1 ≠ 0) ∧ CMV pl pd = 0 ∧ (∀ q, ¬ TKC (tk i) q) ∧ FL qs o i) ∨
       (INVb pl pd ≠ 31 ∧ (INVb pl pd ≠ -1 ∨ x1 ≠ 0) ∧ CMV pl pd = 0 ∧ ∃ q r, TKC (tk i) q ∧ i < m ∧ ST 5 pl pa c pd op ar r ∧ ∀ (c' pd' : Nat) (op' ar' : Nat → Int), r = ((c' : Int), (pd' : Int), op', ar') → pd' ≤ 1000 → pd' < 400 ∧ EX T n W x1 qs rs o 1 (i + 1) c' p (pd' + 1) b op' ar' (zu pl pd' q) (zu pa pd' 0))) := fun hne hh => by
      rcases r_test hL hi hc hp hpd hb hx hP hh g with z | z | z
      · exact Or.inr (Or.inr (Or.inr (Or.inl ⟨c1, hne, z⟩)))
      · exact Or.inr (Or.inr (Or.inr (Or.inr (Or.inl ⟨c1, hne, z⟩))))
      · exact Or.inr (Or.inr (Or.inr (Or.inr (Or.inr ⟨c1, hne, z⟩))))
    by_cases c2 : INVb pl pd = -1
    · rw [if_neg (fun z => z c2)] at h
      rcases hx with hx0 | hx0
      · subst hx0
        replace h := xp_f (by decide +kernel) h
        cases h
        exact Or.inr (Or.inr (Or.inl ⟨c2, rfl, g⟩))
      · subst hx0
        replace h := xp_t (by decide +kernel) h
        exact fin (Or.inr (by decide)) h
    · rw [if_pos c2] at h
      exact fin (Or.inl c2) h
theorem r_sumop {T : Nat → Int} {n m : Nat} {qs rs : Nat → Nat} {tk vl W : Nat → Int} {x1 : Int} {o : OX} (hL : LEX T n m qs rs tk vl) {i c p pd b : Nat} {op ar pl pa : Nat → Int} {t a1 a2 a3 a4 a5 a6 a7 a9 a10 : Int} {f1 f2 f3 f4 : Nat → Int} (hi : i ≤ m) (hc : c ≤ 1000) (hp : p ≤ 50) (hpd : pd ≤ 400) (hb : b ≤ 8) {q : Int} (hq : 20 ≤ q ∧ q ≤ 23) (him : i < m)
    (h : f_HM_behindSum_57 (n : Int) T x1 q (qs i : Int) (rs i : Int) (SO T n (qs i)) (WO T n (qs i) (rs i)) (-1) 0 (c : Int) (pd : Int) (b : Int) op ar pl pa = some (t, a1, a2, a3, a4, a5, a6, a7, a9, a10, f1, f2, f3, f4)) (g : ∃ N, f_HM_readExpression_20 (n : Int) T W N x1 t a1 a2 a3 a4 a5 a6 a7 (p : Int) a9 a10 f1 f2 f3 f4 = some o) : ∃ r, ST (BDS q) pl pa c pd op ar r ∧ ∀ (c' pd' : Nat) (op' ar' : Nat → Int), r = ((c' : Int), (pd' : Int), op', ar') → pd' ≤ 1000 → pd' < 400 ∧ EX T n W x1 qs rs o 1 (i + 1) c' p (pd' + 1) b op' ar' (zu pl pd' q) (zu pa pd' 0) := by
  unfold f_HM_behindSum_57 at h
  rw [zwi (x := q) (by omega), zwi (x := -1) (by decide), if_neg (by omega)] at h
  obtain ⟨v15, e1, h⟩ := xz_d1 h
  have g1 := x_binds (by omega) e1
  subst g1
  obtain ⟨v16, v17, w18, w19, e2, h⟩ := xz_d4 h
  obtain ⟨v20, w21, w22, e3, h⟩ := xz_d3 h
  obtain ⟨v23, v24, v25, v26, e4, h⟩ := xz_d4 h
  have g2 := x_next hL him e4
  cases g2
  refine ⟨(v16, v17, w18, w19), ⟨zfu, by unfold f_HM_settle at e2; exact e2⟩, fun c' pd' op' ar' er h1 => ?_⟩
  cases er
  obtain ⟨g2, g3⟩ := x_push h1 e3
  cases g3
  cases h
  exact ⟨g2, g⟩
theorem e_sum {T : Nat → Int} {n m : Nat} {qs rs : Nat → Nat} {tk vl W : Nat → Int} {x1 : Int} {o : OX} (hL : LEX T n m qs rs tk vl) {i c p pd b : Nat} {op ar pl pa : Nat → Int} (hi : i ≤ m) (hc : c ≤ 1000) (hp : p ≤ 50) (hpd : pd ≤ 400) (hb : b ≤ 8) (hx : x1 = 0 ∨ x1 = 1) (hP : PLR pl pd) (h : EX T n W x1 qs rs o 3 i c p pd b op ar pl pa) :
    (∃ q r, TKO (tk i) q ∧ i < m ∧ ST (BDS q) pl pa c pd op ar r ∧ ∀ (c' pd' : Nat) (op' ar' : Nat → Int), r = ((c' : Int), (pd' : Int), op', ar') → pd' ≤ 1000 → pd' < 400 ∧ EX T n W x1 qs rs o 1 (i + 1) c' p (pd' + 1) b op' ar' (zu pl pd' q) (zu pa pd' 0)) ∨
    (NOP (tk i) ∧
      ((INVb pl pd = 31 ∧ tk i ≠ 93 ∧ FL qs o i) ∨
       (INVb pl pd = 31 ∧ tk i = 93 ∧ i < m ∧ ∃ r, ST 5 pl pa c pd op ar r ∧ ∀ (c' pd' b' : Nat) (op' ar' : Nat → Int), r = ((c' : Int), ((pd' + 1 : Nat) : Int), op', ar') → b = b' + 1 → EX T n W x1 qs rs o 3 (i + 1) c' p pd' b' op' ar' pl pa) ∨
       (INVb pl pd = -1 ∧ x1 = 0 ∧ EX T n W x1 qs rs o 4 i c p pd b op ar pl pa) ∨
       (INVb pl pd ≠ 31 ∧ (INVb pl pd ≠ -1 ∨ x1 ≠ 0) ∧ CMV pl pd = 1 ∧ EX T n W x1 qs rs o 2 i c p pd b op ar pl pa) ∨
       (INVb pl pd ≠ 31 ∧ (INVb pl pd ≠ -1 ∨ x1 ≠ 0) ∧ CMV pl pd = 0 ∧ (∀ q, ¬ TKC (tk i) q) ∧ FL qs o i) ∨
       (INVb pl pd ≠ 31 ∧ (INVb pl pd ≠ -1 ∨ x1 ≠ 0) ∧ CMV pl pd = 0 ∧ ∃ q r, TKC (tk i) q ∧ i < m ∧ ST 5 pl pa c pd op ar r ∧ ∀ (c' pd' : Nat) (op' ar' : Nat → Int), r = ((c' : Int), (pd' : Int), op', ar') → pd' ≤ 1000 → pd' < 400 ∧ EX T n W x1 qs rs o 1 (i + 1) c' p (pd' + 1) b op' ar' (zu pl pd' q) (zu pa pd' 0)))) := by
  obtain ⟨N, h⟩ := h
  cases N with
  | zero => exact nomatch h
  | succ N =>
    replace h : f_HM_readExpression_20_b (n : Int) T W (f_HM_readExpression_20 (n : Int) T W N) x1 3 (qs i : Int) (rs i : Int) (SO T n (qs i)) (WO T n (qs i) (rs i)) (-1) 0 (c : Int) (p : Int) (pd : Int) (b : Int) op ar pl pa = some o := h
    unfold f_HM_readExpression_20_b at h
    replace h := xp_f (by decide +kernel) (xp_f (by decide +kernel) h)
    replace h := xp_f (by decide +kernel) (xp_t (by decide +kernel) (xp_t (by decide +kernel) h))
    obtain ⟨t, a1, a2, a3, a4, a5, a6, a7, a9, a10, f1, f2, f3, f4, e1, h⟩ := xz_d14 h
    unfold f_HM_readExpression_72 at h
    unfold f_HM_behindSum at e1
    obtain ⟨u0, d0, e1⟩ := xz_d1 e1
    rcases x_sign hL hi (by decide) d0 with ⟨q1, z0⟩ | ⟨q1, z0⟩
    · subst q1
      replace e1 := xp_f (by decide +kernel) e1
      have him := LEX_lt hL hi (by omega)
      obtain ⟨r, g2, g3⟩ := r_sumop hL hi hc hp hpd hb (by decide) him e1 ⟨N, h⟩
      exact Or.inl ⟨20, r, by unfold TKO; omega, him, g2, g3⟩
    · subst q1
      replace e1 := xp_t (by decide +kernel) e1
      obtain ⟨u1, d1, e1⟩ := xz_d1 e1
      rcases x_sign hL hi (by decide) d1 with ⟨q1, z1⟩ | ⟨q1, z1⟩
      · subst q1
        replace e1 := xp_f (by decide +kernel) e1
        have him := LEX_lt hL hi (by omega)
        obtain ⟨r, g2, g3⟩ := r_sumop hL hi hc hp hpd hb (by decide) him e1 ⟨N, h⟩
        exact Or.inl ⟨21, r, by unfold TKO; omega, him, g2, g3⟩
      · subst q1
        replace e1 := xp_t (by decide +kernel) e1
        obtain ⟨u2, d2, e1⟩ := xz_d1 e1
        rcases x_sign hL hi (by decide) d2 with ⟨q1, z2⟩ | ⟨q1, z2⟩
        · subst q1
          replace e1 := xp_f (by decide +kernel) e1
          have him := LEX_lt hL hi (by omega)
          obtain ⟨r, g2, g3⟩ := r_sumop hL hi hc hp hpd hb (by decide) him e1 ⟨N, h⟩
          exact Or.inl ⟨22, r, by unfold TKO; omega, him, g2, g3⟩
        · subst q1
          replace e1 := xp_t (by decide +kernel) e1
          obtain ⟨u3, d3, e1⟩ := xz_d1 e1
          rcases x_sign hL hi (by decide) d3 with ⟨q1, z3⟩ | ⟨q1, z3⟩
          · subst q1
            replace e1 := xp_f (by decide +kernel) e1
            have him := LEX_lt hL hi (by omega)
            obtain ⟨r, g2, g3⟩ := r_sumop hL hi hc hp hpd hb (by decide) him e1 ⟨N, h⟩
            exact Or.inl ⟨23, r, by unfold TKO; omega, him, g2, g3⟩
          · subst q1
            replace e1 := xp_t (by decide +kernel) e1
            exact Or.inr ⟨⟨z0, z1, z2, z3⟩, r_sum57 hL hi hc hp hpd hb hx hP e1 ⟨N, h⟩⟩
