theorem z_stones4 (row : Nat → Int) (h0 : RI row) : ∀ (m c : Nat) (x1 x2 : Int), x2 = (c : Int) → (c : Int) ≤ row 0 → x1 = zHs row c → (0 ≤ x1 ∧ x1 ≤ 10 * (c : Int)) → row 0 - (c : Int) + 1 ≤ (m : Int) → zok (f_HM_stones_4 row m x1 x2) (fun o => o = zHs row (row 0).toNat ∧ 0 ≤ o ∧ o ≤ 120) := by
  have r0 := RI_0 h0
  intro m
  induction m with
  | zero => intro c x1 x2 e2 hc e1 hb hm; exact absurd hm (by omega)
  | succ m ih =>
    intro c x1 x2 e2 hc e1 hb hm
    show zok (f_HM_stones_4_b row (f_HM_stones_4 row m) x1 x2) _
    unfold f_HM_stones_4_b
    refine zk_d1 (s_HM_columns _ h0) (fun v1 p1 => ?_)
    try dsimp only at p1
    refine zk_ifc (zci_le (by omega) (by omega)) (fun hc1 => ?_) (fun hc1 => ?_)
    · have : (row 0).toNat = c := by omega
      exact zk_ret ⟨by rw [this]; exact e1, by omega, by omega⟩
    · refine zk_nE (fun v2 q2 => ?_)
      refine zk_gl (9 + c) (by omega) (by omega) (by decide) (fun v3 q3 => ?_)
      have hr := zHt_r h0 c (by omega)
      have ht : v3 = zHt row c := by
        unfold zHt
        rw [if_pos (by omega), q3]
      refine zk_nE (fun v4 q4 => ?_)
      refine zk_nE (fun v5 q5 => ?_)
      refine ih (c + 1) v4 v5 (by omega) (by omega) ?_ (by omega) (by omega)
      show v4 = zHs row c + zHt row c
      omega
theorem z_stones {row : Nat → Int} (h0 : RI row) : zok (f_HM_stones row) (fun o => o = zHs row (row 0).toNat ∧ 0 ≤ o ∧ o ≤ 120) := by
  have r0 := RI_0 h0
  unfold f_HM_stones
  exact z_stones4 row h0 zfu 0 0 0 rfl (by omega) rfl (by omega) (by unfold zfu; omega)
theorem zHs_4 {row : Nat → Int} (h0 : RI row) (h : row 0 ≤ 4) : zHs row 4 = zHs row (row 0).toNat := by
  have r0 := RI_0 h0
  have k : ∀ d, (row 0).toNat ≤ d → zHs row d = zHs row (row 0).toNat := by
    intro d
    induction d with
    | zero => intro hd; have : (row 0).toNat = 0 := by omega
              rw [this]
    | succ d ih =>
      intro hd
      by_cases q : (row 0).toNat = d + 1
      · rw [q]
      · show zHs row d + zHt row d = _
        rw [ih (by omega)]
        have : zHt row d = 0 := by
          unfold zHt
          rw [if_neg (by omega)]
        omega
  exact k 4 (by omega)
theorem z_ig4 (row ta : Nat → Int) (h0 : RI row) (h4 : row 0 ≤ 4) (ht : ∀ c, c < 4 → 0 ≤ ta c ∧ ta c ≤ 5) : ∀ (m c : Nat) (x1 x2 : Int), x2 = (c : Int) → (x1 = 0 ∨ x1 = 1) → (c : Int) ≤ row 0 → row 0 - (c : Int) + 1 ≤ (m : Int) → zok (f_HM_isGoal_4 row ta m x1 x2) (fun o => o = 0 ∨ o = 1) := by
  have r0 := RI_0 h0
  intro m
  induction m with
  | zero => intro c x1 x2 e2 h1 hc hm; exact absurd hm (by omega)
  | succ m ih =>
    intro c x1 x2 e2 h1 hc hm
    show zok (f_HM_isGoal_4_b row ta (f_HM_isGoal_4 row ta m) x1 x2) _
    unfold f_HM_isGoal_4_b
    refine zk_d1 (s_HM_columns _ h0) (fun v1 p1 => ?_)
    try dsimp only at p1
    refine zk_ifc (zci_le (by omega) (by omega)) (fun hc1 => ?_) (fun hc1 => ?_)
    · exact zk_gb h1 (zk_ret h1)
    · have go : ∀ s : Int, (s = 0 ∨ s = 1) → zok (f_HM_isGoal_54 row ta (f_HM_isGoal_4 row ta m) x2 s) (fun o => o = 0 ∨ o = 1) := by
        intro s hs
        unfold f_HM_isGoal_54
        refine zk_nE (fun w hw => ?_)
        exact ih (c + 1) s w (by omega) hs (by omega) (by omega)
      have hg := RI_g h0 (i := 141 + x2) (by omega)
      have hc4 : c < 4 := by omega
      have htc := ht c hc4
      refine zk_ifc (zci_eqr (by omega)) (fun hc2 => ?_) (fun hc2 => ?_)
      · unfold f_HM_isGoal_53
        exact go 0 (Or.inl rfl)
      · refine zk_nE (fun v2 q2 => ?_)
        refine zk_gv (by omega) (by decide) (fun v3 q3 => ?_)
        have q3' : v3 = row (141 + x2).toNat := by rw [q3, q2]
        refine zk_ifc (zci_eq (by omega) (by omega)) (fun hc3 => ?_) (fun hc3 => ?_)
        · unfold f_HM_isGoal_49
          exact go 1 (Or.inr rfl)
        · refine zk_nE (fun v4 q4 => ?_)
          refine zk_gv (by omega) (by decide) (fun v5 q5 => ?_)
          have q5' : v5 = row (141 + x2).toNat := by rw [q5, q4]
          refine zk_gl c (by omega) hc4 (by decide) (fun v6 q6 => ?_)
          refine zk_ifc (zci_ne (by omega) (by omega)) (fun hc5 => ?_) (fun hc5 => ?_)
          · unfold f_HM_isGoal_53
            exact go 0 (Or.inl rfl)
          · unfold f_HM_isGoal_49
            exact go 1 (Or.inr rfl)
theorem z_isGoal {row ta : Nat → Int} (h0 : RI row) (h4 : row 0 ≤ 4) (ht : ∀ c, c < 4 → 0 ≤ ta c ∧ ta c ≤ 5) : zok (f_HM_isGoal row ta) (fun o => o = 0 ∨ o = 1) := by
  have r0 := RI_0 h0
  unfold f_HM_isGoal
  exact z_ig4 row ta h0 h4 ht zfu 0 1 0 rfl (Or.inr rfl) (by omega) (by unfold zfu; omega)
theorem z_is14 (row ta : Nat → Int) (h0 : RI row) (h4 : row 0 ≤ 4) (ht : ∀ c, c < 4 → 0 ≤ ta c ∧ ta c ≤ 5) (k4 : Int → Int → Option Int) (P : Int → Prop) (c : Nat) (hc : (c : Int) < row 0) (hk : ∀ s : Int, (s = 0 ∨ s = 1) → zok (k4 s ((c : Int) + 1)) P) : ∀ (m o : Nat) (x1 x2 x3 : Int), x2 = (c : Int) → x3 = (o : Int) → (x1 = 0 ∨ x1 = 1) → (o : Int) ≤ row 0 → row 0 - (o : Int) + 1 ≤ (m : Int) → zok (f_HM_isSafe_14 row ta k4 m x1 x2 x3) P := by
  have r0 := RI_0 h0
  have r7 := RI_7 h0
  have r8 := RI_8 h0
  intro m
  induction m with
  | zero => intro o x1 x2 x3 e2 e3 h1 ho hm; exact absurd hm (by omega)
  | succ m ih =>
    intro o x1 x2 x3 e2 e3 h1 ho hm
    show zok (f_HM_isSafe_14_b row ta k4 (f_HM_isSafe_14 row ta k4 m) x1 x2 x3) P
    unfold f_HM_isSafe_14_b
    refine zk_d1 (s_HM_columns _ h0) (fun v1 p1 => ?_)
    try dsimp only at p1
    refine zk_ifc (zci_le (by omega) (by omega)) (fun hc1 => ?_) (fun hc1 => ?_)
    · refine zk_nE (fun v2 q2 => ?_)
      rw [q2, e2]
      exact hk x1 h1
    · have go : ∀ s : Int, (s = 0 ∨ s = 1) → zok (f_HM_isSafe_64 row ta k4 (f_HM_isSafe_14 row ta k4 m) x2 x3 s) P := by
        intro s hs
        unfold f_HM_isSafe_64
        refine zk_nE (fun w hw => ?_)
        exact ih (o + 1) s x2 w e2 (by omega) hs (by omega) (by omega)
      have tc := ht c (by omega)
      have to_ := ht o (by omega)
      refine zk_ifc (zci_eqr (by omega)) (fun hc2 => ?_) (fun hc2 => ?_)
      · unfold f_HM_isSafe_63
        exact go 0 (Or.inl rfl)
      · refine zk_nE (fun v3 q3 => ?_)
        refine zk_d1 (s_HM_size _ (by omega)) (fun v4 p4 => ?_)
        try dsimp only at p4
        refine zk_ifc (zci_ne (by omega) (by omega)) (fun hc3 => ?_) (fun hc3 => ?_)
        · unfold f_HM_isSafe_59
          exact go 1 (Or.inr rfl)
        · refine zk_gl c (by omega) (by omega) (by decide) (fun v5 q5 => ?_)
          refine zk_gl o (by omega) (by omega) (by decide) (fun v6 q6 => ?_)
          refine zk_gl 7 rfl (by decide) (by decide) (fun v7 q7 => ?_)
          refine zk_nE (fun v8 q8 => ?_)
          refine zk_ifc (zci_lt (by omega) (by omega)) (fun hc4 => ?_) (fun hc4 => ?_)
          · unfold f_HM_isSafe_63
            exact go 0 (Or.inl rfl)
          · unfold f_HM_isSafe_59
            exact go 1 (Or.inr rfl)
theorem z_is4 (row ta : Nat → Int) (h0 : RI row) (h4 : row 0 ≤ 4) (ht : ∀ c, c < 4 → 0 ≤ ta c ∧ ta c ≤ 5) : ∀ (m c : Nat) (x1 x2 : Int), x2 = (c : Int) → (x1 = 0 ∨ x1 = 1) → (c : Int) ≤ row 0 → row 0 - (c : Int) + 1 ≤ (m : Int) → zok (f_HM_isSafe_4 row ta m x1 x2) (fun o => o = 0 ∨ o = 1) := by
  have r0 := RI_0 h0
  intro m
  induction m with
  | zero => intro c x1 x2 e2 h1 hc hm; exact absurd hm (by omega)
  | succ m ih =>
    intro c x1 x2 e2 h1 hc hm
    show zok (f_HM_isSafe_4_b row ta (f_HM_isSafe_4 row ta m) x1 x2) _
    unfold f_HM_isSafe_4_b
    refine zk_d1 (s_HM_columns _ h0) (fun v1 p1 => ?_)
    try dsimp only at p1
    refine zk_ifc (zci_le (by omega) (by omega)) (fun hc1 => ?_) (fun hc1 => ?_)
    · exact zk_gb h1 (zk_ret h1)
    · exact z_is14 row ta h0 h4 ht _ _ c (by omega) (fun s hs => ih (c + 1) s _ (by omega) hs (by omega) (by omega)) zfu 0 x1 x2 0 e2 rfl h1 (by omega) (by unfold zfu; omega)
theorem z_isSafe {row ta : Nat → Int} (h0 : RI row) (h4 : row 0 ≤ 4) (ht : ∀ c, c < 4 → 0 ≤ ta c ∧ ta c ≤ 5) : zok (f_HM_isSafe row ta) (fun o => o = 0 ∨ o = 1) := by
  have r0 := RI_0 h0
  unfold f_HM_isSafe
  exact z_is4 row ta h0 h4 ht zfu 0 1 0 rfl (Or.inr rfl) (by omega) (by unfold zfu; omega)
def zWp (x1 x3 x4 : Int) (costs sm ta : Nat → Int) : Int := if costs (((x4 * 5 + sm (5 * (x3 / 4).toNat + ((ta (x3 / 4).toNat).toNat - 1))) * 16 + x3) * 25 + 5 * (ta (x3 / 4).toNat - 1) + ta (x3 % 4).toNat).toNat = -1 then 1000000000000000 else if x1 = 2 then 10000 * costs (((x4 * 5 + sm (5 * (x3 / 4).toNat + ((ta (x3 / 4).toNat).toNat - 1))) * 16 + x3) * 25 + 5 * (ta (x3 / 4).toNat - 1) + ta (x3 % 4).toNat).toNat + 1 else 1
theorem zWp_r (x1 x3 x4 : Int) {costs : Nat → Int} (hC : zR costs (-1) 99) (sm ta : Nat → Int) : zWp x1 x3 x4 costs sm ta = 1000000000000000 ∨ (1 ≤ zWp x1 x3 x4 costs sm ta ∧ zWp x1 x3 x4 costs sm ta ≤ 990001) := by
  unfold zWp
  have := hC (((x4 * 5 + sm (5 * (x3 / 4).toNat + ((ta (x3 / 4).toNat).toNat - 1))) * 16 + x3) * 25 + 5 * (ta (x3 / 4).toNat - 1) + ta (x3 % 4).toNat).toNat
  generalize costs (((x4 * 5 + sm (5 * (x3 / 4).toNat + ((ta (x3 / 4).toNat).toNat - 1))) * 16 + x3) * 25 + 5 * (ta (x3 / 4).toNat - 1) + ta (x3 % 4).toNat).toNat = v at this
  by_cases q : v = -1
  · rw [if_pos q]; exact Or.inl rfl
  · rw [if_neg q]
    by_cases q2 : x1 = 2
    · rw [if_pos q2]; omega
    · rw [if_neg q2]; omega
theorem z_price {n : Nat} {row st costs : Nat → Int} (h0 : RI row) (hn : n ≤ 5) (hC : zR costs (-1) 99) (x1 x2 x3 x4 x5 : Int) (b1 : 0 ≤ x1 ∧ x1 ≤ 2) (at_ : Nat) (e2 : x2 = (at_ : Int)) (ha : at_ < 6720) (b4 : 0 ≤ x4 ∧ x4 < row 1) (e5 : x5 = (n : Int)) (s0 t0 : Nat → Int) (hS : zSm n s0 t0) (hc : zcode (zdig s0 t0) = st at_) (hm : zMv row t0 x3) (sm ta : Nat → Int) : zok (f_HM_price x1 x2 x3 x4 x5 st costs sm ta) (fun o => o.1 = zWp x1 x3 x4 costs s0 t0) := by
  have r1 := RI_1 h0
  obtain ⟨f, t, m1, m2, m3, m4, m5, m6, m7⟩ := hm
  unfold f_HM_price
  refine zk_gl at_ (by omega) ha (by decide) (fun v1 q1 => ?_)
  refine zk_d2 (z_openSmall hn hS.2.2 v1 x5 (by omega) e5 sm ta) (fun a2 a3 p1 => ?_)
  obtain ⟨p11, p12⟩ := p1
  dsimp only at p11 p12
  have uq := zSm_uq p12 hS p11
  have uf := uq f m2
  have ut := uq t m3
  have cf := zSm_c p12 m2
  have ct := zSm_c p12 m3
  have cs : a3 f + a3 t ≤ 5 := by
    have s := zSm_t p12
    have s2 := p12.2.1
    have u1 : f = 0 ∨ f = 1 ∨ f = 2 ∨ f = 3 := by omega
    have u2 : t = 0 ∨ t = 1 ∨ t = 2 ∨ t = 3 := by omega
    rcases u1 with q | q | q | q <;> subst q <;> rcases u2 with q | q | q | q <;> subst q <;> omega
  have hf : (x3 / 4).toNat = f := by omega
  have ht : (x3 % 4).toNat = t := by omega
  refine zk_g0zi_w (by omega) ?_
  refine zk_nE (fun v4 q4 => ?_)
  rw [zi_div_n (by omega) (by omega)] at q4
  refine zk_d1 (z_smallTop p12 v4 f m2 (by omega) (by omega)) (fun v5 p5 => ?_)
  obtain ⟨p51, p52⟩ := p5
  refine zk_gl f (by omega) m2 (by decide) (fun v6 q6 => ?_)
  refine zk_g0zi_w (by omega) ?_
  refine zk_nE (fun v7 q7 => ?_)
  rw [zi_rem_n (by omega) (by omega)] at q7
  refine zk_gl t (by omega) m3 (by decide) (fun v8 q8 => ?_)
  refine zk_d1 (z_costAt _ _ _ _ _) (fun v9 p9 => ?_)
  have hs : v5 = s0 (5 * f + ((t0 f).toNat - 1)) := by
    rw [p51, ← uf.1]
    exact uf.2 _ (by omega)
  have e9 : v9 = ((x4 * 5 + s0 (5 * (x3 / 4).toNat + ((t0 (x3 / 4).toNat).toNat - 1))) * 16 + x3) * 25 + 5 * (t0 (x3 / 4).toNat - 1) + t0 (x3 % 4).toNat := by
    rw [hf, ht, ← hs]
    omega
  refine zk_gv (by omega) (by decide) (fun v10 q10 => ?_)
  have hv := hC v9.toNat
  rw [← q10] at hv
  have ew : zWp x1 x3 x4 costs s0 t0 = if v10 = -1 then 1000000000000000 else if x1 = 2 then 10000 * v10 + 1 else 1 := by
    unfold zWp
    rw [← e9, ← q10]
  rw [ew]
  refine zk_ifc (zci_ne (by omega) (by omega)) (fun hc1 => ?_) (fun hc1 => ?_)
  · refine zk_ifc (zci_ne (by omega) (by omega)) (fun hc2 => ?_) (fun hc2 => ?_)
    · refine zk_ret ?_
      dsimp only
      rw [if_neg hc1, if_neg hc2]
    · refine zk_nE (fun v11 q11 => ?_)
      rw [zwi (by omega)] at q11
      refine zk_nE (fun v12 q12 => ?_)
      refine zk_nE (fun v13 q13 => ?_)
      refine zk_ret ?_
      dsimp only
      rw [if_neg hc1, if_pos (by omega)]
      omega
  · refine zk_ret ?_
    dsimp only
    rw [if_pos (by omega)]
theorem z_isOpen {n N : Nat} {row st nx sf : Nat → Int} (hX : NX n N row st nx (16 * N)) (hN : N ≤ 6720) (x1 x2 x3 : Int) (b1 : 0 ≤ x1 ∧ x1 ≤ 2) (at_ : Nat) (e2 : x2 = (at_ : Int)) (ha : at_ < N) (b3 : 0 ≤ x3 ∧ x3 < 16) (hsf : ∀ i, i < N → sf i = 0 ∨ sf i = 1) : zok (f_HM_isOpen x1 x2 x3 nx sf) (fun o => o = 0 ∨ (o = 1 ∧ nx (16 * x2 + x3).toNat ≠ -1)) := by
  have hx := hX (16 * x2 + x3).toNat (by omega)
  have hr : -1 ≤ nx (16 * x2 + x3).toNat ∧ nx (16 * x2 + x3).toNat < (N : Int) := by
    rcases hx with hx | hx
    · omega
    · exact ⟨by omega, hx.1.2⟩
  clear hx
  unfold f_HM_isOpen
  refine zk_nE (fun v1 q1 => ?_)
  refine zk_nE (fun v2 q2 => ?_)
  refine zk_gv (by omega) (by decide) (fun v3 q3 => ?_)
  have q3' : v3 = nx (16 * x2 + x3).toNat := by rw [q3, q2, q1]
  refine zk_ifc (zci_eq (by omega) (by omega)) (fun hc1 => ?_) (fun hc1 => ?_)
  · exact zk_ret (Or.inl rfl)
  · refine zk_ifc (zci_ne (by omega) (by omega)) (fun hc2 => ?_) (fun hc2 => ?_)
    · exact zk_ret (Or.inr ⟨rfl, by omega⟩)
    · refine zk_gv (by omega) (by decide) (fun v4 q4 => ?_)
      have h4 := hsf v3.toNat (by omega)
      refine zk_ifc (zci_eqr (by omega)) (fun hc3 => ?_) (fun hc3 => ?_)
      · exact zk_ret (Or.inl rfl)
      · exact zk_ret (Or.inr ⟨rfl, by omega⟩)

