/-! THE REFERENCE'S LEXER -/
def WL (T : Nat → Int) (q : Nat) : Nat → Int
  | 0 => 0
  | k + 1 => if k < 10 then WL T q k * 32 + T (q + k) - 96 else -1
def WD (T : Nat → Int) (q : Nat) : Nat → Int
  | 0 => 0
  | k + 1 => if WD T q k ≤ 1000000 then WD T q k * 10 + T (q + k) - 48 else WD T q k
theorem WD_r {T : Nat → Int} {q : Nat} : ∀ k : Nat, (∀ j, j < k → isD (T (q + j))) → 0 ≤ WD T q k ∧ WD T q k ≤ 10000009 := by
  intro k
  induction k with
  | zero => intro _; exact ⟨Int.le_refl 0, (show (0 : Int) ≤ 10000009 by decide)⟩
  | succ k ih =>
    intro h
    have h1 := ih (fun j hj => h j (by omega))
    have h2 := h k (by omega)
    show 0 ≤ (if WD T q k ≤ 1000000 then WD T q k * 10 + T (q + k) - 48 else WD T q k) ∧ (if WD T q k ≤ 1000000 then WD T q k * 10 + T (q + k) - 48 else WD T q k) ≤ 10000009
    split <;> omega
/-- while the number is small both tell the same -/
theorem WD_DV {T : Nat → Int} {q : Nat} : ∀ k : Nat, (∀ j, j < k → isD (T (q + j))) → (WD T q k = DV T q k) ∨ (1000000 < WD T q k ∧ 1000000 < DV T q k) := by
  intro k
  induction k with
  | zero => intro _; exact Or.inl rfl
  | succ k ih =>
    intro h
    have h1 := ih (fun j hj => h j (by omega))
    have h2 := h k (by omega)
    have g0 := DV_0 (T := T) (f := q) k (fun j hj => h j (by omega))
    have e1 : WD T q (k + 1) = if WD T q k ≤ 1000000 then WD T q k * 10 + T (q + k) - 48 else WD T q k := rfl
    have e2 : DV T q (k + 1) = DV T q k * 10 + T (q + k) - 48 := rfl
    rw [e1, e2]
    split <;> omega
def SO (T : Nat → Int) (n q : Nat) : Int := if q = n then 0 else if 97 ≤ T q ∧ T q ≤ 122 then 1 else if 48 ≤ T q ∧ T q ≤ 57 then 2 else 3
def WO (T : Nat → Int) (n q r : Nat) : Int := if q = n then 0 else if 97 ≤ T q ∧ T q ≤ 122 then WL T q (r - q) else if 48 ≤ T q ∧ T q ≤ 57 then WD T q (r - q) else T q
theorem l_next_243n (T : Nat → Int) (n q r : Nat) (s w : Int) (hs : 0 ≤ s ∧ s ≤ 3) (h2 : s ≠ 2) (N : Nat) : zok (f_HM_next_243 (n : Int) T (N + 1) (q : Int) (r : Int) s w) (fun o => o = ((q : Int), (r : Int), s, w)) := by
  show zok (f_HM_next_243_b (n : Int) T (f_HM_next_243 (n : Int) T N) (q : Int) (r : Int) s w) _
  unfold f_HM_next_243_b
  refine zk_ifc (zci_ne (by omega) (by omega)) (fun hc => ?_) (fun hc => ?_)
  · exact zk_ret rfl
  · exfalso; omega
theorem l_next_243 (T : Nat → Int) (hT : zR T 0 255) (n q : Nat) (hn : n ≤ 400) : ∀ (N r : Nat) (w : Int), q ≤ r → r ≤ n → (∀ j, q ≤ j → j < r → isD (T j)) → w = WD T q (r - q) → (n : Int) + 1 - (r : Int) ≤ (N : Int) → zok (f_HM_next_243 (n : Int) T N (q : Int) (r : Int) 2 w) (fun o => ∃ r' : Nat, o = ((q : Int), (r' : Int), 2, WD T q (r' - q)) ∧ r ≤ r' ∧ r' ≤ n ∧ (∀ j, q ≤ j → j < r' → isD (T j)) ∧ (r' = n ∨ ¬ isD (T r'))) := by
  intro N
  induction N with
  | zero => intro r w h1 h2 h3 h4 hm; exfalso; omega
  | succ N ih =>
    intro r w h1 h2 h3 h4 hm
    have g := WD_r (T := T) (q := q) (r - q) (fun j hj => h3 _ (by omega) (by omega))
    show zok (f_HM_next_243_b (n : Int) T (f_HM_next_243 (n : Int) T N) (q : Int) (r : Int) 2 w) _
    unfold f_HM_next_243_b
    refine zk_ifc (zci_ne (by omega) (by omega)) (fun hc => ?_) (fun hc => ?_)
    · exfalso; omega
    · refine zk_ifc (zci_le (by omega) (by omega)) (fun hc2 => ?_) (fun hc2 => ?_)
      · exact zk_ret ⟨r, by rw [h4], Nat.le_refl _, h2, h3, Or.inl (by omega)⟩
      · refine zk_gv (by omega) (by decide) (fun v1 e1 => ?_)
        rw [Int.toNat_natCast] at e1
        have r1 := hT r
        refine zk_d1 (s_HM_isDigit _ (by omega)) (fun v2 p2 => ?_)
        try dsimp only at p2
        refine zk_ifc (zci_eqr (by omega)) (fun hc3 => ?_) (fun hc3 => ?_)
        · exact zk_ret ⟨r, by rw [h4], Nat.le_refl _, h2, h3, Or.inr (by unfold isD; omega)⟩
        · have hd : isD (T r) := by unfold isD; omega
          have e : WD T q (r + 1 - q) = if WD T q (r - q) ≤ 1000000 then WD T q (r - q) * 10 + T r - 48 else WD T q (r - q) := by
            rw [show r + 1 - q = (r - q) + 1 from by omega]
            show (if WD T q (r - q) ≤ 1000000 then WD T q (r - q) * 10 + T (q + (r - q)) - 48 else WD T q (r - q)) = _
            rw [show q + (r - q) = r from by omega]
          have hd2 : ∀ j, q ≤ j → j < r + 1 → isD (T j) := fun j j1 j2 => by
            by_cases e : j = r
            · subst e; exact hd
            · exact h3 j j1 (by omega)
          refine zk_ifc (zcl_le (by omega) (by omega)) (fun hc4 => ?_) (fun hc4 => ?_)
          · refine zk_n ?_
            refine zk_gv (by omega) (by decide) (fun v4 e4 => ?_)
            rw [Int.toNat_natCast] at e4
            refine zk_nE (fun v5 e5 => ?_)
            rw [zwi (by omega)] at e5
            refine zk_n ?_
            refine zk_n ?_
            unfold f_HM_next_319
            refine zk_n ?_
            refine zok_mono (ih (r + 1) _ (by omega) (by omega) hd2 (by rw [e, if_pos (by omega)]; omega) (by omega)) (fun o ho => ?_)
            obtain ⟨r', a1, a2, a3⟩ := ho
            exact ⟨r', a1, by omega, a3⟩
          · unfold f_HM_next_319
            refine zk_n ?_
            refine zok_mono (ih (r + 1) _ (by omega) (by omega) hd2 (by rw [e, if_neg (by omega)]; omega) (by omega)) (fun o ho => ?_)
            obtain ⟨r', a1, a2, a3⟩ := ho
            exact ⟨r', a1, by omega, a3⟩
theorem l_next_149n (T : Nat → Int) (n q r : Nat) (s w : Int) (hs : 0 ≤ s ∧ s ≤ 3) (h1 : s ≠ 1) (P : Int × Int × Int × Int → Prop) (h : zok (f_HM_next_243 (n : Int) T zfu (q : Int) (r : Int) s w) P) (N : Nat) : zok (f_HM_next_149 (n : Int) T (N + 1) (q : Int) (r : Int) s w) P := by
  show zok (f_HM_next_149_b (n : Int) T (f_HM_next_149 (n : Int) T N) (q : Int) (r : Int) s w) _
  unfold f_HM_next_149_b
  refine zk_ifc (zci_ne (by omega) (by omega)) (fun hc => ?_) (fun hc => ?_)
  · exact h
  · exfalso; omega
theorem zfu_s : zfu = (zfu - 1) + 1 := by unfold zfu; rfl
theorem l_next_149 (T : Nat → Int) (hT : zR T 0 255) (n q : Nat) (hn : n ≤ 400) : ∀ (N r : Nat) (w : Int), q ≤ r → r ≤ n → (∀ j, q ≤ j → j < r → isL (T j)) → w = WL T q (r - q) → (n : Int) + 1 - (r : Int) ≤ (N : Int) → zok (f_HM_next_149 (n : Int) T N (q : Int) (r : Int) 1 w) (fun o => ∃ r' : Nat, o = ((q : Int), (r' : Int), 1, WL T q (r' - q)) ∧ r ≤ r' ∧ r' ≤ n ∧ (∀ j, q ≤ j → j < r' → isL (T j)) ∧ (r' = n ∨ ¬ isL (T r'))) := by
  intro N
  induction N with
  | zero => intro r w h1 h2 h3 h4 hm; exfalso; omega
  | succ N ih =>
    intro r w h1 h2 h3 h4 hm
    have stop : (r = n ∨ ¬ isL (T r)) → zok (f_HM_next_243 (n : Int) T zfu (q : Int) (r : Int) 1 w) (fun o => ∃ r' : Nat, o = ((q : Int), (r' : Int), 1, WL T q (r' - q)) ∧ r ≤ r' ∧ r' ≤ n ∧ (∀ j, q ≤ j → j < r' → isL (T j)) ∧ (r' = n ∨ ¬ isL (T r'))) := by
      intro hs
      rw [zfu_s]
      refine zok_mono (l_next_243n T n q r 1 w (by omega) (by omega) _) (fun o ho => ⟨r, by rw [ho, h4], Nat.le_refl _, h2, h3, hs⟩)
    show zok (f_HM_next_149_b (n : Int) T (f_HM_next_149 (n : Int) T N) (q : Int) (r : Int) 1 w) _
    unfold f_HM_next_149_b
    refine zk_ifc (zci_ne (by omega) (by omega)) (fun hc => ?_) (fun hc => ?_)
    · exfalso; omega
    · refine zk_ifc (zci_le (by omega) (by omega)) (fun hc2 => ?_) (fun hc2 => ?_)
      · exact stop (Or.inl (by omega))
      · refine zk_gv (by omega) (by decide) (fun v1 e1 => ?_)
        rw [Int.toNat_natCast] at e1
        have r1 := hT r
        refine zk_d1 (s_HM_isSmall _ (by omega)) (fun v2 p2 => ?_)
        try dsimp only at p2
        refine zk_ifc (zci_eqr (by omega)) (fun hc3 => ?_) (fun hc3 => ?_)
        · exact stop (Or.inr (by unfold isL; omega))
        · have hl : isL (T r) := by unfold isL; omega
          have e : WL T q (r + 1 - q) = if r - q < 10 then WL T q (r - q) * 32 + T r - 96 else -1 := by
            rw [show r + 1 - q = (r - q) + 1 from by omega]
            show (if r - q < 10 then WL T q (r - q) * 32 + T (q + (r - q)) - 96 else -1) = _
            rw [show q + (r - q) = r from by omega]
          have hl2 : ∀ j, q ≤ j → j < r + 1 → isL (T j) := fun j j1 j2 => by
            by_cases e : j = r
            · subst e; exact hl
            · exact h3 j j1 (by omega)
          refine zk_n ?_
          refine zk_ifc (zci_le (by omega) (by omega)) (fun hc4 => ?_) (fun hc4 => ?_)
          · unfold f_HM_next_227
            refine zk_n ?_
            refine zok_mono (ih (r + 1) _ (by omega) (by omega) hl2 (by rw [e, if_neg (by omega)]) (by omega)) (fun o ho => ?_)
            obtain ⟨r', a1, a2, a3⟩ := ho
            exact ⟨r', a1, by omega, a3⟩
          · refine zk_n ?_
            refine zk_gv (by omega) (by decide) (fun v5 e5 => ?_)
            rw [Int.toNat_natCast] at e5
            refine zk_nE (fun v6 e6 => ?_)
            rw [zwi (by omega)] at e6
            refine zk_n ?_
            refine zk_n ?_
            unfold f_HM_next_227
            refine zk_n ?_
            refine zok_mono (ih (r + 1) _ (by omega) (by omega) hl2 (by rw [e, if_pos (by omega)]; omega) (by omega)) (fun o ho => ?_)
            obtain ⟨r', a1, a2, a3⟩ := ho
            exact ⟨r', a1, by omega, a3⟩
def NXQ (T : Nat → Int) (n p : Nat) (o : Int × Int × Int × Int) : Prop := ∃ q r : Nat, p ≤ q ∧ q ≤ n ∧ (∀ j, p ≤ j → j < q → T j = 32) ∧ ((q = n ∧ r = n) ∨ (q < n ∧ T q ≠ 32 ∧ TEND T n q r)) ∧ o = ((q : Int), (r : Int), SO T n q, WO T n q r)
theorem l_next_46 (T : Nat → Int) (hT : zR T 0 255) (n p q : Nat) (hn : n ≤ 400) (h1 : p ≤ q) (h2 : q ≤ n) (h3 : ∀ j, p ≤ j → j < q → T j = 32) (h4 : q = n ∨ T q ≠ 32) (to so wo : Int) : zok (f_HM_next_46 (n : Int) T (q : Int) to so wo) (NXQ T n p) := by
  unfold f_HM_next_46
  refine zk_ifc (zci_ne (by omega) (by omega)) (fun hc => ?_) (fun hc => ?_)
  · have hq : q < n := by omega
    have h5 : T q ≠ 32 := by rcases h4 with h | h; omega; exact h
    have hqn : ¬ q = n := by omega
    refine zk_gv (by omega) (by decide) (fun v1 e1 => ?_)
    rw [Int.toNat_natCast] at e1
    have r1 := hT q
    refine zk_d1 (s_HM_isSmall _ (by omega)) (fun v2 p2 => ?_)
    try dsimp only at p2
    refine zk_ifc (zci_eqr (by omega)) (fun hc2 => ?_) (fun hc2 => ?_)
    · refine zk_gv (by omega) (by decide) (fun v3 e3 => ?_)
      rw [Int.toNat_natCast] at e3
      refine zk_d1 (s_HM_isDigit _ (by omega)) (fun v4 p4 => ?_)
      try dsimp only at p4
      refine zk_ifc (zci_eqr (by omega)) (fun hc3 => ?_) (fun hc3 => ?_)
      · unfold f_HM_next_114
        refine zk_ifc (zci_ne (by omega) (by omega)) (fun hc4 => ?_) (fun hc4 => ?_)
        · exfalso; omega
        · refine zk_gv (by omega) (by decide) (fun w1 f1 => ?_)
          rw [Int.toNat_natCast] at f1
          refine zk_nE (fun w2 f2 => ?_)
          rw [zwi (by omega)] at f2
          refine zk_n ?_
          rw [zfu_s]
          refine l_next_149n T n q (q + 1) 3 w2 (by omega) (by omega) _ ?_ _
          rw [zfu_s]
          refine zok_mono (l_next_243n T n q (q + 1) 3 w2 (by omega) (by omega) _) (fun o ho => ?_)
          refine ⟨q, q + 1, h1, h2, h3, Or.inr ⟨hq, h5, by omega, by omega, Or.inr (Or.inr ⟨by unfold isL; omega, by unfold isD; omega, rfl⟩)⟩, ?_⟩
          rw [ho]
          unfold SO WO
          rw [if_neg hqn, if_neg hqn, if_neg (by omega), if_neg (by omega), if_neg (by omega), if_neg (by omega), f2, f1]
      · unfold f_HM_next_114
        refine zk_ifc (zci_ne (by omega) (by omega)) (fun hc4 => ?_) (fun hc4 => ?_)
        · rw [zfu_s]
          refine l_next_149n T n q q 2 0 (by omega) (by omega) _ ?_ _
          refine zok_mono (l_next_243 T hT n q hn zfu q 0 (Nat.le_refl _) h2 (fun j j1 j2 => absurd j2 (by omega)) (by rw [Nat.sub_self]; rfl) (by unfold zfu; omega)) (fun o ho => ?_)
          obtain ⟨r', a1, a2, a3, a4, a5⟩ := ho
          have hd : isD (T q) := by unfold isD; omega
          have hr : q < r' := by
            rcases Nat.lt_or_ge q r' with g | g
            · exact g
            · have e : r' = q := by omega
              rw [e] at a5
              rcases a5 with a5 | a5
              · omega
              · exact absurd hd a5
          refine ⟨q, r', h1, h2, h3, Or.inr ⟨hq, h5, hr, a3, Or.inr (Or.inl ⟨hd, a4, a5⟩)⟩, ?_⟩
          rw [a1]
          unfold SO WO
          rw [if_neg hqn, if_neg hqn, if_neg (by omega), if_pos (by omega), if_neg (by omega), if_pos (by omega)]
        · exfalso; omega
    · unfold f_HM_next_114
      refine zk_ifc (zci_ne (by omega) (by omega)) (fun hc4 => ?_) (fun hc4 => ?_)
      · refine zok_mono (l_next_149 T hT n q hn zfu q 0 (Nat.le_refl _) h2 (fun j j1 j2 => absurd j2 (by omega)) (by rw [Nat.sub_self]; rfl) (by unfold zfu; omega)) (fun o ho => ?_)
        obtain ⟨r', a1, a2, a3, a4, a5⟩ := ho
        have hl : isL (T q) := by unfold isL; omega
        have hr : q < r' := by
          rcases Nat.lt_or_ge q r' with g | g
          · exact g
          · have e : r' = q := by omega
            rw [e] at a5
            rcases a5 with a5 | a5
            · omega
            · exact absurd hl a5
        refine ⟨q, r', h1, h2, h3, Or.inr ⟨hq, h5, hr, a3, Or.inl ⟨hl, a4, a5⟩⟩, ?_⟩
        rw [a1]
        unfold SO WO
        rw [if_neg hqn, if_neg hqn, if_pos (by omega), if_pos (by omega)]
      · exfalso; omega
  · have hq : q = n := by omega
    unfold f_HM_next_114
    refine zk_ifc (zci_ne (by omega) (by omega)) (fun hc4 => ?_) (fun hc4 => ?_)
    · rw [zfu_s]
      refine l_next_149n T n q q 0 0 (by omega) (by omega) _ ?_ _
      rw [zfu_s]
      refine zok_mono (l_next_243n T n q q 0 0 (by omega) (by omega) _) (fun o ho => ?_)
      refine ⟨q, q, h1, h2, h3, Or.inl ⟨hq, hq⟩, ?_⟩
      rw [ho]
      unfold SO WO
      rw [if_pos hq, if_pos hq]
    · exfalso; omega
theorem l_next_8 (T : Nat → Int) (hT : zR T 0 255) (n p : Nat) (hn : n ≤ 400) : ∀ (N q : Nat) (to so wo : Int), p ≤ q → q ≤ n → (∀ j, p ≤ j → j < q → T j = 32) → (n : Int) + 1 - (q : Int) ≤ (N : Int) → zok (f_HM_next_8 (n : Int) T N (q : Int) to so wo) (NXQ T n p) := by
  intro N
  induction N with
  | zero => intro q to so wo h1 h2 h3 hm; exfalso; omega
  | succ N ih =>
    intro q to so wo h1 h2 h3 hm
    show zok (f_HM_next_8_b (n : Int) T (f_HM_next_8 (n : Int) T N) (q : Int) to so wo) _
    unfold f_HM_next_8_b
    refine zk_ifc (zci_le (by omega) (by omega)) (fun hc => ?_) (fun hc => ?_)
    · exact l_next_46 T hT n p q hn h1 h2 h3 (Or.inl (by omega)) to so wo
    · refine zk_gv (by omega) (by decide) (fun v1 e1 => ?_)
      rw [Int.toNat_natCast] at e1
      have r1 := hT q
      refine zk_ifc (zci_ne (by omega) (by omega)) (fun hc2 => ?_) (fun hc2 => ?_)
      · exact l_next_46 T hT n p q hn h1 h2 h3 (Or.inr (by omega)) to so wo
      · refine zk_n ?_
        refine ih (q + 1) to so wo (by omega) (by omega) (fun j j1 j2 => ?_) (by omega)
        by_cases e : j = q
        · subst e; omega
        · exact h3 j j1 (by omega)
theorem l_next (T : Nat → Int) (hT : zR T 0 255) (n p : Nat) (hn : n ≤ 400) (hp : p ≤ n) (fr so wo : Int) : zok (f_HM_next (n : Int) T fr (p : Int) so wo) (NXQ T n p) := by
  unfold f_HM_next
  exact l_next_8 T hT n p hn zfu p _ _ _ (Nat.le_refl _) hp (fun j j1 j2 => by omega) (by unfold zfu; omega)
/-! both have the same tokens: where they begin, where they end -/
def LXS (T : Nat → Int) (n m : Nat) (qs rs : Nat → Nat) : Prop :=
  (∀ i, i < m → qs i < n ∧ T (qs i) ≠ 32 ∧ TEND T n (qs i) (rs i)) ∧ (qs m = n ∧ rs m = n) ∧ (∀ i, i ≤ m → (if i = 0 then 0 else rs (i - 1)) ≤ qs i) ∧ ∀ i, i ≤ m → ∀ j, (if i = 0 then 0 else rs (i - 1)) ≤ j → j < qs i → T j = 32
theorem NB_u {T : Nat → Int} {n p q q' : Nat} (h1 : p ≤ q) (h2 : ∀ j, p ≤ j → j < q → T j = 32) (h3 : q = n ∨ T q ≠ 32) (hq : q ≤ n) (g1 : p ≤ q') (g2 : ∀ j, p ≤ j → j < q' → T j = 32) (g3 : q' = n ∨ T q' ≠ 32) (hq' : q' ≤ n) : q = q' := by
  rcases Nat.lt_trichotomy q q' with h | h | h
  · rcases h3 with h3 | h3
    · omega
    · exact absurd (g2 q h1 h) h3
  · exact h
  · rcases g3 with g3 | g3
    · omega
    · exact absurd (h2 q' g1 h) g3
theorem NXQ_i {T : Nat → Int} {n m : Nat} {qs rs : Nat → Nat} (h : LXS T n m qs rs) {i : Nat} (hi : i ≤ m) {o : Int × Int × Int × Int} (ho : NXQ T n (if i = 0 then 0 else rs (i - 1)) o) : o = ((qs i : Int), (rs i : Int), SO T n (qs i), WO T n (qs i) (rs i)) := by
  obtain ⟨h1, h2, h3, h4⟩ := h
  obtain ⟨q, r, a1, a2, a3, a4, a5⟩ := ho
  have hl : qs i ≤ n ∧ (qs i = n ∨ T (qs i) ≠ 32) := by
    rcases Nat.lt_or_ge i m with g | g
    · have := h1 i g; exact ⟨by omega, Or.inr this.2.1⟩
    · have e : i = m := by omega
      rw [e]; exact ⟨by omega, Or.inl h2.1⟩
  have eq : q = qs i := NB_u a1 a3 (by rcases a4 with a4 | a4; exact Or.inl a4.1; exact Or.inr a4.2.1) a2 (h3 i hi) (h4 i hi) hl.2 hl.1
  subst eq
  have er : r = rs i := by
    rcases Nat.lt_or_ge i m with g | g
    · have k := h1 i g
      rcases a4 with a4 | a4
      · omega
      · exact TEND_u a4.2.2 k.2.2
    · have e : i = m := by omega
      subst e
      rcases a4 with a4 | a4
      · omega
      · omega
  rw [a5, er]
theorem LXS_of {T : Nat → Int} {n m z : Nat} {tk pl vl : Nat → Int} (h : SP T n tk pl vl m z) (hz : z ≤ n) (hb : ∀ j, z ≤ j → j < n → T j = 32) (hp : pl m = (n : Int)) : ∃ qs rs : Nat → Nat, LXS T n m qs rs ∧ (∀ i, i ≤ m → pl i = (qs i : Int)) ∧ (∀ i, i < m → CT T (qs i) (rs i) (tk i) (vl i)) ∧ m ≤ n := by
  obtain ⟨qs, rs, h1, h2, h3, h4, h5⟩ := h
  refine ⟨fun i => if i = m then n else qs i, fun i => if i = m then n else rs i, ⟨?_, ?_, ?_, ?_⟩, ?_, ?_, by omega⟩
  · intro i hi
    simp only [if_neg (show ¬ i = m by omega)]
    have g := h1 i hi
    have := g.2.2.1.1
    have := g.2.2.1.2.1
    exact ⟨by omega, g.2.1, g.2.2.1⟩
  · simp
  · intro i hi
    by_cases e : i = m
    · subst e
      simp only [eq_self_iff_true, if_true]
      by_cases e0 : i = 0
      · rw [if_pos e0]; omega
      · rw [if_neg e0, if_neg (show ¬ i - 1 = i by omega)]
        rw [if_neg e0] at h4; omega
    · simp only [if_neg e]
      have := h3 i (by omega)
      by_cases e0 : i = 0
      · rw [if_pos e0]; omega
      · rw [if_neg e0, if_neg (show ¬ i - 1 = m by omega)]
        rw [if_neg e0] at this; exact this
  · intro i hi j
    by_cases e : i = m
    · subst e
      simp only [if_pos rfl]
      intro j1 j2
      refine hb j ?_ j2
      by_cases e0 : i = 0
      · rw [if_pos e0] at h4; omega
      · rw [if_neg e0] at h4 j1
        rw [if_neg (show ¬ i - 1 = i by omega)] at j1
        omega
    · simp only [if_neg e]
      have := h2 i (by omega) j
      by_cases e0 : i = 0
      · rw [if_pos e0]; rw [if_pos e0] at this; exact this
      · rw [if_neg e0, if_neg (show ¬ i - 1 = m by omega)]
        rw [if_neg e0] at this; exact this
  · intro i hi
    by_cases e : i = m
    · subst e; simp only [if_pos rfl]; exact hp
    · simp only [if_neg e]; exact (h1 i (by omega)).1
  · intro i hi
    simp only [if_neg (show ¬ i = m by omega)]
    exact (h1 i hi).2.2.2
/-! a token in both tongues -/
def zcd (w : Nat) : Int := ([3417476, 674919554696, 777297172, 215533, 655, 271592, 12791, 661069, 21285043, 67155, 294, 498, 1476, 14836] : List Int).getD w 0
def TKR (c v s w : Int) : Prop := (-1 ≤ w ∧ w ≤ 2000000000000000) ∧
  ((s = 1 ∧ ((∃ k : Nat, k < 8 ∧ c = 259 ∧ v = (k : Int) ∧ w = zcd k) ∨ (∃ k : Nat, (8 ≤ k ∧ k < 14) ∧ c = 252 + (k : Int) ∧ w = zcd k) ∨ (c = 256 ∧ ∀ k : Nat, k < 14 → w ≠ zcd k))) ∨
  (s = 2 ∧ ((c = 258 ∧ v = w ∧ 0 ≤ w ∧ w ≤ 1000) ∨ (c = 256 ∧ 1000 < w))) ∨ (s = 3 ∧ c = w ∧ 0 ≤ c ∧ c ≤ 255) ∨ (s = 0 ∧ c = 257))
def LF (T : Nat → Int) (f : Nat) : Nat → Int
  | 0 => 0
  | k + 1 => LF T f k * 32 + T (f + k) - 96
theorem LF_0 {T : Nat → Int} {f : Nat} : ∀ k : Nat, (∀ j, j < k → isL (T (f + j))) → 0 ≤ LF T f k := by
  intro k
  induction k with
  | zero => intro _; exact Int.le_refl 0
  | succ k ih =>
    intro h
    have h1 := ih (fun j hj => h j (by omega))
    have h2 := h k (by omega)
    show 0 ≤ LF T f k * 32 + T (f + k) - 96
    omega
theorem LF_inj {T U : Nat → Int} {f g : Nat} : ∀ (a b : Nat), (∀ j, j < a → isL (T (f + j))) → (∀ j, j < b → isL (U (g + j))) → LF T f a = LF U g b → a = b ∧ ∀ j, j < a → T (f + j) = U (g + j) := by
  intro a
  induction a with
  | zero =>
    intro b h1 h2 h3
    cases b with
    | zero => exact ⟨rfl, fun j hj => absurd hj (Nat.not_lt_zero j)⟩
    | succ b =>
      have g1 := LF_0 (T := U) (f := g) b (fun j hj => h2 j (by omega))
      have g2 := h2 b (by omega)
      have e : (0 : Int) = LF U g b * 32 + U (g + b) - 96 := h3
      exfalso; omega
  | succ a ih =>
    intro b h1 h2 h3
    have k1 := LF_0 (T := T) (f := f) a (fun j hj => h1 j (by omega))
    have k2 := h1 a (by omega)
    cases b with
    | zero =>
      have e : LF T f a * 32 + T (f + a) - 96 = (0 : Int) := h3
      exfalso; omega
    | succ b =>
      have g1 := LF_0 (T := U) (f := g) b (fun j hj => h2 j (by omega))
      have g2 := h2 b (by omega)
      have e : LF T f a * 32 + T (f + a) - 96 = LF U g b * 32 + U (g + b) - 96 := h3
      obtain ⟨e1, e2⟩ := ih b (fun j hj => h1 j (by omega)) (fun j hj => h2 j (by omega)) (by omega)
      subst e1
      refine ⟨rfl, fun j hj => ?_⟩
      by_cases q : j = a
      · subst q; omega
      · exact e2 j (by omega)
theorem LF_ext {T U : Nat → Int} {f g : Nat} : ∀ k : Nat, (∀ j, j < k → T (f + j) = U (g + j)) → LF T f k = LF U g k := by
  intro k
  induction k with
  | zero => intro _; rfl
  | succ k ih =>
    intro h
    show LF T f k * 32 + T (f + k) - 96 = LF U g k * 32 + U (g + k) - 96
    rw [ih (fun j hj => h j (by omega)), h k (by omega)]
theorem LF_b {T : Nat → Int} {f : Nat} : ∀ k : Nat, (∀ j, j < k → isL (T (f + j))) → LF T f k < (32 ^ k : Nat) := by
  intro k
  induction k with
  | zero => intro _; show (0 : Int) < ((32 ^ 0 : Nat) : Int); decide
  | succ k ih =>
    intro h
    have h1 := ih (fun j hj => h j (by omega))
    have h2 := h k (by omega)
    have e : (32 ^ (k + 1) : Nat) = 32 ^ k * 32 := Nat.pow_succ _ _
    show LF T f k * 32 + T (f + k) - 96 < ((32 ^ (k + 1) : Nat) : Int)
    rw [e]
    generalize 32 ^ k = z at *
    omega
theorem WL_is {T : Nat → Int} {q : Nat} : ∀ k : Nat, WL T q k = if k ≤ 10 then LF T q k else -1 := by
  intro k
  induction k with
  | zero => rfl
  | succ k ih =>
    show (if k < 10 then WL T q k * 32 + T (q + k) - 96 else -1) = _
    by_cases h : k < 10
    · rw [if_pos h, if_pos (by omega), ih, if_pos (by omega)]; rfl
    · rw [if_neg h, if_neg (by omega)]
theorem zcd_ok : ∀ w : Fin 14, LF (zch w.val) 0 (zsl w.val).toNat = zcd w.val := by decide +kernel
theorem zcd_0 : ∀ w : Fin 14, 0 ≤ zcd w.val := by decide +kernel
theorem zcd_inj : ∀ a b : Fin 14, zcd a.val = zcd b.val → a = b := by decide +kernel
theorem WL_WQ {T : Nat → Int} {q r : Nat} (hqr : q < r) (hl : ∀ j, q ≤ j → j < r → isL (T j)) {w : Nat} (hw : w < 14) : WL T q (r - q) = zcd w ↔ WQ T q r w := by
  have z2 := zsl_2 hw
  have z0 := zcd_0 ⟨w, hw⟩
  have zo := zcd_ok ⟨w, hw⟩
  dsimp only at z0 zo
  rw [WL_is]
  constructor
  · intro h
    by_cases h10 : r - q ≤ 10
    · rw [if_pos h10, ← zo] at h
      obtain ⟨e1, e2⟩ := LF_inj (r - q) (zsl w).toNat (fun j hj => hl _ (by omega) (by omega)) (fun j hj => by rw [Nat.zero_add]; exact zch_r hw (by omega)) h
      refine ⟨by omega, fun j hj => ?_⟩
      have := e2 j (by omega)
      rw [Nat.zero_add] at this
      exact this
    · rw [if_neg h10] at h; omega
  · intro h
    obtain ⟨h1, h2⟩ := h
    rw [if_pos (by omega), ← zo, show (zsl w).toNat = r - q from by omega]
    exact LF_ext (r - q) (fun j hj => by rw [Nat.zero_add]; exact h2 j (by omega))
theorem TKR_of {T : Nat → Int} (hT : zR T 0 255) {n q r : Nat} {c v : Int} (hq : q < n) (he : TEND T n q r) (h : CT T q r c v) : TKR c v (SO T n q) (WO T n q r) := by
  have hqn : ¬ q = n := by omega
  have r1 := hT q
  obtain ⟨h1, h2, h3⟩ := he
  unfold SO WO
  rw [if_neg hqn, if_neg hqn]
  rcases h with ⟨a1, a2⟩ | ⟨a1, a2⟩ | ⟨a1, a2, a3⟩
  · have hl : ∀ j, q ≤ j → j < r → isL (T j) := by
      rcases h3 with h3 | h3 | h3
      · exact h3.2.1
      · exfalso; have := h3.1; unfold isL isD at *; omega
      · exact absurd a1 h3.1
    rw [if_pos a1, if_pos a1]
    have hb : -1 ≤ WL T q (r - q) ∧ WL T q (r - q) ≤ 2000000000000000 := by
      rw [WL_is]
      by_cases h10 : r - q ≤ 10
      · rw [if_pos h10]
        have g0 := LF_0 (T := T) (f := q) (r - q) (fun j hj => hl _ (by omega) (by omega))
        have g1 := LF_b (T := T) (f := q) (r - q) (fun j hj => hl _ (by omega) (by omega))
        have g2 : 32 ^ (r - q) ≤ 32 ^ 10 := Nat.pow_le_pow_right (by decide) h10
        have g3 : (32 ^ 10 : Nat) = 1125899906842624 := by decide
        rw [g3] at g2
        generalize 32 ^ (r - q) = z at *
        omega
      · rw [if_neg h10]; decide
    refine ⟨hb, Or.inl ⟨rfl, ?_⟩⟩
    rcases a2 with ⟨w, w1, w2, w3, w4⟩ | ⟨w, w1, w2, w3⟩ | ⟨w1, w2⟩
    · exact Or.inl ⟨w, w1, w3, w4, (WL_WQ h1 hl (by omega)).mpr w2⟩
    · exact Or.inr (Or.inl ⟨w, w1, w3, (WL_WQ h1 hl (by omega)).mpr w2⟩)
    · exact Or.inr (Or.inr ⟨w2, fun k hk g => w1 k hk ((WL_WQ h1 hl hk).mp g)⟩)
  · have hd : ∀ j, q ≤ j → j < r → isD (T j) := by
      rcases h3 with h3 | h3 | h3
      · exfalso; have := h3.1; unfold isL isD at *; omega
      · exact h3.2.1
      · exact absurd a1 h3.2.1
    have nl : ¬ (97 ≤ T q ∧ T q ≤ 122) := by unfold isD at a1; omega
    rw [if_neg nl, if_neg nl, if_pos a1, if_pos a1]
    have g0 := WD_r (T := T) (q := q) (r - q) (fun j hj => hd _ (by omega) (by omega))
    have g1 := WD_DV (T := T) (q := q) (r - q) (fun j hj => hd _ (by omega) (by omega))
    refine ⟨by omega, Or.inr (Or.inl ⟨rfl, ?_⟩)⟩
    rcases a2 with ⟨w1, w2, w3⟩ | ⟨w1, w2⟩
    · exact Or.inl ⟨w2, by omega, by omega, by omega⟩
    · exact Or.inr ⟨w2, by omega⟩
  · rw [if_neg a1, if_neg a1, if_neg a2, if_neg a2]
    exact ⟨by omega, Or.inr (Or.inr (Or.inl ⟨rfl, a3, by omega, by omega⟩))⟩
theorem TKR_end {T : Nat → Int} {n : Nat} {v : Int} : TKR 257 v (SO T n n) (WO T n n n) := by
  unfold SO WO
  rw [if_pos rfl, if_pos rfl]
  exact ⟨by decide, Or.inr (Or.inr (Or.inr ⟨rfl, rfl⟩))⟩
theorem t_isSign {c v s w : Int} (h : TKR c v s w) (x : Int) (hx : 0 ≤ x ∧ x ≤ 255) : zok (f_HM_isSign x s w) (fun o => (o = 1 ∧ c = x) ∨ (o = 0 ∧ c ≠ x)) := by
  obtain ⟨hb, h⟩ := h
  have hs : 0 ≤ s ∧ s ≤ 3 := by rcases h with h | h | h | h <;> omega
  have hc3 : s ≠ 3 → 256 ≤ c := by
    intro h3
    rcases h with ⟨_, ⟨k, _, g, _⟩ | ⟨k, g1, g, _⟩ | ⟨g, _⟩⟩ | ⟨_, g | g⟩ | h | h <;> omega
  have hc4 : s = 3 → c = w := by
    intro h3
    rcases h with h | h | h | h <;> omega
  unfold f_HM_isSign
  refine zk_ifc (zci_ne (by omega) (by omega)) (fun hc => ?_) (fun hc => ?_)
  · have := hc3 hc
    exact zk_ret (Or.inr ⟨rfl, by omega⟩)
  · have := hc4 (by omega)
    refine zk_nE (fun v1 e1 => ?_)
    rw [zwi (by omega)] at e1
    refine zk_ifc (zcl_ne (by omega) (by omega)) (fun hc2 => ?_) (fun hc2 => ?_)
    · exact zk_ret (Or.inr ⟨rfl, by omega⟩)
    · exact zk_ret (Or.inl ⟨rfl, by omega⟩)
theorem t_isWord {c v s w : Int} (h : TKR c v s w) (k : Nat) (hk : 8 ≤ k ∧ k < 14) (x : Int) (hx : x = zcd k) : zok (f_HM_isWord x s w) (fun o => (o = 1 ∧ c = 252 + (k : Int)) ∨ (o = 0 ∧ c ≠ 252 + (k : Int))) := by
  obtain ⟨hb, h⟩ := h
  have hs : 0 ≤ s ∧ s ≤ 3 := by rcases h with h | h | h | h <;> omega
  have zr : 0 ≤ x ∧ x ≤ 700000000000 := by
    have key : ∀ w : Fin 14, 0 ≤ zcd w.val ∧ zcd w.val ≤ 700000000000 := by decide +kernel
    have k1 : k < 14 := hk.2
    have := key ⟨k, k1⟩
    try dsimp only at this
    omega
  unfold f_HM_isWord
  refine zk_ifc (zci_ne (by omega) (by omega)) (fun hc => ?_) (fun hc => ?_)
  · refine zk_ret (Or.inr ⟨rfl, ?_⟩)
    rcases h with h | ⟨_, h | h⟩ | h | h <;> omega
  · rcases h with ⟨_, h⟩ | h | h | h
    · refine zk_ifc (zcl_ne (by omega) (by omega)) (fun hc2 => ?_) (fun hc2 => ?_)
      · refine zk_ret (Or.inr ⟨rfl, ?_⟩)
        rcases h with ⟨k', g1, g2, g3, g4⟩ | ⟨k', g1, g2, g3⟩ | ⟨g1, g2⟩
        · omega
        · intro e
          have : k' = k := by omega
          subst this
          omega
        · omega
      · refine zk_ret (Or.inl ⟨rfl, ?_⟩)
        rcases h with ⟨k', g1, g2, g3, g4⟩ | ⟨k', g1, g2, g3⟩ | ⟨g1, g2⟩
        · exfalso
          have := zcd_inj ⟨k', by omega⟩ ⟨k, hk.2⟩ (by dsimp only; omega)
          have e := congrArg Fin.val this
          try dsimp only at e
          omega
        · have := zcd_inj ⟨k', g1.2⟩ ⟨k, hk.2⟩ (by dsimp only; omega)
          have e := congrArg Fin.val this
          try dsimp only at e
          omega
        · exact absurd (by omega) (g2 k hk.2)
    · exfalso; omega
    · exfalso; omega
    · exfalso; omega
