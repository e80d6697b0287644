theorem zinj {n : Nat} {l l' : List Int} (hn : n ≤ 5) (hl : zD n l) (hl' : zD n l') (e : zcode l = zcode l') : l = l' := by
  obtain ⟨o, h1, h2⟩ := z_openSmall hn hl (zcode l) (n : Int) rfl rfl (fun _ => 0) (fun _ => 0)
  obtain ⟨o', h1', h2'⟩ := z_openSmall hn hl' (zcode l) (n : Int) e rfl (fun _ => 0) (fun _ => 0)
  rw [h1] at h1'
  have : o = o' := Option.some.inj h1'
  rw [← h2.1, ← h2'.1, this]
theorem zdig_count (sm ta : Nat → Int) (a : Int) : (zdig sm ta).count a = (zcol sm 0 (ta 0).toNat).count a + (zcol sm 1 (ta 1).toNat).count a + (zcol sm 2 (ta 2).toNat).count a + (zcol sm 3 (ta 3).toNat).count a + ([0, 0, 0] : List Int).count a := by
  unfold zdig
  simp only [List.count_append, List.count_cons, List.count_nil]
  omega
theorem zSm_cc {n : Nat} {sm ta : Nat → Int} (h : zSm n sm ta) {c : Nat} (hc : c < 4) : (zcol sm c (ta c).toNat).count 0 = 0 := by
  have h1 := zD_c h.2.2
  rw [zdig_count] at h1
  have h2 : ([0, 0, 0] : List Int).count 0 = 3 := by decide
  have : c = 0 ∨ c = 1 ∨ c = 2 ∨ c = 3 := by omega
  rcases this with q | q | q | q <;> subst q <;> omega
theorem zSm_z {n : Nat} {sm ta : Nat → Int} (h : zSm n sm ta) {c : Nat} (hc : c < 4) : (0 : Int) ∉ zcol sm c (ta c).toNat := List.count_eq_zero.mp (zSm_cc h hc)
theorem zSm_s {n : Nat} {sm ta : Nat → Int} (h : zSm n sm ta) {c i : Nat} (hc : c < 4) (hi : (i : Int) < ta c) : 0 ≤ sm (5 * c + i) ∧ sm (5 * c + i) < (n : Int) := by
  have h1 := zD_r h.2.2 _ (zdig_in (sm := sm) (ta := ta) (i := i) hc (by omega))
  have h2 : sm (5 * c + i) + 1 ≠ 0 := fun e => zSm_z h hc (by
    rw [← e]
    exact zcol_mem (by omega))
  omega
theorem zsplit : ∀ (a a' b b' : List Int), (0 : Int) ∉ a → (0 : Int) ∉ a' → a ++ 0 :: b = a' ++ 0 :: b' → a = a' ∧ b = b' := by
  intro a
  induction a with
  | nil =>
    intro a' b b' h1 h2 e
    match a' with
    | [] => exact ⟨rfl, (List.cons.inj e).2⟩
    | x :: y => exact absurd (List.cons.inj e).1 (fun q => h2 (q ▸ List.mem_cons_self))
  | cons x y ih =>
    intro a' b b' h1 h2 e
    match a' with
    | [] => exact absurd (List.cons.inj e).1 (fun q => h1 (q ▸ List.mem_cons_self))
    | u :: v =>
      have e1 := List.cons.inj e
      have g := ih v b b' (fun q => h1 (List.mem_cons_of_mem _ q)) (fun q => h2 (List.mem_cons_of_mem _ q)) e1.2
      exact ⟨by rw [e1.1, g.1], g.2⟩
theorem zcol_uq {sm sm' : Nat → Int} {c t t' : Nat} (e : zcol sm c t = zcol sm' c t') : t = t' ∧ ∀ i, i < t → sm (5 * c + i) = sm' (5 * c + i) := by
  have hl := congrArg List.length e
  rw [zcol_len, zcol_len] at hl
  refine ⟨hl, fun i hi => ?_⟩
  have h1 : (zcol sm c t)[i]? = (zcol sm' c t')[i]? := by rw [e]
  rw [List.getElem?_eq_getElem (by rw [zcol_len]; exact hi), List.getElem?_eq_getElem (by rw [zcol_len]; omega), zcol_get, zcol_get] at h1
  have := Option.some.inj h1
  omega
theorem zSm_uq {n : Nat} {sm ta sm' ta' : Nat → Int} (h : zSm n sm ta) (h' : zSm n sm' ta') (e : zdig sm ta = zdig sm' ta') : ∀ c, c < 4 → ta c = ta' c ∧ ∀ i : Nat, (i : Int) < ta c → sm (5 * c + i) = sm' (5 * c + i) := by
  unfold zdig at e
  have g0 := zsplit _ _ _ _ (zSm_z h (by decide)) (zSm_z h' (by decide)) e
  have g1 := zsplit _ _ _ _ (zSm_z h (by decide)) (zSm_z h' (by decide)) g0.2
  have g2 := zsplit _ _ _ _ (zSm_z h (by decide)) (zSm_z h' (by decide)) g1.2
  have k0 := zcol_uq g0.1
  have k1 := zcol_uq g1.1
  have k2 := zcol_uq g2.1
  have k3 := zcol_uq g2.2
  intro c hc
  have b := zSm_c h hc
  have b' := zSm_c h' hc
  have : c = 0 ∨ c = 1 ∨ c = 2 ∨ c = 3 := by omega
  rcases this with q | q | q | q <;> subst q
  · exact ⟨by omega, fun i hi => k0.2 i (by omega)⟩
  · exact ⟨by omega, fun i hi => k1.2 i (by omega)⟩
  · exact ⟨by omega, fun i hi => k2.2 i (by omega)⟩
  · exact ⟨by omega, fun i hi => k3.2 i (by omega)⟩
theorem z_smallTop {n : Nat} {sm ta : Nat → Int} (h : zSm n sm ta) (x1 : Int) (c : Nat) (hc : c < 4) (e1 : x1 = (c : Int)) (ht : 1 ≤ ta c) : zok (f_HM_smallTop x1 sm ta) (fun o => o = sm (5 * c + ((ta c).toNat - 1)) ∧ 0 ≤ o ∧ o < (n : Int)) := by
  have hb := zSm_c h hc
  have hs := zSm_s h hc (i := (ta c).toNat - 1) (by omega)
  unfold f_HM_smallTop
  refine zk_nE (fun v1 q1 => ?_)
  refine zk_gl c (by omega) (by omega) (by decide) (fun v2 q2 => ?_)
  refine zk_nE (fun v3 q3 => ?_)
  refine zk_nE (fun v4 q4 => ?_)
  refine zk_gl (5 * c + ((ta c).toNat - 1)) (by omega) (by omega) (by decide) (fun v5 q5 => ?_)
  exact zk_ret ⟨q5, by omega, by omega⟩
theorem z_costAt (x1 x2 x3 x4 x5 : Int) : zok (f_HM_costAt x1 x2 x3 x4 x5) (fun o => o = ((x1 * 5 + x2) * 16 + x3) * 25 + 5 * (x4 - 1) + x5) := by
  unfold f_HM_costAt
  refine zk_nE (fun v1 q1 => ?_)
  refine zk_nE (fun v2 q2 => ?_)
  refine zk_nE (fun v3 q3 => ?_)
  refine zk_nE (fun v4 q4 => ?_)
  refine zk_nE (fun v5 q5 => ?_)
  refine zk_nE (fun v6 q6 => ?_)
  refine zk_nE (fun v7 q7 => ?_)
  refine zk_nE (fun v8 q8 => ?_)
  refine zk_nE (fun v9 q9 => ?_)
  exact zk_ret (by omega)
theorem z_im49 (n : Nat) (sm ta row costs : Nat → Int) (h : zSm n sm ta) (h0 : RI row) (hC : zR costs (-1) 99) (x1 x3 x4 : Int) (f t : Nat) (hf : f < 4) (ht : t < 4) (hft : f ≠ t) (e3 : x3 = (f : Int)) (e4 : x4 = (t : Int)) (b1 : 0 ≤ x1 ∧ x1 < 16) (hh : 1 ≤ ta f) : ∀ (m : Nat) (x5 x6 : Int), (x5 = 0 ∨ x5 = 1) → (0 ≤ x6 ∧ x6 ≤ row 1) → row 1 - x6 + 1 ≤ (m : Int) → zok (f_HM_isMove_49 row costs sm ta m x1 (-1) x3 x4 x5 x6) (fun o => o = 0 ∨ o = 1) := by
  have r1 := RI_1 h0
  have c1 := zSm_c h hf
  have c2 := zSm_c h ht
  have cs : ta f + ta t ≤ 5 := by
    have s := zSm_t h
    have s1 := h.1
    have s2 := h.2.1
    have u1 : f = 0 ∨ f = 1 ∨ f = 2 ∨ f = 3 := by omega
    have u2 : t = 0 ∨ t = 1 ∨ t = 2 ∨ t = 3 := by omega
    rcases u1 with q | q | q | q <;> subst q <;> rcases u2 with q | q | q | q <;> subst q <;> omega
  have hn := h.1
  intro m
  induction m with
  | zero => intro x5 x6 b5 b6 hm; exact absurd hm (by omega)
  | succ m ih =>
    intro x5 x6 b5 b6 hm
    show zok (f_HM_isMove_49_b row costs sm ta (f_HM_isMove_49 row costs sm ta m) x1 (-1) x3 x4 x5 x6) _
    unfold f_HM_isMove_49_b
    refine zk_gl 1 rfl (by decide) (by decide) (fun v1 q1 => ?_)
    refine zk_ifc (zci_le (by omega) (by omega)) (fun hc1 => ?_) (fun hc1 => ?_)
    · exact zk_gb b5 (zk_ret b5)
    · have go : ∀ s : Int, (s = 0 ∨ s = 1) → zok (f_HM_isMove_115 row costs sm ta (f_HM_isMove_49 row costs sm ta m) x1 (-1) x3 x4 x6 s) (fun o => o = 0 ∨ o = 1) := by
        intro s hs
        unfold f_HM_isMove_115
        refine zk_nE (fun w hw => ?_)
        exact ih s w hs (by omega) (by omega)
      refine zk_ifc (zci_ner (by omega)) (fun hc2 => ?_) (fun hc2 => ?_)
      · unfold f_HM_isMove_110
        exact go 1 (Or.inr rfl)
      · refine zk_if (fun _ => ?_) (fun hne => absurd rfl hne)
        unfold f_HM_isMove_76
        refine zk_d1 (z_smallTop h x3 f hf e3 hh) (fun w1 p1 => ?_)
        refine zk_gl f (by omega) (by omega) (by decide) (fun w2 p2 => ?_)
        refine zk_gl t (by omega) (by omega) (by decide) (fun w3 p3 => ?_)
        refine zk_d1 (z_costAt _ _ _ _ _) (fun w4 p4 => ?_)
        try dsimp only at p1 p4
        refine zk_gv (by omega) (by decide) (fun w5 p5 => ?_)
        have := hC w4.toNat
        refine zk_ifc (zci_eq (by omega) (by omega)) (fun hc3 => ?_) (fun hc3 => ?_)
        · unfold f_HM_isMove_114
          exact go 0 (Or.inl rfl)
        · unfold f_HM_isMove_110
          exact go 1 (Or.inr rfl)
def zMv (row ta : Nat → Int) (mv : Int) : Prop := ∃ f t : Nat, mv = 4 * (f : Int) + (t : Int) ∧ f < 4 ∧ t < 4 ∧ f ≠ t ∧ (f : Int) < row 0 ∧ (t : Int) < row 0 ∧ 1 ≤ ta f
theorem z_isMove {n : Nat} {sm ta row costs : Nat → Int} (h : zSm n sm ta) (h0 : RI row) (hC : zR costs (-1) 99) (x1 : Int) (b1 : 0 ≤ x1 ∧ x1 < 16) : zok (f_HM_isMove x1 (-1) row costs sm ta) (fun o => o = 0 ∨ (o = 1 ∧ zMv row ta x1)) := by
  have r0 := RI_0 h0
  have r1 := RI_1 h0
  unfold f_HM_isMove
  refine zk_g0zi_w (by omega) ?_
  refine zk_nE (fun v1 q1 => ?_)
  rw [zi_div_n (by omega) (by omega)] at q1
  refine zk_g0zi_w (by omega) ?_
  refine zk_nE (fun v2 q2 => ?_)
  rw [zi_rem_n (by omega) (by omega)] at q2
  refine zk_ifc (zci_eq (by omega) (by omega)) (fun hc1 => ?_) (fun hc1 => ?_)
  · exact zk_ret (Or.inl rfl)
  · refine zk_d1 (s_HM_columns _ h0) (fun v3 p3 => ?_)
    try dsimp only at p3
    refine zk_ifc (zci_le (by omega) (by omega)) (fun hc2 => ?_) (fun hc2 => ?_)
    · exact zk_ret (Or.inl rfl)
    · refine zk_d1 (s_HM_columns _ h0) (fun v4 p4 => ?_)
      try dsimp only at p4
      refine zk_ifc (zci_le (by omega) (by omega)) (fun hc3 => ?_) (fun hc3 => ?_)
      · exact zk_ret (Or.inl rfl)
      · refine zk_gl v1.toNat (by omega) (by omega) (by decide) (fun v5 q5 => ?_)
        have hb := zSm_c h (c := v1.toNat) (by omega)
        refine zk_ifc (zci_ner (by omega)) (fun hc4 => ?_) (fun hc4 => ?_)
        · refine zok_mono (z_im49 n sm ta row costs h h0 hC x1 v1 v2 v1.toNat v2.toNat (by omega) (by omega) (by omega) (by omega) (by omega) b1 (by omega) zfu 0 0 (Or.inl rfl) (by omega) (by unfold zfu; omega)) ?_
          intro o ho
          rcases ho with ho | ho
          · exact Or.inl ho
          · exact Or.inr ⟨ho, v1.toNat, v2.toNat, by omega, by omega, by omega, by omega, by omega, by omega, by omega⟩
        · exact zk_ret (Or.inl rfl)

