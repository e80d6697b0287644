theorem z_fm3 {n N : Nat} {row st tb nx lf costs sf : Nat → Int} (h0 : RI row) (hn : n ≤ 5) (hC : zR costs (-1) 99) (hT : TI n N st tb) (hX : NX n N row st nx (16 * N)) (hsf : ∀ i, i < N → sf i = 0 ∨ sf i = 1) (hlf : ∀ a, a < N → 0 ≤ lf a ∧ lf a ≤ 1000000000000000) (x1 x3 : Int) (b1 : 0 ≤ x1 ∧ x1 ≤ 2) (e3 : x3 = (n : Int)) (a : Nat) (ha : a < N) (hF : lf a < 1000000000000000) (mv k : Nat) (hm : mv < 16) (hk6 : (k : Int) < row 1) (ho : zOp x1 nx sf a mv) (hw : ∀ s t : Nat → Int, zSm n s t → zcode (zdig s t) = st a → zWp x1 (mv : Int) (k : Int) costs s t + lf (nx (16 * a + mv)).toNat = lf a) : ∀ (m c : Nat) (x2 x4 : Int) (sm ta : Nat → Int), x2 = (a : Int) → x4 = (c : Int) → c ≤ 6 * mv + k → 6 * mv + k + 1 - c ≤ m → zok (f_HM_firstMove_3 row st nx lf costs sf m x1 x2 x3 x4 sm ta) (fun o => ∃ w : Nat, w < 16 ∧ (0 ≤ o.1 ∧ o.1 < 96) ∧ o.1 / 6 = (w : Int) ∧ (0 ≤ nx (16 * a + w) ∧ nx (16 * a + w) < (N : Int)) ∧ lf (nx (16 * a + w)).toNat < lf a) := by
  have r1 := RI_1 h0
  have hN := TI_N hn hT
  have la := hlf a ha
  obtain ⟨l, hl, el⟩ := hT.1 a ha
  obtain ⟨o0, _, o2, o3⟩ := z_openSmall hn hl (zcode l) (n : Int) rfl rfl (fun _ => 0) (fun _ => 0)
  have hcd : zcode (zdig o0.1 o0.2) = st a := by rw [o2, el]
  have hw0 := hw o0.1 o0.2 o3 hcd
  intro m
  induction m with
  | zero => intro c x2 x4 sm ta e2 e4 hc hme; exact absurd hme (by omega)
  | succ m ih =>
    intro c x2 x4 sm ta e2 e4 hc hme
    show zok (f_HM_firstMove_3_b row st nx lf costs sf (f_HM_firstMove_3 row st nx lf costs sf m) x1 x2 x3 x4 sm ta) _
    have go : ∀ (sm' ta' : Nat → Int), c ≠ 6 * mv + k → zok (f_HM_firstMove_99 row st nx lf costs sf (f_HM_firstMove_3 row st nx lf costs sf m) x1 x2 x3 x4 sm' ta') (fun o => ∃ w : Nat, w < 16 ∧ (0 ≤ o.1 ∧ o.1 < 96) ∧ o.1 / 6 = (w : Int) ∧ (0 ≤ nx (16 * a + w) ∧ nx (16 * a + w) < (N : Int)) ∧ lf (nx (16 * a + w)).toNat < lf a) := by
      intro sm' ta' hne
      unfold f_HM_firstMove_99
      refine zk_nE (fun w hw => ?_)
      exact ih (c + 1) x2 w sm' ta' e2 (by omega) (by omega) (by omega)
    unfold f_HM_firstMove_3_b
    refine zk_ifc (zci_le (by omega) (by omega)) (fun hc1 => ?_) (fun hc1 => ?_)
    · exact absurd hc1 (by omega)
    · refine zk_g0zi_w (by omega) ?_
      refine zk_nE (fun v1 q1 => ?_)
      rw [zi_div_n (by omega) (by omega)] at q1
      refine zk_g0zi_w (by omega) ?_
      refine zk_nE (fun v2 q2 => ?_)
      rw [zi_rem_n (by omega) (by omega)] at q2
      refine zk_gl 1 rfl (by decide) (by decide) (fun v3 q3 => ?_)
      have g46 : ∀ y : Int, c ≠ 6 * mv + k → zok (f_HM_firstMove_46 row st nx lf costs sf (f_HM_firstMove_3 row st nx lf costs sf m) x1 x2 x3 x4 y sm ta) (fun o => ∃ w : Nat, w < 16 ∧ (0 ≤ o.1 ∧ o.1 < 96) ∧ o.1 / 6 = (w : Int) ∧ (0 ≤ nx (16 * a + w) ∧ nx (16 * a + w) < (N : Int)) ∧ lf (nx (16 * a + w)).toNat < lf a) := by
        intro y hne
        unfold f_HM_firstMove_46 f_HM_firstMove_47
        refine zk_ifc (zci_eqr (by omega)) (fun _ => ?_) (fun hcc => absurd rfl hcc)
        exact go sm ta hne
      refine zk_ifc (zci_le (by omega) (by omega)) (fun hc2 => ?_) (fun hc2 => ?_)
      · exact g46 v1 (by omega)
      · obtain ⟨w, hw16, ew⟩ : ∃ w : Nat, w < 16 ∧ v1 = (w : Int) := ⟨v1.toNat, by omega, by omega⟩
        refine zk_d1 (zok_self (z_isOpen hX hN x1 x2 v1 b1 a e2 ha (by omega) hsf)) (fun v4 p4 => ?_)
        obtain ⟨p41, p42⟩ := p4
        have e16 : (16 * (a : Int) + (w : Int)).toNat = 16 * a + w := by omega
        rw [e2, ew] at p41
        rw [e2, ew, e16] at p42
        refine zk_ifc (zci_eqr (by omega)) (fun hc3 => ?_) (fun hc3 => ?_)
        · refine g46 v1 (fun hce => ?_)
          have : w = mv := by omega
          subst this
          have h1 := ho.1
          rw [p41] at h1
          have := Option.some.inj h1
          omega
        · have hne : nx (16 * a + w) ≠ -1 := by
            rcases p42 with p | p
            · exact absurd p hc3
            · exact p.2
          have hnx : 0 ≤ nx (16 * a + w) ∧ nx (16 * a + w) < (N : Int) := by
            rcases hX (16 * a + w) (by omega) with hx | hx
            · exact absurd hx hne
            · exact hx.1
          have ln := hlf (nx (16 * a + w)).toNat (by omega)
          unfold f_HM_firstMove_47
          refine zk_ifc (zci_eqr (by omega)) (fun hcc => absurd hcc (by decide)) (fun _ => ?_)
          refine zk_g0zi_w (by omega) ?_
          refine zk_nE (fun u1 s1 => ?_)
          rw [zi_rem_n (by omega) (by omega)] at s1
          refine zk_d3 (z_priceA h0 hn hC hT hX x1 x2 v1 u1 x3 b1 a w e2 ha ew hw16 (by omega) e3 hne sm ta) (fun u2 a3 a4 p5 => ?_)
          obtain ⟨p51, p52⟩ := p5
          dsimp only at p51 p52
          have pw := p52 o0.1 o0.2 o3 hcd
          refine zk_nE (fun u5 s5 => ?_)
          refine zk_nE (fun u6 s6 => ?_)
          refine zk_gl (16 * a + w) (by omega) (by omega) (by decide) (fun u7 s7 => ?_)
          refine zk_gl (nx (16 * a + w)).toNat (by omega) (by omega) (by decide) (fun u8 s8 => ?_)
          refine zk_nE (fun u9 s9 => ?_)
          refine zk_gl a (by omega) (by omega) (by decide) (fun u10 s10 => ?_)
          refine zk_ifc (zcl_ne (by omega) (by omega)) (fun hc4 => ?_) (fun hc4 => ?_)
          · refine go a3 a4 (fun hce => ?_)
            have e1 : w = mv := by omega
            have e5 : u1 = (k : Int) := by omega
            subst e1
            rw [e5, ew] at pw
            omega
          · exact zk_ret ⟨w, hw16, by dsimp only; omega, by dsimp only; omega, hnx, by omega⟩

def zPL (o : (Int × Int × Int × Int × Int × Int × Int × (Nat → Int) × (Nat → Int) × (Nat → Int) × (Nat → Int) × (Nat → Int) × (Nat → Int) × (Nat → Int) × (Nat → Int) × (Nat → Int) × (Nat → Int) × (Nat → Int) × (Nat → Int))) : Prop := zR o.2.2.2.2.2.2.2.2.2.1 0 30 ∧ zR o.2.2.2.2.2.2.2.2.2.2.2.2.2.2.1 (-1) 99
theorem z_pl118 {n N : Nat} {row st tb nx lf costs sf wei : Nat → Int} (h0 : RI row) (hn : n ≤ 5) (hC : zR costs (-1) 99) (hW : zR wei 0 30) (hT : TI n N st tb) (hX : NX n N row st nx (16 * N)) (hsf : ∀ i, i < N → sf i = 0 ∨ sf i = 1) (hlf : ∀ a, a < N → 0 ≤ lf a ∧ lf a ≤ 1000000000000000) (x1 x2 x3 x4 : Int) (b1 : 0 ≤ x1 ∧ x1 ≤ 2) (e4 : x4 = (n : Int)) (hmv : ∀ a, a < N → 0 < lf a → lf a < 1000000000000000 → ∃ mv k : Nat, mv < 16 ∧ (k : Int) < row 1 ∧ zOp x1 nx sf a mv ∧ ∀ s t : Nat → Int, zSm n s t → zcode (zdig s t) = st a → zWp x1 (mv : Int) (k : Int) costs s t + lf (nx (16 * a + mv)).toNat = lf a) (law brk val sum nS th : Int) (set rest ch : Nat → Int) : ∀ (m a : Nat) (x5 x6 x7 : Int) (sm ta : Nat → Int), x5 = (a : Int) → a < N → lf a < 1000000000000000 → lf a + 2 ≤ (m : Int) → zok (f_HM_plan_118 row m x1 x2 x3 x4 x5 x6 x7 th law brk val sum nS set rest wei st tb nx lf costs sm ta sf ch) zPL := by
  have hN := TI_N hn hT
  have r1 := RI_1 h0
  intro m
  induction m with
  | zero => intro a x5 x6 x7 sm ta e5 ha hF hme; have := hlf a ha; exact absurd hme (by omega)
  | succ m ih =>
    intro a x5 x6 x7 sm ta e5 ha hF hme
    have la := hlf a ha
    show zok (f_HM_plan_118_b row (f_HM_plan_118 row m) x1 x2 x3 x4 x5 x6 x7 th law brk val sum nS set rest wei st tb nx lf costs sm ta sf ch) _
    unfold f_HM_plan_118_b
    refine zk_if (fun _ => ?_) (fun _ => ?_)
    · refine zk_if (fun _ => ?_) (fun _ => ?_)
      · refine zk_if (fun _ => ?_) (fun _ => ?_)
        · refine zk_g0zi_w (by omega) ?_
          refine zk_nE (fun _ _ => ?_)
          exact zk_ret ⟨hW, hC⟩
        · refine zk_g0zi_w (by omega) ?_
          refine zk_nE (fun _ _ => ?_)
          refine zk_g0zi_w (by omega) ?_
          refine zk_nE (fun _ _ => ?_)
          exact zk_ret ⟨hW, hC⟩
      · refine zk_g0zi_w (by omega) ?_
        refine zk_nE (fun _ _ => ?_)
        exact zk_ret ⟨hW, hC⟩
    · refine zk_gl a (by omega) (by omega) (by decide) (fun v5 q5 => ?_)
      refine zk_ifc (zcl_ne (by omega) (by omega)) (fun hc1 => ?_) (fun hc1 => ?_)
      · obtain ⟨mv, k, k1, k2, k3, k4⟩ := hmv a ha (by omega) hF
        have hz : zok (f_HM_firstMove x1 x5 x4 row st nx lf costs sf sm ta) (fun o => ∃ w : Nat, w < 16 ∧ (0 ≤ o.1 ∧ o.1 < 96) ∧ o.1 / 6 = (w : Int) ∧ (0 ≤ nx (16 * a + w) ∧ nx (16 * a + w) < (N : Int)) ∧ lf (nx (16 * a + w)).toNat < lf a) := by
          unfold f_HM_firstMove
          exact z_fm3 h0 hn hC hT hX hsf hlf x1 x4 b1 e4 a ha hF mv k k1 k2 k3 k4 zfu 0 x5 0 sm ta e5 rfl (Nat.zero_le _) (by unfold zfu; omega)
        refine zk_d3 hz (fun v6 a7 a8 p6 => ?_)
        obtain ⟨w, w1, w2, w3, w4, w5⟩ := p6
        dsimp only at w2 w3
        refine zk_nE (fun v9 q9 => ?_)
        refine zk_g0zi_w (by omega) ?_
        refine zk_nE (fun v10 q10 => ?_)
        rw [zi_div_n (by omega) (by omega)] at q10
        refine zk_nE (fun v11 q11 => ?_)
        refine zk_gl (16 * a + w) (by omega) (by omega) (by decide) (fun v12 q12 => ?_)
        refine zk_nE (fun v13 q13 => ?_)
        exact ih (nx (16 * a + w)).toNat v12 v6 v13 a7 a8 (by omega) (by omega) (by omega) (by omega)
      · exact zk_ret ⟨hW, hC⟩
theorem z_plan {row : Nat → Int} (h0 : RI row) (x1 x2 x3 : Int) (b1 : -2147483648 ≤ x1 ∧ x1 ≤ 2147483647) (b2 : -2147483648 ≤ x2 ∧ x2 ≤ 2147483647) (b3 : -2147483648 ≤ x3 ∧ x3 ≤ 2147483647) (th law brk val sum nS : Int) (set rest wei st tb nx lf costs sm ta sf ch : Nat → Int) (hC : zR costs (-1) 99) (hW : zR wei 0 30) : zok (f_HM_plan x1 x2 x3 row th law brk val sum nS set rest wei st tb nx lf costs sm ta sf ch) zPL := by
  have r0 := RI_0 h0
  unfold f_HM_plan
  refine zk_d1 (z_stones h0) (fun v1 p1 => ?_)
  obtain ⟨p11, p12⟩ := p1
  refine zk_nE (fun v2 q2 => ?_)
  rw [zwi b1] at q2
  refine zk_d1 (s_HM_in _ _ _ (by omega) (by omega) (by omega)) (fun v3 p3 => ?_)
  try dsimp only at p3
  refine zk_ifc (zci_eqr (by omega)) (fun hc1 => ?_) (fun hc1 => ?_)
  · exact zk_ret ⟨hW, hC⟩
  · refine zk_nE (fun v4 q4 => ?_)
    rw [zwi b3] at q4
    refine zk_d1 (s_HM_in _ _ _ (by omega) (by omega) (by omega)) (fun v5 p5 => ?_)
    try dsimp only at p5
    refine zk_ifc (zci_eqr (by omega)) (fun hc2 => ?_) (fun hc2 => ?_)
    · exact zk_ret ⟨hW, hC⟩
    · refine zk_d1 (s_HM_columns _ h0) (fun v6 p6 => ?_)
      try dsimp only at p6
      refine zk_ifc (zci_lt (by omega) (by omega)) (fun hc3 => ?_) (fun hc3 => ?_)
      · exact zk_ret ⟨hW, hC⟩
      · refine zk_ifc (zci_lt (by omega) (by omega)) (fun hc4 => ?_) (fun hc4 => ?_)
        · exact zk_ret ⟨hW, hC⟩
        · refine zk_if (fun _ => ?_) (fun _ => ?_)
          · have hs : zHs row 4 = (v1.toNat : Int) := by
              rw [zHs_4 h0 (by omega), ← p11]
              omega
            refine zk_d17 (z_findLeft h0 (by omega) (n := v1.toNat) (by omega) hs x1 v1 (by omega) (by omega) law brk val sum nS set rest wei st tb nx lf costs sm ta sf ch hC hW) (fun v7 v8 v9 v10 v11 a12 a13 a14 a15 a16 a17 a18 a19 a20 a21 a22 a23 hq => ?_)
            obtain ⟨N, ⟨n1, n2⟩, g1, g2, g3, g4, g5, g6, g7, g8⟩ := hq
            dsimp only at g1 g2 g3 g4 g5 g6 g7 g8
            refine zk_gl 0 rfl (by decide) (by decide) (fun v24 q24 => ?_)
            have l0 := g7 0 (by omega)
            refine zk_ifc (zcl_lt (by omega) (by omega)) (fun hc5 => ?_) (fun hc5 => ?_)
            · refine zk_if (fun _ => ?_) (fun _ => ?_)
              · exact z_pl118 h0 (by omega) g4 g5 g2 g3 g6 g7 x1 x2 x3 v1 (by omega) (by omega) g8 v7 v8 v9 v10 v11 0 a12 a13 a23 zfu 0 0 (-1) 0 a20 a21 rfl (by omega) (by omega) (by unfold zfu; omega)
              · refine zk_if (fun _ => ?_) (fun _ => ?_)
                · refine zk_gl 0 rfl (by decide) (by decide) (fun v25 q25 => ?_)
                  exact zk_ret ⟨g5, g4⟩
                · refine zk_gl 0 rfl (by decide) (by decide) (fun v26 q26 => ?_)
                  refine zk_g0zl_w (by omega) ?_
                  refine zk_nE (fun v27 q27 => ?_)
                  exact zk_ret ⟨g5, g4⟩
            · exact zk_ret ⟨g5, g4⟩
          · exact zk_ret ⟨hW, hC⟩

