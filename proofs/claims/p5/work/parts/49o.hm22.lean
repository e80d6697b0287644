def zCh (x1 : Int) (n : Nat) (row st costs : Nat → Int) (v : Int) (j : Nat) : Prop := v = 1000000000000000 ∨ ((1 ≤ v ∧ v ≤ 990001) ∧ ∃ k : Int, (0 ≤ k ∧ k < row 1) ∧ ∀ s t : Nat → Int, zSm n s t → zcode (zdig s t) = st (j / 16) → v = zWp x1 ((j % 16 : Nat) : Int) k costs s t)
theorem z_priceA {n N : Nat} {row st tb nx costs : Nat → Int} (h0 : RI row) (hn : n ≤ 5) (hC : zR costs (-1) 99) (hT : TI n N st tb) (hX : NX n N row st nx (16 * N)) (x1 x2 x3 x4 x5 : Int) (b1 : 0 ≤ x1 ∧ x1 ≤ 2) (a mv : Nat) (e2 : x2 = (a : Int)) (ha : a < N) (e3 : x3 = (mv : Int)) (hm : mv < 16) (b4 : 0 ≤ x4 ∧ x4 < row 1) (e5 : x5 = (n : Int)) (hne : nx (16 * a + mv) ≠ -1) (sm ta : Nat → Int) : zok (f_HM_price x1 x2 x3 x4 x5 st costs sm ta) (fun o => (o.1 = 1000000000000000 ∨ (1 ≤ o.1 ∧ o.1 ≤ 990001)) ∧ ∀ s t : Nat → Int, zSm n s t → zcode (zdig s t) = st a → o.1 = zWp x1 x3 x4 costs s t) := by
  have hN := TI_N hn hT
  have hx : ∀ s t : Nat → Int, zSm n s t → zcode (zdig s t) = st a → zMv row t x3 := by
    rcases hX (16 * a + mv) (by omega) with hx | hx
    · exact absurd hx hne
    · have e1 : (16 * a + mv) / 16 = a := by omega
      have e4 : (((16 * a + mv) % 16 : Nat) : Int) = x3 := by omega
      rw [e1, e4] at hx
      exact hx.2
  obtain ⟨l, hl, el⟩ := hT.1 a ha
  obtain ⟨o, _, o2, o3⟩ := z_openSmall hn hl (zcode l) (n : Int) rfl rfl (fun _ => 0) (fun _ => 0)
  have hcd : zcode (zdig o.1 o.2) = st a := by rw [o2, el]
  obtain ⟨p, p1, p2⟩ := z_price h0 hn hC x1 x2 x3 x4 x5 b1 a e2 (by omega) b4 e5 o.1 o.2 o3 hcd (hx _ _ o3 hcd) sm ta
  refine ⟨p, p1, ?_, fun s t g1 g2 => ?_⟩
  · rw [p2]
    exact zWp_r x1 x3 x4 hC o.1 o.2
  · obtain ⟨p', q1, q2⟩ := z_price h0 hn hC x1 x2 x3 x4 x5 b1 a e2 (by omega) b4 e5 s t g1 g2 (hx _ _ g1 g2) sm ta
    rw [p1] at q1
    have := Option.some.inj q1
    rw [this]
    exact q2

theorem z_fl84 (x1 x2 : Int) (b1 : 0 ≤ x1 ∧ x1 ≤ 2) (n N : Nat) (hn : n ≤ 5) (e2 : x2 = (n : Int)) (law brk val sum nS : Int) (set rest wei st tb nx costs : Nat → Int) (row : Nat → Int) (h0 : RI row) (hC : zR costs (-1) 99) (hT : TI n N st tb) (hX : NX n N row st nx (16 * N)) (lf sf : Nat → Int) (k7 : (Int → Int → Int → Int → Int → Int → Int → Int → (Nat → Int) → (Nat → Int) → (Nat → Int) → (Nat → Int) → (Nat → Int) → (Nat → Int) → (Nat → Int) → (Nat → Int) → (Nat → Int) → (Nat → Int) → (Nat → Int) → (Nat → Int) → Option (Int × Int × Int × Int × Int × (Nat → Int) × (Nat → Int) × (Nat → Int) × (Nat → Int) × (Nat → Int) × (Nat → Int) × (Nat → Int) × (Nat → Int) × (Nat → Int) × (Nat → Int) × (Nat → Int) × (Nat → Int)))) (k59 : (Int → Int → Int → Int → Int → Int → Int → Int → Int → (Nat → Int) → (Nat → Int) → (Nat → Int) → (Nat → Int) → (Nat → Int) → (Nat → Int) → (Nat → Int) → (Nat → Int) → (Nat → Int) → (Nat → Int) → (Nat → Int) → (Nat → Int) → Option (Int × Int × Int × Int × Int × (Nat → Int) × (Nat → Int) × (Nat → Int) × (Nat → Int) × (Nat → Int) × (Nat → Int) × (Nat → Int) × (Nat → Int) × (Nat → Int) × (Nat → Int) × (Nat → Int) × (Nat → Int)))) (P : (Int × Int × Int × Int × Int × (Nat → Int) × (Nat → Int) × (Nat → Int) × (Nat → Int) × (Nat → Int) × (Nat → Int) × (Nat → Int) × (Nat → Int) × (Nat → Int) × (Nat → Int) × (Nat → Int) × (Nat → Int)) → Prop) (a mv : Nat) (ha : a < N) (hm : mv < 16)
  (hk : ∀ (sm ta ch : Nat → Int), (∀ j, j < 16 * a + (mv + 1) → zCh x1 n row st costs (ch j) j) → zok (k59 x1 x2 (a : Int) ((mv : Int) + 1) law brk val sum nS set rest wei st tb nx lf costs sm ta sf ch) P) :
  ∀ (m : Nat) (x3 x4 x5 : Int) (sm ta ch : Nat → Int), x3 = (a : Int) → x4 = (mv : Int) → (0 ≤ x5 ∧ x5 ≤ row 1) → (∀ j, j < 16 * a + (mv + 1) → zCh x1 n row st costs (ch j) j) → row 1 - x5 + 1 ≤ (m : Int) → zok (f_HM_findLeft_84 row k7 k59 m x1 x2 x3 x4 x5 law brk val sum nS set rest wei st tb nx lf costs sm ta sf ch) P := by
  have r1 := RI_1 h0
  have hN := TI_N hn hT
  intro m
  induction m with
  | zero => intro x3 x4 x5 sm ta ch e3 e4 h5 hI hme; exact absurd hme (by omega)
  | succ m ih =>
    intro x3 x4 x5 sm ta ch e3 e4 h5 hI hme
    show zok (f_HM_findLeft_84_b row k7 k59 (f_HM_findLeft_84 row k7 k59 m) x1 x2 x3 x4 x5 law brk val sum nS set rest wei st tb nx lf costs sm ta sf ch) P
    have fin : zok (f_HM_findLeft_177 row k7 k59 x1 x2 x3 x4 law brk val sum nS set rest wei st tb nx lf costs sm ta sf ch) P := by
      unfold f_HM_findLeft_177
      refine zk_nE (fun w hw => ?_)
      rw [hw, e3, e4]
      exact hk sm ta ch hI
    unfold f_HM_findLeft_84_b
    refine zk_gl 1 rfl (by decide) (by decide) (fun v1 q1 => ?_)
    refine zk_ifc (zci_le (by omega) (by omega)) (fun hc1 => ?_) (fun hc1 => ?_)
    · exact fin
    · refine zk_nE (fun v2 q2 => ?_)
      refine zk_nE (fun v3 q3 => ?_)
      refine zk_gl (16 * a + mv) (by omega) (by omega) (by decide) (fun v4 q4 => ?_)
      have hr : -1 ≤ v4 ∧ v4 < 6720 := by
        rw [q4]
        rcases hX (16 * a + mv) (by omega) with k | k
        · rw [k]; decide
        · have := k.1; omega
      refine zk_ifc (zci_eq (by omega) (by omega)) (fun hc2 => ?_) (fun hc2 => ?_)
      · exact fin
      · refine zk_d3 (z_priceA h0 hn hC hT hX x1 x3 x4 x5 x2 b1 a mv e3 ha e4 hm (by omega) e2 (by omega) sm ta) (fun v5 a6 a7 p5 => ?_)
        obtain ⟨p51, p52⟩ := p5
        dsimp only at p51 p52
        have hcj := hI (16 * a + mv) (by omega)
        have hcr : 1 ≤ ch (16 * a + mv) ∧ ch (16 * a + mv) ≤ 1000000000000000 := by
          rcases hcj with k | k
          · rw [k]; decide
          · have := k.1; omega
        have go : ∀ (s1 w : Int), s1 = 16 * (a : Int) + (mv : Int) → zCh x1 n row st costs w (16 * a + mv) → zok (f_HM_findLeft_170 row k7 k59 (f_HM_findLeft_84 row k7 k59 m) x1 x2 x3 x4 x5 s1 w law brk val sum nS set rest wei st tb nx lf costs a6 a7 sf ch) P := by
          intro s1 w g0 g1
          unfold f_HM_findLeft_170
          refine zk_sl (16 * a + mv) (by omega) (by omega) (by decide) (fun c1 q6 => ?_)
          have r6 := zu_rd q6
          refine zk_nE (fun w2 hw2 => ?_)
          refine ih x3 x4 w2 a6 a7 c1 e3 e4 (by omega) (fun j hj => ?_) (by omega)
          by_cases q : j = 16 * a + mv
          · have e : c1 j = w := by have := r6 j; omega
            rw [e, q]
            exact g1
          · have e : c1 j = ch j := by have := r6 j; omega
            rw [e]
            exact hI j hj
        refine zk_nE (fun v8 q8 => ?_)
        refine zk_nE (fun v9 q9 => ?_)
        refine zk_nE (fun v10 q10 => ?_)
        refine zk_nE (fun v11 q11 => ?_)
        refine zk_gl (16 * a + mv) (by omega) (by omega) (by decide) (fun v12 q12 => ?_)
        refine zk_ifc (zcl_le (by omega) (by omega)) (fun hc3 => ?_) (fun hc3 => ?_)
        · refine zk_nE (fun v13 q13 => ?_)
          refine zk_nE (fun v14 q14 => ?_)
          refine zk_gl (16 * a + mv) (by omega) (by omega) (by decide) (fun v15 q15 => ?_)
          exact go v9 v15 (by omega) (by rw [q15]; exact hcj)
        · refine go v9 v5 (by omega) ?_
          rcases p51 with k | k
          · exact Or.inl k
          · refine Or.inr ⟨k, x5, by omega, fun s t g1 g2 => ?_⟩
            have ea : (16 * a + mv) / 16 = a := by omega
            have em : (((16 * a + mv) % 16 : Nat) : Int) = x4 := by omega
            rw [ea] at g2
            rw [em]
            exact p52 s t g1 g2
theorem z_fl59 (x1 x2 : Int) (b1 : 0 ≤ x1 ∧ x1 ≤ 2) (n N : Nat) (hn : n ≤ 5) (e2 : x2 = (n : Int)) (law brk val sum nS : Int) (set rest wei st tb nx costs : Nat → Int) (row : Nat → Int) (h0 : RI row) (hC : zR costs (-1) 99) (hT : TI n N st tb) (hX : NX n N row st nx (16 * N)) (lf sf : Nat → Int) (k7 : (Int → Int → Int → Int → Int → Int → Int → Int → (Nat → Int) → (Nat → Int) → (Nat → Int) → (Nat → Int) → (Nat → Int) → (Nat → Int) → (Nat → Int) → (Nat → Int) → (Nat → Int) → (Nat → Int) → (Nat → Int) → (Nat → Int) → Option (Int × Int × Int × Int × Int × (Nat → Int) × (Nat → Int) × (Nat → Int) × (Nat → Int) × (Nat → Int) × (Nat → Int) × (Nat → Int) × (Nat → Int) × (Nat → Int) × (Nat → Int) × (Nat → Int) × (Nat → Int)))) (P : (Int × Int × Int × Int × Int × (Nat → Int) × (Nat → Int) × (Nat → Int) × (Nat → Int) × (Nat → Int) × (Nat → Int) × (Nat → Int) × (Nat → Int) × (Nat → Int) × (Nat → Int) × (Nat → Int) × (Nat → Int)) → Prop) (a : Nat) (ha : a < N)
  (hk : ∀ (sm ta ch : Nat → Int), (∀ j, j < 16 * (a + 1) → zCh x1 n row st costs (ch j) j) → zok (k7 x1 x2 ((a : Int) + 1) law brk val sum nS set rest wei st tb nx lf costs sm ta sf ch) P) :
  ∀ (m mv : Nat) (x3 x4 : Int) (sm ta ch : Nat → Int), x3 = (a : Int) → x4 = (mv : Int) → mv ≤ 16 → (∀ j, j < 16 * a + mv → zCh x1 n row st costs (ch j) j) → 17 - mv ≤ m → zok (f_HM_findLeft_59 row k7 m x1 x2 x3 x4 law brk val sum nS set rest wei st tb nx lf costs sm ta sf ch) P := by
  have r1 := RI_1 h0
  have hN := TI_N hn hT
  intro m
  induction m with
  | zero => intro mv x3 x4 sm ta ch e3 e4 hm hI hme; exact absurd hme (by omega)
  | succ m ih =>
    intro mv x3 x4 sm ta ch e3 e4 hm hI hme
    show zok (f_HM_findLeft_59_b row k7 (f_HM_findLeft_59 row k7 m) x1 x2 x3 x4 law brk val sum nS set rest wei st tb nx lf costs sm ta sf ch) P
    unfold f_HM_findLeft_59_b
    refine zk_ifc (zci_le (by omega) (by omega)) (fun hc1 => ?_) (fun hc1 => ?_)
    · refine zk_nE (fun v1 q1 => ?_)
      rw [q1, e3]
      exact hk sm ta ch (fun j hj => hI j (by omega))
    · refine zk_nE (fun v2 q2 => ?_)
      refine zk_nE (fun v3 q3 => ?_)
      refine zk_sl (16 * a + mv) (by omega) (by omega) (by decide) (fun c1 q4 => ?_)
      have r4 := zu_rd q4
      refine z_fl84 x1 x2 b1 n N hn e2 law brk val sum nS set rest wei st tb nx costs row h0 hC hT hX lf sf k7 _ P a mv ha (by omega) (fun sm' ta' ch' g1 => ih (mv + 1) _ _ sm' ta' ch' rfl (by omega) (by omega) (fun j hj => g1 j (by omega)) (by omega)) zfu x3 x4 0 sm ta c1 e3 e4 (by omega) (fun j hj => ?_) (by unfold zfu; omega)
      by_cases q : j = 16 * a + mv
      · have e : c1 j = 1000000000000000 := by have := r4 j; omega
        exact Or.inl e
      · have e : c1 j = ch j := by have := r4 j; omega
        rw [e]
        exact hI j (by omega)

def zFL (x1 : Int) (n : Nat) (row : Nat → Int) (o : (Int × Int × Int × Int × Int × (Nat → Int) × (Nat → Int) × (Nat → Int) × (Nat → Int) × (Nat → Int) × (Nat → Int) × (Nat → Int) × (Nat → Int) × (Nat → Int) × (Nat → Int) × (Nat → Int) × (Nat → Int))) : Prop := ∃ N : Nat, (1 ≤ N ∧ N ≤ 6720) ∧ o.2.2.2.2.1 = (N : Int) ∧ TI n N o.2.2.2.2.2.2.2.2.1 o.2.2.2.2.2.2.2.2.2.1 ∧ NX n N row o.2.2.2.2.2.2.2.2.1 o.2.2.2.2.2.2.2.2.2.2.1 (16 * N) ∧ zR o.2.2.2.2.2.2.2.2.2.2.2.2.1 (-1) 99 ∧ zR o.2.2.2.2.2.2.2.1 0 30 ∧ (∀ i, i < N → o.2.2.2.2.2.2.2.2.2.2.2.2.2.2.2.1 i = 0 ∨ o.2.2.2.2.2.2.2.2.2.2.2.2.2.2.2.1 i = 1) ∧ (∀ a, a < N → 0 ≤ o.2.2.2.2.2.2.2.2.2.2.2.1 a ∧ o.2.2.2.2.2.2.2.2.2.2.2.1 a ≤ 1000000000000000) ∧ ∀ a, a < N → 0 < o.2.2.2.2.2.2.2.2.2.2.2.1 a → o.2.2.2.2.2.2.2.2.2.2.2.1 a < 1000000000000000 → ∃ mv k : Nat, mv < 16 ∧ (k : Int) < row 1 ∧ zOp x1 o.2.2.2.2.2.2.2.2.2.2.1 o.2.2.2.2.2.2.2.2.2.2.2.2.2.2.2.1 a mv ∧ ∀ s t : Nat → Int, zSm n s t → zcode (zdig s t) = o.2.2.2.2.2.2.2.2.1 a → zWp x1 (mv : Int) (k : Int) o.2.2.2.2.2.2.2.2.2.2.2.2.1 s t + o.2.2.2.2.2.2.2.2.2.2.2.1 (o.2.2.2.2.2.2.2.2.2.2.1 (16 * a + mv)).toNat = o.2.2.2.2.2.2.2.2.2.2.2.1 a
theorem z_fl7 (x1 x2 : Int) (b1 : 0 ≤ x1 ∧ x1 ≤ 2) (n N : Nat) (hn : n ≤ 5) (e2 : x2 = (n : Int)) (law brk val sum nS : Int) (set rest wei st tb nx costs : Nat → Int) (row : Nat → Int) (h0 : RI row) (hC : zR costs (-1) 99) (hT : TI n N st tb) (hX : NX n N row st nx (16 * N)) (h4 : row 0 ≤ 4) (hW : zR wei 0 30) (eN : nS = (N : Int)) (hN1 : 1 ≤ N) : ∀ (m a : Nat) (x3 : Int) (lf sm ta sf ch : Nat → Int), x3 = (a : Int) → a ≤ N → (∀ i, i < a → lf i = 0 ∨ lf i = 1000000000000000) → (∀ i, i < a → sf i = 0 ∨ sf i = 1) → (∀ j, j < 16 * a → zCh x1 n row st costs (ch j) j) → N + 1 - a ≤ m → zok (f_HM_findLeft_7 row m x1 x2 x3 law brk val sum nS set rest wei st tb nx lf costs sm ta sf ch) (zFL x1 n row) := by
  have r1 := RI_1 h0
  have hN := TI_N hn hT
  intro m
  induction m with
  | zero => intro a x3 lf sm ta sf ch e3 ha hL hS hI hme; exact absurd hme (by omega)
  | succ m ih =>
    intro a x3 lf sm ta sf ch e3 ha hL hS hI hme
    show zok (f_HM_findLeft_7_b row (f_HM_findLeft_7 row m) x1 x2 x3 law brk val sum nS set rest wei st tb nx lf costs sm ta sf ch) _
    unfold f_HM_findLeft_7_b
    refine zk_ifc (zci_le (by omega) (by omega)) (fun hc1 => ?_) (fun hc1 => ?_)
    · have : a = N := by omega
      subst this
      have hcr : zCr ch a := by
        intro j hj
        rcases hI j hj with k | k
        · rw [k]; decide
        · have := k.1; omega
      have hLI : LI x1 a nx sf ch lf := by
        intro i hi
        rcases hL i hi with k | k
        · rw [k]; exact ⟨by decide, Or.inl rfl⟩
        · rw [k]; exact ⟨by decide, Or.inr (Or.inl rfl)⟩
      have hsum := zsum_b a (fun i hi => (hLI i hi).1)
      refine zok_mono (z_fl191 x1 b1 n a law brk val sum nS set rest wei st tb nx costs sm ta sf ch row hN hX hS hcr eN zfu 1 lf hLI (Or.inl rfl) (by have : (a : Int) ≤ 6720 := (by omega); unfold zfu; omega)) (fun o ho => ?_)
      obtain ⟨lf', eo, g1, g2⟩ := ho
      subst eo
      refine ⟨a, ⟨hN1, hN⟩, eN, hT, hX, hC, hW, hS, fun i hi => (g1 i hi).1, fun i hi hp hf => ?_⟩
      dsimp only at hp hf ⊢
      rcases (g1 i hi).2 with k | k | ⟨mv, k1, k2, k3⟩
      · exact absurd k (by omega)
      · exact absurd k (by omega)
      · have st_ := g2 i mv hi k1 k2
        have hnx : 0 ≤ nx (16 * i + mv) ∧ nx (16 * i + mv) < (a : Int) := by
          rcases hX (16 * i + mv) (by omega) with k | k
          · exact absurd k k2.2
          · exact k.1
        have ln := (g1 (nx (16 * i + mv)).toNat (by omega)).1
        rcases hI (16 * i + mv) (by omega) with c | ⟨c1, kk, c2, c3⟩
        · rw [c] at k3; exact absurd k3 (by omega)
        · refine ⟨mv, kk.toNat, k1, by omega, k2, fun s t s1 s2 => ?_⟩
          have ea : (16 * i + mv) / 16 = i := by omega
          have em : (((16 * i + mv) % 16 : Nat) : Int) = (mv : Int) := by omega
          have ek : ((kk.toNat : Nat) : Int) = kk := by omega
          have c4 := c3 s t s1 (by rw [ea]; exact s2)
          rw [em] at c4
          rw [ek, ← c4]
          omega
    · have haN : a < N := by omega
      refine zk_gl a (by omega) (by omega) (by decide) (fun v1 q1 => ?_)
      obtain ⟨l, hl, el⟩ := hT.1 a haN
      refine zk_d2 (z_openSmall hn hl v1 x2 (by omega) e2 sm ta) (fun a2 a3 p2 => ?_)
      obtain ⟨p21, p22⟩ := p2
      dsimp only at p21 p22
      have ht := fun c hc => zSm_c p22 (c := c) hc
      have go : ∀ w : Int, (w = 0 ∨ w = 1000000000000000) → zok (f_HM_findLeft_45 row (f_HM_findLeft_7 row m) x1 x2 x3 x3 w law brk val sum nS set rest wei st tb nx lf costs a2 a3 sf ch) (zFL x1 n row) := by
        intro w hw
        unfold f_HM_findLeft_45
        refine zk_sl a (by omega) (by omega) (by decide) (fun b1' q2 => ?_)
        have r2 := zu_rd q2
        refine zk_d1 (z_isSafe h0 h4 ht) (fun v2 p3 => ?_)
        refine zk_gb p3 ?_
        refine zk_sl a (by omega) (by omega) (by decide) (fun b3 q3 => ?_)
        have r3 := zu_rd q3
        refine z_fl59 x1 x2 b1 n N hn e2 law brk val sum nS set rest wei st tb nx costs row h0 hC hT hX b1' b3 _ _ a haN (fun sm' ta' ch' g1 => ?_) zfu 0 x3 0 a2 a3 ch e3 rfl (by decide) (fun j hj => hI j (by omega)) (by unfold zfu; omega)
        refine ih (a + 1) _ b1' sm' ta' b3 ch' (by omega) (by omega) (fun i hi => ?_) (fun i hi => ?_) g1 (by omega)
        · have := r2 i
          by_cases q : i = a
          · subst q; omega
          · have := hL i (by omega); omega
        · have := r3 i
          by_cases q : i = a
          · subst q; omega
          · have := hS i (by omega); omega
      refine zk_d1 (z_isGoal h0 h4 ht) (fun v4 p4 => ?_)
      refine zk_if (fun _ => ?_) (fun _ => ?_)
      · exact go _ (Or.inr rfl)
      · exact go _ (Or.inl rfl)
theorem z_findLeft {n : Nat} {row : Nat → Int} (h0 : RI row) (h4 : row 0 ≤ 4) (hn : n ≤ 5) (hs : zHs row 4 = (n : Int)) (x1 x2 : Int) (b1 : 0 ≤ x1 ∧ x1 ≤ 2) (e2 : x2 = (n : Int)) (law brk val sum nS : Int) (set rest wei st tb nx lf costs sm ta sf ch : Nat → Int) (hC : zR costs (-1) 99) (hW : zR wei 0 30) : zok (f_HM_findLeft x1 x2 row law brk val sum nS set rest wei st tb nx lf costs sm ta sf ch) (zFL x1 n row) := by
  unfold f_HM_findLeft
  refine zk_d14 (z_findStates h0 hn hs x2 e2 law brk val sum nS set rest wei st tb nx costs sm ta hC hW) (fun v1 v2 v3 v4 v5 a6 a7 a8 a9 a10 a11 a12 a13 a14 hq => ?_)
  obtain ⟨N, g1, g2, g3, g4, g5, g6⟩ := hq
  dsimp only at g2 g3 g4 g5 g6
  exact z_fl7 x1 x2 b1 n N hn e2 v1 v2 v3 v4 v5 a6 a7 a8 a9 a10 a11 a12 row h0 g5 g3 g4 h4 g6 g2 g1 zfu 0 0 lf a13 a14 sf ch rfl (Nat.zero_le _) (fun i hi => absurd hi (Nat.not_lt_zero i)) (fun i hi => absurd hi (Nat.not_lt_zero i)) (fun j hj => absurd hj (Nat.not_lt_zero j)) (by have := TI_N hn g3; unfold zfu; omega)

