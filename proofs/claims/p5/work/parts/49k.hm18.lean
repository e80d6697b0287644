def NX (n N : Nat) (row st nx : Nat → Int) (q : Nat) : Prop := ∀ j, j < q → nx j = -1 ∨ ((0 ≤ nx j ∧ nx j < (N : Int)) ∧ ∀ sm ta : Nat → Int, zSm n sm ta → zcode (zdig sm ta) = st (j / 16) → zMv row ta ((j % 16 : Nat) : Int))
theorem NX_mono {n N N' : Nat} {row st st' nx nx' : Nat → Int} {q : Nat} (h : NX n N row st nx q) (hN : N ≤ N') (hs : ∀ i, i < N → st' i = st i) (hx : ∀ j, j < q → nx' j = nx j) (hq : q ≤ 16 * N) : NX n N' row st' nx' q := by
  intro j hj
  rw [hx j hj, hs (j / 16) (by omega)]
  rcases h j hj with k | k
  · exact Or.inl k
  · exact Or.inr ⟨⟨k.1.1, by omega⟩, k.2⟩
def zFS (n : Nat) (row : Nat → Int) (o : (Int × Int × Int × Int × Int × (Nat → Int) × (Nat → Int) × (Nat → Int) × (Nat → Int) × (Nat → Int) × (Nat → Int) × (Nat → Int) × (Nat → Int) × (Nat → Int))) : Prop := ∃ N : Nat, 1 ≤ N ∧ o.2.2.2.2.1 = (N : Int) ∧ TI n N o.2.2.2.2.2.2.2.2.1 o.2.2.2.2.2.2.2.2.2.1 ∧ NX n N row o.2.2.2.2.2.2.2.2.1 o.2.2.2.2.2.2.2.2.2.2.1 (16 * N) ∧ zR o.2.2.2.2.2.2.2.2.2.2.2.1 (-1) 99 ∧ zR o.2.2.2.2.2.2.2.1 0 30
theorem z_fs152 (n : Nat) (row : Nat → Int) (h0 : RI row) (hn : n ≤ 5) (k141 : Int → Int → Int → Int → Int → Int → Int → (Nat → Int) → (Nat → Int) → (Nat → Int) → (Nat → Int) → (Nat → Int) → (Nat → Int) → (Nat → Int) → (Nat → Int) → (Nat → Int) → Option (Int × Int × Int × Int × Int × (Nat → Int) × (Nat → Int) × (Nat → Int) × (Nat → Int) × (Nat → Int) × (Nat → Int) × (Nat → Int) × (Nat → Int) × (Nat → Int))) (P : (Int × Int × Int × Int × Int × (Nat → Int) × (Nat → Int) × (Nat → Int) × (Nat → Int) × (Nat → Int) × (Nat → Int) × (Nat → Int) × (Nat → Int) × (Nat → Int)) → Prop) (x1 : Int) (e1 : x1 = (n : Int)) (at_ : Nat) (law brk val sum : Int) (set rest wei costs : Nat → Int) (hC : zR costs (-1) 99)
  (hk : ∀ (N : Nat) (st tb nx sm ta : Nat → Int), at_ < N → TI n N st tb → NX n N row st nx (16 * (at_ + 1)) → zok (k141 x1 ((at_ : Int) + 1) law brk val sum (N : Int) set rest wei st tb nx costs sm ta) P) :
  ∀ (m mv N : Nat) (x3 x4 nS : Int) (st tb nx sm ta : Nat → Int), x3 = (at_ : Int) → x4 = (mv : Int) → nS = (N : Int) → mv ≤ 16 → at_ < N → TI n N st tb → NX n N row st nx (16 * at_ + mv) → 17 - mv ≤ m → zok (f_HM_findStates_152 row k141 m x1 x3 x4 law brk val sum nS set rest wei st tb nx costs sm ta) P := by
  intro m
  induction m with
  | zero => intro mv N x3 x4 nS st tb nx sm ta e3 e4 eN hm ha hT hX hme; exact absurd hme (by omega)
  | succ m ih =>
    intro mv N x3 x4 nS st tb nx sm ta e3 e4 eN hm ha hT hX hme
    have hN := TI_N hn hT
    show zok (f_HM_findStates_152_b row k141 (f_HM_findStates_152 row k141 m) x1 x3 x4 law brk val sum nS set rest wei st tb nx costs sm ta) P
    unfold f_HM_findStates_152_b
    refine zk_ifc (zci_le (by omega) (by omega)) (fun hc1 => ?_) (fun hc1 => ?_)
    · refine zk_nE (fun v1 q1 => ?_)
      rw [q1, e3, eN]
      have : mv = 16 := by omega
      subst this
      exact hk N st tb nx sm ta ha hT hX
    · refine zk_gl at_ (by omega) (by omega) (by decide) (fun v2 q2 => ?_)
      obtain ⟨l, hl, el⟩ := hT.1 at_ ha
      refine zk_d2 (z_openSmall hn hl v2 x1 (by omega) e1 sm ta) (fun a3 a4 p3 => ?_)
      obtain ⟨p31, p32⟩ := p3
      dsimp only at p31 p32
      refine zk_nE (fun v5 q5 => ?_)
      refine zk_nE (fun v6 q6 => ?_)
      refine zk_d1 (z_isMove p32 h0 hC x4 (by omega)) (fun v7 p7 => ?_)
      have step : ∀ (N' : Nat) (st' tb' sm' ta' : Nat → Int) (nS' w : Int), nS' = (N' : Int) → TI n N' st' tb' → N ≤ N' → (∀ i, i < N → st' i = st i) → (w = -1 ∨ ((0 ≤ w ∧ w < (N' : Int)) ∧ zMv row a4 x4)) → zok (f_HM_findStates_201 row k141 (f_HM_findStates_152 row k141 m) x1 x3 x4 v6 w law brk val sum nS' set rest wei st' tb' nx costs sm' ta') P := by
        intro N' st' tb' sm' ta' nS' w g1 g2 g3 g4 g5
        unfold f_HM_findStates_201
        refine zk_sl (16 * at_ + mv) (by omega) (by omega) (by decide) (fun b1 q1 => ?_)
        have r1 := zu_rd q1
        refine zk_nE (fun v2' q2' => ?_)
        refine ih (mv + 1) N' x3 v2' nS' st' tb' b1 sm' ta' e3 (by omega) g1 (by omega) (by omega) g2 ?_ (by omega)
        have base : NX n N' row st' b1 (16 * at_ + mv) := NX_mono hX g3 g4 (fun j hj => by have := r1 j; omega) (by omega)
        intro j hj
        by_cases q : j = 16 * at_ + mv
        · have e6 : b1 j = w := by have := r1 j; omega
          rw [e6]
          rcases g5 with g5 | g5
          · exact Or.inl g5
          · refine Or.inr ⟨g5.1, fun sm2 ta2 hS2 hc2 => ?_⟩
            have ej : j / 16 = at_ := by omega
            have ej2 : ((j % 16 : Nat) : Int) = x4 := by omega
            rw [ej, g4 at_ ha, el] at hc2
            have hd := zinj hn hS2.2.2 hl hc2
            have uq := zSm_uq hS2 p32 (by rw [hd, p31])
            rw [ej2]
            obtain ⟨f, t, m1, m2, m3, m4, m5, m6, m7⟩ := g5.2
            exact ⟨f, t, m1, m2, m3, m4, m5, m6, by rw [(uq f m2).1]; exact m7⟩
        · exact base j (by omega)
      refine zk_ifc (zci_eqr (by omega)) (fun hc2 => ?_) (fun hc2 => ?_)
      · exact step N st tb a3 a4 nS (-1) eN hT (Nat.le_refl _) (fun i _ => rfl) (Or.inl rfl)
      · have hmv : zMv row a4 x4 := by
          rcases p7 with p7 | p7
          · exact absurd p7 hc2
          · exact p7.2
        refine zk_d6 (z_moved p32 hT h0 x4 nS eN hmv) (fun v8 v9 a10 a11 a12 a13 p8 => ?_)
        obtain ⟨c, N', g1, g2, g3, g4, g5, g6⟩ := p8
        exact step N' a10 a11 a12 a13 v9 v8 g1 g2 g4 g5 (Or.inr ⟨g3, hmv⟩)
theorem z_fs141 (n : Nat) (row : Nat → Int) (h0 : RI row) (hn : n ≤ 5) (x1 : Int) (e1 : x1 = (n : Int)) (law brk val sum : Int) (set rest wei costs : Nat → Int) (hC : zR costs (-1) 99) (hW : zR wei 0 30) : ∀ (m at_ N : Nat) (x3 nS : Int) (st tb nx sm ta : Nat → Int), x3 = (at_ : Int) → nS = (N : Int) → at_ ≤ N → 1 ≤ N → TI n N st tb → NX n N row st nx (16 * at_) → 6721 - at_ ≤ m → zok (f_HM_findStates_141 row m x1 x3 law brk val sum nS set rest wei st tb nx costs sm ta) (zFS n row) := by
  intro m
  induction m with
  | zero => intro at_ N x3 nS st tb nx sm ta e3 eN ha h1 hT hX hme; have := TI_N hn hT; exact absurd hme (by omega)
  | succ m ih =>
    intro at_ N x3 nS st tb nx sm ta e3 eN ha h1 hT hX hme
    have hN := TI_N hn hT
    show zok (f_HM_findStates_141_b row (f_HM_findStates_141 row m) x1 x3 law brk val sum nS set rest wei st tb nx costs sm ta) _
    unfold f_HM_findStates_141_b
    refine zk_ifc (zci_le (by omega) (by omega)) (fun hc1 => ?_) (fun hc1 => ?_)
    · have : at_ = N := by omega
      subst this
      exact zk_ret ⟨at_, h1, eN, hT, hX, hC, hW⟩
    · refine z_fs152 n row h0 hn _ _ x1 e1 at_ law brk val sum set rest wei costs hC (fun N' st' tb' nx' sm' ta' g1 g2 g3 => ?_) zfu 0 N x3 0 nS st tb nx sm ta e3 rfl eN (by omega) (by omega) hT hX (by unfold zfu; omega)
      exact ih (at_ + 1) N' _ _ st' tb' nx' sm' ta' (by omega) rfl (by omega) (by omega) g2 g3 (by omega)

