def zpr (c : Int) (d : Nat) : Nat := ((c * 31 + (d : Int)) % 16384).toNat
def TI (n N : Nat) (st tb : Nat → Int) : Prop := (∀ i, i < N → ∃ l, zD n l ∧ st i = zcode l) ∧ (∀ i j, i < j → j < N → st i ≠ st j) ∧ (∀ p, p < 16384 → -1 ≤ tb p ∧ tb p < (N : Int)) ∧ (∀ p q, p < q → q < 16384 → tb p ≠ -1 → tb p ≠ tb q) ∧ (∀ i : Nat, i < N → ∃ d, tb (zpr (st i) d) = (i : Int) ∧ ∀ e, e < d → tb (zpr (st i) e) ≠ -1)
theorem TI_0 (n : Nat) (st tb : Nat → Int) (h : ∀ p, p < 16384 → tb p = -1) : TI n 0 st tb :=
  ⟨fun i hi => absurd hi (Nat.not_lt_zero i), fun i j _ hj => absurd hj (Nat.not_lt_zero j), fun p hp => by rw [h p hp]; decide, fun p q hpq hq hp => absurd (h p (by omega)) hp, fun i hi => absurd hi (Nat.not_lt_zero i)⟩
theorem zcodes_le {n N : Nat} {st : Nat → Int} (hn : n ≤ 5) (h1 : ∀ i, i < N → ∃ l, zD n l ∧ st i = zcode l) (h2 : ∀ i j, i < j → j < N → st i ≠ st j) : N ≤ 6720 := by
  have h := zpig st N ((zVL n).map zcode) (fun i hi => by
    obtain ⟨l, hl, e⟩ := h1 i hi
    rw [e]
    exact List.mem_map_of_mem (zVL_mem n l hl)) h2
  rw [List.length_map] at h
  exact Nat.le_trans h (zVL_len' n hn)
theorem TI_N {n N : Nat} {st tb : Nat → Int} (hn : n ≤ 5) (h : TI n N st tb) : N ≤ 6720 := zcodes_le hn h.1 h.2.1
theorem TI_r {n N : Nat} {st tb : Nat → Int} (hn : n ≤ 5) (h : TI n N st tb) (i : Nat) (hi : i < N) : 0 ≤ st i ∧ st i ≤ 1679615 := by
  obtain ⟨l, hl, e⟩ := h.1 i hi
  rw [e]
  exact zcode_b hn hl
theorem TI_free {n N : Nat} {st tb : Nat → Int} (hn : n ≤ 5) (h : TI n N st tb) (c : Int) : ∃ d, tb (zpr c d) = -1 := by
  have hN := TI_N hn h
  by_cases q : ∃ p, p < 16384 ∧ tb p = -1
  · obtain ⟨p, hp, e⟩ := q
    refine ⟨(((p : Int) - c * 31) % 16384).toNat, ?_⟩
    have : zpr c (((p : Int) - c * 31) % 16384).toNat = p := by
      unfold zpr
      omega
    rw [this, e]
  · have g := zpig tb 16384 ((List.range N).map (fun i : Nat => (i : Int))) (fun p hp => by
      have h3 := h.2.2.1 p hp
      have : tb p ≠ -1 := fun e => q ⟨p, hp, e⟩
      refine List.mem_map.mpr ⟨(tb p).toNat, List.mem_range.mpr ?_, ?_⟩
      · clear q; omega
      · clear q; omega) (fun p r hpr hr => h.2.2.2.1 p r hpr hr (fun e => q ⟨p, by clear q; omega, e⟩))
    rw [List.length_map, List.length_range] at g
    clear q
    omega
def zFP (c : Int) (st tb : Nat → Int) (o : Int) : Prop := ∃ d, o = (zpr c d : Int) ∧ (∀ e, e < d → tb (zpr c e) ≠ -1 ∧ st (tb (zpr c e)).toNat ≠ c) ∧ (tb (zpr c d) = -1 ∨ (tb (zpr c d) ≠ -1 ∧ st (tb (zpr c d)).toNat = c))
theorem zpr_r (c : Int) (d : Nat) : zpr c d < 16384 := by
  unfold zpr
  omega
theorem z_po9 (n N : Nat) (st tb : Nat → Int) (hn : n ≤ 5) (h : TI n N st tb) (c : Int) (hc : 0 ≤ c ∧ c ≤ 1679615) (D : Nat) (hD : tb (zpr c D) = -1) : ∀ (m d : Nat) (x2 : Int), x2 = (zpr c d : Int) → d ≤ D → (∀ e, e < d → tb (zpr c e) ≠ -1 ∧ st (tb (zpr c e)).toNat ≠ c) → D + 1 - d ≤ m → zok (f_HM_placeOf_9 st tb m c x2) (zFP c st tb) := by
  have hN := TI_N hn h
  intro m
  induction m with
  | zero => intro d x2 e2 hd h1 hm; exact absurd hm (by omega)
  | succ m ih =>
    intro d x2 e2 hd h1 hm
    have hp := zpr_r c d
    have ht := h.2.2.1 (zpr c d) hp
    show zok (f_HM_placeOf_9_b st tb (f_HM_placeOf_9 st tb m) c x2) _
    unfold f_HM_placeOf_9_b
    refine zk_gl (zpr c d) (by omega) hp (by decide) (fun v1 e1 => ?_)
    refine zk_ifc (zci_eq (by omega) (by omega)) (fun hc1 => ?_) (fun hc1 => ?_)
    · exact zk_ret ⟨d, e2, h1, Or.inl (by omega)⟩
    · refine zk_gl (zpr c d) (by omega) hp (by decide) (fun v2 e2' => ?_)
      refine zk_gl (tb (zpr c d)).toNat (by omega) (by omega) (by decide) (fun v3 e3 => ?_)
      have hr := TI_r hn h (tb (zpr c d)).toNat (by omega)
      refine zk_ifc (zci_eq (by omega) (by omega)) (fun hc2 => ?_) (fun hc2 => ?_)
      · exact zk_ret ⟨d, e2, h1, Or.inr ⟨by omega, by omega⟩⟩
      · refine zk_nE (fun v4 e4 => ?_)
        refine zk_g0zi_w (by omega) ?_
        refine zk_nE (fun v5 e5 => ?_)
        rw [zi_rem_n (by omega) (by omega)] at e5
        have hdD : d ≠ D := by
          intro q
          subst q
          omega
        refine ih (d + 1) v5 ?_ (by omega) (fun e he => ?_) (by omega)
        · rw [e5, e4, e2]
          unfold zpr
          omega
        · by_cases q : e = d
          · rw [q]
            exact ⟨by omega, by omega⟩
          · exact h1 e (by omega)
theorem z_placeOf {n N : Nat} {st tb : Nat → Int} (hn : n ≤ 5) (h : TI n N st tb) (c : Int) (hc : 0 ≤ c ∧ c ≤ 1679615) : zok (f_HM_placeOf c st tb) (zFP c st tb) := by
  obtain ⟨D, hD⟩ := TI_free hn h c
  have hDs : ∃ D', D' < 16384 ∧ tb (zpr c D') = -1 := by
    refine ⟨D % 16384, by omega, ?_⟩
    have : zpr c (D % 16384) = zpr c D := by unfold zpr; omega
    rw [this, hD]
  obtain ⟨D', hD1, hD2⟩ := hDs
  unfold f_HM_placeOf
  refine zk_nE (fun v1 e1 => ?_)
  refine zk_g0zi_w (by omega) ?_
  refine zk_nE (fun v2 e2 => ?_)
  rw [zi_rem_n (by omega) (by omega)] at e2
  exact z_po9 n N st tb hn h c hc D' hD2 zfu 0 v2 (by rw [e2, e1]; unfold zpr; omega) (Nat.zero_le _) (fun e he => absurd he (Nat.not_lt_zero e)) (by unfold zfu; omega)
def zNP (n N : Nat) (st : Nat → Int) (c : Int) (o : Int × Int × (Nat → Int) × (Nat → Int)) : Prop := ∃ N' : Nat, o.2.1 = (N' : Int) ∧ TI n N' o.2.2.1 o.2.2.2 ∧ (0 ≤ o.1 ∧ o.1 < (N' : Int)) ∧ N ≤ N' ∧ (∀ i, i < N → o.2.2.1 i = st i) ∧ o.2.2.1 o.1.toNat = c
theorem TI_add {n N : Nat} {st tb st' tb' : Nat → Int} (h : TI n N st tb) {l : List Int} (hl : zD n l) {d : Nat} (h1 : ∀ e, e < d → tb (zpr (zcode l) e) ≠ -1 ∧ st (tb (zpr (zcode l) e)).toNat ≠ zcode l) (h2 : tb (zpr (zcode l) d) = -1) (es : st' = zu st N (zcode l)) (et : tb' = zu tb (zpr (zcode l) d) (N : Int)) : TI n (N + 1) st' tb' ∧ (∀ i, i < N → st i ≠ zcode l) := by
  have fresh : ∀ i, i < N → st i ≠ zcode l := by
    intro i hi e
    obtain ⟨d', g1, g2⟩ := h.2.2.2.2 i hi
    rw [e] at g1 g2
    by_cases q : d' < d
    · have := (h1 d' q).2
      rw [g1] at this
      exact this (by rw [Int.toNat_natCast]; exact e)
    · by_cases q2 : d' = d
      · rw [q2] at g1
        omega
      · exact g2 d (by omega) h2
  have s1 := zu_rd es
  have t1 := zu_rd et
  refine ⟨⟨fun i hi => ?_, fun i j hij hj => ?_, fun p hp => ?_, fun p q hpq hq hp => ?_, fun i hi => ?_⟩, fresh⟩
  · have := s1 i
    by_cases q : i = N
    · exact ⟨l, hl, by omega⟩
    · obtain ⟨l', g1, g2⟩ := h.1 i (by omega)
      exact ⟨l', g1, by omega⟩
  · have a1 := s1 i
    have a2 := s1 j
    by_cases q : j = N
    · have := fresh i (by omega)
      omega
    · have := h.2.1 i j hij (by omega)
      omega
  · have := t1 p
    have := h.2.2.1 p hp
    omega
  · have a1 := t1 p
    have a2 := t1 q
    have b1 := h.2.2.1 p (by omega)
    have b2 := h.2.2.1 q hq
    by_cases u1 : p = zpr (zcode l) d
    · omega
    · by_cases u2 : q = zpr (zcode l) d
      · omega
      · have := h.2.2.2.1 p q hpq hq (by omega)
        omega
  · by_cases q : i = N
    · subst q
      have e : st' i = zcode l := by have := s1 i; omega
      refine ⟨d, ?_, fun e' he => ?_⟩
      · rw [e]
        have := t1 (zpr (zcode l) d)
        omega
      · rw [e]
        have := t1 (zpr (zcode l) e')
        have := (h1 e' he).1
        omega
    · obtain ⟨d', g1, g2⟩ := h.2.2.2.2 i (by omega)
      have e : st' i = st i := by have := s1 i; omega
      rw [e]
      refine ⟨d', ?_, fun e' he => ?_⟩
      · have a1 := t1 (zpr (st i) d')
        by_cases u : zpr (st i) d' = zpr (zcode l) d
        · rw [u] at g1
          omega
        · omega
      · have a1 := t1 (zpr (st i) e')
        have a2 := g2 e' he
        omega
theorem z_numberOf {n N : Nat} {st tb : Nat → Int} (hn : n ≤ 5) (h : TI n N st tb) {l : List Int} (hl : zD n l) (x1 x2 : Int) (e1 : x1 = zcode l) (e2 : x2 = (N : Int)) : zok (f_HM_numberOf x1 x2 st tb) (zNP n N st x1) := by
  have hb := zcode_b hn hl
  rw [← e1] at hb
  have hN := TI_N hn h
  unfold f_HM_numberOf
  refine zk_d1 (z_placeOf hn h x1 hb) (fun v1 hp => ?_)
  obtain ⟨d, g1, g2, g3⟩ := hp
  have hpr := zpr_r x1 d
  have ht := h.2.2.1 (zpr x1 d) hpr
  refine zk_gl (zpr x1 d) (by omega) hpr (by decide) (fun v2 e3 => ?_)
  refine zk_ifc (zci_ne (by omega) (by omega)) (fun hc1 => ?_) (fun hc1 => ?_)
  · refine zk_gl (zpr x1 d) (by omega) hpr (by decide) (fun v3 e4 => ?_)
    refine zk_ret ⟨N, e2, h, by dsimp only; omega, Nat.le_refl _, fun i _ => rfl, ?_⟩
    show st v3.toNat = x1
    rw [e4]
    rcases g3 with g3 | g3
    · omega
    · exact g3.2
  · have g4 : tb (zpr x1 d) = -1 := by omega
    have fresh := (TI_add h hl (d := d) (st' := zu st N (zcode l)) (tb' := zu tb (zpr (zcode l) d) (N : Int)) (by rw [← e1]; exact g2) (by rw [← e1]; exact g4) rfl rfl)
    have hN2 := TI_N hn fresh.1
    refine zk_sl (zpr x1 d) (by omega) hpr (by decide) (fun a4 e4 => ?_)
    refine zk_sl N (by omega) (by omega) (by decide) (fun a5 e5 => ?_)
    refine zk_nE (fun v6 e6 => ?_)
    refine zk_gl (zpr x1 d) (by omega) hpr (by decide) (fun v7 e7 => ?_)
    have r7 := zu_rd e4 (zpr x1 d)
    have hv7 : v7 = (N : Int) := by omega
    have s5 := zu_rd e5
    have fin : TI n (N + 1) a5 a4 := by
      rw [e5, e4, e1, e2]
      exact fresh.1
    refine zk_ret ⟨N + 1, by dsimp only; omega, fin, by dsimp only; omega, by omega, fun i hi => ?_, ?_⟩
    · have := s5 i
      dsimp only
      omega
    · show a5 v7.toNat = x1
      have := s5 v7.toNat
      omega

