def zHt (row : Nat → Int) (j : Nat) : Int := if (j : Int) < row 0 then row (9 + j) else 0
def zHs (row : Nat → Int) : Nat → Int
  | 0 => 0
  | c + 1 => zHs row c + zHt row c
theorem zHt_r {row : Nat → Int} (h0 : RI row) (j : Nat) (hj : j < 12) : 0 ≤ zHt row j ∧ zHt row j ≤ 10 := by
  have := RI_h h0 (i := 9 + (j : Int)) (by omega)
  have e : (9 + (j : Int)).toNat = 9 + j := by omega
  rw [e] at this
  unfold zHt
  by_cases q : (j : Int) < row 0
  · rw [if_pos q]; exact this
  · rw [if_neg q]; decide
theorem zHs_m {row : Nat → Int} (h0 : RI row) {n : Nat} (hs : zHs row 4 = (n : Int)) : ∀ c, c < 4 → 0 ≤ zHs row c ∧ zHs row c + zHt row c ≤ (n : Int) := by
  have a0 := zHt_r h0 0 (by decide)
  have a1 := zHt_r h0 1 (by decide)
  have a2 := zHt_r h0 2 (by decide)
  have a3 := zHt_r h0 3 (by decide)
  have e4 : zHs row 4 = zHs row 3 + zHt row 3 := rfl
  have e3 : zHs row 3 = zHs row 2 + zHt row 2 := rfl
  have e2 : zHs row 2 = zHs row 1 + zHt row 1 := rfl
  have e1 : zHs row 1 = zHs row 0 + zHt row 0 := rfl
  have e0 : zHs row 0 = 0 := rfl
  intro c hc
  have : c = 0 ∨ c = 1 ∨ c = 2 ∨ c = 3 := by omega
  rcases this with q | q | q | q <;> subst q <;> omega
theorem zbase_count (a : Int) (s k : Nat) : (zbase (s + k)).count a = (zbase s).count a + ((List.range k).map (fun i : Nat => (s : Int) + (i : Int) + 1)).count a := by
  induction k with
  | zero => rfl
  | succ k ih =>
    show ((((s + k : Nat) : Int) + 1) :: zbase (s + k)).count a = _
    have e : ((((s + k : Nat) : Int) + 1) :: zbase (s + k)).count a = (zbase (s + k)).count a + ([((s + k : Nat) : Int) + 1] : List Int).count a := by
      simp only [List.count_cons, List.count_nil]
      omega
    rw [e, ih, List.range_succ, List.map_append, List.count_append]
    have e2 : (((s + k : Nat) : Int) + 1) = (s : Int) + (k : Int) + 1 := by omega
    rw [e2]
    show _ = _ + (_ + ([(s : Int) + (k : Int) + 1] : List Int).count a)
    omega
theorem zcol_sq {sm : Nat → Int} {c t : Nat} {s : Nat} (h : ∀ i : Nat, i < t → sm (5 * c + i) = (s : Int) + (i : Int)) : zcol sm c t = (List.range t).map (fun i : Nat => (s : Int) + (i : Int) + 1) := by
  unfold zcol
  apply List.map_congr_left
  intro i hi
  rw [h i (List.mem_range.mp hi)]
theorem zSm_start {row sm ta : Nat → Int} (h0 : RI row) {n : Nat} (hn : n ≤ 5) (hs : zHs row 4 = (n : Int)) (h : ∀ j, j < 4 → ta j = zHt row j ∧ ∀ i : Nat, (i : Int) < zHt row j → sm (5 * j + i) = zHs row j + (i : Int)) : zSm n sm ta := by
  have m := zHs_m h0 hs
  have a0 := zHt_r h0 0 (by decide)
  have a1 := zHt_r h0 1 (by decide)
  have a2 := zHt_r h0 2 (by decide)
  have a3 := zHt_r h0 3 (by decide)
  have e4 : zHs row 4 = zHs row 3 + zHt row 3 := rfl
  have e3 : zHs row 3 = zHs row 2 + zHt row 2 := rfl
  have e2 : zHs row 2 = zHs row 1 + zHt row 1 := rfl
  have e1 : zHs row 1 = zHs row 0 + zHt row 0 := rfl
  have e0 : zHs row 0 = 0 := rfl
  have h00 := h 0 (by decide)
  have h01 := h 1 (by decide)
  have h02 := h 2 (by decide)
  have h03 := h 3 (by decide)
  refine ⟨hn, ⟨by omega, by omega, by omega, by omega⟩, ?_⟩
  show (zdig sm ta).Perm (zbase n)
  rw [List.perm_iff_count]
  intro a
  have k0 := zcol_sq (sm := sm) (c := 0) (t := (zHt row 0).toNat) (s := 0) (fun i hi => by have := h00.2 i (by omega); omega)
  have k1 := zcol_sq (sm := sm) (c := 1) (t := (zHt row 1).toNat) (s := 0 + (zHt row 0).toNat) (fun i hi => by have := h01.2 i (by omega); omega)
  have k2 := zcol_sq (sm := sm) (c := 2) (t := (zHt row 2).toNat) (s := 0 + (zHt row 0).toNat + (zHt row 1).toNat) (fun i hi => by have := h02.2 i (by omega); omega)
  have k3 := zcol_sq (sm := sm) (c := 3) (t := (zHt row 3).toNat) (s := 0 + (zHt row 0).toNat + (zHt row 1).toNat + (zHt row 2).toNat) (fun i hi => by have := h03.2 i (by omega); omega)
  have en : n = 0 + (zHt row 0).toNat + (zHt row 1).toNat + (zHt row 2).toNat + (zHt row 3).toNat := by omega
  rw [zdig_count, h00.1, h01.1, h02.1, h03.1, k0, k1, k2, k3, en, zbase_count, zbase_count, zbase_count, zbase_count]
  show _ = ([0, 0, 0] : List Int).count a + _ + _ + _ + _
  omega
def zSI (row sm ta : Nat → Int) (c : Nat) : Prop := ∀ j, j < c → ta j = zHt row j ∧ ∀ i : Nat, (i : Int) < zHt row j → sm (5 * j + i) = zHs row j + (i : Int)

theorem z_fs66 (n : Nat) (row : Nat → Int) (h0 : RI row) (hn : n ≤ 5) (hs : zHs row 4 = (n : Int)) (k31 : (Int → Int → Int → Int → Int → Int → Int → Int → (Nat → Int) → (Nat → Int) → (Nat → Int) → (Nat → Int) → (Nat → Int) → (Nat → Int) → (Nat → Int) → (Nat → Int) → (Nat → Int) → Option (Int × Int × Int × Int × Int × (Nat → Int) × (Nat → Int) × (Nat → Int) × (Nat → Int) × (Nat → Int) × (Nat → Int) × (Nat → Int) × (Nat → Int) × (Nat → Int)))) (P : (Int × Int × Int × Int × Int × (Nat → Int) × (Nat → Int) × (Nat → Int) × (Nat → Int) × (Nat → Int) × (Nat → Int) × (Nat → Int) × (Nat → Int) × (Nat → Int)) → Prop) (x1 : Int) (c : Nat) (hc : c < 4) (law brk val sum nS : Int) (set rest st tb nx costs ta : Nat → Int) (ht : ta c = zHt row c) (hk : ∀ (x2 : Int) (wei sm : Nat → Int), x2 = zHs row (c + 1) → zR wei 0 30 → zSI row sm ta (c + 1) → zok (k31 x1 x2 ((c : Int) + 1) law brk val sum nS set rest wei st tb nx costs sm ta) P) : ∀ (m i : Nat) (x2 x3 x4 : Int) (wei sm : Nat → Int), x3 = (c : Int) → x4 = (i : Int) → x2 = zHs row c + (i : Int) → (i : Int) ≤ zHt row c → zR wei 0 30 → zSI row sm ta c → (∀ i' : Nat, i' < i → sm (5 * c + i') = zHs row c + (i' : Int)) → zHt row c - (i : Int) + 1 ≤ (m : Int) → zok (f_HM_findStates_66 row k31 m x1 x2 x3 x4 law brk val sum nS set rest wei st tb nx costs sm ta) P := by
  have hm := zHs_m h0 hs c hc
  have hr := zHt_r h0 c (by omega)
  intro m
  induction m with
  | zero => intro i x2 x3 x4 wei sm e3 e4 e2 hi hW hS hS2 hme; exact absurd hme (by omega)
  | succ m ih =>
    intro i x2 x3 x4 wei sm e3 e4 e2 hi hW hS hS2 hme
    show zok (f_HM_findStates_66_b row k31 (f_HM_findStates_66 row k31 m) x1 x2 x3 x4 law brk val sum nS set rest wei st tb nx costs sm ta) P
    unfold f_HM_findStates_66_b
    refine zk_gl c (by omega) (by omega) (by decide) (fun v1 q1 => ?_)
    refine zk_ifc (zci_le (by omega) (by omega)) (fun hc1 => ?_) (fun hc1 => ?_)
    · refine zk_nE (fun v2 q2 => ?_)
      rw [q2, e3]
      refine hk x2 wei sm ?_ hW ?_
      · show _ = zHs row c + zHt row c
        omega
      · intro j hj
        by_cases q : j = c
        · subst q
          exact ⟨ht, fun i' hi' => hS2 i' (by omega)⟩
        · exact hS j (by omega)
    · refine zk_nE (fun v3 q3 => ?_)
      refine zk_nE (fun v4 q4 => ?_)
      refine zk_nE (fun v5 q5 => ?_)
      refine zk_gv (by omega) (by decide) (fun v6 q6 => ?_)
      have r6 := RI_s h0 (i := v5) (by omega)
      refine zk_sv (by omega) (by decide) (fun a7 q7 => ?_)
      refine zk_nE (fun v8 q8 => ?_)
      refine zk_nE (fun v9 q9 => ?_)
      refine zk_sl (5 * c + i) (by omega) (by omega) (by decide) (fun a10 q10 => ?_)
      have r10 := zu_rd q10
      refine zk_nE (fun v11 q11 => ?_)
      refine zk_nE (fun v12 q12 => ?_)
      refine ih (i + 1) v11 x3 v12 a7 a10 e3 (by omega) (by omega) (by omega) ?_ ?_ ?_ (by omega)
      · rw [q7]
        exact zR_zu hW (by decide) (by decide) (by omega)
      · intro j hj
        have hj1 := zHs_m h0 hs j (by omega)
        refine ⟨(hS j hj).1, fun i' hi' => ?_⟩
        have := (hS j hj).2 i' hi'
        have := r10 (5 * j + i')
        omega
      · intro i' hi'
        have := r10 (5 * c + i')
        by_cases q : i' = i
        · subst q; omega
        · have := hS2 i' (by omega); omega
theorem z_fs31 (n : Nat) (row : Nat → Int) (h0 : RI row) (hn : n ≤ 5) (hs : zHs row 4 = (n : Int)) (x1 : Int) (e1 : x1 = (n : Int)) (law brk val sum nS : Int) (set rest st tb nx costs : Nat → Int) (hC : zR costs (-1) 99) (eN : nS = 0) (hT : ∀ p, p < 16384 → tb p = -1) : ∀ (m c : Nat) (x2 x3 : Int) (wei sm ta : Nat → Int), x3 = (c : Int) → c ≤ 4 → x2 = zHs row c → zR wei 0 30 → zSI row sm ta c → 5 - c ≤ m → zok (f_HM_findStates_31 row m x1 x2 x3 law brk val sum nS set rest wei st tb nx costs sm ta) (zFS n row) := by
  have r0 := RI_0 h0
  intro m
  induction m with
  | zero => intro c x2 x3 wei sm ta e3 hc e2 hW hS hme; exact absurd hme (by omega)
  | succ m ih =>
    intro c x2 x3 wei sm ta e3 hc e2 hW hS hme
    show zok (f_HM_findStates_31_b row (f_HM_findStates_31 row m) x1 x2 x3 law brk val sum nS set rest wei st tb nx costs sm ta) _
    unfold f_HM_findStates_31_b
    refine zk_ifc (zci_le (by omega) (by omega)) (fun hc1 => ?_) (fun hc1 => ?_)
    · have : c = 4 := by omega
      subst this
      have hSm := zSm_start h0 hn hs hS
      refine zk_d7 (s_HM_findCosts x1 row wei law brk val sum set rest costs (by omega) h0 hW hC) (fun v1 v2 v3 v4 a5 a6 a7 p1 => ?_)
      refine zk_d1 (z_codeOfSmall hSm) (fun v8 p8 => ?_)
      refine zk_d4 (z_numberOf hn (TI_0 n st tb hT) hSm.2.2 v8 nS p8 eN) (fun v9 v10 a11 a12 p9 => ?_)
      obtain ⟨N', g1, g2, g3, g4, g5, g6⟩ := p9
      dsimp only at g1 g2 g3
      exact z_fs141 n row h0 hn x1 e1 v1 v2 v3 v4 a5 a6 wei a7 p1 hW zfu 0 N' 0 v10 a11 a12 nx sm ta rfl g1 (Nat.zero_le _) (by omega) g2 (fun j hj => absurd hj (Nat.not_lt_zero j)) (by unfold zfu; omega)
    · have hc2 : c < 4 := by omega
      have hr := zHt_r h0 c (by omega)
      have go : ∀ w : Int, w = zHt row c → zok (f_HM_findStates_62 row (f_HM_findStates_31 row m) x1 x2 x3 x3 w law brk val sum nS set rest wei st tb nx costs sm ta) (zFS n row) := by
        intro w hw
        unfold f_HM_findStates_62
        refine zk_sl c (by omega) (by omega) (by decide) (fun a1 q1 => ?_)
        have r1 := zu_rd q1
        have hS' : zSI row sm a1 c := fun j hj => ⟨by have := (hS j hj).1; have := r1 j; omega, (hS j hj).2⟩
        refine z_fs66 n row h0 hn hs _ _ x1 c hc2 law brk val sum nS set rest st tb nx costs a1 (by have := r1 c; omega) (fun x2' wei' sm' g1 g2 g3 => ?_) zfu 0 x2 x3 0 wei sm e3 rfl (by omega) (by omega) hW hS' (fun i' hi' => absurd hi' (Nat.not_lt_zero i')) (by unfold zfu; omega)
        exact ih (c + 1) x2' _ wei' sm' a1 (by omega) (by omega) g1 g2 g3 (by omega)
      refine zk_d1 (s_HM_columns _ h0) (fun v13 p13 => ?_)
      try dsimp only at p13
      refine zk_ifc (zci_le (by omega) (by omega)) (fun hc3 => ?_) (fun hc3 => ?_)
      · refine go 0 ?_
        unfold zHt
        rw [if_neg (by omega)]
      · refine zk_nE (fun v14 q14 => ?_)
        refine zk_gl (9 + c) (by omega) (by omega) (by decide) (fun v15 q15 => ?_)
        refine go v15 ?_
        unfold zHt
        rw [if_pos (by omega), q15]
theorem z_fs2 (n : Nat) (row : Nat → Int) (h0 : RI row) (hn : n ≤ 5) (hs : zHs row 4 = (n : Int)) (x1 : Int) (e1 : x1 = (n : Int)) (law brk val sum nS : Int) (set rest wei st nx costs sm ta : Nat → Int) (hC : zR costs (-1) 99) (hW : zR wei 0 30) : ∀ (m p : Nat) (x2 : Int) (tb : Nat → Int), x2 = (p : Int) → p ≤ 16384 → (∀ q, q < p → tb q = -1) → 16385 - p ≤ m → zok (f_HM_findStates_2 row m x1 x2 law brk val sum nS set rest wei st tb nx costs sm ta) (zFS n row) := by
  intro m
  induction m with
  | zero => intro p x2 tb e2 hp hT hme; exact absurd hme (by omega)
  | succ m ih =>
    intro p x2 tb e2 hp hT hme
    show zok (f_HM_findStates_2_b row (f_HM_findStates_2 row m) x1 x2 law brk val sum nS set rest wei st tb nx costs sm ta) _
    unfold f_HM_findStates_2_b
    refine zk_ifc (zci_le (by omega) (by omega)) (fun hc1 => ?_) (fun hc1 => ?_)
    · exact z_fs31 n row h0 hn hs x1 e1 law brk val sum 0 set rest st tb nx costs hC rfl (fun q hq => hT q (by omega)) zfu 0 0 0 wei sm ta rfl (by decide) rfl hW (fun j hj => absurd hj (Nat.not_lt_zero j)) (by unfold zfu; omega)
    · refine zk_sl p (by omega) (by omega) (by decide) (fun a1 q1 => ?_)
      have r1 := zu_rd q1
      refine zk_nE (fun v2 q2 => ?_)
      refine ih (p + 1) v2 a1 (by omega) (by omega) (fun q hq => ?_) (by omega)
      have := r1 q
      by_cases u : q = p
      · omega
      · have := hT q (by omega); omega
theorem z_findStates {n : Nat} {row : Nat → Int} (h0 : RI row) (hn : n ≤ 5) (hs : zHs row 4 = (n : Int)) (x1 : Int) (e1 : x1 = (n : Int)) (law brk val sum nS : Int) (set rest wei st tb nx costs sm ta : Nat → Int) (hC : zR costs (-1) 99) (hW : zR wei 0 30) : zok (f_HM_findStates x1 row law brk val sum nS set rest wei st tb nx costs sm ta) (zFS n row) := by
  unfold f_HM_findStates
  exact z_fs2 n row h0 hn hs x1 e1 law brk val sum nS set rest wei st nx costs sm ta hC hW zfu 0 0 tb rfl (by decide) (fun q hq => absurd hq (Nat.not_lt_zero q)) (by unfold zfu; omega)

