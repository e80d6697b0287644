theorem zok_self {α : Type} {o : Option α} {Q : α → Prop} (h : zok o Q) : zok o (fun x => o = some x ∧ Q x) := by
  obtain ⟨x, h1, h2⟩ := h
  exact ⟨x, h1, h1, h2⟩
def zsum (f : Nat → Int) : Nat → Int
  | 0 => 0
  | n + 1 => zsum f n + f n
theorem zsum_zu {f : Nat → Int} {a : Nat} {v : Int} : ∀ n, zsum (zu f a v) n = zsum f n + (if a < n then v - f a else 0) := by
  intro n
  induction n with
  | zero => rfl
  | succ n ih =>
    show zsum (zu f a v) n + zu f a v n = zsum f n + f n + _
    rw [ih]
    by_cases q : a = n
    · subst q
      rw [zu_eq, if_neg (Nat.lt_irrefl _), if_pos (Nat.lt_succ_self _)]
      omega
    · rw [zu_ne _ _ (fun e => q e.symm)]
      by_cases q2 : a < n
      · rw [if_pos q2, if_pos (by omega)]; omega
      · rw [if_neg q2, if_neg (by omega)]; omega
theorem zsum_b {f : Nat → Int} {B : Int} : ∀ n : Nat, (∀ a, a < n → 0 ≤ f a ∧ f a ≤ B) → 0 ≤ zsum f n ∧ zsum f n ≤ B * (n : Int) := by
  intro n
  induction n with
  | zero => intro _; exact ⟨Int.le_refl 0, by show (0 : Int) ≤ B * 0; omega⟩
  | succ n ih =>
    intro h
    have h1 := ih (fun a ha => h a (by omega))
    have h2 := h n (by omega)
    have e : B * ((n + 1 : Nat) : Int) = B * (n : Int) + B := by
      rw [Int.natCast_add, Int.mul_add]
      omega
    show 0 ≤ zsum f n + f n ∧ zsum f n + f n ≤ _
    rw [e]
    omega
def zOp (x1 : Int) (nx sf : Nat → Int) (a mv : Nat) : Prop := f_HM_isOpen x1 (a : Int) (mv : Int) nx sf = some 1 ∧ nx (16 * a + mv) ≠ -1
def zCr (ch : Nat → Int) (N : Nat) : Prop := ∀ j, j < 16 * N → 1 ≤ ch j ∧ ch j ≤ 1000000000000000
def LI (x1 : Int) (N : Nat) (nx sf ch lf : Nat → Int) : Prop := ∀ a, a < N → (0 ≤ lf a ∧ lf a ≤ 1000000000000000) ∧ (lf a = 0 ∨ lf a = 1000000000000000 ∨ ∃ mv, mv < 16 ∧ zOp x1 nx sf a mv ∧ ch (16 * a + mv) + lf (nx (16 * a + mv)).toNat ≤ lf a)
def zSt (x1 : Int) (nx sf ch lf : Nat → Int) (a mv : Nat) : Prop := zOp x1 nx sf a mv → lf a ≤ ch (16 * a + mv) + lf (nx (16 * a + mv)).toNat
theorem LI_up {x1 : Int} {N : Nat} {nx sf ch lf lf' : Nat → Int} (h : LI x1 N nx sf ch lf) (hch : zCr ch N) {a mv : Nat} (ha : a < N) (hm : mv < 16) (ho : zOp x1 nx sf a mv) (hnx : 0 ≤ nx (16 * a + mv) ∧ nx (16 * a + mv) < (N : Int)) {v : Int} (hv : v = ch (16 * a + mv) + lf (nx (16 * a + mv)).toNat) (hlt : v < lf a) (e : lf' = zu lf a v) : LI x1 N nx sf ch lf' := by
  have r := zu_rd e
  have dn : ∀ i, lf' i ≤ lf i := by
    intro i
    have := r i
    by_cases q : i = a
    · subst q; omega
    · omega
  have c1 := hch (16 * a + mv) (by omega)
  have l1 := (h (nx (16 * a + mv)).toNat (by omega)).1
  have l2 := (h a ha).1
  intro b hb
  have rb := r b
  have hb1 := h b hb
  by_cases q : b = a
  · subst q
    have e1 : lf' b = v := by clear hb1; omega
    refine ⟨by clear hb1; omega, Or.inr (Or.inr ⟨mv, hm, ho, ?_⟩)⟩
    have := dn (nx (16 * b + mv)).toNat
    omega
  · have e1 : lf' b = lf b := by clear hb1; omega
    rw [e1]
    refine ⟨hb1.1, ?_⟩
    rcases hb1.2 with k | k | ⟨mv', k1, k2, k3⟩
    · exact Or.inl k
    · exact Or.inr (Or.inl k)
    · refine Or.inr (Or.inr ⟨mv', k1, k2, ?_⟩)
      have := dn (nx (16 * b + mv')).toNat
      omega
def zIn (x1 : Int) (N : Nat) (nx sf ch lf0 lf : Nat → Int) (x3 : Int) (Q : Prop) : Prop := LI x1 N nx sf ch lf ∧ ((x3 = 0 ∧ lf = lf0 ∧ Q) ∨ (x3 = 1 ∧ zsum lf N < zsum lf0 N))

theorem z_fl213 (x1 : Int) (b1 : 0 ≤ x1 ∧ x1 ≤ 2) (n N : Nat) (law brk val sum nS : Int) (set rest wei st tb nx costs sm ta sf ch : Nat → Int) (row : Nat → Int) (hN : N ≤ 6720) (hX : NX n N row st nx (16 * N)) (hsf : ∀ i, i < N → sf i = 0 ∨ sf i = 1) (hch : zCr ch N) (lf0 : Nat → Int) (k191 : (Int → Int → Int → Int → Int → Int → Int → (Nat → Int) → (Nat → Int) → (Nat → Int) → (Nat → Int) → (Nat → Int) → (Nat → Int) → (Nat → Int) → (Nat → Int) → (Nat → Int) → (Nat → Int) → (Nat → Int) → (Nat → Int) → Option (Int × Int × Int × Int × Int × (Nat → Int) × (Nat → Int) × (Nat → Int) × (Nat → Int) × (Nat → Int) × (Nat → Int) × (Nat → Int) × (Nat → Int) × (Nat → Int) × (Nat → Int) × (Nat → Int) × (Nat → Int)))) (k205 : (Int → Int → Int → Int → Int → Int → Int → Int → (Nat → Int) → (Nat → Int) → (Nat → Int) → (Nat → Int) → (Nat → Int) → (Nat → Int) → (Nat → Int) → (Nat → Int) → (Nat → Int) → (Nat → Int) → (Nat → Int) → (Nat → Int) → Option (Int × Int × Int × Int × Int × (Nat → Int) × (Nat → Int) × (Nat → Int) × (Nat → Int) × (Nat → Int) × (Nat → Int) × (Nat → Int) × (Nat → Int) × (Nat → Int) × (Nat → Int) × (Nat → Int) × (Nat → Int)))) (P : (Int × Int × Int × Int × Int × (Nat → Int) × (Nat → Int) × (Nat → Int) × (Nat → Int) × (Nat → Int) × (Nat → Int) × (Nat → Int) × (Nat → Int) × (Nat → Int) × (Nat → Int) × (Nat → Int) × (Nat → Int)) → Prop) (a : Nat) (ha : a < N) (Q : Prop)
  (hk : ∀ (x3 : Int) (lf : Nat → Int), zIn x1 N nx sf ch lf0 lf x3 (Q ∧ ∀ mv, mv < 16 → zSt x1 nx sf ch lf0 a mv) → zok (k205 x1 x3 ((a : Int) + (-1)) law brk val sum nS set rest wei st tb nx lf costs sm ta sf ch) P) :
  ∀ (m mv : Nat) (x3 x4 x5 : Int) (lf : Nat → Int), x4 = (a : Int) → x5 = (mv : Int) → mv ≤ 16 → zIn x1 N nx sf ch lf0 lf x3 (Q ∧ ∀ mv', mv' < mv → zSt x1 nx sf ch lf0 a mv') → 17 - mv ≤ m → zok (f_HM_findLeft_213 row k191 k205 m x1 x3 x4 x5 law brk val sum nS set rest wei st tb nx lf costs sm ta sf ch) P := by
  intro m
  induction m with
  | zero => intro mv x3 x4 x5 lf e4 e5 hm hI hme; exact absurd hme (by omega)
  | succ m ih =>
    intro mv x3 x4 x5 lf e4 e5 hm hI hme
    show zok (f_HM_findLeft_213_b row k191 k205 (f_HM_findLeft_213 row k191 k205 m) x1 x3 x4 x5 law brk val sum nS set rest wei st tb nx lf costs sm ta sf ch) P
    unfold f_HM_findLeft_213_b
    refine zk_ifc (zci_le (by omega) (by omega)) (fun hc1 => ?_) (fun hc1 => ?_)
    · refine zk_nE (fun v1 q1 => ?_)
      have : mv = 16 := by omega
      subst this
      rw [q1, e4]
      exact hk x3 lf hI
    · have la := (hI.1 a ha).1
      have e16 : (16 * (a : Int) + (mv : Int)).toNat = 16 * a + mv := by omega
      have go : ∀ v : Int, -9223372036854775808 ≤ v ∧ v ≤ 9223372036854775807 → (v < lf a → zOp x1 nx sf a mv ∧ (0 ≤ nx (16 * a + mv) ∧ nx (16 * a + mv) < (N : Int)) ∧ v = ch (16 * a + mv) + lf (nx (16 * a + mv)).toNat) → (zOp x1 nx sf a mv → v = ch (16 * a + mv) + lf (nx (16 * a + mv)).toNat) → zok (f_HM_findLeft_270 row k191 k205 (f_HM_findLeft_213 row k191 k205 m) x1 x3 x4 x5 v law brk val sum nS set rest wei st tb nx lf costs sm ta sf ch) P := by
        intro v hv g1 g2
        unfold f_HM_findLeft_270
        refine zk_gl a (by omega) (by omega) (by decide) (fun v1 q1 => ?_)
        refine zk_ifc (zcl_le (by omega) (by omega)) (fun hc2 => ?_) (fun hc2 => ?_)
        · unfold f_HM_findLeft_296
          refine zk_nE (fun w hw => ?_)
          refine ih (mv + 1) x3 x4 w lf e4 (by omega) (by omega) ⟨hI.1, ?_⟩ (by omega)
          rcases hI.2 with ⟨k1, k2, k3, k4⟩ | k
          · refine Or.inl ⟨k1, k2, k3, fun mv' hm' => ?_⟩
            by_cases q : mv' = mv
            · subst q
              intro ho
              have := g2 ho
              rw [← k2]
              omega
            · exact k4 mv' (by omega)
          · exact Or.inr k
        · obtain ⟨o1, o2, o3⟩ := g1 (by omega)
          refine zk_sl a (by omega) (by omega) (by decide) (fun a2 q2 => ?_)
          unfold f_HM_findLeft_296
          refine zk_nE (fun w hw => ?_)
          refine ih (mv + 1) 1 x4 w a2 e4 (by omega) (by omega) ⟨LI_up hI.1 hch ha (by omega) o1 o2 o3 (by omega) q2, Or.inr ⟨rfl, ?_⟩⟩ (by omega)
          have hs := zsum_zu (f := lf) (a := a) (v := v) N
          rw [if_pos ha, ← q2] at hs
          rcases hI.2 with ⟨k1, k2, k3, k4⟩ | k
          · rw [← k2]; omega
          · have := k.2; omega
      have hx := hX (16 * a + mv) (by omega)
      refine zk_d1 (zok_self (z_isOpen hX hN x1 x4 x5 b1 a e4 ha (by omega) hsf)) (fun v2 p2 => ?_)
      obtain ⟨p21, p22⟩ := p2
      rw [e4, e5, e16] at p22
      rw [e4, e5] at p21
      refine zk_ifc (zci_eqr (by omega)) (fun hc2 => ?_) (fun hc2 => ?_)
      · refine go 1000000000000000 (by decide) (fun h => absurd h (by omega)) (fun ho => ?_)
        have := ho.1
        rw [p21] at this
        have := Option.some.inj this
        omega
      · have hne : nx (16 * a + mv) ≠ -1 := by
          rcases p22 with p | p
          · exact absurd p hc2
          · exact p.2
        have hnx : 0 ≤ nx (16 * a + mv) ∧ nx (16 * a + mv) < (N : Int) := by
          rcases hx with hx | hx
          · exact absurd hx hne
          · exact hx.1
        have hv2 : v2 = 1 := by
          rcases p22 with p | p
          · exact absurd p hc2
          · exact p.1
        have c1 := hch (16 * a + mv) (by omega)
        have ln := (hI.1 (nx (16 * a + mv)).toNat (by omega)).1
        clear hx p22
        refine zk_nE (fun v3 q3 => ?_)
        refine zk_nE (fun v4 q4 => ?_)
        refine zk_gl (16 * a + mv) (by omega) (by omega) (by decide) (fun v5 q5 => ?_)
        refine zk_nE (fun v6 q6 => ?_)
        refine zk_nE (fun v7 q7 => ?_)
        refine zk_gl (16 * a + mv) (by omega) (by omega) (by decide) (fun v8 q8 => ?_)
        refine zk_gl (nx (16 * a + mv)).toNat (by omega) (by omega) (by decide) (fun v9 q9 => ?_)
        refine zk_nE (fun v10 q10 => ?_)
        have e10 : v10 = ch (16 * a + mv) + lf (nx (16 * a + mv)).toNat := by omega
        exact go v10 (by omega) (fun _ => ⟨⟨by rw [p21, hv2], hne⟩, hnx, e10⟩) (fun _ => e10)
theorem z_fl205 (x1 : Int) (b1 : 0 ≤ x1 ∧ x1 ≤ 2) (n N : Nat) (law brk val sum nS : Int) (set rest wei st tb nx costs sm ta sf ch : Nat → Int) (row : Nat → Int) (hN : N ≤ 6720) (hX : NX n N row st nx (16 * N)) (hsf : ∀ i, i < N → sf i = 0 ∨ sf i = 1) (hch : zCr ch N) (lf0 : Nat → Int) (k191 : (Int → Int → Int → Int → Int → Int → Int → (Nat → Int) → (Nat → Int) → (Nat → Int) → (Nat → Int) → (Nat → Int) → (Nat → Int) → (Nat → Int) → (Nat → Int) → (Nat → Int) → (Nat → Int) → (Nat → Int) → (Nat → Int) → Option (Int × Int × Int × Int × Int × (Nat → Int) × (Nat → Int) × (Nat → Int) × (Nat → Int) × (Nat → Int) × (Nat → Int) × (Nat → Int) × (Nat → Int) × (Nat → Int) × (Nat → Int) × (Nat → Int) × (Nat → Int)))) (P : (Int × Int × Int × Int × Int × (Nat → Int) × (Nat → Int) × (Nat → Int) × (Nat → Int) × (Nat → Int) × (Nat → Int) × (Nat → Int) × (Nat → Int) × (Nat → Int) × (Nat → Int) × (Nat → Int) × (Nat → Int)) → Prop)
  (hk : ∀ (x3 : Int) (lf : Nat → Int), zIn x1 N nx sf ch lf0 lf x3 (∀ a mv, a < N → mv < 16 → zSt x1 nx sf ch lf0 a mv) → zok (k191 x1 x3 law brk val sum nS set rest wei st tb nx lf costs sm ta sf ch) P) :
  ∀ (m d : Nat) (x3 x4 : Int) (lf : Nat → Int), x4 = (d : Int) - 1 → d ≤ N → zIn x1 N nx sf ch lf0 lf x3 (∀ a mv, d ≤ a → a < N → mv < 16 → zSt x1 nx sf ch lf0 a mv) → d + 1 ≤ m → zok (f_HM_findLeft_205 row k191 m x1 x3 x4 law brk val sum nS set rest wei st tb nx lf costs sm ta sf ch) P := by
  intro m
  induction m with
  | zero => intro d x3 x4 lf e4 hd hI hme; exact absurd hme (by omega)
  | succ m ih =>
    intro d x3 x4 lf e4 hd hI hme
    show zok (f_HM_findLeft_205_b row k191 (f_HM_findLeft_205 row k191 m) x1 x3 x4 law brk val sum nS set rest wei st tb nx lf costs sm ta sf ch) P
    unfold f_HM_findLeft_205_b
    refine zk_ifc (zci_ltr (by omega)) (fun hc1 => ?_) (fun hc1 => ?_)
    · refine hk x3 lf ⟨hI.1, ?_⟩
      rcases hI.2 with ⟨k1, k2, k3⟩ | k
      · exact Or.inl ⟨k1, k2, fun a mv ha hm => k3 a mv (by omega) ha hm⟩
      · exact Or.inr k
    · refine z_fl213 x1 b1 n N law brk val sum nS set rest wei st tb nx costs sm ta sf ch row hN hX hsf hch lf0 k191 _ P (d - 1) (by omega) (∀ a mv, d ≤ a → a < N → mv < 16 → zSt x1 nx sf ch lf0 a mv) (fun x3' lf' hI' => ?_) zfu 0 x3 x4 0 lf (by omega) rfl (by omega) ⟨hI.1, ?_⟩ (by unfold zfu; omega)
      · refine ih (d - 1) x3' _ lf' (by omega) (by omega) ⟨hI'.1, ?_⟩ (by omega)
        rcases hI'.2 with ⟨k1, k2, k3, k4⟩ | k
        · refine Or.inl ⟨k1, k2, fun a mv ha1 ha2 hm => ?_⟩
          by_cases q : a = d - 1
          · rw [q]; exact k4 mv hm
          · exact k3 a mv (by omega) ha2 hm
        · exact Or.inr k
      · rcases hI.2 with ⟨k1, k2, k3⟩ | k
        · exact Or.inl ⟨k1, k2, k3, fun mv' hm' => absurd hm' (Nat.not_lt_zero mv')⟩
        · exact Or.inr k
theorem z_fl191 (x1 : Int) (b1 : 0 ≤ x1 ∧ x1 ≤ 2) (n N : Nat) (law brk val sum nS : Int) (set rest wei st tb nx costs sm ta sf ch : Nat → Int) (row : Nat → Int) (hN : N ≤ 6720) (hX : NX n N row st nx (16 * N)) (hsf : ∀ i, i < N → sf i = 0 ∨ sf i = 1) (hch : zCr ch N) (eN : nS = (N : Int)) : ∀ (m : Nat) (x3 : Int) (lf : Nat → Int), LI x1 N nx sf ch lf → (x3 = 1 ∨ (x3 = 0 ∧ ∀ a mv, a < N → mv < 16 → zSt x1 nx sf ch lf a mv)) → zsum lf N + 2 ≤ (m : Int) + (1 - x3) → zok (f_HM_findLeft_191 row m x1 x3 law brk val sum nS set rest wei st tb nx lf costs sm ta sf ch) (fun o => ∃ lf' : Nat → Int, o = (law, brk, val, sum, nS, set, rest, wei, st, tb, nx, lf', costs, sm, ta, sf, ch) ∧ LI x1 N nx sf ch lf' ∧ ∀ a mv, a < N → mv < 16 → zSt x1 nx sf ch lf' a mv) := by
  intro m
  induction m with
  | zero =>
    intro x3 lf hI h3 hm
    have := (zsum_b N (fun a ha => (hI a ha).1)).1
    exact absurd hm (by omega)
  | succ m ih =>
    intro x3 lf hI h3 hm
    have hs := (zsum_b N (fun a ha => (hI a ha).1)).1
    show zok (f_HM_findLeft_191_b row (f_HM_findLeft_191 row m) x1 x3 law brk val sum nS set rest wei st tb nx lf costs sm ta sf ch) _
    unfold f_HM_findLeft_191_b
    refine zk_ifc (zci_eqr (by omega)) (fun hc1 => ?_) (fun hc1 => ?_)
    · rcases h3 with h3 | h3
      · exact absurd h3 (by omega)
      · exact zk_ret ⟨lf, rfl, hI, h3.2⟩
    · refine zk_nE (fun v1 q1 => ?_)
      refine z_fl205 x1 b1 n N law brk val sum nS set rest wei st tb nx costs sm ta sf ch row hN hX hsf hch lf _ _ (fun x3' lf' hI' => ?_) zfu N 0 v1 lf (by omega) (Nat.le_refl _) ⟨hI, Or.inl ⟨rfl, rfl, fun a mv h1 h2 _ => absurd h1 (by omega)⟩⟩ (by unfold zfu; omega)
      rcases hI'.2 with ⟨k1, k2, k3⟩ | k
      · subst k2
        exact ih x3' lf' hI'.1 (Or.inr ⟨k1, k3⟩) (by omega)
      · exact ih x3' lf' hI'.1 (Or.inl k.1) (by have := k.2; omega)

