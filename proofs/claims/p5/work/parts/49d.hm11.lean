theorem zu_undo (h g1 g2 g3 g4 : Nat → Int) (i j : Nat) (hij : i ≠ j) (e1 : g1 = zu h i (h i - 1)) (e2 : g2 = zu g1 j (h j + 1)) (e3 : g3 = zu g2 j (g2 j - 1)) (e4 : g4 = zu g3 i (g2 i + 1)) : g4 = h := by
  funext k
  have a1 := zu_rd e1 i
  have a2 := zu_rd e2 i
  have c2 := zu_rd e2 j
  have b1 := zu_rd e1 k
  have b2 := zu_rd e2 k
  have b3 := zu_rd e3 k
  have b4 := zu_rd e4 k
  by_cases q : k = i
  · subst q; omega
  · by_cases q2 : k = j
    · subst q2; omega
    · omega
def zW : Nat → Int
  | 0 => 32000
  | 1 => 1600
  | 2 => 80
  | _ => 2
def zM (tr : Nat → Int) : Nat → Int
  | 0 => 0
  | k + 1 => zM tr k + (18 - tr k) * zW k
theorem zM_ge {tr : Nat → Int} {i k : Nat} {v : Int} (h : k ≤ i) : zM (zu tr i v) k = zM tr k := by
  induction k with
  | zero => rfl
  | succ k ih => show zM (zu tr i v) k + _ = zM tr k + _; rw [ih (by omega), zu_ne _ _ (by omega)]
theorem zW_p (k : Nat) : 2 ≤ zW k := by
  match k with
  | 0 => decide
  | 1 => decide
  | 2 => decide
  | (n + 3) => exact Int.le_refl 2
theorem zM_s {tr : Nat → Int} {k : Nat} (h : tr k ≤ 17) : zM tr k + 2 ≤ zM tr (k + 1) := by
  have w := zW_p k
  have h2 : 1 * zW k ≤ (18 - tr k) * zW k := Int.mul_le_mul_of_nonneg_right (by omega) (by omega)
  show zM tr k + 2 ≤ zM tr k + (18 - tr k) * zW k
  omega
theorem zM_nn {tr : Nat → Int} (h : zR tr (-1) 17) (k : Nat) : 0 ≤ zM tr k := by
  induction k with
  | zero => exact Int.le_refl 0
  | succ k ih => have := zM_s (h k).2; omega
theorem zM_up {tr : Nat → Int} (h : zR tr (-1) 17) (k : Nat) : zM tr k ≤ 640000 * (k : Int) := by
  induction k with
  | zero => exact Int.le_refl 0
  | succ k ih =>
    have hk := h k
    have w2 : zW k ≤ 32000 := by
      match k with
      | 0 => exact (by decide)
      | 1 => exact (by decide)
      | 2 => exact (by decide)
      | (n + 3) => exact (show (2 : Int) ≤ 32000 by decide)
    have w := zW_p k
    have h2 := zmulb (a := 18 - tr k) (b := zW k) 19 32000 (by omega) (by omega)
    show zM tr k + (18 - tr k) * zW k ≤ 640000 * ((k + 1 : Nat) : Int)
    omega
theorem zM_adv {tr : Nat → Int} {k : Nat} {v : Int} (hv : tr k + 1 ≤ v) : zM (zu tr k v) (k + 1) + 2 ≤ zM tr (k + 1) := by
  have w := zW_p k
  have h2 : (18 - v) * zW k ≤ (18 - tr k - 1) * zW k := Int.mul_le_mul_of_nonneg_right (by omega) (by omega)
  have h3 : (18 - tr k - 1) * zW k = (18 - tr k) * zW k - zW k := by rw [Int.sub_mul]; omega
  show zM (zu tr k v) k + (18 - zu tr k v k) * zW k + 2 ≤ zM tr k + (18 - tr k) * zW k
  rw [zM_ge (Nat.le_refl _), zu_eq]
  omega
theorem zM_adv2 {tr : Nat → Int} {k : Nat} {v : Int} (hv : tr k + 1 ≤ v) (hk : k ≤ 2) : zM (zu (zu tr k v) (k + 1) (-1)) (k + 1 + 1) + 2 ≤ zM tr (k + 1) := by
  have w : 19 * zW (k + 1) + 2 ≤ zW k := by
    have : k = 0 ∨ k = 1 ∨ k = 2 := by omega
    rcases this with h | h | h <;> (subst h; decide)
  have h2 : (18 - v) * zW k ≤ (18 - tr k - 1) * zW k := Int.mul_le_mul_of_nonneg_right (by omega) (by have := zW_p k; omega)
  have h3 : (18 - tr k - 1) * zW k = (18 - tr k) * zW k - zW k := by rw [Int.sub_mul]; omega
  show zM (zu (zu tr k v) (k + 1) (-1)) k + (18 - zu (zu tr k v) (k + 1) (-1) k) * zW k + (18 - zu (zu tr k v) (k + 1) (-1) (k + 1)) * zW (k + 1) + 2 ≤ zM tr k + (18 - tr k) * zW k
  rw [zM_ge (by omega), zM_ge (Nat.le_refl _), zu_eq, zu_ne _ _ (by omega), zu_eq]
  omega
def DI (turn : Nat) (high tried : Nat → Int) : Prop := ∃ Hs : Nat → Nat → Int, Hs turn = high ∧ ∀ t, t < turn → zR (Hs t) 0 10 ∧ (0 ≤ tried t ∧ tried t ≤ 17) ∧ ((16 ≤ tried t ∧ Hs (t + 1) = Hs t) ∨ (tried t < 16 ∧ tried t / 4 ≠ tried t % 4 ∧ 1 ≤ Hs t (tried t / 4).toNat ∧ Hs t (tried t % 4).toNat ≤ 9 ∧ Hs (t + 1) = zu (zu (Hs t) (tried t / 4).toNat (Hs t (tried t / 4).toNat - 1)) (tried t % 4).toNat (Hs t (tried t % 4).toNat + 1)))
theorem DI_0 (high tried : Nat → Int) : DI 0 high tried := ⟨fun _ => high, rfl, fun t ht => absurd ht (Nat.not_lt_zero t)⟩
theorem DI_ext {turn i : Nat} {high tried : Nat → Int} {v : Int} (h : DI turn high tried) (hi : turn ≤ i) : DI turn high (zu tried i v) := by
  obtain ⟨Hs, h1, h2⟩ := h
  refine ⟨Hs, h1, fun t ht => ?_⟩
  rw [zu_ne _ _ (by omega)]
  exact h2 t ht
theorem DI_push {turn : Nat} {high high' tried : Nat → Int} {m : Int} (h : DI turn high tried) (hz : zR high 0 10) (hm : 0 ≤ m ∧ m ≤ 17) (hc : (16 ≤ m ∧ high' = high) ∨ (m < 16 ∧ m / 4 ≠ m % 4 ∧ 1 ≤ high (m / 4).toNat ∧ high (m % 4).toNat ≤ 9 ∧ high' = zu (zu high (m / 4).toNat (high (m / 4).toNat - 1)) (m % 4).toNat (high (m % 4).toNat + 1))) : DI (turn + 1) high' (zu tried turn m) := by
  obtain ⟨Hs, h1, h2⟩ := h
  refine ⟨fun t => if t = turn + 1 then high' else Hs t, by dsimp only; rw [if_pos rfl], fun t ht => ?_⟩
  dsimp only
  rw [if_neg (show t ≠ turn + 1 by omega)]
  by_cases e : t = turn
  · subst e
    rw [if_pos rfl, zu_eq, h1]
    exact ⟨hz, hm, hc⟩
  · rw [if_neg (show t + 1 ≠ turn + 1 by omega), zu_ne _ _ e]
    exact h2 t (by omega)
theorem DI_top {turn : Nat} {high tried : Nat → Int} (h : DI (turn + 1) high tried) : ∃ h0 : Nat → Int, DI turn h0 tried ∧ zR h0 0 10 ∧ (0 ≤ tried turn ∧ tried turn ≤ 17) ∧ ((16 ≤ tried turn ∧ high = h0) ∨ (tried turn < 16 ∧ tried turn / 4 ≠ tried turn % 4 ∧ 1 ≤ h0 (tried turn / 4).toNat ∧ h0 (tried turn % 4).toNat ≤ 9 ∧ high = zu (zu h0 (tried turn / 4).toNat (h0 (tried turn / 4).toNat - 1)) (tried turn % 4).toNat (h0 (tried turn % 4).toNat + 1))) := by
  obtain ⟨Hs, h1, h2⟩ := h
  have k := h2 turn (by omega)
  rw [h1] at k
  exact ⟨Hs turn, ⟨Hs, rfl, fun t ht => h2 t (by omega)⟩, k.1, k.2.1, k.2.2⟩
theorem z_duel (row : Nat → Int) (h0 : RI row) (x1 x2 x3 : Int) (b1 : 1 ≤ x1 ∧ x1 ≤ 4) (b2 : 0 ≤ x2 ∧ x2 ≤ 1) (b3 : 0 ≤ x3 ∧ x3 ≤ 2) : ∀ (n : Nat) (x4 th lw br va su : Int) (set rest high heaps tried bests firsts : Nat → Int), (-1 ≤ x4 ∧ x4 ≤ x1) → (0 ≤ x4 → DI x4.toNat high tried) → zR high 0 10 → zR heaps 0 30 → zR tried (-1) 17 → zR bests (-1000) 60 → zR firsts (-1) 17 → (1 ≤ n ∧ (0 ≤ x4 → x4 < x1 → zM tried (x4.toNat + 1) + 2 ≤ (n : Int)) ∧ (x4 = x1 → zM tried x4.toNat + 3 ≤ (n : Int))) → zok (f_HM_duel_72 row n x1 x2 x3 x4 th lw br va su set rest high heaps tried bests firsts) (fun o => zR o.2.2.2.2.2.2.2.2.1 0 10 ∧ zR o.2.2.2.2.2.2.2.2.2.1 0 30 ∧ zR o.2.2.2.2.2.2.2.2.2.2.1 (-1) 17 ∧ zR o.2.2.2.2.2.2.2.2.2.2.2.1 (-1000) 60 ∧ zR o.2.2.2.2.2.2.2.2.2.2.2.2 (-1) 17) := by
  intro n
  induction n with
  | zero => intro x4 th lw br va su set rest high heaps tried bests firsts b4 hd hh hp ht hb hf hm; exact absurd hm.1 (by decide)
  | succ n ih =>
    intro x4 th lw br va su set rest high heaps tried bests firsts b4 hd hh hp ht hb hf hm
    show zok (f_HM_duel_72_b row (f_HM_duel_72 row n) x1 x2 x3 x4 th lw br va su set rest high heaps tried bests firsts) _
    obtain ⟨m1, m2, m3⟩ := hm
    have all : zR high 0 10 ∧ zR heaps 0 30 ∧ zR tried (-1) 17 ∧ zR bests (-1000) 60 ∧ zR firsts (-1) 17 := ⟨hh, hp, ht, hb, hf⟩
    unfold f_HM_duel_72_b
    refine zk_ifc (zci_ltr (by omega)) (fun hc => ?_) (fun hc => ?_)
    · refine zk_ifc (zci_ner (by omega)) (fun hc1 => ?_) (fun hc1 => ?_)
      · refine zk_gl 0 rfl (by decide) (by decide) (fun v1 h_v1 => ?_)
        have r1 := hf 0
        refine zk_ifc (zci_le (by omega) (by omega)) (fun hc2 => ?_) (fun hc2 => ?_)
        · refine zk_ifc (zci_ne (by omega) (by omega)) (fun hc3 => ?_) (fun hc3 => ?_)
          · refine zk_gl 0 rfl (by decide) (by decide) (fun v2 h_v2 => ?_)
            refine zk_g0zi_w (by omega) ?_
            refine zk_nE (fun v3 h_v3 => ?_)
            exact zk_ret all
          · refine zk_gl 0 rfl (by decide) (by decide) (fun v2 h_v2 => ?_)
            refine zk_g0zi_w (by omega) ?_
            refine zk_nE (fun v3 h_v3 => ?_)
            exact zk_ret all
        · exact zk_ret all
      · refine zk_gl 0 rfl (by decide) (by decide) (fun v1 h_v1 => ?_)
        exact zk_ret all
    · have hD := hd (by omega)
      have p136 : ∀ (s0 lw br va su : Int) (set rest : Nat → Int), (-1000 ≤ s0 ∧ s0 ≤ 60) → zok (f_HM_duel_136 row (f_HM_duel_72 row n) x1 x2 x3 x4 s0 th lw br va su set rest high heaps tried bests firsts) (fun o => zR o.2.2.2.2.2.2.2.2.1 0 10 ∧ zR o.2.2.2.2.2.2.2.2.2.1 0 30 ∧ zR o.2.2.2.2.2.2.2.2.2.2.1 (-1) 17 ∧ zR o.2.2.2.2.2.2.2.2.2.2.2.1 (-1000) 60 ∧ zR o.2.2.2.2.2.2.2.2.2.2.2.2 (-1) 17) := by
        intro s0 lw br va su set rest hs
        unfold f_HM_duel_136
        refine zk_n ?_
        refine zk_ifc (zci_ltr (by omega)) (fun hc1 => ?_) (fun hc1 => ?_)
        · unfold f_HM_duel_166 f_HM_duel_224
          refine ih _ _ _ _ _ _ _ _ _ _ _ _ _ (by omega) (fun h => absurd h (by omega)) hh hp ht hb hf ⟨?_, fun h => absurd h (by omega), fun h => absurd h (by omega)⟩
          have e : x4 = 0 := by omega
          subst e
          have k := m2 (by omega) (by omega)
          have k2 := zM_nn ht ((0 : Int).toNat + 1)
          omega
        · obtain ⟨h9, d1, d2, d3, d4⟩ := DI_top (turn := x4.toNat - 1) (by rw [show x4.toNat - 1 + 1 = x4.toNat by omega]; exact hD)
          rw [show x4.toNat - 1 = (x4 + -1).toNat by omega] at d1 d3 d4
          refine zk_gv (by omega) (by decide) (fun v2 h_v2 => ?_)
          rw [← h_v2] at d3 d4
          have g1 := d2 (v2 / 4).toNat
          have g2 := d2 (v2 % 4).toNat
          have hpre : 16 ≤ v2 ∨ (v2 / 4 ≠ v2 % 4 ∧ 1 ≤ high (v2 % 4).toNat ∧ high (v2 / 4).toNat ≤ 9) := by
            rcases d4 with ⟨e, _⟩ | ⟨e1, e2, e3, e4, e5⟩
            · exact Or.inl e
            · refine Or.inr ⟨e2, ?_, ?_⟩
              · rw [e5, zu_eq]; omega
              · rw [e5, zu_ne _ _ (by omega), zu_eq]; omega
          refine zk_d2 (s_HM_unmove v2 high heaps (by omega) hh hp hpre) (fun a3 a4 hq => ?_)
          try dsimp only at hq
          obtain ⟨q1, q2, q3, q4⟩ := hq
          have e9 : a3 = h9 := by
            rcases d4 with ⟨e, e5⟩ | ⟨e1, e2, e3, e4, e5⟩
            · rw [q3 e, e5]
            · rw [q4 e1]
              exact zu_undo h9 _ high _ _ (v2 / 4).toNat (v2 % 4).toNat (by omega) rfl e5 rfl rfl
          refine zk_d2 (s_HM_settlex (x4 + -1) x2 s0 tried bests firsts (by omega) (by omega) (by omega) ht hb hf) (fun a5 a6 hq => ?_)
          try dsimp only at hq
          obtain ⟨q5, q6⟩ := hq
          unfold f_HM_duel_166 f_HM_duel_224
          refine ih _ _ _ _ _ _ _ _ _ _ _ _ _ (by omega) (fun _ => by rw [e9]; exact d1) q1 q2 ht q5 q6 ?_
          have n1 := zM_nn ht x4.toNat
          by_cases e : x4 = x1
          · have k := m3 e
            rw [show (x4 + -1).toNat + 1 = x4.toNat by omega]
            omega
          · have k := m2 (by omega) (by omega)
            have k2 := zM_s (tr := tried) (k := x4.toNat) (ht x4.toNat).2
            rw [show (x4 + -1).toNat + 1 = x4.toNat by omega]
            omega
      have p116 : ∀ (lw br va su : Int) (set rest : Nat → Int), zok (f_HM_duel_116 row (f_HM_duel_72 row n) x1 x2 x3 x4 th lw br va su set rest high heaps tried bests firsts) (fun o => zR o.2.2.2.2.2.2.2.2.1 0 10 ∧ zR o.2.2.2.2.2.2.2.2.2.1 0 30 ∧ zR o.2.2.2.2.2.2.2.2.2.2.1 (-1) 17 ∧ zR o.2.2.2.2.2.2.2.2.2.2.2.1 (-1000) 60 ∧ zR o.2.2.2.2.2.2.2.2.2.2.2.2 (-1) 17) := by
        intro lw br va su set rest
        unfold f_HM_duel_116
        refine zk_ifc (zci_ne (by omega) (by omega)) (fun hc1 => ?_) (fun hc1 => ?_)
        · refine zk_gv (by omega) (by decide) (fun v1 h_v1 => ?_)
          have r1 := hb x4.toNat
          exact p136 _ _ _ _ _ _ _ (by omega)
        · refine zk_d1 (s_HM_allShades _ _ h0 hh) (fun v2 hq => ?_)
          try dsimp only at hq
          exact p136 _ _ _ _ _ _ _ (by omega)
      have p94 : ∀ (s0 lw br va su : Int) (set rest : Nat → Int), (0 ≤ s0 ∧ s0 ≤ 18) → (x4 < x1 → tried x4.toNat + 1 ≤ s0 ∧ (16 ≤ s0 ∨ (1 ≤ high (s0 / 4).toNat ∧ high (s0 % 4).toNat ≤ 9 ∧ s0 / 4 ≠ s0 % 4))) → zok (f_HM_duel_94 row (f_HM_duel_72 row n) x1 x2 x3 x4 s0 th lw br va su set rest high heaps tried bests firsts) (fun o => zR o.2.2.2.2.2.2.2.2.1 0 10 ∧ zR o.2.2.2.2.2.2.2.2.2.1 0 30 ∧ zR o.2.2.2.2.2.2.2.2.2.2.1 (-1) 17 ∧ zR o.2.2.2.2.2.2.2.2.2.2.2.1 (-1000) 60 ∧ zR o.2.2.2.2.2.2.2.2.2.2.2.2 (-1) 17) := by
        intro s0 lw br va su set rest b0 hs
        unfold f_HM_duel_94
        refine zk_ifc (zci_eq (by omega) (by omega)) (fun hc1 => ?_) (fun hc1 => ?_)
        · exact p116 _ _ _ _ _ _
        · obtain ⟨s1, s2⟩ := hs (by omega)
          refine zk_ifc (zci_eq (by omega) (by omega)) (fun hc2 => ?_) (fun hc2 => ?_)
          · exact p116 _ _ _ _ _ _
          · refine zk_ifc (zci_ne (by omega) (by omega)) (fun hc3 => ?_) (fun hc3 => ?_)
            · refine zk_sv (by omega) (by decide) (fun a1 h_a1 => ?_)
              have i1 : zR a1 (-1) 17 := by rw [h_a1]; exact zR_zu ht (by decide) (by decide) (by omega)
              have k := m2 (by omega) (by omega)
              have p197 : ∀ hi he : Nat → Int, zR hi 0 10 → zR he 0 30 → DI (x4.toNat + 1) hi (zu tried x4.toNat s0) → zok (f_HM_duel_197 row (f_HM_duel_72 row n) x1 x2 x3 x4 th lw br va su set rest hi he a1 bests firsts) (fun o => zR o.2.2.2.2.2.2.2.2.1 0 10 ∧ zR o.2.2.2.2.2.2.2.2.2.1 0 30 ∧ zR o.2.2.2.2.2.2.2.2.2.2.1 (-1) 17 ∧ zR o.2.2.2.2.2.2.2.2.2.2.2.1 (-1000) 60 ∧ zR o.2.2.2.2.2.2.2.2.2.2.2.2 (-1) 17) := by
                intro hi he g1 g2 g3
                unfold f_HM_duel_197
                refine zk_n ?_
                refine zk_ifc (zci_le (by omega) (by omega)) (fun hc4 => ?_) (fun hc4 => ?_)
                · unfold f_HM_duel_224
                  refine ih _ _ _ _ _ _ _ _ _ _ _ _ _ (by omega) (fun _ => by rw [show (x4 + 1).toNat = x4.toNat + 1 by omega, h_a1]; exact g3) g1 g2 i1 hb hf ?_
                  have k2 := zM_adv (tr := tried) (k := x4.toNat) (v := s0) s1
                  have k3 := zM_nn i1 (x4.toNat + 1)
                  rw [h_a1] at k3
                  rw [show (x4 + 1).toNat = x4.toNat + 1 by omega, h_a1]
                  omega
                · refine zk_sv (by omega) (by decide) (fun a2 h_a2 => ?_)
                  refine zk_sv (by omega) (by decide) (fun a3 h_a3 => ?_)
                  have i2 : zR a2 (-1) 17 := by rw [h_a2]; exact zR_zu i1 (by decide) (by decide) (by omega)
                  have i3 : zR a3 (-1000) 60 := by rw [h_a3]; exact zR_zu hb (by decide) (by decide) (by omega)
                  unfold f_HM_duel_224
                  refine ih _ _ _ _ _ _ _ _ _ _ _ _ _ (by omega) (fun _ => by rw [show (x4 + 1).toNat = x4.toNat + 1 by omega, h_a2, h_a1]; exact DI_ext g3 (by omega)) g1 g2 i2 i3 hf ?_
                  have k2 := zM_adv2 (tr := tried) (k := x4.toNat) (v := s0) s1 (by omega)
                  have k3 := zM_nn i2 (x4.toNat + 1 + 1)
                  rw [h_a2, h_a1, show (x4 + 1).toNat = x4.toNat + 1 by omega] at k3
                  rw [show (x4 + 1).toNat = x4.toNat + 1 by omega, h_a2, h_a1, show (x4 + 1).toNat = x4.toNat + 1 by omega]
                  omega
              refine zk_ifc (zci_le (by omega) (by omega)) (fun hc4 => ?_) (fun hc4 => ?_)
              · exact p197 _ _ hh hp (DI_push hD hh (by omega) (Or.inl ⟨by omega, rfl⟩))
              · refine zk_g0zi_w (by omega) ?_
                refine zk_nE (fun v2 h_v2 => ?_)
                rw [zi_div_n (by omega) (by omega)] at h_v2
                subst h_v2
                refine zk_g0zi_w (by omega) ?_
                refine zk_nE (fun v3 h_v3 => ?_)
                rw [zi_rem_n (by omega) (by omega)] at h_v3
                subst h_v3
                refine zk_d2 (s_HM_shift _ _ _ _ (by omega) (by omega) hh hp (by omega) (by omega) (by omega)) (fun a4 a5 hq => ?_)
                try dsimp only at hq
                obtain ⟨q1, q2, q3⟩ := hq
                exact p197 _ _ q1 q2 (DI_push hD hh (by omega) (Or.inr ⟨by omega, by omega, by omega, by omega, q3⟩))
            · exact p116 _ _ _ _ _ _
      refine zk_ifc (zci_le (by omega) (by omega)) (fun hc1 => ?_) (fun hc1 => ?_)
      · exact p94 16 _ _ _ _ _ _ (by omega) (fun h => absurd h (by omega))
      · refine zk_d7 (s_HM_nextMove _ _ _ _ _ _ _ _ _ _ _ _ (by omega) h0 hh hp ht hb) (fun v7 v8 v9 v10 v11 a12 a13 hq => ?_)
        try dsimp only at hq
        obtain ⟨q1, q2⟩ := hq
        have r1 := ht x4.toNat
        exact p94 _ _ _ _ _ _ _ (by omega) (fun _ => ⟨q1.1, by omega⟩)
theorem s_HM_duel (x1 x2 x3 : Int) (row : Nat → Int) (th lw br va su : Int) (set rest high heaps tried bests firsts : Nat → Int) (b1 : -2147483648 ≤ x1 ∧ x1 ≤ 2147483647) (b2 : -2147483648 ≤ x2 ∧ x2 ≤ 2147483647) (b3 : -2147483648 ≤ x3 ∧ x3 ≤ 2147483647) (h0 : RI row) (hh : zR high 0 10) (hp : zR heaps 0 30) (ht : zR tried (-1) 17) (hb : zR bests (-1000) 60) (hf : zR firsts (-1) 17) : zok (f_HM_duel x1 x2 x3 row th lw br va su set rest high heaps tried bests firsts) (fun o => zR o.2.2.2.2.2.2.2.2.1 0 10 ∧ zR o.2.2.2.2.2.2.2.2.2.1 0 30 ∧ zR o.2.2.2.2.2.2.2.2.2.2.1 (-1) 17 ∧ zR o.2.2.2.2.2.2.2.2.2.2.2.1 (-1000) 60 ∧ zR o.2.2.2.2.2.2.2.2.2.2.2.2 (-1) 17) := by
  have all : zR high 0 10 ∧ zR heaps 0 30 ∧ zR tried (-1) 17 ∧ zR bests (-1000) 60 ∧ zR firsts (-1) 17 := ⟨hh, hp, ht, hb, hf⟩
  unfold f_HM_duel
  refine zk_nE (fun v1 h_v1 => ?_)
  rw [zwi (by omega)] at h_v1
  refine zk_d1 (s_HM_in _ _ _ (by omega) (by omega) (by omega)) (fun v2 p2 => ?_)
  try dsimp only at p2
  refine zk_ifc (zci_eqr (by omega)) (fun hc => ?_) (fun hc => ?_)
  · exact zk_ret all
  · refine zk_nE (fun v3 h_v3 => ?_)
    rw [zwi (by omega)] at h_v3
    refine zk_d1 (s_HM_in _ _ _ (by omega) (by omega) (by omega)) (fun v4 p4 => ?_)
    try dsimp only at p4
    refine zk_ifc (zci_eqr (by omega)) (fun hc1 => ?_) (fun hc1 => ?_)
    · exact zk_ret all
    · refine zk_nE (fun v5 h_v5 => ?_)
      rw [zwi (by omega)] at h_v5
      refine zk_d1 (s_HM_in _ _ _ (by omega) (by omega) (by omega)) (fun v6 p6 => ?_)
      try dsimp only at p6
      refine zk_ifc (zci_eqr (by omega)) (fun hc2 => ?_) (fun hc2 => ?_)
      · exact zk_ret all
      · refine zk_d1 (s_HM_columns _ h0) (fun v7 p7 => ?_)
        try dsimp only at p7
        refine zk_ifc (zci_le (by omega) (by omega)) (fun hc3 => ?_) (fun hc3 => ?_)
        · refine zk_d2 (s_HM_load _ _ _ h0 hh hp) (fun a8 a9 p8 => ?_)
          try dsimp only at p8
          obtain ⟨p8, p9⟩ := p8
          refine zk_sl 0 rfl (by decide) (by decide) (fun a10 h_a10 => ?_)
          refine zk_sl 0 rfl (by decide) (by decide) (fun a11 h_a11 => ?_)
          have i10 : zR a10 (-1) 17 := by rw [h_a10]; exact zR_zu ht (by decide) (by decide) (by omega)
          have i11 : zR a11 (-1000) 60 := by rw [h_a11]; exact zR_zu hb (by decide) (by decide) (by omega)
          have u := zM_up i10 1
          exact z_duel row h0 x1 x2 x3 (by omega) (by omega) (by omega) zfu 0 _ _ _ _ _ _ _ _ _ _ _ _ (by omega) (fun _ => DI_0 _ _) p8 p9 i10 i11 hf ⟨by unfold zfu; omega, fun _ _ => by show zM a10 1 + 2 ≤ _; unfold zfu; omega, fun h => absurd h (by omega)⟩
        · exact zk_ret all
