theorem zu_undo (h g1 g2 g3 g4 : Nat → Int) (i j : Nat) (hij : i ≠ j) (e1 : g1 = zu h i (h i - 1)) (e2 : g2 = zu g1 j (h j + 1)) (e3 : g3 = zu g2 j (g2 j - 1)) (e4 : g4 = zu g3 i (g2 i + 1)) : g4 = h := by
  sorry
def zW : Nat → Int
  | 0 => 32000
  | 1 => 1600
  | 2 => 80
  | _ => 2
def zM (tr : Nat → Int) : Nat → Int
  | 0 => 0
  | k + 1 => zM tr k + (18 - tr k) * zW k
theorem zM_ge {tr : Nat → Int} {i k : Nat} {v : Int} (h : k ≤ i) : zM (zu tr i v) k = zM tr k := by
  sorry
theorem zW_p (k : Nat) : 2 ≤ zW k := by
  sorry
theorem zM_s {tr : Nat → Int} {k : Nat} (h : tr k ≤ 17) : zM tr k + 2 ≤ zM tr (k + 1) := by
  sorry
theorem zM_nn {tr : Nat → Int} (h : zR tr (-1) 17) (k : Nat) : 0 ≤ zM tr k := by
  sorry
theorem zM_up {tr : Nat → Int} (h : zR tr (-1) 17) (k : Nat) : zM tr k ≤ 640000 * (k : Int) := by
  sorry
theorem zM_adv {tr : Nat → Int} {k : Nat} {v : Int} (hv : tr k + 1 ≤ v) : zM (zu tr k v) (k + 1) + 2 ≤ zM tr (k + 1) := by
  sorry
theorem zM_adv2 {tr : Nat → Int} {k : Nat} {v : Int} (hv : tr k + 1 ≤ v) (hk : k ≤ 2) : zM (zu (zu tr k v) (k + 1) (-1)) (k + 1 + 1) + 2 ≤ zM tr (k + 1) := by
  sorry
def DI (turn : Nat) (high tried : Nat → Int) : Prop := ∃ Hs : Nat → Nat → Int, Hs turn = high ∧ ∀ t, t < turn → zR (Hs t) 0 10 ∧ (0 ≤ tried t ∧ tried t ≤ 17) ∧ ((16 ≤ tried t ∧ Hs (t + 1) = Hs t) ∨ (tried t < 16 ∧ tried t / 4 ≠ tried t % 4 ∧ 1 ≤ Hs t (tried t / 4).toNat ∧ Hs t (tried t % 4).toNat ≤ 9 ∧ Hs (t + 1) = zu (zu (Hs t) (tried t / 4).toNat (Hs t (tried t / 4).toNat - 1)) (tried t % 4).toNat (Hs t (tried t % 4).toNat + 1)))
theorem DI_0 (high tried : Nat → Int) : DI 0 high tried := ⟨fun _ => high, rfl, fun t ht => absurd ht (Nat.not_lt_zero t)⟩
theorem DI_ext {turn i : Nat} {high tried : Nat → Int} {v : Int} (h : DI turn high tried) (hi : turn ≤ i) : DI turn high (zu tried i v) := by
  sorry
theorem DI_push {turn : Nat} {high high' tried : Nat → Int} {m : Int} (h : DI turn high tried) (hz : zR high 0 10) (hm : 0 ≤ m ∧ m ≤ 17) (hc : (16 ≤ m ∧ high' = high) ∨ (m < 16 ∧ m / 4 ≠ m % 4 ∧ 1 ≤ high (m / 4).toNat ∧ high (m % 4).toNat ≤ 9 ∧ high' = zu (zu high (m / 4).toNat (high (m / 4).toNat - 1)) (m % 4).toNat (high (m % 4).toNat + 1))) : DI (turn + 1) high' (zu tried turn m) := by
  sorry
theorem DI_top {turn : Nat} {high tried : Nat → Int} (h : DI (turn + 1) high tried) : ∃ h0 : Nat → Int, DI turn h0 tried ∧ zR h0 0 10 ∧ (0 ≤ tried turn ∧ tried turn ≤ 17) ∧ ((16 ≤ tried turn ∧ high = h0) ∨ (tried turn < 16 ∧ tried turn / 4 ≠ tried turn % 4 ∧ 1 ≤ h0 (tried turn / 4).toNat ∧ h0 (tried turn % 4).toNat ≤ 9 ∧ high = zu (zu h0 (tried turn / 4).toNat (h0 (tried turn / 4).toNat - 1)) (tried turn % 4).toNat (h0 (tried turn % 4).toNat + 1))) := by
  sorry
theorem z_duel (row : Nat → Int) (h0 : RI row) (x1 x2 x3 : Int) (b1 : 1 ≤ x1 ∧ x1 ≤ 4) (b2 : 0 ≤ x2 ∧ x2 ≤ 1) (b3 : 0 ≤ x3 ∧ x3 ≤ 2) : ∀ (n : Nat) (x4 th lw br va su : Int) (set rest high heaps tried bests firsts : Nat → Int), (-1 ≤ x4 ∧ x4 ≤ x1) → (0 ≤ x4 → DI x4.toNat high tried) → zR high 0 10 → zR heaps 0 30 → zR tried (-1) 17 → zR bests (-1000) 60 → zR firsts (-1) 17 → (1 ≤ n ∧ (0 ≤ x4 → x4 < x1 → zM tried (x4.toNat + 1) + 2 ≤ (n : Int)) ∧ (x4 = x1 → zM tried x4.toNat + 3 ≤ (n : Int))) → zok (f_HM_duel_72 row n x1 x2 x3 x4 th lw br va su set rest high heaps tried bests firsts) (fun o => zR o.2.2.2.2.2.2.2.2.1 0 10 ∧ zR o.2.2.2.2.2.2.2.2.2.1 0 30 ∧ zR o.2.2.2.2.2.2.2.2.2.2.1 (-1) 17 ∧ zR o.2.2.2.2.2.2.2.2.2.2.2.1 (-1000) 60 ∧ zR o.2.2.2.2.2.2.2.2.2.2.2.2 (-1) 17) := by
  sorry
theorem s_HM_duel (x1 x2 x3 : Int) (row : Nat → Int) (th lw br va su : Int) (set rest high heaps tried bests firsts : Nat → Int) (b1 : -2147483648 ≤ x1 ∧ x1 ≤ 2147483647) (b2 : -2147483648 ≤ x2 ∧ x2 ≤ 2147483647) (b3 : -2147483648 ≤ x3 ∧ x3 ≤ 2147483647) (h0 : RI row) (hh : zR high 0 10) (hp : zR heaps 0 30) (ht : zR tried (-1) 17) (hb : zR bests (-1000) 60) (hf : zR firsts (-1) 17) : zok (f_HM_duel x1 x2 x3 row th lw br va su set rest high heaps tried bests firsts) (fun o => zR o.2.2.2.2.2.2.2.2.1 0 10 ∧ zR o.2.2.2.2.2.2.2.2.2.1 0 30 ∧ zR o.2.2.2.2.2.2.2.2.2.2.1 (-1) 17 ∧ zR o.2.2.2.2.2.2.2.2.2.2.2.1 (-1000) 60 ∧ zR o.2.2.2.2.2.2.2.2.2.2.2.2 (-1) 17) := by
  sorry
