/-! A SUM's loop -/
def SOut (T : Nat → Int) (n m : Nat) (qs rs : Nat → Nat) (tk vl W : Nat → Int) (x1 : Int) (o : OX) (b s0 i0 c0 pd : Nat) (O0 op0 ar0 pl0 pa0 : Nat → Int) (v : Int × Int × Int × Int × (Nat → Int)) : Prop :=
    (v.1 = 0 ∧ ∃ i' : Nat, i' ≤ m ∧ v.2.2.1 = (i' : Int) ∧ FL qs o i') ∨
    ∃ (s' i' p' c' : Nat) (O' op' ar' pl' pa' : Nat → Int) (ν : LNu) (l : List Int), v = (1, (s' : Int), (i' : Int), (p' : Int), O') ∧ (i0 < i' ∧ i' ≤ m ∧ p' ≤ 50 ∧ s' + i0 ≤ s0 + i' ∧ c' ≤ 400 ∧ l.length ≤ 2 ∧ pd + l.length ≤ 400) ∧ AR4 l ∧ PIL pl' pd l ∧ LEN ν (l.length + 1) ∧ CSg O0 O' s0 s' (19 - 2 * b) (VL l ν) ∧ RSg op0 ar0 op' ar' c0 c' (19 - 2 * b) ν ∧ AGR pl0 pl' pd ∧ AGR pa0 pa' pd ∧ NOP (tk i') ∧ EX T n W x1 qs rs o 3 i' c' p' (pd + l.length) b op' ar' pl' pa'
def LFG (g : Int) (l : List Int) : Prop := (g = -1 ∧ l = []) ∨ ((g = 3 ∨ g = 4) ∧ l = [g + 17])
def SLoop (T : Nat → Int) (n m : Nat) (qs rs : Nat → Nat) (tk vl W : Nat → Int) (x1 : Int) (o : OX) (b s0 i0 c0 pd : Nat) (O0 op0 ar0 pl0 pa0 : Nat → Int) (f g : Int) (x4 s i p c : Nat) (O op ar pl pa : Nat → Int) : Prop :=
  ∃ (l' l : List Int) (ν : LNu), LFG g l' ∧ ((f = -1 ∧ l = l') ∨ ((f = 5 ∨ f = 6) ∧ l = (f + 17) :: l')) ∧ (x4 + 1 ≤ i ∧ i ≤ m ∧ p ≤ 50 ∧ s + l.length + i0 ≤ s0 + i ∧ i0 ≤ i ∧ c ≤ 400 ∧ pd + l.length ≤ 400) ∧ LEN ν l.length ∧ CSg O0 O s0 s (19 - 2 * b) ν ∧ RSg op0 ar0 op ar c0 c (19 - 2 * b) ν ∧ PIL pl pd l ∧ AGR pl0 pl pd ∧ AGR pa0 pa pd ∧ EX T n W x1 qs rs o 1 i c p (pd + l.length) b op ar pl pa
theorem LFG_l {g : Int} {l : List Int} (h : LFG g l) : AR4 l ∧ l.length ≤ 1 ∧ (l = [] ∨ ∃ a, (a = 20 ∨ a = 21) ∧ l = [a]) := by
  sorry
theorem AR4_c {a : Int} {l : List Int} (ha : 20 ≤ a ∧ a ≤ 23) (h : AR4 l) : AR4 (a :: l) := fun x hx => by
  rcases List.mem_cons.mp hx with e | e
  · rw [e]; exact ha
  · exact h x e
theorem PIL_u {pl : Nat → Int} {pd k : Nat} {x : Int} : ∀ l : List Int, pd + l.length ≤ k → PIL pl pd l → PIL (zu pl k x) pd l := fun l hk h => PIL_agr l (AGR_u hk) h
theorem s_sum35 {T : Nat → Int} {n m : Nat} {qs rs : Nat → Nat} {tk vl W : Nat → Int} {x1 : Int} {o : OX} (hL : LEX T n m qs rs tk vl) (hW : ∀ k : Nat, k < 8 → W k = zcd k) (hx : x1 = 0 ∨ x1 = 1) {fS fP : Int → (Nat → Int) → (Nat → Int) → Int → Int → Int → (Nat → Int) → Option (Int × Int × Int × Int × (Nat → Int))} {kk : Int → Int → Int → Int → Int → Int → Int → (Nat → Int) → Option (Int × Int × Int × Int × (Nat → Int))} {b s0 i0 c0 pd : Nat} {O0 op0 ar0 pl0 pa0 : Nat → Int} {v : Int × Int × Int × Int × (Nat → Int)} (hb : b ≤ 8) (hs0 : s0 ≤ i0 + 23) (hi0 : 1 ≤ i0) (hP0 : PLR pl0 pd) (hc0 : pd = 0 ∨ 24 ≤ pl0 (pd - 1))
    (hK : ∀ (f g : Int) (x4 s i p c : Nat) (O op ar pl pa : Nat → Int), SLoop T n m qs rs tk vl W x1 o b s0 i0 c0 pd O0 op0 ar0 pl0 pa0 f g x4 s i p c O op ar pl pa → kk (b : Int) f g (x4 : Int) (s : Int) (i : Int) (p : Int) O = some v → SOut T n m qs rs tk vl W x1 o b s0 i0 c0 pd O0 op0 ar0 pl0 pa0 v)
    {g : Int} {x4 s i p c : Nat} {O op ar pl pa : Nat → Int} {l' l : List Int} {ν ν2 : LNu}
    (hg : LFG g l') (hl : (l = l' ∧ ν2 = ν) ∨ (∃ a, (a = 22 ∨ a = 23) ∧ l = a :: l' ∧ ν2 = vop a ν))
    (hn : x4 + 1 ≤ i ∧ i ≤ m ∧ p ≤ 50 ∧ s + l'.length + i0 ≤ s0 + i ∧ i0 < i ∧ c ≤ 400 ∧ pd + l.length ≤ 400)
    (hN : LEN ν (l.length + 1)) (hN2 : LEN ν2 (l'.length + 1)) (hC : CSg O0 O s0 s (19 - 2 * b) ν2) (hR : RSg op0 ar0 op ar c0 c (19 - 2 * b) ν) (hPi : PIL pl pd l) (hA1 : AGR pl0 pl pd) (hA2 : AGR pa0 pa pd) (hE : EX T n W x1 qs rs o 3 i c p (pd + l.length) b op ar pl pa)
    (h : f_LawReader_readSum_35 fS fP tk vl kk (b : Int) g (x4 : Int) (s : Int) (i : Int) (p : Int) O = some v) : SOut T n m qs rs tk vl W x1 o b s0 i0 c0 pd O0 op0 ar0 pl0 pa0 v := by
  sorry
theorem s_sum7 {T : Nat → Int} {n m : Nat} {qs rs : Nat → Nat} {tk vl W : Nat → Int} {x1 : Int} {o : OX} (hL : LEX T n m qs rs tk vl) (hW : ∀ k : Nat, k < 8 → W k = zcd k) (hx : x1 = 0 ∨ x1 = 1) {fS fP : Int → (Nat → Int) → (Nat → Int) → Int → Int → Int → (Nat → Int) → Option (Int × Int × Int × Int × (Nat → Int))} (hPP : PPart T n m qs rs tk vl W x1 o fP) {b s0 i0 c0 pd : Nat} {O0 op0 ar0 pl0 pa0 : Nat → Int} {v : Int × Int × Int × Int × (Nat → Int)} (hb : b ≤ 8) (hs0 : s0 ≤ i0 + 23) (hi0 : 1 ≤ i0) (hP0 : PLR pl0 pd) (hc0 : pd = 0 ∨ 24 ≤ pl0 (pd - 1)) : ∀ (N : Nat) (f g : Int) (x4 s i p c : Nat) (O op ar pl pa : Nat → Int), SLoop T n m qs rs tk vl W x1 o b s0 i0 c0 pd O0 op0 ar0 pl0 pa0 f g x4 s i p c O op ar pl pa → f_LawReader_readSum_7 fS fP tk vl N (b : Int) f g (x4 : Int) (s : Int) (i : Int) (p : Int) O = some v → SOut T n m qs rs tk vl W x1 o b s0 i0 c0 pd O0 op0 ar0 pl0 pa0 v := by
  sorry
theorem s_sum {T : Nat → Int} {n m : Nat} {qs rs : Nat → Nat} {tk vl W : Nat → Int} {x1 : Int} {o : OX} (hL : LEX T n m qs rs tk vl) (hW : ∀ k : Nat, k < 8 → W k = zcd k) (hx : x1 = 0 ∨ x1 = 1) {fS fP : Int → (Nat → Int) → (Nat → Int) → Int → Int → Int → (Nat → Int) → Option (Int × Int × Int × Int × (Nat → Int))} (hPP : PPart T n m qs rs tk vl W x1 o fP) : PSum T n m qs rs tk vl W x1 o (fb_LawReader_readSum fS fP) := by
  sorry
theorem s_both {T : Nat → Int} {n m : Nat} {qs rs : Nat → Nat} {tk vl W : Nat → Int} {x1 : Int} {o : OX} (hL : LEX T n m qs rs tk vl) (hW : ∀ k : Nat, k < 8 → W k = zcd k) (hx : x1 = 0 ∨ x1 = 1) : ∀ D : Nat, PSum T n m qs rs tk vl W x1 o (g_LawReader_readSum D).1 ∧ PPart T n m qs rs tk vl W x1 o (g_LawReader_readSum D).2 := by
  sorry
theorem S_sum {T : Nat → Int} {n m : Nat} {qs rs : Nat → Nat} {tk vl W : Nat → Int} {x1 : Int} {o : OX} (hL : LEX T n m qs rs tk vl) (hW : ∀ k : Nat, k < 8 → W k = zcd k) (hx : x1 = 0 ∨ x1 = 1) : PSum T n m qs rs tk vl W x1 o f_LawReader_readSum := fun b s i p O v h1 h2 h3 h4 h5 h => (s_both hL hW hx zdp).1 b s i p O v h1 h2 h3 h4 h5 (by unfold f_LawReader_readSum at h; exact h)

