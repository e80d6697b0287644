/-! THE LEXERS -/
abbrev isL (x : Int) : Prop := 97 ≤ x ∧ x ≤ 122
abbrev isD (x : Int) : Prop := 48 ≤ x ∧ x ≤ 57
def WQ (T : Nat → Int) (f r w : Nat) : Prop := (r : Int) - (f : Int) = zsl w ∧ ∀ j : Nat, (j : Int) < zsl w → T (f + j) = zch w j
theorem zsl_2 {w : Nat} (hw : w < 14) : 2 ≤ zsl w ∧ zsl w ≤ 8 := by
  obtain ⟨o, e, h1, h2⟩ := s_String_length w ⟨Nat.zero_le _, by omega⟩
  exact h2
theorem zch_r {w : Nat} (hw : w < 14) {j : Nat} (hj : (j : Int) < zsl w) : 97 ≤ zch w j ∧ zch w j ≤ 122 := by
  obtain ⟨o, e, h1, h2⟩ := s_String_charAt (j : Int) w ⟨Nat.zero_le _, by omega⟩ (by omega)
  rw [Int.toNat_natCast] at h2
  omega
theorem l_isWord_15 (w : Nat) (hw : w < 14) (T : Nat → Int) (hT : zR T 0 255) (f : Nat) (hf : (f : Int) + zsl w ≤ 400) : ∀ (n : Nat) (x4 : Int), 0 ≤ x4 → x4 ≤ zsl w → (∀ j : Nat, (j : Int) < x4 → T (f + j) = zch w j) → zsl w + 1 - x4 ≤ (n : Int) → zok (f_LawReader_isWord_15 w T n (f : Int) x4) (fun o => (o = 1 ∧ ∀ j : Nat, (j : Int) < zsl w → T (f + j) = zch w j) ∨ (o = 0 ∧ ¬ ∀ j : Nat, (j : Int) < zsl w → T (f + j) = zch w j)) := by
  intro n
  induction n with
  | zero => intro x4 h0 h1 hp hm; exfalso; omega
  | succ n ih =>
    intro x4 h0 h1 hp hm
    show zok (f_LawReader_isWord_15_b w T (f_LawReader_isWord_15 w T n) (f : Int) x4) _
    unfold f_LawReader_isWord_15_b
    refine zk_d1 (s_String_length w ⟨Nat.zero_le _, by omega⟩) (fun v1 p1 => ?_)
    obtain ⟨p1, p2⟩ := p1
    refine zk_ifc (zci_le (by omega) (by omega)) (fun hc => ?_) (fun hc => ?_)
    · exact zk_ret (Or.inl ⟨rfl, fun j hj => hp j (by omega)⟩)
    · refine zk_n ?_
      refine zk_gv (by omega) (by decide) (fun v3 h3 => ?_)
      have r3 := hT ((f : Int) + x4).toNat
      refine zk_d1 (s_String_charAt x4 w ⟨Nat.zero_le _, by omega⟩ (by omega)) (fun v4 p4 => ?_)
      obtain ⟨p4, p5⟩ := p4
      have e : ((f : Int) + x4).toNat = f + x4.toNat := by omega
      rw [e] at h3 r3
      refine zk_ifc (zci_eq (by omega) (by omega)) (fun hq => ?_) (fun hq => ?_)
      · refine zk_n ?_
        refine ih _ (by omega) (by omega) (fun j hj => ?_) (by omega)
        by_cases hj2 : (j : Int) < x4
        · exact hp j hj2
        · have ej : j = x4.toNat := by omega
          rw [ej, ← h3, ← p5]; exact hq
      · refine zk_ret (Or.inr ⟨rfl, fun h => hq ?_⟩)
        rw [h3, p5]
        exact h x4.toNat (by omega)
theorem l_isWord (w : Nat) (hw : w < 14) (T : Nat → Int) (hT : zR T 0 255) (f r : Nat) (hfr : f ≤ r) (hr : r ≤ 400) : zok (f_LawReader_isWord (f : Int) (r : Int) w T) (fun o => (o = 1 ∧ WQ T f r w) ∨ (o = 0 ∧ ¬ WQ T f r w)) := by
  unfold f_LawReader_isWord
  refine zk_n ?_
  refine zk_d1 (s_String_length w ⟨Nat.zero_le _, by omega⟩) (fun v2 p2 => ?_)
  obtain ⟨p2, p3⟩ := p2
  refine zk_ifc (zci_eq (by omega) (by omega)) (fun hc => ?_) (fun hc => ?_)
  · refine zok_mono (l_isWord_15 w hw T hT f (by omega) zfu 0 (by omega) (by omega) (fun j hj => absurd hj (by omega)) (by unfold zfu; omega)) (fun o ho => ?_)
    rcases ho with ⟨h1, h2⟩ | ⟨h1, h2⟩
    · exact Or.inl ⟨h1, by omega, h2⟩
    · exact Or.inr ⟨h1, fun h => h2 h.2⟩
  · exact zk_ret (Or.inr ⟨rfl, fun h => hc (by have := h.1; omega)⟩)
theorem l_wordOf (T : Nat → Int) (hT : zR T 0 255) (f r : Nat) (hfr : f ≤ r) (hr : r ≤ 400) : zok (f_LawReader_wordOf (f : Int) (r : Int) T) (fun o => (∃ w : Nat, w < 8 ∧ o = (w : Int) ∧ WQ T f r w) ∨ (o = -1 ∧ ∀ w : Nat, w < 8 → ¬ WQ T f r w)) := by
  unfold f_LawReader_wordOf
  refine zk_d1 (l_isWord 0 (by decide) T hT f r hfr hr) (fun v0 p0 => ?_)
  have b0 : v0 = 0 ∨ v0 = 1 := by rcases p0 with q | q <;> omega
  refine zk_ifc (zci_eqr (by omega)) (fun c0 => ?_) (fun c0 => ?_)
  rotate_left
  · rcases p0 with q | q
    · exact zk_ret (Or.inl ⟨0, by decide, by decide, q.2⟩)
    · exact absurd q.1 c0
  have n0 : ¬ WQ T f r 0 := by rcases p0 with q | q; exact absurd q.1 (by omega); exact q.2
  refine zk_d1 (l_isWord 1 (by decide) T hT f r hfr hr) (fun v1 p1 => ?_)
  have b1 : v1 = 0 ∨ v1 = 1 := by rcases p1 with q | q <;> omega
  refine zk_ifc (zci_eqr (by omega)) (fun c1 => ?_) (fun c1 => ?_)
  rotate_left
  · rcases p1 with q | q
    · exact zk_ret (Or.inl ⟨1, by decide, by decide, q.2⟩)
    · exact absurd q.1 c1
  have n1 : ¬ WQ T f r 1 := by rcases p1 with q | q; exact absurd q.1 (by omega); exact q.2
  refine zk_d1 (l_isWord 2 (by decide) T hT f r hfr hr) (fun v2 p2 => ?_)
  have b2 : v2 = 0 ∨ v2 = 1 := by rcases p2 with q | q <;> omega
  refine zk_ifc (zci_eqr (by omega)) (fun c2 => ?_) (fun c2 => ?_)
  rotate_left
  · rcases p2 with q | q
    · exact zk_ret (Or.inl ⟨2, by decide, by decide, q.2⟩)
    · exact absurd q.1 c2
  have n2 : ¬ WQ T f r 2 := by rcases p2 with q | q; exact absurd q.1 (by omega); exact q.2
  refine zk_d1 (l_isWord 3 (by decide) T hT f r hfr hr) (fun v3 p3 => ?_)
  have b3 : v3 = 0 ∨ v3 = 1 := by rcases p3 with q | q <;> omega
  refine zk_ifc (zci_eqr (by omega)) (fun c3 => ?_) (fun c3 => ?_)
  rotate_left
  · rcases p3 with q | q
    · exact zk_ret (Or.inl ⟨3, by decide, by decide, q.2⟩)
    · exact absurd q.1 c3
  have n3 : ¬ WQ T f r 3 := by rcases p3 with q | q; exact absurd q.1 (by omega); exact q.2
  refine zk_d1 (l_isWord 4 (by decide) T hT f r hfr hr) (fun v4 p4 => ?_)
  have b4 : v4 = 0 ∨ v4 = 1 := by rcases p4 with q | q <;> omega
  refine zk_ifc (zci_eqr (by omega)) (fun c4 => ?_) (fun c4 => ?_)
  rotate_left
  · rcases p4 with q | q
    · exact zk_ret (Or.inl ⟨4, by decide, by decide, q.2⟩)
    · exact absurd q.1 c4
  have n4 : ¬ WQ T f r 4 := by rcases p4 with q | q; exact absurd q.1 (by omega); exact q.2
  refine zk_d1 (l_isWord 5 (by decide) T hT f r hfr hr) (fun v5 p5 => ?_)
  have b5 : v5 = 0 ∨ v5 = 1 := by rcases p5 with q | q <;> omega
  refine zk_ifc (zci_eqr (by omega)) (fun c5 => ?_) (fun c5 => ?_)
  rotate_left
  · rcases p5 with q | q
    · exact zk_ret (Or.inl ⟨5, by decide, by decide, q.2⟩)
    · exact absurd q.1 c5
  have n5 : ¬ WQ T f r 5 := by rcases p5 with q | q; exact absurd q.1 (by omega); exact q.2
  refine zk_d1 (l_isWord 6 (by decide) T hT f r hfr hr) (fun v6 p6 => ?_)
  have b6 : v6 = 0 ∨ v6 = 1 := by rcases p6 with q | q <;> omega
  refine zk_ifc (zci_eqr (by omega)) (fun c6 => ?_) (fun c6 => ?_)
  rotate_left
  · rcases p6 with q | q
    · exact zk_ret (Or.inl ⟨6, by decide, by decide, q.2⟩)
    · exact absurd q.1 c6
  have n6 : ¬ WQ T f r 6 := by rcases p6 with q | q; exact absurd q.1 (by omega); exact q.2
  refine zk_d1 (l_isWord 7 (by decide) T hT f r hfr hr) (fun v7 p7 => ?_)
  have b7 : v7 = 0 ∨ v7 = 1 := by rcases p7 with q | q <;> omega
  refine zk_ifc (zci_eqr (by omega)) (fun c7 => ?_) (fun c7 => ?_)
  rotate_left
  · rcases p7 with q | q
    · exact zk_ret (Or.inl ⟨7, by decide, by decide, q.2⟩)
    · exact absurd q.1 c7
  have n7 : ¬ WQ T f r 7 := by rcases p7 with q | q; exact absurd q.1 (by omega); exact q.2
  refine zk_ret (Or.inr ⟨rfl, fun w hw => ?_⟩)
  have hw2 : w = 0 ∨ w = 1 ∨ w = 2 ∨ w = 3 ∨ w = 4 ∨ w = 5 ∨ w = 6 ∨ w = 7 := by omega
  rcases hw2 with h | h | h | h | h | h | h | h <;> subst h <;> assumption
theorem l_ruleWordOf (T : Nat → Int) (hT : zR T 0 255) (f r : Nat) (hfr : f ≤ r) (hr : r ≤ 400) : zok (f_LawReader_ruleWordOf (f : Int) (r : Int) T) (fun o => (∃ w : Nat, (8 ≤ w ∧ w < 14) ∧ o = 252 + (w : Int) ∧ WQ T f r w) ∨ (o = 256 ∧ ∀ w : Nat, (8 ≤ w ∧ w < 14) → ¬ WQ T f r w)) := by
  unfold f_LawReader_ruleWordOf
  refine zk_d1 (l_isWord 8 (by decide) T hT f r hfr hr) (fun v8 p8 => ?_)
  have b8 : v8 = 0 ∨ v8 = 1 := by rcases p8 with q | q <;> omega
  refine zk_ifc (zci_eqr (by omega)) (fun c8 => ?_) (fun c8 => ?_)
  rotate_left
  · rcases p8 with q | q
    · exact zk_ret (Or.inl ⟨8, by decide, by decide, q.2⟩)
    · exact absurd q.1 c8
  have n8 : ¬ WQ T f r 8 := by rcases p8 with q | q; exact absurd q.1 (by omega); exact q.2
  refine zk_d1 (l_isWord 9 (by decide) T hT f r hfr hr) (fun v9 p9 => ?_)
  have b9 : v9 = 0 ∨ v9 = 1 := by rcases p9 with q | q <;> omega
  refine zk_ifc (zci_eqr (by omega)) (fun c9 => ?_) (fun c9 => ?_)
  rotate_left
  · rcases p9 with q | q
    · exact zk_ret (Or.inl ⟨9, by decide, by decide, q.2⟩)
    · exact absurd q.1 c9
  have n9 : ¬ WQ T f r 9 := by rcases p9 with q | q; exact absurd q.1 (by omega); exact q.2
  refine zk_d1 (l_isWord 10 (by decide) T hT f r hfr hr) (fun v10 p10 => ?_)
  have b10 : v10 = 0 ∨ v10 = 1 := by rcases p10 with q | q <;> omega
  refine zk_ifc (zci_eqr (by omega)) (fun c10 => ?_) (fun c10 => ?_)
  rotate_left
  · rcases p10 with q | q
    · exact zk_ret (Or.inl ⟨10, by decide, by decide, q.2⟩)
    · exact absurd q.1 c10
  have n10 : ¬ WQ T f r 10 := by rcases p10 with q | q; exact absurd q.1 (by omega); exact q.2
  refine zk_d1 (l_isWord 11 (by decide) T hT f r hfr hr) (fun v11 p11 => ?_)
  have b11 : v11 = 0 ∨ v11 = 1 := by rcases p11 with q | q <;> omega
  refine zk_ifc (zci_eqr (by omega)) (fun c11 => ?_) (fun c11 => ?_)
  rotate_left
  · rcases p11 with q | q
    · exact zk_ret (Or.inl ⟨11, by decide, by decide, q.2⟩)
    · exact absurd q.1 c11
  have n11 : ¬ WQ T f r 11 := by rcases p11 with q | q; exact absurd q.1 (by omega); exact q.2
  refine zk_d1 (l_isWord 12 (by decide) T hT f r hfr hr) (fun v12 p12 => ?_)
  have b12 : v12 = 0 ∨ v12 = 1 := by rcases p12 with q | q <;> omega
  refine zk_ifc (zci_eqr (by omega)) (fun c12 => ?_) (fun c12 => ?_)
  rotate_left
  · rcases p12 with q | q
    · exact zk_ret (Or.inl ⟨12, by decide, by decide, q.2⟩)
    · exact absurd q.1 c12
  have n12 : ¬ WQ T f r 12 := by rcases p12 with q | q; exact absurd q.1 (by omega); exact q.2
  refine zk_d1 (l_isWord 13 (by decide) T hT f r hfr hr) (fun v13 p13 => ?_)
  have b13 : v13 = 0 ∨ v13 = 1 := by rcases p13 with q | q <;> omega
  refine zk_ifc (zci_eqr (by omega)) (fun c13 => ?_) (fun c13 => ?_)
  rotate_left
  · rcases p13 with q | q
    · exact zk_ret (Or.inl ⟨13, by decide, by decide, q.2⟩)
    · exact absurd q.1 c13
  have n13 : ¬ WQ T f r 13 := by rcases p13 with q | q; exact absurd q.1 (by omega); exact q.2
  refine zk_ret (Or.inr ⟨rfl, fun w hw => ?_⟩)
  have hw2 : w = 8 ∨ w = 9 ∨ w = 10 ∨ w = 11 ∨ w = 12 ∨ w = 13 := by omega
  rcases hw2 with h | h | h | h | h | h <;> subst h <;> assumption
/-- the number that digits spell -/
def DV (T : Nat → Int) (f : Nat) : Nat → Int
  | 0 => 0
  | k + 1 => DV T f k * 10 + T (f + k) - 48
theorem DV_0 {T : Nat → Int} {f : Nat} : ∀ k : Nat, (∀ j, j < k → isD (T (f + j))) → 0 ≤ DV T f k := by
  intro k
  induction k with
  | zero => intro _; exact Int.le_refl 0
  | succ k ih =>
    intro h
    have h1 := ih (fun j hj => h j (by omega))
    have h2 := h k (by omega)
    show 0 ≤ DV T f k * 10 + T (f + k) - 48
    omega
theorem DV_mono {T : Nat → Int} {f : Nat} : ∀ (k d : Nat), (∀ j, j < k + d → isD (T (f + j))) → DV T f k ≤ DV T f (k + d) := by
  intro k d
  induction d with
  | zero => intro _; exact Int.le_refl _
  | succ d ih =>
    intro h
    have h1 := ih (fun j hj => h j (by omega))
    have h0 := DV_0 (T := T) (f := f) (k + d) (fun j hj => h j (by omega))
    have h2 := h (k + d) (by omega)
    show DV T f k ≤ DV T f (k + d) * 10 + T (f + (k + d)) - 48
    omega
theorem l_numberOf_5 (T : Nat → Int) (hT : zR T 0 255) (f r : Nat) (hr : r ≤ 400) (hD : ∀ j, f ≤ j → j < r → isD (T j)) : ∀ (n : Nat) (k : Nat) (x3 x4 : Int), f + k ≤ r → x4 = ((f + k : Nat) : Int) → x3 = DV T f k → x3 ≤ 1000 → (r : Int) + 1 - x4 ≤ (n : Int) → zok (f_LawReader_numberOf_5 T n (r : Int) x3 x4) (fun o => (DV T f (r - f) ≤ 1000 ∧ o = DV T f (r - f)) ∨ (1000 < DV T f (r - f) ∧ o = -1)) := by
  intro n
  induction n with
  | zero => intro k x3 x4 h0 h1 h2 h3 hm; exfalso; omega
  | succ n ih =>
    intro k x3 x4 h0 h1 h2 h3 hm
    have hd : ∀ j, j < r - f → isD (T (f + j)) := fun j hj => hD _ (by omega) (by omega)
    have g0 := DV_0 (T := T) (f := f) k (fun j hj => hd j (by omega))
    show zok (f_LawReader_numberOf_5_b T (f_LawReader_numberOf_5 T n) (r : Int) x3 x4) _
    unfold f_LawReader_numberOf_5_b
    refine zk_ifc (zci_le (by omega) (by omega)) (fun hc => ?_) (fun hc => ?_)
    · have e : k = r - f := by omega
      rw [← e]
      exact zk_ret (Or.inl ⟨by omega, h2⟩)
    · refine zk_n ?_
      refine zk_gv (by omega) (by decide) (fun v2 p2 => ?_)
      have e : x4.toNat = f + k := by omega
      rw [e] at p2
      have r2 := hd k (by omega)
      refine zk_n ?_
      refine zk_n ?_
      have g1 : DV T f (k + 1) = x3 * 10 + v2 - 48 := by rw [h2, p2]; rfl
      refine zk_ifc (zci_le (by omega) (by omega)) (fun hq => ?_) (fun hq => ?_)
      · refine zk_n ?_
        exact ih (k + 1) _ _ (by omega) (by omega) (by omega) (by omega) (by omega)
      · have g2 := DV_mono (T := T) (f := f) (k + 1) (r - f - (k + 1)) (fun j hj => hd j (by omega))
        rw [show k + 1 + (r - f - (k + 1)) = r - f from by omega] at g2
        exact zk_ret (Or.inr ⟨by omega, rfl⟩)
theorem l_numberOf (T : Nat → Int) (hT : zR T 0 255) (f r : Nat) (hfr : f ≤ r) (hr : r ≤ 400) (hD : ∀ j, f ≤ j → j < r → isD (T j)) : zok (f_LawReader_numberOf (f : Int) (r : Int) T) (fun o => (DV T f (r - f) ≤ 1000 ∧ o = DV T f (r - f)) ∨ (1000 < DV T f (r - f) ∧ o = -1)) := by
  unfold f_LawReader_numberOf
  exact l_numberOf_5 T hT f r hr hD zfu 0 0 _ (by omega) (by omega) rfl (by omega) (by unfold zfu; omega)
theorem zi_and255 {x : Int} (h : 0 ≤ x ∧ x ≤ 255) : zi_and x 255 = x := by
  have key : ∀ i : Fin 256, zi_and (i.val : Int) 255 = (i.val : Int) := by decide +kernel
  have h1 := key ⟨x.toNat, by omega⟩
  have e1 : ((x.toNat : Nat) : Int) = x := by omega
  dsimp only at h1
  rw [e1] at h1
  exact h1
/-- a token's end -/
def TEND (T : Nat → Int) (n q r : Nat) : Prop := q < r ∧ r ≤ n ∧ ((isL (T q) ∧ (∀ j, q ≤ j → j < r → isL (T j)) ∧ (r = n ∨ ¬ isL (T r))) ∨ (isD (T q) ∧ (∀ j, q ≤ j → j < r → isD (T j)) ∧ (r = n ∨ ¬ isD (T r))) ∨ (¬ isL (T q) ∧ ¬ isD (T q) ∧ r = q + 1))
theorem TEND_u {T : Nat → Int} {n q r r' : Nat} (h : TEND T n q r) (g : TEND T n q r') : r = r' := by
  obtain ⟨h1, h2, h3⟩ := h
  obtain ⟨g1, g2, g3⟩ := g
  have key : ∀ (P : Int → Prop) (a b : Nat), (∀ j, q ≤ j → j < a → P (T j)) → (b = n ∨ ¬ P (T b)) → q < b → a ≤ n → a ≤ b := by
    intro P a b k1 k2 k3 k4
    rcases Nat.lt_or_ge b a with hlt | hge
    · rcases k2 with k2 | k2
      · omega
      · exact absurd (k1 b (by omega) hlt) k2
    · exact hge
  rcases h3 with ⟨a1, a2, a3⟩ | ⟨a1, a2, a3⟩ | ⟨a1, a2, a3⟩ <;> rcases g3 with ⟨b1, b2, b3⟩ | ⟨b1, b2, b3⟩ | ⟨b1, b2, b3⟩
  · exact Nat.le_antisymm (key isL _ _ a2 b3 g1 h2) (key isL _ _ b2 a3 h1 g2)
  · exfalso; unfold isL isD at *; omega
  · exact absurd a1 b1
  · exfalso; unfold isL isD at *; omega
  · exact Nat.le_antisymm (key isD _ _ a2 b3 g1 h2) (key isD _ _ b2 a3 h1 g2)
  · exact absurd a1 b2
  · exact absurd b1 a1
  · exact absurd b1 a2
  · omega
/-- the class's token -/
def CT (T : Nat → Int) (q r : Nat) (c v : Int) : Prop :=
  (isL (T q) ∧ ((∃ w : Nat, w < 8 ∧ WQ T q r w ∧ c = 259 ∧ v = (w : Int)) ∨ (∃ w : Nat, (8 ≤ w ∧ w < 14) ∧ WQ T q r w ∧ c = 252 + (w : Int)) ∨ ((∀ w : Nat, w < 14 → ¬ WQ T q r w) ∧ c = 256))) ∨
  (isD (T q) ∧ ((DV T q (r - q) ≤ 1000 ∧ c = 258 ∧ v = DV T q (r - q)) ∨ (1000 < DV T q (r - q) ∧ c = 256))) ∨ (¬ isL (T q) ∧ ¬ isD (T q) ∧ c = T q)
theorem l_note (T : Nat → Int) (hT : zR T 0 255) (n q r k : Nat) (hn : n ≤ 400) (hk : k ≤ 400) (h : TEND T n q r) (tk vl : Nat → Int) : zok (f_LawReader_note (q : Int) (r : Int) (k : Int) T tk vl) (fun o => CT T q r (o.1 k) (o.2 k) ∧ ∀ j : Nat, j ≠ k → o.1 j = tk j ∧ o.2 j = vl j) := by
  obtain ⟨h1, h2, h3⟩ := h
  unfold f_LawReader_note
  refine zk_sv (by omega) (by decide) (fun a1 e1 => ?_)
  rw [Int.toNat_natCast] at e1
  refine zk_gv (by omega) (by decide) (fun v2 e2 => ?_)
  rw [Int.toNat_natCast] at e2
  have r2 := hT q
  refine zk_d1 (s_LawReader_isDigit _ (by omega)) (fun v3 p3 => ?_)
  refine zk_ifc (zci_eqr (by omega)) (fun hc => ?_) (fun hc => ?_)
  · refine zk_gv (by omega) (by decide) (fun v4 e4 => ?_)
    rw [Int.toNat_natCast] at e4
    refine zk_d1 (s_LawReader_isLetter _ (by omega)) (fun v5 p5 => ?_)
    refine zk_ifc (zci_eqr (by omega)) (fun hc2 => ?_) (fun hc2 => ?_)
    · refine zk_gv (by omega) (by decide) (fun v6 e6 => ?_)
      rw [Int.toNat_natCast] at e6
      refine zk_nE (fun v7 e7 => ?_)
      rw [zi_and255 (by omega)] at e7
      refine zk_sv (by omega) (by decide) (fun a8 e8 => ?_)
      rw [Int.toNat_natCast] at e8
      refine zk_ret ⟨Or.inr (Or.inr ⟨by omega, by omega, ?_⟩), fun j hj => ⟨?_, ?_⟩⟩
      · dsimp only; rw [e8, zu_eq]; omega
      · dsimp only; rw [e8, zu_ne _ _ hj]
      · dsimp only; rw [e1, zu_ne _ _ hj]
    · have hL : isL (T q) := by omega
      refine zk_d1 (l_wordOf T hT q r (by omega) (by omega)) (fun v9 p9 => ?_)
      refine zk_sv (by omega) (by decide) (fun a10 e10 => ?_)
      rw [Int.toNat_natCast] at e10
      refine zk_gv (by omega) (by decide) (fun v11 e11 => ?_)
      rw [Int.toNat_natCast, e10, zu_eq] at e11
      subst e11
      have r9 : -1 ≤ v11 ∧ v11 ≤ 7 := by
        rcases p9 with ⟨w, w1, w2, w3⟩ | ⟨w1, w2⟩ <;> omega
      refine zk_ifc (zci_ne (by omega) (by omega)) (fun hc3 => ?_) (fun hc3 => ?_)
      · refine zk_sv (by omega) (by decide) (fun a12 e12 => ?_)
        rw [Int.toNat_natCast] at e12
        rcases p9 with ⟨w, w1, w2, w3⟩ | ⟨w1, w2⟩
        · refine zk_ret ⟨Or.inl ⟨hL, Or.inl ⟨w, w1, w3, ?_, ?_⟩⟩, fun j hj => ⟨?_, ?_⟩⟩
          · dsimp only; rw [e12, zu_eq]
          · dsimp only; rw [e10, zu_eq]; exact w2
          · dsimp only; rw [e12, zu_ne _ _ hj]
          · dsimp only; rw [e10, zu_ne _ _ hj, e1, zu_ne _ _ hj]
        · exact absurd w1 hc3
      · refine zk_d1 (l_ruleWordOf T hT q r (by omega) (by omega)) (fun v13 p13 => ?_)
        refine zk_sv (by omega) (by decide) (fun a14 e14 => ?_)
        rw [Int.toNat_natCast] at e14
        have p8 : ∀ w : Nat, w < 8 → ¬ WQ T q r w := by
          rcases p9 with ⟨w, w1, w2, w3⟩ | ⟨w1, w2⟩
          · omega
          · exact w2
        rcases p13 with ⟨w, w1, w2, w3⟩ | ⟨w1, w2⟩
        · refine zk_ret ⟨Or.inl ⟨hL, Or.inr (Or.inl ⟨w, w1, w3, ?_⟩)⟩, fun j hj => ⟨?_, ?_⟩⟩
          · dsimp only; rw [e14, zu_eq]; exact w2
          · dsimp only; rw [e14, zu_ne _ _ hj]
          · dsimp only; rw [e10, zu_ne _ _ hj, e1, zu_ne _ _ hj]
        · refine zk_ret ⟨Or.inl ⟨hL, Or.inr (Or.inr ⟨fun w hw => ?_, ?_⟩)⟩, fun j hj => ⟨?_, ?_⟩⟩
          · rcases Nat.lt_or_ge w 8 with h8 | h8
            · exact p8 w h8
            · exact w2 w ⟨h8, hw⟩
          · dsimp only; rw [e14, zu_eq]; exact w1
          · dsimp only; rw [e14, zu_ne _ _ hj]
          · dsimp only; rw [e10, zu_ne _ _ hj, e1, zu_ne _ _ hj]
  · have hD : isD (T q) := by omega
    have hDs : ∀ j, q ≤ j → j < r → isD (T j) := by
      rcases h3 with ⟨a1', a2', a3'⟩ | ⟨a1', a2', a3'⟩ | ⟨a1', a2', a3'⟩
      · exfalso; omega
      · exact a2'
      · exact absurd hD a2'
    have g0 := DV_0 (T := T) (f := q) (r - q) (fun j hj => hDs _ (by omega) (by omega))
    refine zk_d1 (l_numberOf T hT q r (by omega) (by omega) hDs) (fun v15 p15 => ?_)
    refine zk_sv (by omega) (by decide) (fun a16 e16 => ?_)
    rw [Int.toNat_natCast] at e16
    refine zk_gv (by omega) (by decide) (fun v17 e17 => ?_)
    rw [Int.toNat_natCast, e16, zu_eq] at e17
    subst e17
    refine zk_ifc (zci_ne (by omega) (by omega)) (fun hc3 => ?_) (fun hc3 => ?_)
    · refine zk_sv (by omega) (by decide) (fun a18 e18 => ?_)
      rw [Int.toNat_natCast] at e18
      refine zk_ret ⟨Or.inr (Or.inl ⟨hD, Or.inl ⟨by omega, ?_, ?_⟩⟩), fun j hj => ⟨?_, ?_⟩⟩
      · dsimp only; rw [e18, zu_eq]
      · dsimp only; rw [e16, zu_eq]; omega
      · dsimp only; rw [e18, zu_ne _ _ hj]
      · dsimp only; rw [e16, zu_ne _ _ hj, e1, zu_ne _ _ hj]
    · refine zk_sv (by omega) (by decide) (fun a19 e19 => ?_)
      rw [Int.toNat_natCast] at e19
      refine zk_ret ⟨Or.inr (Or.inl ⟨hD, Or.inr ⟨by omega, ?_⟩⟩), fun j hj => ⟨?_, ?_⟩⟩
      · dsimp only; rw [e19, zu_eq]
      · dsimp only; rw [e19, zu_ne _ _ hj]
      · dsimp only; rw [e16, zu_ne _ _ hj, e1, zu_ne _ _ hj]
/-- what lies read of the class's tokens: k tokens, the last one's end is x4 -/
def SP (T : Nat → Int) (n : Nat) (tk pl vl : Nat → Int) (k : Nat) (x4 : Nat) : Prop :=
  ∃ qs rs : Nat → Nat, (∀ i, i < k → pl i = (qs i : Int) ∧ T (qs i) ≠ 32 ∧ TEND T n (qs i) (rs i) ∧ CT T (qs i) (rs i) (tk i) (vl i)) ∧
    (∀ i, i < k → ∀ j, (if i = 0 then 0 else rs (i - 1)) ≤ j → j < qs i → T j = 32) ∧ (∀ i, i < k → (if i = 0 then 0 else rs (i - 1)) ≤ qs i) ∧ x4 = (if k = 0 then 0 else rs (k - 1)) ∧ k ≤ x4
theorem SP_next {T : Nat → Int} {n : Nat} {tk pl vl tk' pl' vl' : Nat → Int} {k x4 q r : Nat} (h : SP T n tk pl vl k x4) (hb : ∀ j, x4 ≤ j → j < q → T j = 32) (hq : x4 ≤ q) (hn : T q ≠ 32) (he : TEND T n q r) (hc : CT T q r (tk' k) (vl' k)) (hp : pl' k = (q : Int)) (hk : ∀ j : Nat, j < k → tk' j = tk j ∧ vl' j = vl j ∧ pl' j = pl j) : SP T n tk' pl' vl' (k + 1) r := by
  obtain ⟨qs, rs, h1, h2, h3, h4, h5⟩ := h
  refine ⟨fun i => if i = k then q else qs i, fun i => if i = k then r else rs i, ?_, ?_, ?_, ?_, ?_⟩
  · intro i hi
    by_cases e : i = k
    · subst e; simp only [if_pos rfl]; exact ⟨hp, hn, he, hc⟩
    · simp only [if_neg e]
      have g := hk i (by omega)
      rw [g.1, g.2.1, g.2.2]
      exact h1 i (by omega)
  · intro i hi j
    by_cases e : i = k
    · subst e
      simp only [if_pos rfl]
      intro j1 j2
      refine hb j ?_ j2
      by_cases e0 : i = 0
      · rw [if_pos e0] at h4; omega
      · rw [if_neg e0] at h4 j1
        rw [if_neg (by omega)] at j1
        omega
    · simp only [if_neg e]
      by_cases e0 : i = 0
      · rw [if_pos e0]
        have := h2 i (by omega) j
        rw [if_pos e0] at this
        exact this
      · rw [if_neg e0, if_neg (show ¬ i - 1 = k by omega)]
        have := h2 i (by omega) j
        rw [if_neg e0] at this
        exact this
  · intro i hi
    by_cases e : i = k
    · subst e
      simp only [eq_self_iff_true, if_true]
      by_cases e0 : i = 0
      · rw [if_pos e0]; omega
      · rw [if_neg e0, if_neg (show ¬ i - 1 = i by omega)]
        rw [if_neg e0] at h4
        omega
    · simp only [if_neg e]
      have := h3 i (by omega)
      by_cases e0 : i = 0
      · rw [if_pos e0]; omega
      · rw [if_neg e0, if_neg (show ¬ i - 1 = k by omega)]
        rw [if_neg e0] at this
        exact this
  · rw [if_neg (Nat.succ_ne_zero k)]
    show r = if k + 1 - 1 = k then r else rs (k + 1 - 1)
    rw [if_pos (Nat.add_sub_cancel k 1)]
  · have := he.1; omega
theorem l_split_39 (T : Nat → Int) (hT : zR T 0 255) (n q k : Nat) (hn : n ≤ 400) (hk : k ≤ 400) (hq : q < n) (k8 : Int → Int → Int → Int → (Nat → Int) → (Nat → Int) → (Nat → Int) → Option ((Nat → Int) × (Nat → Int) × (Nat → Int))) (Q : (Nat → Int) × (Nat → Int) × (Nat → Int) → Prop) (tk pl vl : Nat → Int)
    (hk8 : ∀ (r : Nat) (tk' pl' vl' : Nat → Int), TEND T n q r → CT T q r (tk' k) (vl' k) → pl' k = (q : Int) → (∀ j : Nat, j < k → tk' j = tk j ∧ vl' j = vl j ∧ pl' j = pl j) → zok (k8 (n : Int) ((k + 1 : Nat) : Int) (r : Int) ((q + 1 : Nat) : Int) tk' pl' vl') Q) :
    ∀ (N : Nat) (r : Nat), q < r → r ≤ n → (isL (T q) → ∀ j, q ≤ j → j < r → isL (T j)) → (isD (T q) → ∀ j, q ≤ j → j < r → isD (T j)) → (¬ isL (T q) → ¬ isD (T q) → r = q + 1) → (n : Int) + 1 - (r : Int) ≤ (N : Int) → zok (f_LawReader_split_39 T k8 N (n : Int) (k : Int) (r : Int) (q : Int) tk pl vl) Q := by
  intro N
  induction N with
  | zero => intro r h1 h2 h3 h4 h5 hm; exfalso; omega
  | succ N ih =>
    intro r h1 h2 h3 h4 h5 hm
    have stop : ∀ (_ : TEND T n q r), zok (f_LawReader_split_97 T k8 (n : Int) (k : Int) (r : Int) (q : Int) tk pl vl) Q := by
      intro he
      unfold f_LawReader_split_97
      refine zk_sv (by omega) (by decide) (fun a1 e1 => ?_)
      rw [Int.toNat_natCast] at e1
      refine zk_d2 (l_note T hT n q r k hn hk he tk vl) (fun a2 a3 p => ?_)
      dsimp only at p
      refine zk_n ?_
      unfold f_LawReader_split_118
      refine zk_n ?_
      refine hk8 r a2 a1 a3 he p.1 (by rw [e1, zu_eq]) (fun j hj => ⟨(p.2 j (by omega)).1, (p.2 j (by omega)).2, by rw [e1, zu_ne _ _ (by omega)]⟩)
    have more : (isL (T q) ∧ r < n ∧ isL (T r) ∨ isD (T q) ∧ r < n ∧ isD (T r)) → zok (f_LawReader_split_91 T k8 (f_LawReader_split_39 T k8 N) (n : Int) (k : Int) (r : Int) (q : Int) tk pl vl) Q := by
      intro hm2
      unfold f_LawReader_split_91
      refine zk_n ?_
      refine ih (r + 1) (by omega) (by omega) (fun hl j j1 j2 => ?_) (fun hd j j1 j2 => ?_) (fun hl hd => ?_) (by omega)
      · by_cases e : j = r
        · subst e
          rcases hm2 with g | g
          · exact g.2.2
          · exfalso; unfold isL isD at *; omega
        · exact h3 hl j j1 (by omega)
      · by_cases e : j = r
        · subst e
          rcases hm2 with g | g
          · exfalso; unfold isL isD at *; omega
          · exact g.2.2
        · exact h4 hd j j1 (by omega)
      · rcases hm2 with g | g
        · exact absurd g.1 hl
        · exact absurd g.1 hd
    have r1 := hT q
    have r2 := hT r
    have two : (r = n ∨ ¬ isL (T q) ∨ ¬ isL (T r)) → zok (f_LawReader_split_65 T k8 (f_LawReader_split_39 T k8 N) (n : Int) (k : Int) (r : Int) (q : Int) tk pl vl) Q := by
      intro hs
      unfold f_LawReader_split_65
      have fin : (r = n ∨ ¬ isD (T q) ∨ ¬ isD (T r)) → TEND T n q r := by
        intro hs2
        refine ⟨h1, h2, ?_⟩
        rcases Classical.em (isL (T q)) with hl | hl
        · exact Or.inl ⟨hl, h3 hl, by rcases hs with g | g | g; exact Or.inl g; exact absurd hl g; exact Or.inr g⟩
        · rcases Classical.em (isD (T q)) with hd | hd
          · exact Or.inr (Or.inl ⟨hd, h4 hd, by rcases hs2 with g | g | g; exact Or.inl g; exact absurd hd g; exact Or.inr g⟩)
          · exact Or.inr (Or.inr ⟨hl, hd, h5 hl hd⟩)
      refine zk_ifc (zci_le (by omega) (by omega)) (fun hc => ?_) (fun hc => ?_)
      · exact stop (fin (Or.inl (by omega)))
      · refine zk_gv (by omega) (by decide) (fun v1 e1 => ?_)
        rw [Int.toNat_natCast] at e1
        refine zk_d1 (s_LawReader_isDigit _ (by omega)) (fun v2 p2 => ?_)
        refine zk_ifc (zci_eqr (by omega)) (fun hc2 => ?_) (fun hc2 => ?_)
        · exact stop (fin (Or.inr (Or.inl (by unfold isD; omega))))
        · refine zk_gv (by omega) (by decide) (fun v3 e3 => ?_)
          rw [Int.toNat_natCast] at e3
          refine zk_d1 (s_LawReader_isDigit _ (by omega)) (fun v4 p4 => ?_)
          refine zk_ifc (zci_eqr (by omega)) (fun hc3 => ?_) (fun hc3 => ?_)
          · exact stop (fin (Or.inr (Or.inr (by unfold isD; omega))))
          · exact more (Or.inr ⟨by unfold isD; omega, by omega, by unfold isD; omega⟩)
    show zok (f_LawReader_split_39_b T k8 (f_LawReader_split_39 T k8 N) (n : Int) (k : Int) (r : Int) (q : Int) tk pl vl) _
    unfold f_LawReader_split_39_b
    refine zk_ifc (zci_le (by omega) (by omega)) (fun hc => ?_) (fun hc => ?_)
    · exact two (Or.inl (by omega))
    · refine zk_gv (by omega) (by decide) (fun v1 e1 => ?_)
      rw [Int.toNat_natCast] at e1
      refine zk_d1 (s_LawReader_isLetter _ (by omega)) (fun v2 p2 => ?_)
      refine zk_ifc (zci_eqr (by omega)) (fun hc2 => ?_) (fun hc2 => ?_)
      · exact two (Or.inr (Or.inl (by unfold isL; omega)))
      · refine zk_gv (by omega) (by decide) (fun v3 e3 => ?_)
        rw [Int.toNat_natCast] at e3
        refine zk_d1 (s_LawReader_isLetter _ (by omega)) (fun v4 p4 => ?_)
        refine zk_ifc (zci_ner (by omega)) (fun hc3 => ?_) (fun hc3 => ?_)
        · exact more (Or.inl ⟨by unfold isL; omega, by omega, by unfold isL; omega⟩)
        · exact two (Or.inr (Or.inr (by unfold isL; omega)))
theorem l_split_8 (T : Nat → Int) (hT : zR T 0 255) (n : Nat) (hn : n ≤ 400) : ∀ (N : Nat) (k x4 x5 : Nat) (tk pl vl : Nat → Int), SP T n tk pl vl k x4 → x4 ≤ n → x5 ≤ n → (∀ j, x4 ≤ j → j < x5 → T j = 32) → (n : Int) + 1 - (x5 : Int) ≤ (N : Int) → zok (f_LawReader_split_8 T N (n : Int) (k : Int) (x4 : Int) (x5 : Int) tk pl vl) (fun o => ∃ m z : Nat, SP T n o.1 o.2.1 o.2.2 m z ∧ z ≤ n ∧ (∀ j, z ≤ j → j < n → T j = 32) ∧ o.1 m = 257 ∧ o.2.1 m = (n : Int)) := by
  intro N
  induction N with
  | zero => intro k x4 x5 tk pl vl h1 h2 h3 h4 hm; exfalso; omega
  | succ N ih =>
    intro k x4 x5 tk pl vl h1 h2 h3 h4 hm
    have hk : k ≤ x4 := by obtain ⟨_, _, _, _, _, _, g⟩ := h1; exact g
    show zok (f_LawReader_split_8_b T (f_LawReader_split_8 T N) (n : Int) (k : Int) (x4 : Int) (x5 : Int) tk pl vl) _
    unfold f_LawReader_split_8_b
    refine zk_ifc (zci_le (by omega) (by omega)) (fun hc => ?_) (fun hc => ?_)
    · refine zk_sv (by omega) (by decide) (fun a1 e1 => ?_)
      refine zk_sv (by omega) (by decide) (fun a2 e2 => ?_)
      rw [Int.toNat_natCast] at e1 e2
      refine zk_ret ⟨k, x4, ?_, h2, fun j j1 j2 => h4 j j1 (by omega), ?_, ?_⟩
      · obtain ⟨qs, rs, g1, g2⟩ := h1
        refine ⟨qs, rs, fun i hi => ?_, g2⟩
        dsimp only
        rw [e1, e2, zu_ne _ _ (by omega), zu_ne _ _ (by omega)]
        exact g1 i hi
      · dsimp only; rw [e2, zu_eq]
      · dsimp only; rw [e1, zu_eq]
    · have go : ∀ (_ : x5 < x4 ∨ T x5 = 32), zok (f_LawReader_split_118 T (f_LawReader_split_8 T N) (n : Int) (k : Int) (x4 : Int) (x5 : Int) tk pl vl) (fun o => ∃ m z : Nat, SP T n o.1 o.2.1 o.2.2 m z ∧ z ≤ n ∧ (∀ j, z ≤ j → j < n → T j = 32) ∧ o.1 m = 257 ∧ o.2.1 m = (n : Int)) := by
        intro hx
        unfold f_LawReader_split_118
        refine zk_n ?_
        refine ih k x4 (x5 + 1) tk pl vl h1 h2 (by omega) (fun j j1 j2 => ?_) (by omega)
        by_cases e : j = x5
        · subst e
          rcases hx with g | g
          · omega
          · exact g
        · exact h4 j j1 (by omega)
      refine zk_ifc (zci_lt (by omega) (by omega)) (fun hc2 => ?_) (fun hc2 => ?_)
      · exact go (Or.inl (by omega))
      · refine zk_gv (by omega) (by decide) (fun v3 e3 => ?_)
        rw [Int.toNat_natCast] at e3
        have r3 := hT x5
        refine zk_ifc (zci_ne (by omega) (by omega)) (fun hc3 => ?_) (fun hc3 => ?_)
        · refine zk_n ?_
          refine l_split_39 T hT n x5 k hn (by omega) (by omega) _ _ tk pl vl (fun r tk' pl' vl' g1 g2 g3 g4 => ?_) zfu (x5 + 1) (by omega) (by omega) (fun hl j j1 j2 => ?_) (fun hd j j1 j2 => ?_) (fun _ _ => rfl) (by unfold zfu; omega)
          · refine ih (k + 1) r (x5 + 1) tk' pl' vl' (SP_next h1 (fun j j1 j2 => h4 j j1 j2) (by omega) (by omega) g1 g2 g3 g4) g1.2.1 (by omega) (fun j j1 j2 => ?_) (by omega)
            have := g1.1; omega
          · have e : j = x5 := by omega
            subst e; exact hl
          · have e : j = x5 := by omega
            subst e; exact hd
        · exact go (Or.inr (by omega))
theorem l_split (T : Nat → Int) (hT : zR T 0 255) (n : Nat) (hn : n ≤ 400) (tk pl vl : Nat → Int) : zok (f_LawReader_split (n : Int) T tk pl vl) (fun o => ∃ m z : Nat, SP T n o.1 o.2.1 o.2.2 m z ∧ z ≤ n ∧ (∀ j, z ≤ j → j < n → T j = 32) ∧ o.1 m = 257 ∧ o.2.1 m = (n : Int)) := by
  unfold f_LawReader_split
  exact l_split_8 T hT n hn zfu 0 0 0 tk pl vl ⟨fun _ => 0, fun _ => 0, fun i hi => absurd hi (Nat.not_lt_zero i), fun i hi => absurd hi (Nat.not_lt_zero i), fun i hi => absurd hi (Nat.not_lt_zero i), rfl, Nat.le_refl _⟩ (by omega) (by omega) (fun j j1 j2 => by omega) (by unfold zfu; omega)
