section
theorem xp_n {α β : Type} {x : α} {k : α → Option β} {o : β} (h : zn x k = some o) : k x = some o := h
theorem xp_g {β : Type} {n : Nat} {f : Nat → Int} {i : Int} {k : Int → Option β} {o : β} (h : zg n f i k = some o) : (0 ≤ zi_w i ∧ zi_w i < (n : Int)) ∧ k (f (zi_w i).toNat) = some o := xz_g h
theorem xp_s {β : Type} {n : Nat} {f : Nat → Int} {i v : Int} {k : (Nat → Int) → Option β} {o : β} (h : zs n f i v k = some o) : (0 ≤ zi_w i ∧ zi_w i < (n : Int)) ∧ k (zu f (zi_w i).toNat v) = some o := xz_s h
theorem xp_cp {β : Type} {n0 n1 : Nat} {f g : Nat → Int} {a b n : Int} {k : (Nat → Int) → Option β} {o : β} (h : zcp n0 f a n1 g b n k = some o) : k (va_cpy f g (Int.toNat (zi_w a)) (Int.toNat (zi_w b)) (Int.toNat (zi_w n))) = some o := by
  unfold zcp at h
  split at h
  · exact h
  · exact nomatch h
theorem xp_if {β : Type} {c : Prop} {i : Decidable c} {x y : Option β} {o : β} (h : (if c then x else y) = some o) : (c ∧ x = some o) ∨ (¬ c ∧ y = some o) := by
  by_cases q : c
  · rw [if_pos q] at h; exact Or.inl ⟨q, h⟩
  · rw [if_neg q] at h; exact Or.inr ⟨q, h⟩
theorem xp_gd {β : Type} {c : Prop} {i : Decidable c} {y : Option β} {o : β} (h : (if c then none else y) = some o) : ¬ c ∧ y = some o := by
  by_cases q : c
  · rw [if_pos q] at h; exact nomatch h
  · rw [if_neg q] at h; exact ⟨q, h⟩
theorem xp_t {β : Type} {c : Prop} {i : Decidable c} {x y : Option β} {o : β} (q : c) (h : (if c then x else y) = some o) : x = some o := by rw [if_pos q] at h; exact h
theorem xp_f {β : Type} {c : Prop} {i : Decidable c} {x y : Option β} {o : β} (q : ¬ c) (h : (if c then x else y) = some o) : y = some o := by rw [if_neg q] at h; exact h
end
section
/-! THE LEXERS -/
noncomputable abbrev isL (x : Int) : Prop := 97 ≤ x ∧ x ≤ 122
noncomputable abbrev isD (x : Int) : Prop := 48 ≤ x ∧ x ≤ 57
noncomputable def WQ (T : Nat → Int) (f r w : Nat) : Prop := (r : Int) - (f : Int) = zsl w ∧ ∀ j : Nat, (j : Int) < zsl w → T (f + j) = zch w j
theorem zsl_2 {w : Nat} (hw : w < 14) : 2 ≤ zsl w ∧ zsl w ≤ 8 := by
  obtain ⟨o, e, h1, h2⟩ := s_String_length w ⟨Nat.zero_le _, by omega⟩
  exact h2
theorem zch_r {w : Nat} (hw : w < 14) {j : Nat} (hj : (j : Int) < zsl w) : 97 ≤ zch w j ∧ zch w j ≤ 122 := by
  obtain ⟨o, e, h1, h2⟩ := s_String_charAt (j : Int) w ⟨Nat.zero_le _, by omega⟩ (by omega)
  rw [Int.toNat_natCast] at h2
  omega
theorem l_isWord_15 (w : Nat) (hw : w < 14) (T : Nat → Int) (hT : zR T 0 255) (f : Nat) (hf : (f : Int) + zsl w ≤ 400) : ∀ (n : Nat) (x4 : Int), 0 ≤ x4 → x4 ≤ zsl w → (∀ j : Nat, (j : Int) < x4 → T (f + j) = zch w j) → zsl w + 1 - x4 ≤ (n : Int) → zok (f_LawReader_isWord_15 w T n (f : Int) x4) (fun o => (o = 1 ∧ ∀ j : Nat, (j : Int) < zsl w → T (f + j) = zch w j) ∨ (o = 0 ∧ ¬ ∀ j : Nat, (j : Int) < zsl w → T (f + j) = zch w j)) := by
  intro n
  induction n with
  | zero => intro x4 h0 h1 hp hm; exfalso; omega
  | succ n ih =>
    intro x4 h0 h1 hp hm
    show zok (f_LawReader_isWord_15_b w T (f_LawReader_isWord_15 w T n) (f : Int) x4) _
    unfold f_LawReader_isWord_15_b
    refine zk_d1 (s_String_length w ⟨Nat.zero_le _, by omega⟩) (fun v1 p1 => ?_)
    obtain ⟨p1, p2⟩ := p1
    refine zk_ifc (zci_le (by omega) (by omega)) (fun hc => ?_) (fun hc => ?_)
    · exact zk_ret (Or.inl ⟨rfl, fun j hj => hp j (by omega)⟩)
    · refine zk_n ?_
      refine zk_gv (by omega) (by decide) (fun v3 h3 => ?_)
      have r3 := hT ((f : Int) + x4).toNat
      refine zk_d1 (s_String_charAt x4 w ⟨Nat.zero_le _, by omega⟩ (by omega)) (fun v4 p4 => ?_)
      obtain ⟨p4, p5⟩ := p4
      have e : ((f : Int) + x4).toNat = f + x4.toNat := by omega
      rw [e] at h3 r3
      refine zk_ifc (zci_eq (by omega) (by omega)) (fun hq => ?_) (fun hq => ?_)
      · refine zk_n ?_
        refine ih _ (by omega) (by omega) (fun j hj => ?_) (by omega)
        by_cases hj2 : (j : Int) < x4
        · exact hp j hj2
        · have ej : j = x4.toNat := by omega
          rw [ej, ← h3, ← p5]; exact hq
      · refine zk_ret (Or.inr ⟨rfl, fun h => hq ?_⟩)
        rw [h3, p5]
        exact h x4.toNat (by omega)
theorem l_isWord (w : Nat) (hw : w < 14) (T : Nat → Int) (hT : zR T 0 255) (f r : Nat) (hfr : f ≤ r) (hr : r ≤ 400) : zok (f_LawReader_isWord (f : Int) (r : Int) w T) (fun o => (o = 1 ∧ WQ T f r w) ∨ (o = 0 ∧ ¬ WQ T f r w)) := by
  unfold f_LawReader_isWord
  refine zk_n ?_
  refine zk_d1 (s_String_length w ⟨Nat.zero_le _, by omega⟩) (fun v2 p2 => ?_)
  obtain ⟨p2, p3⟩ := p2
  refine zk_ifc (zci_eq (by omega) (by omega)) (fun hc => ?_) (fun hc => ?_)
  · refine zok_mono (l_isWord_15 w hw T hT f (by omega) zfu 0 (by omega) (by omega) (fun j hj => absurd hj (by omega)) (by unfold zfu; omega)) (fun o ho => ?_)
    rcases ho with ⟨h1, h2⟩ | ⟨h1, h2⟩
    · exact Or.inl ⟨h1, by omega, h2⟩
    · exact Or.inr ⟨h1, fun h => h2 h.2⟩
  · exact zk_ret (Or.inr ⟨rfl, fun h => hc (by have := h.1; omega)⟩)
theorem l_wordOf (T : Nat → Int) (hT : zR T 0 255) (f r : Nat) (hfr : f ≤ r) (hr : r ≤ 400) : zok (f_LawReader_wordOf (f : Int) (r : Int) T) (fun o => (∃ w : Nat, w < 8 ∧ o = (w : Int) ∧ WQ T f r w) ∨ (o = -1 ∧ ∀ w : Nat, w < 8 → ¬ WQ T f r w)) := by
  unfold f_LawReader_wordOf
  refine zk_d1 (l_isWord 0 (by decide) T hT f r hfr hr) (fun v0 p0 => ?_)
  have b0 : v0 = 0 ∨ v0 = 1 := by rcases p0 with q | q <;> omega
  refine zk_ifc (zci_eqr (by omega)) (fun c0 => ?_) (fun c0 => ?_)
  rotate_left
  · rcases p0 with q | q
    · exact zk_ret (Or.inl ⟨0, by decide, by decide, q.2⟩)
    · exact absurd q.1 c0
  have n0 : ¬ WQ T f r 0 := by rcases p0 with q | q; exact absurd q.1 (by omega); exact q.2
  refine zk_d1 (l_isWord 1 (by decide) T hT f r hfr hr) (fun v1 p1 => ?_)
  have b1 : v1 = 0 ∨ v1 = 1 := by rcases p1 with q | q <;> omega
  refine zk_ifc (zci_eqr (by omega)) (fun c1 => ?_) (fun c1 => ?_)
  rotate_left
  · rcases p1 with q | q
    · exact zk_ret (Or.inl ⟨1, by decide, by decide, q.2⟩)
    · exact absurd q.1 c1
  have n1 : ¬ WQ T f r 1 := by rcases p1 with q | q; exact absurd q.1 (by omega); exact q.2
  refine zk_d1 (l_isWord 2 (by decide) T hT f r hfr hr) (fun v2 p2 => ?_)
  have b2 : v2 = 0 ∨ v2 = 1 := by rcases p2 with q | q <;> omega
  refine zk_ifc (zci_eqr (by omega)) (fun c2 => ?_) (fun c2 => ?_)
  rotate_left
  · rcases p2 with q | q
    · exact zk_ret (Or.inl ⟨2, by decide, by decide, q.2⟩)
    · exact absurd q.1 c2
  have n2 : ¬ WQ T f r 2 := by rcases p2 with q | q; exact absurd q.1 (by omega); exact q.2
  refine zk_d1 (l_isWord 3 (by decide) T hT f r hfr hr) (fun v3 p3 => ?_)
  have b3 : v3 = 0 ∨ v3 = 1 := by rcases p3 with q | q <;> omega
  refine zk_ifc (zci_eqr (by omega)) (fun c3 => ?_) (fun c3 => ?_)
  rotate_left
  · rcases p3 with q | q
    · exact zk_ret (Or.inl ⟨3, by decide, by decide, q.2⟩)
    · exact absurd q.1 c3
  have n3 : ¬ WQ T f r 3 := by rcases p3 with q | q; exact absurd q.1 (by omega); exact q.2
  refine zk_d1 (l_isWord 4 (by decide) T hT f r hfr hr) (fun v4 p4 => ?_)
  have b4 : v4 = 0 ∨ v4 = 1 := by rcases p4 with q | q <;> omega
  refine zk_ifc (zci_eqr (by omega)) (fun c4 => ?_) (fun c4 => ?_)
  rotate_left
  · rcases p4 with q | q
    · exact zk_ret (Or.inl ⟨4, by decide, by decide, q.2⟩)
    · exact absurd q.1 c4
  have n4 : ¬ WQ T f r 4 := by rcases p4 with q | q; exact absurd q.1 (by omega); exact q.2
  refine zk_d1 (l_isWord 5 (by decide) T hT f r hfr hr) (fun v5 p5 => ?_)
  have b5 : v5 = 0 ∨ v5 = 1 := by rcases p5 with q | q <;> omega
  refine zk_ifc (zci_eqr (by omega)) (fun c5 => ?_) (fun c5 => ?_)
  rotate_left
  · rcases p5 with q | q
    · exact zk_ret (Or.inl ⟨5, by decide, by decide, q.2⟩)
    · exact absurd q.1 c5
  have n5 : ¬ WQ T f r 5 := by rcases p5 with q | q; exact absurd q.1 (by omega); exact q.2
  refine zk_d1 (l_isWord 6 (by decide) T hT f r hfr hr) (fun v6 p6 => ?_)
  have b6 : v6 = 0 ∨ v6 = 1 := by rcases p6 with q | q <;> omega
  refine zk_ifc (zci_eqr (by omega)) (fun c6 => ?_) (fun c6 => ?_)
  rotate_left
  · rcases p6 with q | q
    · exact zk_ret (Or.inl ⟨6, by decide, by decide, q.2⟩)
    · exact absurd q.1 c6
  have n6 : ¬ WQ T f r 6 := by rcases p6 with q | q; exact absurd q.1 (by omega); exact q.2
  refine zk_d1 (l_isWord 7 (by decide) T hT f r hfr hr) (fun v7 p7 => ?_)
  have b7 : v7 = 0 ∨ v7 = 1 := by rcases p7 with q | q <;> omega
  refine zk_ifc (zci_eqr (by omega)) (fun c7 => ?_) (fun c7 => ?_)
  rotate_left
  · rcases p7 with q | q
    · exact zk_ret (Or.inl ⟨7, by decide, by decide, q.2⟩)
    · exact absurd q.1 c7
  have n7 : ¬ WQ T f r 7 := by rcases p7 with q | q; exact absurd q.1 (by omega); exact q.2
  refine zk_ret (Or.inr ⟨rfl, fun w hw => ?_⟩)
  have hw2 : w = 0 ∨ w = 1 ∨ w = 2 ∨ w = 3 ∨ w = 4 ∨ w = 5 ∨ w = 6 ∨ w = 7 := by omega
  rcases hw2 with h | h | h | h | h | h | h | h <;> subst h <;> assumption
theorem l_ruleWordOf (T : Nat → Int) (hT : zR T 0 255) (f r : Nat) (hfr : f ≤ r) (hr : r ≤ 400) : zok (f_LawReader_ruleWordOf (f : Int) (r : Int) T) (fun o => (∃ w : Nat, (8 ≤ w ∧ w < 14) ∧ o = 252 + (w : Int) ∧ WQ T f r w) ∨ (o = 256 ∧ ∀ w : Nat, (8 ≤ w ∧ w < 14) → ¬ WQ T f r w)) := by
  unfold f_LawReader_ruleWordOf
  refine zk_d1 (l_isWord 8 (by decide) T hT f r hfr hr) (fun v8 p8 => ?_)
  have b8 : v8 = 0 ∨ v8 = 1 := by rcases p8 with q | q <;> omega
  refine zk_ifc (zci_eqr (by omega)) (fun c8 => ?_) (fun c8 => ?_)
  rotate_left
  · rcases p8 with q | q
    · exact zk_ret (Or.inl ⟨8, by decide, by decide, q.2⟩)
    · exact absurd q.1 c8
  have n8 : ¬ WQ T f r 8 := by rcases p8 with q | q; exact absurd q.1 (by omega); exact q.2
  refine zk_d1 (l_isWord 9 (by decide) T hT f r hfr hr) (fun v9 p9 => ?_)
  have b9 : v9 = 0 ∨ v9 = 1 := by rcases p9 with q | q <;> omega
  refine zk_ifc (zci_eqr (by omega)) (fun c9 => ?_) (fun c9 => ?_)
  rotate_left
  · rcases p9 with q | q
    · exact zk_ret (Or.inl ⟨9, by decide, by decide, q.2⟩)
    · exact absurd q.1 c9
  have n9 : ¬ WQ T f r 9 := by rcases p9 with q | q; exact absurd q.1 (by omega); exact q.2
  refine zk_d1 (l_isWord 10 (by decide) T hT f r hfr hr) (fun v10 p10 => ?_)
  have b10 : v10 = 0 ∨ v10 = 1 := by rcases p10 with q | q <;> omega
  refine zk_ifc (zci_eqr (by omega)) (fun c10 => ?_) (fun c10 => ?_)
  rotate_left
  · rcases p10 with q | q
    · exact zk_ret (Or.inl ⟨10, by decide, by decide, q.2⟩)
    · exact absurd q.1 c10
  have n10 : ¬ WQ T f r 10 := by rcases p10 with q | q; exact absurd q.1 (by omega); exact q.2
  refine zk_d1 (l_isWord 11 (by decide) T hT f r hfr hr) (fun v11 p11 => ?_)
  have b11 : v11 = 0 ∨ v11 = 1 := by rcases p11 with q | q <;> omega
  refine zk_ifc (zci_eqr (by omega)) (fun c11 => ?_) (fun c11 => ?_)
  rotate_left
  · rcases p11 with q | q
    · exact zk_ret (Or.inl ⟨11, by decide, by decide, q.2⟩)
    · exact absurd q.1 c11
  have n11 : ¬ WQ T f r 11 := by rcases p11 with q | q; exact absurd q.1 (by omega); exact q.2
  refine zk_d1 (l_isWord 12 (by decide) T hT f r hfr hr) (fun v12 p12 => ?_)
  have b12 : v12 = 0 ∨ v12 = 1 := by rcases p12 with q | q <;> omega
  refine zk_ifc (zci_eqr (by omega)) (fun c12 => ?_) (fun c12 => ?_)
  rotate_left
  · rcases p12 with q | q
    · exact zk_ret (Or.inl ⟨12, by decide, by decide, q.2⟩)
    · exact absurd q.1 c12
  have n12 : ¬ WQ T f r 12 := by rcases p12 with q | q; exact absurd q.1 (by omega); exact q.2
  refine zk_d1 (l_isWord 13 (by decide) T hT f r hfr hr) (fun v13 p13 => ?_)
  have b13 : v13 = 0 ∨ v13 = 1 := by rcases p13 with q | q <;> omega
  refine zk_ifc (zci_eqr (by omega)) (fun c13 => ?_) (fun c13 => ?_)
  rotate_left
  · rcases p13 with q | q
    · exact zk_ret (Or.inl ⟨13, by decide, by decide, q.2⟩)
    · exact absurd q.1 c13
  have n13 : ¬ WQ T f r 13 := by rcases p13 with q | q; exact absurd q.1 (by omega); exact q.2
  refine zk_ret (Or.inr ⟨rfl, fun w hw => ?_⟩)
  have hw2 : w = 8 ∨ w = 9 ∨ w = 10 ∨ w = 11 ∨ w = 12 ∨ w = 13 := by omega
  rcases hw2 with h | h | h | h | h | h <;> subst h <;> assumption
/-- the number that digits spell -/
noncomputable def DV (T : Nat → Int) (f : Nat) : Nat → Int
  | 0 => 0
  | k + 1 => DV T f k * 10 + T (f + k) - 48
theorem DV_0 {T : Nat → Int} {f : Nat} : ∀ k : Nat, (∀ j, j < k → isD (T (f + j))) → 0 ≤ DV T f k := by
  intro k
  induction k with
  | zero => intro _; exact Int.le_refl 0
  | succ k ih =>
    intro h
    have h1 := ih (fun j hj => h j (by omega))
    have h2 := h k (by omega)
    show 0 ≤ DV T f k * 10 + T (f + k) - 48
    omega
theorem DV_mono {T : Nat → Int} {f : Nat} : ∀ (k d : Nat), (∀ j, j < k + d → isD (T (f + j))) → DV T f k ≤ DV T f (k + d) := by
  intro k d
  induction d with
  | zero => intro _; exact Int.le_refl _
  | succ d ih =>
    intro h
    have h1 := ih (fun j hj => h j (by omega))
    have h0 := DV_0 (T := T) (f := f) (k + d) (fun j hj => h j (by omega))
    have h2 := h (k + d) (by omega)
    show DV T f k ≤ DV T f (k + d) * 10 + T (f + (k + d)) - 48
    omega
theorem l_numberOf_5 (T : Nat → Int) (hT : zR T 0 255) (f r : Nat) (hr : r ≤ 400) (hD : ∀ j, f ≤ j → j < r → isD (T j)) : ∀ (n : Nat) (k : Nat) (x3 x4 : Int), f + k ≤ r → x4 = ((f + k : Nat) : Int) → x3 = DV T f k → x3 ≤ 1000 → (r : Int) + 1 - x4 ≤ (n : Int) → zok (f_LawReader_numberOf_5 T n (r : Int) x3 x4) (fun o => (DV T f (r - f) ≤ 1000 ∧ o = DV T f (r - f)) ∨ (1000 < DV T f (r - f) ∧ o = -1)) := by
  intro n
  induction n with
  | zero => intro k x3 x4 h0 h1 h2 h3 hm; exfalso; omega
  | succ n ih =>
    intro k x3 x4 h0 h1 h2 h3 hm
    have hd : ∀ j, j < r - f → isD (T (f + j)) := fun j hj => hD _ (by omega) (by omega)
    have g0 := DV_0 (T := T) (f := f) k (fun j hj => hd j (by omega))
    show zok (f_LawReader_numberOf_5_b T (f_LawReader_numberOf_5 T n) (r : Int) x3 x4) _
    unfold f_LawReader_numberOf_5_b
    refine zk_ifc (zci_le (by omega) (by omega)) (fun hc => ?_) (fun hc => ?_)
    · have e : k = r - f := by omega
      rw [← e]
      exact zk_ret (Or.inl ⟨by omega, h2⟩)
    · refine zk_n ?_
      refine zk_gv (by omega) (by decide) (fun v2 p2 => ?_)
      have e : x4.toNat = f + k := by omega
      rw [e] at p2
      have r2 := hd k (by omega)
      refine zk_n ?_
      refine zk_n ?_
      have g1 : DV T f (k + 1) = x3 * 10 + v2 - 48 := by rw [h2, p2]; rfl
      refine zk_ifc (zci_le (by omega) (by omega)) (fun hq => ?_) (fun hq => ?_)
      · refine zk_n ?_
        exact ih (k + 1) _ _ (by omega) (by omega) (by omega) (by omega) (by omega)
      · have g2 := DV_mono (T := T) (f := f) (k + 1) (r - f - (k + 1)) (fun j hj => hd j (by omega))
        rw [show k + 1 + (r - f - (k + 1)) = r - f from by omega] at g2
        exact zk_ret (Or.inr ⟨by omega, rfl⟩)
theorem l_numberOf (T : Nat → Int) (hT : zR T 0 255) (f r : Nat) (hfr : f ≤ r) (hr : r ≤ 400) (hD : ∀ j, f ≤ j → j < r → isD (T j)) : zok (f_LawReader_numberOf (f : Int) (r : Int) T) (fun o => (DV T f (r - f) ≤ 1000 ∧ o = DV T f (r - f)) ∨ (1000 < DV T f (r - f) ∧ o = -1)) := by
  unfold f_LawReader_numberOf
  exact l_numberOf_5 T hT f r hr hD zfu 0 0 _ (by omega) (by omega) rfl (by omega) (by unfold zfu; omega)
theorem zi_and255 {x : Int} (h : 0 ≤ x ∧ x ≤ 255) : zi_and x 255 = x := by
  have key : ∀ i : Fin 256, zi_and (i.val : Int) 255 = (i.val : Int) := by decide +kernel
  have h1 := key ⟨x.toNat, by omega⟩
  have e1 : ((x.toNat : Nat) : Int) = x := by omega
  dsimp only at h1
  rw [e1] at h1
  exact h1
/-- a token's end -/
noncomputable def TEND (T : Nat → Int) (n q r : Nat) : Prop := q < r ∧ r ≤ n ∧ ((isL (T q) ∧ (∀ j, q ≤ j → j < r → isL (T j)) ∧ (r = n ∨ ¬ isL (T r))) ∨ (isD (T q) ∧ (∀ j, q ≤ j → j < r → isD (T j)) ∧ (r = n ∨ ¬ isD (T r))) ∨ (¬ isL (T q) ∧ ¬ isD (T q) ∧ r = q + 1))
theorem TEND_u {T : Nat → Int} {n q r r' : Nat} (h : TEND T n q r) (g : TEND T n q r') : r = r' := by
  obtain ⟨h1, h2, h3⟩ := h
  obtain ⟨g1, g2, g3⟩ := g
  have key : ∀ (P : Int → Prop) (a b : Nat), (∀ j, q ≤ j → j < a → P (T j)) → (b = n ∨ ¬ P (T b)) → q < b → a ≤ n → a ≤ b := by
    intro P a b k1 k2 k3 k4
    rcases Nat.lt_or_ge b a with hlt | hge
    · rcases k2 with k2 | k2
      · omega
      · exact absurd (k1 b (by omega) hlt) k2
    · exact hge
  rcases h3 with ⟨a1, a2, a3⟩ | ⟨a1, a2, a3⟩ | ⟨a1, a2, a3⟩ <;> rcases g3 with ⟨b1, b2, b3⟩ | ⟨b1, b2, b3⟩ | ⟨b1, b2, b3⟩
  · exact Nat.le_antisymm (key isL _ _ a2 b3 g1 h2) (key isL _ _ b2 a3 h1 g2)
  · exfalso; unfold isL isD at *; omega
  · exact absurd a1 b1
  · exfalso; unfold isL isD at *; omega
  · exact Nat.le_antisymm (key isD _ _ a2 b3 g1 h2) (key isD _ _ b2 a3 h1 g2)
  · exact absurd a1 b2
  · exact absurd b1 a1
  · exact absurd b1 a2
  · omega
/-- the class's token -/
noncomputable def CT (T : Nat → Int) (q r : Nat) (c v : Int) : Prop :=
  (isL (T q) ∧ ((∃ w : Nat, w < 8 ∧ WQ T q r w ∧ c = 259 ∧ v = (w : Int)) ∨ (∃ w : Nat, (8 ≤ w ∧ w < 14) ∧ WQ T q r w ∧ c = 252 + (w : Int)) ∨ ((∀ w : Nat, w < 14 → ¬ WQ T q r w) ∧ c = 256))) ∨
  (isD (T q) ∧ ((DV T q (r - q) ≤ 1000 ∧ c = 258 ∧ v = DV T q (r - q)) ∨ (1000 < DV T q (r - q) ∧ c = 256))) ∨ (¬ isL (T q) ∧ ¬ isD (T q) ∧ c = T q)
theorem l_note (T : Nat → Int) (hT : zR T 0 255) (n q r k : Nat) (hn : n ≤ 400) (hk : k ≤ 400) (h : TEND T n q r) (tk vl : Nat → Int) : zok (f_LawReader_note (q : Int) (r : Int) (k : Int) T tk vl) (fun o => CT T q r (o.1 k) (o.2 k) ∧ ∀ j : Nat, j ≠ k → o.1 j = tk j ∧ o.2 j = vl j) := by
  obtain ⟨h1, h2, h3⟩ := h
  unfold f_LawReader_note
  refine zk_sv (by omega) (by decide) (fun a1 e1 => ?_)
  rw [Int.toNat_natCast] at e1
  refine zk_gv (by omega) (by decide) (fun v2 e2 => ?_)
  rw [Int.toNat_natCast] at e2
  have r2 := hT q
  refine zk_d1 (s_LawReader_isDigit _ (by omega)) (fun v3 p3 => ?_)
  refine zk_ifc (zci_eqr (by omega)) (fun hc => ?_) (fun hc => ?_)
  · refine zk_gv (by omega) (by decide) (fun v4 e4 => ?_)
    rw [Int.toNat_natCast] at e4
    refine zk_d1 (s_LawReader_isLetter _ (by omega)) (fun v5 p5 => ?_)
    refine zk_ifc (zci_eqr (by omega)) (fun hc2 => ?_) (fun hc2 => ?_)
    · refine zk_gv (by omega) (by decide) (fun v6 e6 => ?_)
      rw [Int.toNat_natCast] at e6
      refine zk_nE (fun v7 e7 => ?_)
      rw [zi_and255 (by omega)] at e7
      refine zk_sv (by omega) (by decide) (fun a8 e8 => ?_)
      rw [Int.toNat_natCast] at e8
      refine zk_ret ⟨Or.inr (Or.inr ⟨by omega, by omega, ?_⟩), fun j hj => ⟨?_, ?_⟩⟩
      · dsimp only; rw [e8, zu_eq]; omega
      · dsimp only; rw [e8, zu_ne _ _ hj]
      · dsimp only; rw [e1, zu_ne _ _ hj]
    · have hL : isL (T q) := by omega
      refine zk_d1 (l_wordOf T hT q r (by omega) (by omega)) (fun v9 p9 => ?_)
      refine zk_sv (by omega) (by decide) (fun a10 e10 => ?_)
      rw [Int.toNat_natCast] at e10
      refine zk_gv (by omega) (by decide) (fun v11 e11 => ?_)
      rw [Int.toNat_natCast, e10, zu_eq] at e11
      subst e11
      have r9 : -1 ≤ v11 ∧ v11 ≤ 7 := by
        rcases p9 with ⟨w, w1, w2, w3⟩ | ⟨w1, w2⟩ <;> omega
      refine zk_ifc (zci_ne (by omega) (by omega)) (fun hc3 => ?_) (fun hc3 => ?_)
      · refine zk_sv (by omega) (by decide) (fun a12 e12 => ?_)
        rw [Int.toNat_natCast] at e12
        rcases p9 with ⟨w, w1, w2, w3⟩ | ⟨w1, w2⟩
        · refine zk_ret ⟨Or.inl ⟨hL, Or.inl ⟨w, w1, w3, ?_, ?_⟩⟩, fun j hj => ⟨?_, ?_⟩⟩
          · dsimp only; rw [e12, zu_eq]
          · dsimp only; rw [e10, zu_eq]; exact w2
          · dsimp only; rw [e12, zu_ne _ _ hj]
          · dsimp only; rw [e10, zu_ne _ _ hj, e1, zu_ne _ _ hj]
        · exact absurd w1 hc3
      · refine zk_d1 (l_ruleWordOf T hT q r (by omega) (by omega)) (fun v13 p13 => ?_)
        refine zk_sv (by omega) (by decide) (fun a14 e14 => ?_)
        rw [Int.toNat_natCast] at e14
        have p8 : ∀ w : Nat, w < 8 → ¬ WQ T q r w := by
          rcases p9 with ⟨w, w1, w2, w3⟩ | ⟨w1, w2⟩
          · omega
          · exact w2
        rcases p13 with ⟨w, w1, w2, w3⟩ | ⟨w1, w2⟩
        · refine zk_ret ⟨Or.inl ⟨hL, Or.inr (Or.inl ⟨w, w1, w3, ?_⟩)⟩, fun j hj => ⟨?_, ?_⟩⟩
          · dsimp only; rw [e14, zu_eq]; exact w2
          · dsimp only; rw [e14, zu_ne _ _ hj]
          · dsimp only; rw [e10, zu_ne _ _ hj, e1, zu_ne _ _ hj]
        · refine zk_ret ⟨Or.inl ⟨hL, Or.inr (Or.inr ⟨fun w hw => ?_, ?_⟩)⟩, fun j hj => ⟨?_, ?_⟩⟩
          · rcases Nat.lt_or_ge w 8 with h8 | h8
            · exact p8 w h8
            · exact w2 w ⟨h8, hw⟩
          · dsimp only; rw [e14, zu_eq]; exact w1
          · dsimp only; rw [e14, zu_ne _ _ hj]
          · dsimp only; rw [e10, zu_ne _ _ hj, e1, zu_ne _ _ hj]
  · have hD : isD (T q) := by omega
    have hDs : ∀ j, q ≤ j → j < r → isD (T j) := by
      rcases h3 with ⟨a1', a2', a3'⟩ | ⟨a1', a2', a3'⟩ | ⟨a1', a2', a3'⟩
      · exfalso; omega
      · exact a2'
      · exact absurd hD a2'
    have g0 := DV_0 (T := T) (f := q) (r - q) (fun j hj => hDs _ (by omega) (by omega))
    refine zk_d1 (l_numberOf T hT q r (by omega) (by omega) hDs) (fun v15 p15 => ?_)
    refine zk_sv (by omega) (by decide) (fun a16 e16 => ?_)
    rw [Int.toNat_natCast] at e16
    refine zk_gv (by omega) (by decide) (fun v17 e17 => ?_)
    rw [Int.toNat_natCast, e16, zu_eq] at e17
    subst e17
    refine zk_ifc (zci_ne (by omega) (by omega)) (fun hc3 => ?_) (fun hc3 => ?_)
    · refine zk_sv (by omega) (by decide) (fun a18 e18 => ?_)
      rw [Int.toNat_natCast] at e18
      refine zk_ret ⟨Or.inr (Or.inl ⟨hD, Or.inl ⟨by omega, ?_, ?_⟩⟩), fun j hj => ⟨?_, ?_⟩⟩
      · dsimp only; rw [e18, zu_eq]
      · dsimp only; rw [e16, zu_eq]; omega
      · dsimp only; rw [e18, zu_ne _ _ hj]
      · dsimp only; rw [e16, zu_ne _ _ hj, e1, zu_ne _ _ hj]
    · refine zk_sv (by omega) (by decide) (fun a19 e19 => ?_)
      rw [Int.toNat_natCast] at e19
      refine zk_ret ⟨Or.inr (Or.inl ⟨hD, Or.inr ⟨by omega, ?_⟩⟩), fun j hj => ⟨?_, ?_⟩⟩
      · dsimp only; rw [e19, zu_eq]
      · dsimp only; rw [e19, zu_ne _ _ hj]
      · dsimp only; rw [e16, zu_ne _ _ hj, e1, zu_ne _ _ hj]
/-- what lies read of the class's tokens: k tokens, the last one's end is x4 -/
noncomputable def SP (T : Nat → Int) (n : Nat) (tk pl vl : Nat → Int) (k : Nat) (x4 : Nat) : Prop :=
  ∃ qs rs : Nat → Nat, (∀ i, i < k → pl i = (qs i : Int) ∧ T (qs i) ≠ 32 ∧ TEND T n (qs i) (rs i) ∧ CT T (qs i) (rs i) (tk i) (vl i)) ∧
    (∀ i, i < k → ∀ j, (if i = 0 then 0 else rs (i - 1)) ≤ j → j < qs i → T j = 32) ∧ (∀ i, i < k → (if i = 0 then 0 else rs (i - 1)) ≤ qs i) ∧ x4 = (if k = 0 then 0 else rs (k - 1)) ∧ k ≤ x4
theorem SP_next {T : Nat → Int} {n : Nat} {tk pl vl tk' pl' vl' : Nat → Int} {k x4 q r : Nat} (h : SP T n tk pl vl k x4) (hb : ∀ j, x4 ≤ j → j < q → T j = 32) (hq : x4 ≤ q) (hn : T q ≠ 32) (he : TEND T n q r) (hc : CT T q r (tk' k) (vl' k)) (hp : pl' k = (q : Int)) (hk : ∀ j : Nat, j < k → tk' j = tk j ∧ vl' j = vl j ∧ pl' j = pl j) : SP T n tk' pl' vl' (k + 1) r := by
  obtain ⟨qs, rs, h1, h2, h3, h4, h5⟩ := h
  refine ⟨fun i => if i = k then q else qs i, fun i => if i = k then r else rs i, ?_, ?_, ?_, ?_, ?_⟩
  · intro i hi
    by_cases e : i = k
    · subst e; simp only [if_pos rfl]; exact ⟨hp, hn, he, hc⟩
    · simp only [if_neg e]
      have g := hk i (by omega)
      rw [g.1, g.2.1, g.2.2]
      exact h1 i (by omega)
  · intro i hi j
    by_cases e : i = k
    · subst e
      simp only [if_pos rfl]
      intro j1 j2
      refine hb j ?_ j2
      by_cases e0 : i = 0
      · rw [if_pos e0] at h4; omega
      · rw [if_neg e0] at h4 j1
        rw [if_neg (by omega)] at j1
        omega
    · simp only [if_neg e]
      by_cases e0 : i = 0
      · rw [if_pos e0]
        have := h2 i (by omega) j
        rw [if_pos e0] at this
        exact this
      · rw [if_neg e0, if_neg (show ¬ i - 1 = k by omega)]
        have := h2 i (by omega) j
        rw [if_neg e0] at this
        exact this
  · intro i hi
    by_cases e : i = k
    · subst e
      simp only [eq_self_iff_true, if_true]
      by_cases e0 : i = 0
      · rw [if_pos e0]; omega
      · rw [if_neg e0, if_neg (show ¬ i - 1 = i by omega)]
        rw [if_neg e0] at h4
        omega
    · simp only [if_neg e]
      have := h3 i (by omega)
      by_cases e0 : i = 0
      · rw [if_pos e0]; omega
      · rw [if_neg e0, if_neg (show ¬ i - 1 = k by omega)]
        rw [if_neg e0] at this
        exact this
  · rw [if_neg (Nat.succ_ne_zero k)]
    show r = if k + 1 - 1 = k then r else rs (k + 1 - 1)
    rw [if_pos (Nat.add_sub_cancel k 1)]
  · have := he.1; omega
theorem l_split_39 (T : Nat → Int) (hT : zR T 0 255) (n q k : Nat) (hn : n ≤ 400) (hk : k ≤ 400) (hq : q < n) (k8 : Int → Int → Int → Int → (Nat → Int) → (Nat → Int) → (Nat → Int) → Option ((Nat → Int) × (Nat → Int) × (Nat → Int))) (Q : (Nat → Int) × (Nat → Int) × (Nat → Int) → Prop) (tk pl vl : Nat → Int)
    (hk8 : ∀ (r : Nat) (tk' pl' vl' : Nat → Int), TEND T n q r → CT T q r (tk' k) (vl' k) → pl' k = (q : Int) → (∀ j : Nat, j < k → tk' j = tk j ∧ vl' j = vl j ∧ pl' j = pl j) → zok (k8 (n : Int) ((k + 1 : Nat) : Int) (r : Int) ((q + 1 : Nat) : Int) tk' pl' vl') Q) :
    ∀ (N : Nat) (r : Nat), q < r → r ≤ n → (isL (T q) → ∀ j, q ≤ j → j < r → isL (T j)) → (isD (T q) → ∀ j, q ≤ j → j < r → isD (T j)) → (¬ isL (T q) → ¬ isD (T q) → r = q + 1) → (n : Int) + 1 - (r : Int) ≤ (N : Int) → zok (f_LawReader_split_39 T k8 N (n : Int) (k : Int) (r : Int) (q : Int) tk pl vl) Q := by
  intro N
  induction N with
  | zero => intro r h1 h2 h3 h4 h5 hm; exfalso; omega
  | succ N ih =>
    intro r h1 h2 h3 h4 h5 hm
    have stop : ∀ (_ : TEND T n q r), zok (f_LawReader_split_97 T k8 (n : Int) (k : Int) (r : Int) (q : Int) tk pl vl) Q := by
      intro he
      unfold f_LawReader_split_97
      refine zk_sv (by omega) (by decide) (fun a1 e1 => ?_)
      rw [Int.toNat_natCast] at e1
      refine zk_d2 (l_note T hT n q r k hn hk he tk vl) (fun a2 a3 p => ?_)
      dsimp only at p
      refine zk_n ?_
      unfold f_LawReader_split_118
      refine zk_n ?_
      refine hk8 r a2 a1 a3 he p.1 (by rw [e1, zu_eq]) (fun j hj => ⟨(p.2 j (by omega)).1, (p.2 j (by omega)).2, by rw [e1, zu_ne _ _ (by omega)]⟩)
    have more : (isL (T q) ∧ r < n ∧ isL (T r) ∨ isD (T q) ∧ r < n ∧ isD (T r)) → zok (f_LawReader_split_91 T k8 (f_LawReader_split_39 T k8 N) (n : Int) (k : Int) (r : Int) (q : Int) tk pl vl) Q := by
      intro hm2
      unfold f_LawReader_split_91
      refine zk_n ?_
      refine ih (r + 1) (by omega) (by omega) (fun hl j j1 j2 => ?_) (fun hd j j1 j2 => ?_) (fun hl hd => ?_) (by omega)
      · by_cases e : j = r
        · subst e
          rcases hm2 with g | g
          · exact g.2.2
          · exfalso; unfold isL isD at *; omega
        · exact h3 hl j j1 (by omega)
      · by_cases e : j = r
        · subst e
          rcases hm2 with g | g
          · exfalso; unfold isL isD at *; omega
          · exact g.2.2
        · exact h4 hd j j1 (by omega)
      · rcases hm2 with g | g
        · exact absurd g.1 hl
        · exact absurd g.1 hd
    have r1 := hT q
    have r2 := hT r
    have two : (r = n ∨ ¬ isL (T q) ∨ ¬ isL (T r)) → zok (f_LawReader_split_65 T k8 (f_LawReader_split_39 T k8 N) (n : Int) (k : Int) (r : Int) (q : Int) tk pl vl) Q := by
      intro hs
      unfold f_LawReader_split_65
      have fin : (r = n ∨ ¬ isD (T q) ∨ ¬ isD (T r)) → TEND T n q r := by
        intro hs2
        refine ⟨h1, h2, ?_⟩
        rcases Classical.em (isL (T q)) with hl | hl
        · exact Or.inl ⟨hl, h3 hl, by rcases hs with g | g | g; exact Or.inl g; exact absurd hl g; exact Or.inr g⟩
        · rcases Classical.em (isD (T q)) with hd | hd
          · exact Or.inr (Or.inl ⟨hd, h4 hd, by rcases hs2 with g | g | g; exact Or.inl g; exact absurd hd g; exact Or.inr g⟩)
          · exact Or.inr (Or.inr ⟨hl, hd, h5 hl hd⟩)
      refine zk_ifc (zci_le (by omega) (by omega)) (fun hc => ?_) (fun hc => ?_)
      · exact stop (fin (Or.inl (by omega)))
      · refine zk_gv (by omega) (by decide) (fun v1 e1 => ?_)
        rw [Int.toNat_natCast] at e1
        refine zk_d1 (s_LawReader_isDigit _ (by omega)) (fun v2 p2 => ?_)
        refine zk_ifc (zci_eqr (by omega)) (fun hc2 => ?_) (fun hc2 => ?_)
        · exact stop (fin (Or.inr (Or.inl (by unfold isD; omega))))
        · refine zk_gv (by omega) (by decide) (fun v3 e3 => ?_)
          rw [Int.toNat_natCast] at e3
          refine zk_d1 (s_LawReader_isDigit _ (by omega)) (fun v4 p4 => ?_)
          refine zk_ifc (zci_eqr (by omega)) (fun hc3 => ?_) (fun hc3 => ?_)
          · exact stop (fin (Or.inr (Or.inr (by unfold isD; omega))))
          · exact more (Or.inr ⟨by unfold isD; omega, by omega, by unfold isD; omega⟩)
    show zok (f_LawReader_split_39_b T k8 (f_LawReader_split_39 T k8 N) (n : Int) (k : Int) (r : Int) (q : Int) tk pl vl) _
    unfold f_LawReader_split_39_b
    refine zk_ifc (zci_le (by omega) (by omega)) (fun hc => ?_) (fun hc => ?_)
    · exact two (Or.inl (by omega))
    · refine zk_gv (by omega) (by decide) (fun v1 e1 => ?_)
      rw [Int.toNat_natCast] at e1
      refine zk_d1 (s_LawReader_isLetter _ (by omega)) (fun v2 p2 => ?_)
      refine zk_ifc (zci_eqr (by omega)) (fun hc2 => ?_) (fun hc2 => ?_)
      · exact two (Or.inr (Or.inl (by unfold isL; omega)))
      · refine zk_gv (by omega) (by decide) (fun v3 e3 => ?_)
        rw [Int.toNat_natCast] at e3
        refine zk_d1 (s_LawReader_isLetter _ (by omega)) (fun v4 p4 => ?_)
        refine zk_ifc (zci_ner (by omega)) (fun hc3 => ?_) (fun hc3 => ?_)
        · exact more (Or.inl ⟨by unfold isL; omega, by omega, by unfold isL; omega⟩)
        · exact two (Or.inr (Or.inr (by unfold isL; omega)))
theorem l_split_8 (T : Nat → Int) (hT : zR T 0 255) (n : Nat) (hn : n ≤ 400) : ∀ (N : Nat) (k x4 x5 : Nat) (tk pl vl : Nat → Int), SP T n tk pl vl k x4 → x4 ≤ n → x5 ≤ n → (∀ j, x4 ≤ j → j < x5 → T j = 32) → (n : Int) + 1 - (x5 : Int) ≤ (N : Int) → zok (f_LawReader_split_8 T N (n : Int) (k : Int) (x4 : Int) (x5 : Int) tk pl vl) (fun o => ∃ m z : Nat, SP T n o.1 o.2.1 o.2.2 m z ∧ z ≤ n ∧ (∀ j, z ≤ j → j < n → T j = 32) ∧ o.1 m = 257 ∧ o.2.1 m = (n : Int)) := by
  intro N
  induction N with
  | zero => intro k x4 x5 tk pl vl h1 h2 h3 h4 hm; exfalso; omega
  | succ N ih =>
    intro k x4 x5 tk pl vl h1 h2 h3 h4 hm
    have hk : k ≤ x4 := by obtain ⟨_, _, _, _, _, _, g⟩ := h1; exact g
    show zok (f_LawReader_split_8_b T (f_LawReader_split_8 T N) (n : Int) (k : Int) (x4 : Int) (x5 : Int) tk pl vl) _
    unfold f_LawReader_split_8_b
    refine zk_ifc (zci_le (by omega) (by omega)) (fun hc => ?_) (fun hc => ?_)
    · refine zk_sv (by omega) (by decide) (fun a1 e1 => ?_)
      refine zk_sv (by omega) (by decide) (fun a2 e2 => ?_)
      rw [Int.toNat_natCast] at e1 e2
      refine zk_ret ⟨k, x4, ?_, h2, fun j j1 j2 => h4 j j1 (by omega), ?_, ?_⟩
      · obtain ⟨qs, rs, g1, g2⟩ := h1
        refine ⟨qs, rs, fun i hi => ?_, g2⟩
        dsimp only
        rw [e1, e2, zu_ne _ _ (by omega), zu_ne _ _ (by omega)]
        exact g1 i hi
      · dsimp only; rw [e2, zu_eq]
      · dsimp only; rw [e1, zu_eq]
    · have go : ∀ (_ : x5 < x4 ∨ T x5 = 32), zok (f_LawReader_split_118 T (f_LawReader_split_8 T N) (n : Int) (k : Int) (x4 : Int) (x5 : Int) tk pl vl) (fun o => ∃ m z : Nat, SP T n o.1 o.2.1 o.2.2 m z ∧ z ≤ n ∧ (∀ j, z ≤ j → j < n → T j = 32) ∧ o.1 m = 257 ∧ o.2.1 m = (n : Int)) := by
        intro hx
        unfold f_LawReader_split_118
        refine zk_n ?_
        refine ih k x4 (x5 + 1) tk pl vl h1 h2 (by omega) (fun j j1 j2 => ?_) (by omega)
        by_cases e : j = x5
        · subst e
          rcases hx with g | g
          · omega
          · exact g
        · exact h4 j j1 (by omega)
      refine zk_ifc (zci_lt (by omega) (by omega)) (fun hc2 => ?_) (fun hc2 => ?_)
      · exact go (Or.inl (by omega))
      · refine zk_gv (by omega) (by decide) (fun v3 e3 => ?_)
        rw [Int.toNat_natCast] at e3
        have r3 := hT x5
        refine zk_ifc (zci_ne (by omega) (by omega)) (fun hc3 => ?_) (fun hc3 => ?_)
        · refine zk_n ?_
          refine l_split_39 T hT n x5 k hn (by omega) (by omega) _ _ tk pl vl (fun r tk' pl' vl' g1 g2 g3 g4 => ?_) zfu (x5 + 1) (by omega) (by omega) (fun hl j j1 j2 => ?_) (fun hd j j1 j2 => ?_) (fun _ _ => rfl) (by unfold zfu; omega)
          · refine ih (k + 1) r (x5 + 1) tk' pl' vl' (SP_next h1 (fun j j1 j2 => h4 j j1 j2) (by omega) (by omega) g1 g2 g3 g4) g1.2.1 (by omega) (fun j j1 j2 => ?_) (by omega)
            have := g1.1; omega
          · have e : j = x5 := by omega
            subst e; exact hl
          · have e : j = x5 := by omega
            subst e; exact hd
        · exact go (Or.inr (by omega))
theorem l_split (T : Nat → Int) (hT : zR T 0 255) (n : Nat) (hn : n ≤ 400) (tk pl vl : Nat → Int) : zok (f_LawReader_split (n : Int) T tk pl vl) (fun o => ∃ m z : Nat, SP T n o.1 o.2.1 o.2.2 m z ∧ z ≤ n ∧ (∀ j, z ≤ j → j < n → T j = 32) ∧ o.1 m = 257 ∧ o.2.1 m = (n : Int)) := by
  unfold f_LawReader_split
  exact l_split_8 T hT n hn zfu 0 0 0 tk pl vl ⟨fun _ => 0, fun _ => 0, fun i hi => absurd hi (Nat.not_lt_zero i), fun i hi => absurd hi (Nat.not_lt_zero i), fun i hi => absurd hi (Nat.not_lt_zero i), rfl, Nat.le_refl _⟩ (by omega) (by omega) (fun j j1 j2 => by omega) (by unfold zfu; omega)
end
section
/-! THE REFERENCE'S LEXER -/
noncomputable def WL (T : Nat → Int) (q : Nat) : Nat → Int
  | 0 => 0
  | k + 1 => if k < 10 then WL T q k * 32 + T (q + k) - 96 else -1
noncomputable def WD (T : Nat → Int) (q : Nat) : Nat → Int
  | 0 => 0
  | k + 1 => if WD T q k ≤ 1000000 then WD T q k * 10 + T (q + k) - 48 else WD T q k
theorem WD_r {T : Nat → Int} {q : Nat} : ∀ k : Nat, (∀ j, j < k → isD (T (q + j))) → 0 ≤ WD T q k ∧ WD T q k ≤ 10000009 := by
  intro k
  induction k with
  | zero => intro _; exact ⟨Int.le_refl 0, (show (0 : Int) ≤ 10000009 by decide)⟩
  | succ k ih =>
    intro h
    have h1 := ih (fun j hj => h j (by omega))
    have h2 := h k (by omega)
    show 0 ≤ (if WD T q k ≤ 1000000 then WD T q k * 10 + T (q + k) - 48 else WD T q k) ∧ (if WD T q k ≤ 1000000 then WD T q k * 10 + T (q + k) - 48 else WD T q k) ≤ 10000009
    split <;> omega
/-- while the number is small both tell the same -/
theorem WD_DV {T : Nat → Int} {q : Nat} : ∀ k : Nat, (∀ j, j < k → isD (T (q + j))) → (WD T q k = DV T q k) ∨ (1000000 < WD T q k ∧ 1000000 < DV T q k) := by
  intro k
  induction k with
  | zero => intro _; exact Or.inl rfl
  | succ k ih =>
    intro h
    have h1 := ih (fun j hj => h j (by omega))
    have h2 := h k (by omega)
    have g0 := DV_0 (T := T) (f := q) k (fun j hj => h j (by omega))
    have e1 : WD T q (k + 1) = if WD T q k ≤ 1000000 then WD T q k * 10 + T (q + k) - 48 else WD T q k := rfl
    have e2 : DV T q (k + 1) = DV T q k * 10 + T (q + k) - 48 := rfl
    rw [e1, e2]
    split <;> omega
noncomputable def SO (T : Nat → Int) (n q : Nat) : Int := if q = n then 0 else if 97 ≤ T q ∧ T q ≤ 122 then 1 else if 48 ≤ T q ∧ T q ≤ 57 then 2 else 3
noncomputable def WO (T : Nat → Int) (n q r : Nat) : Int := if q = n then 0 else if 97 ≤ T q ∧ T q ≤ 122 then WL T q (r - q) else if 48 ≤ T q ∧ T q ≤ 57 then WD T q (r - q) else T q
theorem l_next_243n (T : Nat → Int) (n q r : Nat) (s w : Int) (hs : 0 ≤ s ∧ s ≤ 3) (h2 : s ≠ 2) (N : Nat) : zok (f_HM_next_243 (n : Int) T (N + 1) (q : Int) (r : Int) s w) (fun o => o = ((q : Int), (r : Int), s, w)) := by
  show zok (f_HM_next_243_b (n : Int) T (f_HM_next_243 (n : Int) T N) (q : Int) (r : Int) s w) _
  unfold f_HM_next_243_b
  refine zk_ifc (zci_ne (by omega) (by omega)) (fun hc => ?_) (fun hc => ?_)
  · exact zk_ret rfl
  · exfalso; omega
theorem l_next_243 (T : Nat → Int) (hT : zR T 0 255) (n q : Nat) (hn : n ≤ 400) : ∀ (N r : Nat) (w : Int), q ≤ r → r ≤ n → (∀ j, q ≤ j → j < r → isD (T j)) → w = WD T q (r - q) → (n : Int) + 1 - (r : Int) ≤ (N : Int) → zok (f_HM_next_243 (n : Int) T N (q : Int) (r : Int) 2 w) (fun o => ∃ r' : Nat, o = ((q : Int), (r' : Int), 2, WD T q (r' - q)) ∧ r ≤ r' ∧ r' ≤ n ∧ (∀ j, q ≤ j → j < r' → isD (T j)) ∧ (r' = n ∨ ¬ isD (T r'))) := by
  intro N
  induction N with
  | zero => intro r w h1 h2 h3 h4 hm; exfalso; omega
  | succ N ih =>
    intro r w h1 h2 h3 h4 hm
    have g := WD_r (T := T) (q := q) (r - q) (fun j hj => h3 _ (by omega) (by omega))
    show zok (f_HM_next_243_b (n : Int) T (f_HM_next_243 (n : Int) T N) (q : Int) (r : Int) 2 w) _
    unfold f_HM_next_243_b
    refine zk_ifc (zci_ne (by omega) (by omega)) (fun hc => ?_) (fun hc => ?_)
    · exfalso; omega
    · refine zk_ifc (zci_le (by omega) (by omega)) (fun hc2 => ?_) (fun hc2 => ?_)
      · exact zk_ret ⟨r, by rw [h4], Nat.le_refl _, h2, h3, Or.inl (by omega)⟩
      · refine zk_gv (by omega) (by decide) (fun v1 e1 => ?_)
        rw [Int.toNat_natCast] at e1
        have r1 := hT r
        refine zk_d1 (s_HM_isDigit _ (by omega)) (fun v2 p2 => ?_)
        try dsimp only at p2
        refine zk_ifc (zci_eqr (by omega)) (fun hc3 => ?_) (fun hc3 => ?_)
        · exact zk_ret ⟨r, by rw [h4], Nat.le_refl _, h2, h3, Or.inr (by unfold isD; omega)⟩
        · have hd : isD (T r) := by unfold isD; omega
          have e : WD T q (r + 1 - q) = if WD T q (r - q) ≤ 1000000 then WD T q (r - q) * 10 + T r - 48 else WD T q (r - q) := by
            rw [show r + 1 - q = (r - q) + 1 from by omega]
            show (if WD T q (r - q) ≤ 1000000 then WD T q (r - q) * 10 + T (q + (r - q)) - 48 else WD T q (r - q)) = _
            rw [show q + (r - q) = r from by omega]
          have hd2 : ∀ j, q ≤ j → j < r + 1 → isD (T j) := fun j j1 j2 => by
            by_cases e : j = r
            · subst e; exact hd
            · exact h3 j j1 (by omega)
          refine zk_ifc (zcl_le (by omega) (by omega)) (fun hc4 => ?_) (fun hc4 => ?_)
          · refine zk_n ?_
            refine zk_gv (by omega) (by decide) (fun v4 e4 => ?_)
            rw [Int.toNat_natCast] at e4
            refine zk_nE (fun v5 e5 => ?_)
            rw [zwi (by omega)] at e5
            refine zk_n ?_
            refine zk_n ?_
            unfold f_HM_next_319
            refine zk_n ?_
            refine zok_mono (ih (r + 1) _ (by omega) (by omega) hd2 (by rw [e, if_pos (by omega)]; omega) (by omega)) (fun o ho => ?_)
            obtain ⟨r', a1, a2, a3⟩ := ho
            exact ⟨r', a1, by omega, a3⟩
          · unfold f_HM_next_319
            refine zk_n ?_
            refine zok_mono (ih (r + 1) _ (by omega) (by omega) hd2 (by rw [e, if_neg (by omega)]; omega) (by omega)) (fun o ho => ?_)
            obtain ⟨r', a1, a2, a3⟩ := ho
            exact ⟨r', a1, by omega, a3⟩
theorem l_next_149n (T : Nat → Int) (n q r : Nat) (s w : Int) (hs : 0 ≤ s ∧ s ≤ 3) (h1 : s ≠ 1) (P : Int × Int × Int × Int → Prop) (h : zok (f_HM_next_243 (n : Int) T zfu (q : Int) (r : Int) s w) P) (N : Nat) : zok (f_HM_next_149 (n : Int) T (N + 1) (q : Int) (r : Int) s w) P := by
  show zok (f_HM_next_149_b (n : Int) T (f_HM_next_149 (n : Int) T N) (q : Int) (r : Int) s w) _
  unfold f_HM_next_149_b
  refine zk_ifc (zci_ne (by omega) (by omega)) (fun hc => ?_) (fun hc => ?_)
  · exact h
  · exfalso; omega
theorem zfu_s : zfu = (zfu - 1) + 1 := by unfold zfu; rfl
theorem l_next_149 (T : Nat → Int) (hT : zR T 0 255) (n q : Nat) (hn : n ≤ 400) : ∀ (N r : Nat) (w : Int), q ≤ r → r ≤ n → (∀ j, q ≤ j → j < r → isL (T j)) → w = WL T q (r - q) → (n : Int) + 1 - (r : Int) ≤ (N : Int) → zok (f_HM_next_149 (n : Int) T N (q : Int) (r : Int) 1 w) (fun o => ∃ r' : Nat, o = ((q : Int), (r' : Int), 1, WL T q (r' - q)) ∧ r ≤ r' ∧ r' ≤ n ∧ (∀ j, q ≤ j → j < r' → isL (T j)) ∧ (r' = n ∨ ¬ isL (T r'))) := by
  intro N
  induction N with
  | zero => intro r w h1 h2 h3 h4 hm; exfalso; omega
  | succ N ih =>
    intro r w h1 h2 h3 h4 hm
    have stop : (r = n ∨ ¬ isL (T r)) → zok (f_HM_next_243 (n : Int) T zfu (q : Int) (r : Int) 1 w) (fun o => ∃ r' : Nat, o = ((q : Int), (r' : Int), 1, WL T q (r' - q)) ∧ r ≤ r' ∧ r' ≤ n ∧ (∀ j, q ≤ j → j < r' → isL (T j)) ∧ (r' = n ∨ ¬ isL (T r'))) := by
      intro hs
      rw [zfu_s]
      refine zok_mono (l_next_243n T n q r 1 w (by omega) (by omega) _) (fun o ho => ⟨r, by rw [ho, h4], Nat.le_refl _, h2, h3, hs⟩)
    show zok (f_HM_next_149_b (n : Int) T (f_HM_next_149 (n : Int) T N) (q : Int) (r : Int) 1 w) _
    unfold f_HM_next_149_b
    refine zk_ifc (zci_ne (by omega) (by omega)) (fun hc => ?_) (fun hc => ?_)
    · exfalso; omega
    · refine zk_ifc (zci_le (by omega) (by omega)) (fun hc2 => ?_) (fun hc2 => ?_)
      · exact stop (Or.inl (by omega))
      · refine zk_gv (by omega) (by decide) (fun v1 e1 => ?_)
        rw [Int.toNat_natCast] at e1
        have r1 := hT r
        refine zk_d1 (s_HM_isSmall _ (by omega)) (fun v2 p2 => ?_)
        try dsimp only at p2
        refine zk_ifc (zci_eqr (by omega)) (fun hc3 => ?_) (fun hc3 => ?_)
        · exact stop (Or.inr (by unfold isL; omega))
        · have hl : isL (T r) := by unfold isL; omega
          have e : WL T q (r + 1 - q) = if r - q < 10 then WL T q (r - q) * 32 + T r - 96 else -1 := by
            rw [show r + 1 - q = (r - q) + 1 from by omega]
            show (if r - q < 10 then WL T q (r - q) * 32 + T (q + (r - q)) - 96 else -1) = _
            rw [show q + (r - q) = r from by omega]
          have hl2 : ∀ j, q ≤ j → j < r + 1 → isL (T j) := fun j j1 j2 => by
            by_cases e : j = r
            · subst e; exact hl
            · exact h3 j j1 (by omega)
          refine zk_n ?_
          refine zk_ifc (zci_le (by omega) (by omega)) (fun hc4 => ?_) (fun hc4 => ?_)
          · unfold f_HM_next_227
            refine zk_n ?_
            refine zok_mono (ih (r + 1) _ (by omega) (by omega) hl2 (by rw [e, if_neg (by omega)]) (by omega)) (fun o ho => ?_)
            obtain ⟨r', a1, a2, a3⟩ := ho
            exact ⟨r', a1, by omega, a3⟩
          · refine zk_n ?_
            refine zk_gv (by omega) (by decide) (fun v5 e5 => ?_)
            rw [Int.toNat_natCast] at e5
            refine zk_nE (fun v6 e6 => ?_)
            rw [zwi (by omega)] at e6
            refine zk_n ?_
            refine zk_n ?_
            unfold f_HM_next_227
            refine zk_n ?_
            refine zok_mono (ih (r + 1) _ (by omega) (by omega) hl2 (by rw [e, if_pos (by omega)]; omega) (by omega)) (fun o ho => ?_)
            obtain ⟨r', a1, a2, a3⟩ := ho
            exact ⟨r', a1, by omega, a3⟩
noncomputable def NXQ (T : Nat → Int) (n p : Nat) (o : Int × Int × Int × Int) : Prop := ∃ q r : Nat, p ≤ q ∧ q ≤ n ∧ (∀ j, p ≤ j → j < q → T j = 32) ∧ ((q = n ∧ r = n) ∨ (q < n ∧ T q ≠ 32 ∧ TEND T n q r)) ∧ o = ((q : Int), (r : Int), SO T n q, WO T n q r)
theorem l_next_46 (T : Nat → Int) (hT : zR T 0 255) (n p q : Nat) (hn : n ≤ 400) (h1 : p ≤ q) (h2 : q ≤ n) (h3 : ∀ j, p ≤ j → j < q → T j = 32) (h4 : q = n ∨ T q ≠ 32) (to so wo : Int) : zok (f_HM_next_46 (n : Int) T (q : Int) to so wo) (NXQ T n p) := by
  unfold f_HM_next_46
  refine zk_ifc (zci_ne (by omega) (by omega)) (fun hc => ?_) (fun hc => ?_)
  · have hq : q < n := by omega
    have h5 : T q ≠ 32 := by rcases h4 with h | h; omega; exact h
    have hqn : ¬ q = n := by omega
    refine zk_gv (by omega) (by decide) (fun v1 e1 => ?_)
    rw [Int.toNat_natCast] at e1
    have r1 := hT q
    refine zk_d1 (s_HM_isSmall _ (by omega)) (fun v2 p2 => ?_)
    try dsimp only at p2
    refine zk_ifc (zci_eqr (by omega)) (fun hc2 => ?_) (fun hc2 => ?_)
    · refine zk_gv (by omega) (by decide) (fun v3 e3 => ?_)
      rw [Int.toNat_natCast] at e3
      refine zk_d1 (s_HM_isDigit _ (by omega)) (fun v4 p4 => ?_)
      try dsimp only at p4
      refine zk_ifc (zci_eqr (by omega)) (fun hc3 => ?_) (fun hc3 => ?_)
      · unfold f_HM_next_114
        refine zk_ifc (zci_ne (by omega) (by omega)) (fun hc4 => ?_) (fun hc4 => ?_)
        · exfalso; omega
        · refine zk_gv (by omega) (by decide) (fun w1 f1 => ?_)
          rw [Int.toNat_natCast] at f1
          refine zk_nE (fun w2 f2 => ?_)
          rw [zwi (by omega)] at f2
          refine zk_n ?_
          rw [zfu_s]
          refine l_next_149n T n q (q + 1) 3 w2 (by omega) (by omega) _ ?_ _
          rw [zfu_s]
          refine zok_mono (l_next_243n T n q (q + 1) 3 w2 (by omega) (by omega) _) (fun o ho => ?_)
          refine ⟨q, q + 1, h1, h2, h3, Or.inr ⟨hq, h5, by omega, by omega, Or.inr (Or.inr ⟨by unfold isL; omega, by unfold isD; omega, rfl⟩)⟩, ?_⟩
          rw [ho]
          unfold SO WO
          rw [if_neg hqn, if_neg hqn, if_neg (by omega), if_neg (by omega), if_neg (by omega), if_neg (by omega), f2, f1]
      · unfold f_HM_next_114
        refine zk_ifc (zci_ne (by omega) (by omega)) (fun hc4 => ?_) (fun hc4 => ?_)
        · rw [zfu_s]
          refine l_next_149n T n q q 2 0 (by omega) (by omega) _ ?_ _
          refine zok_mono (l_next_243 T hT n q hn zfu q 0 (Nat.le_refl _) h2 (fun j j1 j2 => absurd j2 (by omega)) (by rw [Nat.sub_self]; rfl) (by unfold zfu; omega)) (fun o ho => ?_)
          obtain ⟨r', a1, a2, a3, a4, a5⟩ := ho
          have hd : isD (T q) := by unfold isD; omega
          have hr : q < r' := by
            rcases Nat.lt_or_ge q r' with g | g
            · exact g
            · have e : r' = q := by omega
              rw [e] at a5
              rcases a5 with a5 | a5
              · omega
              · exact absurd hd a5
          refine ⟨q, r', h1, h2, h3, Or.inr ⟨hq, h5, hr, a3, Or.inr (Or.inl ⟨hd, a4, a5⟩)⟩, ?_⟩
          rw [a1]
          unfold SO WO
          rw [if_neg hqn, if_neg hqn, if_neg (by omega), if_pos (by omega), if_neg (by omega), if_pos (by omega)]
        · exfalso; omega
    · unfold f_HM_next_114
      refine zk_ifc (zci_ne (by omega) (by omega)) (fun hc4 => ?_) (fun hc4 => ?_)
      · refine zok_mono (l_next_149 T hT n q hn zfu q 0 (Nat.le_refl _) h2 (fun j j1 j2 => absurd j2 (by omega)) (by rw [Nat.sub_self]; rfl) (by unfold zfu; omega)) (fun o ho => ?_)
        obtain ⟨r', a1, a2, a3, a4, a5⟩ := ho
        have hl : isL (T q) := by unfold isL; omega
        have hr : q < r' := by
          rcases Nat.lt_or_ge q r' with g | g
          · exact g
          · have e : r' = q := by omega
            rw [e] at a5
            rcases a5 with a5 | a5
            · omega
            · exact absurd hl a5
        refine ⟨q, r', h1, h2, h3, Or.inr ⟨hq, h5, hr, a3, Or.inl ⟨hl, a4, a5⟩⟩, ?_⟩
        rw [a1]
        unfold SO WO
        rw [if_neg hqn, if_neg hqn, if_pos (by omega), if_pos (by omega)]
      · exfalso; omega
  · have hq : q = n := by omega
    unfold f_HM_next_114
    refine zk_ifc (zci_ne (by omega) (by omega)) (fun hc4 => ?_) (fun hc4 => ?_)
    · rw [zfu_s]
      refine l_next_149n T n q q 0 0 (by omega) (by omega) _ ?_ _
      rw [zfu_s]
      refine zok_mono (l_next_243n T n q q 0 0 (by omega) (by omega) _) (fun o ho => ?_)
      refine ⟨q, q, h1, h2, h3, Or.inl ⟨hq, hq⟩, ?_⟩
      rw [ho]
      unfold SO WO
      rw [if_pos hq, if_pos hq]
    · exfalso; omega
theorem l_next_8 (T : Nat → Int) (hT : zR T 0 255) (n p : Nat) (hn : n ≤ 400) : ∀ (N q : Nat) (to so wo : Int), p ≤ q → q ≤ n → (∀ j, p ≤ j → j < q → T j = 32) → (n : Int) + 1 - (q : Int) ≤ (N : Int) → zok (f_HM_next_8 (n : Int) T N (q : Int) to so wo) (NXQ T n p) := by
  intro N
  induction N with
  | zero => intro q to so wo h1 h2 h3 hm; exfalso; omega
  | succ N ih =>
    intro q to so wo h1 h2 h3 hm
    show zok (f_HM_next_8_b (n : Int) T (f_HM_next_8 (n : Int) T N) (q : Int) to so wo) _
    unfold f_HM_next_8_b
    refine zk_ifc (zci_le (by omega) (by omega)) (fun hc => ?_) (fun hc => ?_)
    · exact l_next_46 T hT n p q hn h1 h2 h3 (Or.inl (by omega)) to so wo
    · refine zk_gv (by omega) (by decide) (fun v1 e1 => ?_)
      rw [Int.toNat_natCast] at e1
      have r1 := hT q
      refine zk_ifc (zci_ne (by omega) (by omega)) (fun hc2 => ?_) (fun hc2 => ?_)
      · exact l_next_46 T hT n p q hn h1 h2 h3 (Or.inr (by omega)) to so wo
      · refine zk_n ?_
        refine ih (q + 1) to so wo (by omega) (by omega) (fun j j1 j2 => ?_) (by omega)
        by_cases e : j = q
        · subst e; omega
        · exact h3 j j1 (by omega)
theorem l_next (T : Nat → Int) (hT : zR T 0 255) (n p : Nat) (hn : n ≤ 400) (hp : p ≤ n) (fr so wo : Int) : zok (f_HM_next (n : Int) T fr (p : Int) so wo) (NXQ T n p) := by
  unfold f_HM_next
  exact l_next_8 T hT n p hn zfu p _ _ _ (Nat.le_refl _) hp (fun j j1 j2 => by omega) (by unfold zfu; omega)
/-! both have the same tokens: where they begin, where they end -/
noncomputable def LXS (T : Nat → Int) (n m : Nat) (qs rs : Nat → Nat) : Prop :=
  (∀ i, i < m → qs i < n ∧ T (qs i) ≠ 32 ∧ TEND T n (qs i) (rs i)) ∧ (qs m = n ∧ rs m = n) ∧ (∀ i, i ≤ m → (if i = 0 then 0 else rs (i - 1)) ≤ qs i) ∧ ∀ i, i ≤ m → ∀ j, (if i = 0 then 0 else rs (i - 1)) ≤ j → j < qs i → T j = 32
theorem NB_u {T : Nat → Int} {n p q q' : Nat} (h1 : p ≤ q) (h2 : ∀ j, p ≤ j → j < q → T j = 32) (h3 : q = n ∨ T q ≠ 32) (hq : q ≤ n) (g1 : p ≤ q') (g2 : ∀ j, p ≤ j → j < q' → T j = 32) (g3 : q' = n ∨ T q' ≠ 32) (hq' : q' ≤ n) : q = q' := by
  rcases Nat.lt_trichotomy q q' with h | h | h
  · rcases h3 with h3 | h3
    · omega
    · exact absurd (g2 q h1 h) h3
  · exact h
  · rcases g3 with g3 | g3
    · omega
    · exact absurd (h2 q' g1 h) g3
theorem NXQ_i {T : Nat → Int} {n m : Nat} {qs rs : Nat → Nat} (h : LXS T n m qs rs) {i : Nat} (hi : i ≤ m) {o : Int × Int × Int × Int} (ho : NXQ T n (if i = 0 then 0 else rs (i - 1)) o) : o = ((qs i : Int), (rs i : Int), SO T n (qs i), WO T n (qs i) (rs i)) := by
  obtain ⟨h1, h2, h3, h4⟩ := h
  obtain ⟨q, r, a1, a2, a3, a4, a5⟩ := ho
  have hl : qs i ≤ n ∧ (qs i = n ∨ T (qs i) ≠ 32) := by
    rcases Nat.lt_or_ge i m with g | g
    · have := h1 i g; exact ⟨by omega, Or.inr this.2.1⟩
    · have e : i = m := by omega
      rw [e]; exact ⟨by omega, Or.inl h2.1⟩
  have eq : q = qs i := NB_u a1 a3 (by rcases a4 with a4 | a4; exact Or.inl a4.1; exact Or.inr a4.2.1) a2 (h3 i hi) (h4 i hi) hl.2 hl.1
  subst eq
  have er : r = rs i := by
    rcases Nat.lt_or_ge i m with g | g
    · have k := h1 i g
      rcases a4 with a4 | a4
      · omega
      · exact TEND_u a4.2.2 k.2.2
    · have e : i = m := by omega
      subst e
      rcases a4 with a4 | a4
      · omega
      · omega
  rw [a5, er]
theorem LXS_of {T : Nat → Int} {n m z : Nat} {tk pl vl : Nat → Int} (h : SP T n tk pl vl m z) (hz : z ≤ n) (hb : ∀ j, z ≤ j → j < n → T j = 32) (hp : pl m = (n : Int)) : ∃ qs rs : Nat → Nat, LXS T n m qs rs ∧ (∀ i, i ≤ m → pl i = (qs i : Int)) ∧ (∀ i, i < m → CT T (qs i) (rs i) (tk i) (vl i)) ∧ m ≤ n := by
  obtain ⟨qs, rs, h1, h2, h3, h4, h5⟩ := h
  refine ⟨fun i => if i = m then n else qs i, fun i => if i = m then n else rs i, ⟨?_, ?_, ?_, ?_⟩, ?_, ?_, by omega⟩
  · intro i hi
    simp only [if_neg (show ¬ i = m by omega)]
    have g := h1 i hi
    have := g.2.2.1.1
    have := g.2.2.1.2.1
    exact ⟨by omega, g.2.1, g.2.2.1⟩
  · simp
  · intro i hi
    by_cases e : i = m
    · subst e
      simp only [eq_self_iff_true, if_true]
      by_cases e0 : i = 0
      · rw [if_pos e0]; omega
      · rw [if_neg e0, if_neg (show ¬ i - 1 = i by omega)]
        rw [if_neg e0] at h4; omega
    · simp only [if_neg e]
      have := h3 i (by omega)
      by_cases e0 : i = 0
      · rw [if_pos e0]; omega
      · rw [if_neg e0, if_neg (show ¬ i - 1 = m by omega)]
        rw [if_neg e0] at this; exact this
  · intro i hi j
    by_cases e : i = m
    · subst e
      simp only [if_pos rfl]
      intro j1 j2
      refine hb j ?_ j2
      by_cases e0 : i = 0
      · rw [if_pos e0] at h4; omega
      · rw [if_neg e0] at h4 j1
        rw [if_neg (show ¬ i - 1 = i by omega)] at j1
        omega
    · simp only [if_neg e]
      have := h2 i (by omega) j
      by_cases e0 : i = 0
      · rw [if_pos e0]; rw [if_pos e0] at this; exact this
      · rw [if_neg e0, if_neg (show ¬ i - 1 = m by omega)]
        rw [if_neg e0] at this; exact this
  · intro i hi
    by_cases e : i = m
    · subst e; simp only [if_pos rfl]; exact hp
    · simp only [if_neg e]; exact (h1 i (by omega)).1
  · intro i hi
    simp only [if_neg (show ¬ i = m by omega)]
    exact (h1 i hi).2.2.2
/-! a token in both tongues -/
noncomputable def zcd (w : Nat) : Int := ([3417476, 674919554696, 777297172, 215533, 655, 271592, 12791, 661069, 21285043, 67155, 294, 498, 1476, 14836] : List Int).getD w 0
noncomputable def TKR (c v s w : Int) : Prop := (-1 ≤ w ∧ w ≤ 2000000000000000) ∧
  ((s = 1 ∧ ((∃ k : Nat, k < 8 ∧ c = 259 ∧ v = (k : Int) ∧ w = zcd k) ∨ (∃ k : Nat, (8 ≤ k ∧ k < 14) ∧ c = 252 + (k : Int) ∧ w = zcd k) ∨ (c = 256 ∧ ∀ k : Nat, k < 14 → w ≠ zcd k))) ∨
  (s = 2 ∧ ((c = 258 ∧ v = w ∧ 0 ≤ w ∧ w ≤ 1000) ∨ (c = 256 ∧ 1000 < w))) ∨ (s = 3 ∧ c = w ∧ 0 ≤ c ∧ c ≤ 255) ∨ (s = 0 ∧ c = 257))
noncomputable def LF (T : Nat → Int) (f : Nat) : Nat → Int
  | 0 => 0
  | k + 1 => LF T f k * 32 + T (f + k) - 96
theorem LF_0 {T : Nat → Int} {f : Nat} : ∀ k : Nat, (∀ j, j < k → isL (T (f + j))) → 0 ≤ LF T f k := by
  intro k
  induction k with
  | zero => intro _; exact Int.le_refl 0
  | succ k ih =>
    intro h
    have h1 := ih (fun j hj => h j (by omega))
    have h2 := h k (by omega)
    show 0 ≤ LF T f k * 32 + T (f + k) - 96
    omega
theorem LF_inj {T U : Nat → Int} {f g : Nat} : ∀ (a b : Nat), (∀ j, j < a → isL (T (f + j))) → (∀ j, j < b → isL (U (g + j))) → LF T f a = LF U g b → a = b ∧ ∀ j, j < a → T (f + j) = U (g + j) := by
  intro a
  induction a with
  | zero =>
    intro b h1 h2 h3
    cases b with
    | zero => exact ⟨rfl, fun j hj => absurd hj (Nat.not_lt_zero j)⟩
    | succ b =>
      have g1 := LF_0 (T := U) (f := g) b (fun j hj => h2 j (by omega))
      have g2 := h2 b (by omega)
      have e : (0 : Int) = LF U g b * 32 + U (g + b) - 96 := h3
      exfalso; omega
  | succ a ih =>
    intro b h1 h2 h3
    have k1 := LF_0 (T := T) (f := f) a (fun j hj => h1 j (by omega))
    have k2 := h1 a (by omega)
    cases b with
    | zero =>
      have e : LF T f a * 32 + T (f + a) - 96 = (0 : Int) := h3
      exfalso; omega
    | succ b =>
      have g1 := LF_0 (T := U) (f := g) b (fun j hj => h2 j (by omega))
      have g2 := h2 b (by omega)
      have e : LF T f a * 32 + T (f + a) - 96 = LF U g b * 32 + U (g + b) - 96 := h3
      obtain ⟨e1, e2⟩ := ih b (fun j hj => h1 j (by omega)) (fun j hj => h2 j (by omega)) (by omega)
      subst e1
      refine ⟨rfl, fun j hj => ?_⟩
      by_cases q : j = a
      · subst q; omega
      · exact e2 j (by omega)
theorem LF_ext {T U : Nat → Int} {f g : Nat} : ∀ k : Nat, (∀ j, j < k → T (f + j) = U (g + j)) → LF T f k = LF U g k := by
  intro k
  induction k with
  | zero => intro _; rfl
  | succ k ih =>
    intro h
    show LF T f k * 32 + T (f + k) - 96 = LF U g k * 32 + U (g + k) - 96
    rw [ih (fun j hj => h j (by omega)), h k (by omega)]
theorem LF_b {T : Nat → Int} {f : Nat} : ∀ k : Nat, (∀ j, j < k → isL (T (f + j))) → LF T f k < (32 ^ k : Nat) := by
  intro k
  induction k with
  | zero => intro _; show (0 : Int) < ((32 ^ 0 : Nat) : Int); decide
  | succ k ih =>
    intro h
    have h1 := ih (fun j hj => h j (by omega))
    have h2 := h k (by omega)
    have e : (32 ^ (k + 1) : Nat) = 32 ^ k * 32 := Nat.pow_succ _ _
    show LF T f k * 32 + T (f + k) - 96 < ((32 ^ (k + 1) : Nat) : Int)
    rw [e]
    generalize 32 ^ k = z at *
    omega
theorem WL_is {T : Nat → Int} {q : Nat} : ∀ k : Nat, WL T q k = if k ≤ 10 then LF T q k else -1 := by
  intro k
  induction k with
  | zero => rfl
  | succ k ih =>
    show (if k < 10 then WL T q k * 32 + T (q + k) - 96 else -1) = _
    by_cases h : k < 10
    · rw [if_pos h, if_pos (by omega), ih, if_pos (by omega)]; rfl
    · rw [if_neg h, if_neg (by omega)]
theorem zcd_ok : ∀ w : Fin 14, LF (zch w.val) 0 (zsl w.val).toNat = zcd w.val := by decide +kernel
theorem zcd_0 : ∀ w : Fin 14, 0 ≤ zcd w.val := by decide +kernel
theorem zcd_inj : ∀ a b : Fin 14, zcd a.val = zcd b.val → a = b := by decide +kernel
theorem WL_WQ {T : Nat → Int} {q r : Nat} (hqr : q < r) (hl : ∀ j, q ≤ j → j < r → isL (T j)) {w : Nat} (hw : w < 14) : WL T q (r - q) = zcd w ↔ WQ T q r w := by
  have z2 := zsl_2 hw
  have z0 := zcd_0 ⟨w, hw⟩
  have zo := zcd_ok ⟨w, hw⟩
  dsimp only at z0 zo
  rw [WL_is]
  constructor
  · intro h
    by_cases h10 : r - q ≤ 10
    · rw [if_pos h10, ← zo] at h
      obtain ⟨e1, e2⟩ := LF_inj (r - q) (zsl w).toNat (fun j hj => hl _ (by omega) (by omega)) (fun j hj => by rw [Nat.zero_add]; exact zch_r hw (by omega)) h
      refine ⟨by omega, fun j hj => ?_⟩
      have := e2 j (by omega)
      rw [Nat.zero_add] at this
      exact this
    · rw [if_neg h10] at h; omega
  · intro h
    obtain ⟨h1, h2⟩ := h
    rw [if_pos (by omega), ← zo, show (zsl w).toNat = r - q from by omega]
    exact LF_ext (r - q) (fun j hj => by rw [Nat.zero_add]; exact h2 j (by omega))
theorem TKR_of {T : Nat → Int} (hT : zR T 0 255) {n q r : Nat} {c v : Int} (hq : q < n) (he : TEND T n q r) (h : CT T q r c v) : TKR c v (SO T n q) (WO T n q r) := by
  have hqn : ¬ q = n := by omega
  have r1 := hT q
  obtain ⟨h1, h2, h3⟩ := he
  unfold SO WO
  rw [if_neg hqn, if_neg hqn]
  rcases h with ⟨a1, a2⟩ | ⟨a1, a2⟩ | ⟨a1, a2, a3⟩
  · have hl : ∀ j, q ≤ j → j < r → isL (T j) := by
      rcases h3 with h3 | h3 | h3
      · exact h3.2.1
      · exfalso; have := h3.1; unfold isL isD at *; omega
      · exact absurd a1 h3.1
    rw [if_pos a1, if_pos a1]
    have hb : -1 ≤ WL T q (r - q) ∧ WL T q (r - q) ≤ 2000000000000000 := by
      rw [WL_is]
      by_cases h10 : r - q ≤ 10
      · rw [if_pos h10]
        have g0 := LF_0 (T := T) (f := q) (r - q) (fun j hj => hl _ (by omega) (by omega))
        have g1 := LF_b (T := T) (f := q) (r - q) (fun j hj => hl _ (by omega) (by omega))
        have g2 : 32 ^ (r - q) ≤ 32 ^ 10 := Nat.pow_le_pow_right (by decide) h10
        have g3 : (32 ^ 10 : Nat) = 1125899906842624 := by decide
        rw [g3] at g2
        generalize 32 ^ (r - q) = z at *
        omega
      · rw [if_neg h10]; decide
    refine ⟨hb, Or.inl ⟨rfl, ?_⟩⟩
    rcases a2 with ⟨w, w1, w2, w3, w4⟩ | ⟨w, w1, w2, w3⟩ | ⟨w1, w2⟩
    · exact Or.inl ⟨w, w1, w3, w4, (WL_WQ h1 hl (by omega)).mpr w2⟩
    · exact Or.inr (Or.inl ⟨w, w1, w3, (WL_WQ h1 hl (by omega)).mpr w2⟩)
    · exact Or.inr (Or.inr ⟨w2, fun k hk g => w1 k hk ((WL_WQ h1 hl hk).mp g)⟩)
  · have hd : ∀ j, q ≤ j → j < r → isD (T j) := by
      rcases h3 with h3 | h3 | h3
      · exfalso; have := h3.1; unfold isL isD at *; omega
      · exact h3.2.1
      · exact absurd a1 h3.2.1
    have nl : ¬ (97 ≤ T q ∧ T q ≤ 122) := by unfold isD at a1; omega
    rw [if_neg nl, if_neg nl, if_pos a1, if_pos a1]
    have g0 := WD_r (T := T) (q := q) (r - q) (fun j hj => hd _ (by omega) (by omega))
    have g1 := WD_DV (T := T) (q := q) (r - q) (fun j hj => hd _ (by omega) (by omega))
    refine ⟨by omega, Or.inr (Or.inl ⟨rfl, ?_⟩)⟩
    rcases a2 with ⟨w1, w2, w3⟩ | ⟨w1, w2⟩
    · exact Or.inl ⟨w2, by omega, by omega, by omega⟩
    · exact Or.inr ⟨w2, by omega⟩
  · rw [if_neg a1, if_neg a1, if_neg a2, if_neg a2]
    exact ⟨by omega, Or.inr (Or.inr (Or.inl ⟨rfl, a3, by omega, by omega⟩))⟩
theorem TKR_end {T : Nat → Int} {n : Nat} {v : Int} : TKR 257 v (SO T n n) (WO T n n n) := by
  unfold SO WO
  rw [if_pos rfl, if_pos rfl]
  exact ⟨by decide, Or.inr (Or.inr (Or.inr ⟨rfl, rfl⟩))⟩
theorem t_isSign {c v s w : Int} (h : TKR c v s w) (x : Int) (hx : 0 ≤ x ∧ x ≤ 255) : zok (f_HM_isSign x s w) (fun o => (o = 1 ∧ c = x) ∨ (o = 0 ∧ c ≠ x)) := by
  obtain ⟨hb, h⟩ := h
  have hs : 0 ≤ s ∧ s ≤ 3 := by rcases h with h | h | h | h <;> omega
  have hc3 : s ≠ 3 → 256 ≤ c := by
    intro h3
    rcases h with ⟨_, ⟨k, _, g, _⟩ | ⟨k, g1, g, _⟩ | ⟨g, _⟩⟩ | ⟨_, g | g⟩ | h | h <;> omega
  have hc4 : s = 3 → c = w := by
    intro h3
    rcases h with h | h | h | h <;> omega
  unfold f_HM_isSign
  refine zk_ifc (zci_ne (by omega) (by omega)) (fun hc => ?_) (fun hc => ?_)
  · have := hc3 hc
    exact zk_ret (Or.inr ⟨rfl, by omega⟩)
  · have := hc4 (by omega)
    refine zk_nE (fun v1 e1 => ?_)
    rw [zwi (by omega)] at e1
    refine zk_ifc (zcl_ne (by omega) (by omega)) (fun hc2 => ?_) (fun hc2 => ?_)
    · exact zk_ret (Or.inr ⟨rfl, by omega⟩)
    · exact zk_ret (Or.inl ⟨rfl, by omega⟩)
theorem t_isWord {c v s w : Int} (h : TKR c v s w) (k : Nat) (hk : 8 ≤ k ∧ k < 14) (x : Int) (hx : x = zcd k) : zok (f_HM_isWord x s w) (fun o => (o = 1 ∧ c = 252 + (k : Int)) ∨ (o = 0 ∧ c ≠ 252 + (k : Int))) := by
  obtain ⟨hb, h⟩ := h
  have hs : 0 ≤ s ∧ s ≤ 3 := by rcases h with h | h | h | h <;> omega
  have zr : 0 ≤ x ∧ x ≤ 700000000000 := by
    have key : ∀ w : Fin 14, 0 ≤ zcd w.val ∧ zcd w.val ≤ 700000000000 := by decide +kernel
    have k1 : k < 14 := hk.2
    have := key ⟨k, k1⟩
    try dsimp only at this
    omega
  unfold f_HM_isWord
  refine zk_ifc (zci_ne (by omega) (by omega)) (fun hc => ?_) (fun hc => ?_)
  · refine zk_ret (Or.inr ⟨rfl, ?_⟩)
    rcases h with h | ⟨_, h | h⟩ | h | h <;> omega
  · rcases h with ⟨_, h⟩ | h | h | h
    · refine zk_ifc (zcl_ne (by omega) (by omega)) (fun hc2 => ?_) (fun hc2 => ?_)
      · refine zk_ret (Or.inr ⟨rfl, ?_⟩)
        rcases h with ⟨k', g1, g2, g3, g4⟩ | ⟨k', g1, g2, g3⟩ | ⟨g1, g2⟩
        · omega
        · intro e
          have : k' = k := by omega
          subst this
          omega
        · omega
      · refine zk_ret (Or.inl ⟨rfl, ?_⟩)
        rcases h with ⟨k', g1, g2, g3, g4⟩ | ⟨k', g1, g2, g3⟩ | ⟨g1, g2⟩
        · exfalso
          have := zcd_inj ⟨k', by omega⟩ ⟨k, hk.2⟩ (by dsimp only; omega)
          have e := congrArg Fin.val this
          try dsimp only at e
          omega
        · have := zcd_inj ⟨k', g1.2⟩ ⟨k, hk.2⟩ (by dsimp only; omega)
          have e := congrArg Fin.val this
          try dsimp only at e
          omega
        · exact absurd (by omega) (g2 k hk.2)
    · exfalso; omega
    · exfalso; omega
    · exfalso; omega
end
section
/-! ONE MACHINE: numbers, words, sums, comparisons, not, and, or -/
noncomputable def wopv (op a b : Int) : Int := if op = 20 then a + b else if op = 21 then a - b else if op = 22 then a * b else if op = 23 then (if b = 0 then 2000000000 else a.tdiv b) else if op = 24 then (if a < b then 1 else 0) else if op = 25 then (if b < a then 1 else 0) else (if a = b then 1 else 0)
noncomputable def wop (op a b : Int) : Option Int := if -1000000000 ≤ wopv op a b ∧ wopv op a b ≤ 1000000000 then some (wopv op a b) else none
theorem wop_r {op a b x : Int} (h : wop op a b = some x) : -1000000000 ≤ x ∧ x ≤ 1000000000 := by
  unfold wop at h
  by_cases g : -1000000000 ≤ wopv op a b ∧ wopv op a b ≤ 1000000000
  · rw [if_pos g] at h; cases h; exact g
  · rw [if_neg g] at h; exact nomatch h
/-- one instruction: none, where it can't be; some none, where it breaks -/
noncomputable def stpv (op ar : Int) (E : Nat → Int) (k : Nat) (st : List Int) : Option (Option (Nat × List Int)) :=
  if op = 0 then some (some (k + 1, ar :: st))
  else if 0 < op ∧ op < 9 then some (some (k + 1, E (op - 1).toNat :: st))
  else if 20 ≤ op ∧ op < 27 then (match st with
    | b :: a :: l => (match wop (op) a b with
      | none => some none
      | some x => some (some (k + 1, x :: l)))
    | _ => none)
  else if op = 27 then (match st with
    | a :: l => some (some (k + 1, (1 - a) :: l))
    | _ => none)
  else if op = 28 ∨ op = 29 then (match st with
    | a :: l => if a = (if op = 28 then 0 else 1) then some (some ((ar).toNat, a :: l)) else some (some (k + 1, l))
    | _ => none)
  else none
noncomputable def stp (op ar : Nat → Int) (E : Nat → Int) (k : Nat) (st : List Int) : Option (Option (Nat × List Int)) := stpv (op k) (ar k) E k st
noncomputable def BND (st : List Int) : Prop := ∀ x ∈ st, -1000000000 ≤ x ∧ x ≤ 1000000000
theorem BND_nil : BND [] := fun x h => absurd h List.not_mem_nil
theorem BND_c {a : Int} {l : List Int} (h : -1000000000 ≤ a ∧ a ≤ 1000000000) (g : BND l) : BND (a :: l) := fun x hx => by
  rcases List.mem_cons.mp hx with e | e
  · rw [e]; exact h
  · exact g x e
theorem BND_a {l m : List Int} (h : BND l) (g : BND m) : BND (l ++ m) := fun x hx => by
  rcases List.mem_append.mp hx with e | e
  · exact h x e
  · exact g x e
theorem BND_t {a : Int} {l : List Int} (h : BND (a :: l)) : (-1000000000 ≤ a ∧ a ≤ 1000000000) ∧ BND l := ⟨h a List.mem_cons_self, fun x hx => h x (List.mem_cons_of_mem _ hx)⟩
noncomputable def MS (op ar : Nat → Int) (E : Nat → Int) (s e lim : Nat) : Nat → Nat → List Int → Option (Nat × List Int) → Prop
  | 0 => fun k st r => r = some (k, st)
  | n + 1 => fun k st r => (s ≤ k ∧ k < e) ∧ ((stp op ar E k st = some none ∧ r = none) ∨ ∃ k1 st1, stp op ar E k st = some (some (k1, st1)) ∧ (st1.length ≤ lim ∧ BND st1 ∧ k < k1) ∧ MS op ar E s e lim n k1 st1 r)
theorem MS_w {op ar op' ar' E : Nat → Int} {s e s' e' lim lim' : Nat} (hs : s' ≤ s) (he : e ≤ e') (hl : lim ≤ lim') (hx : ∀ j, s ≤ j → j < e → op' j = op j ∧ ar' j = ar j) : ∀ (n k : Nat) (st : List Int) (r : Option (Nat × List Int)), MS op ar E s e lim n k st r → MS op' ar' E s' e' lim' n k st r := by
  intro n
  induction n with
  | zero => intro k st r h; exact h
  | succ n ih =>
    intro k st r h
    obtain ⟨h1, h2⟩ := h
    have hx1 := hx k h1.1 h1.2
    have e1 : stp op' ar' E k st = stp op ar E k st := by unfold stp; rw [hx1.1, hx1.2]
    refine ⟨⟨by omega, by omega⟩, ?_⟩
    rw [e1]
    rcases h2 with h2 | ⟨k1, st1, g1, g2, g3⟩
    · exact Or.inl h2
    · exact Or.inr ⟨k1, st1, g1, ⟨by omega, g2.2⟩, ih k1 st1 r g3⟩
theorem MS_t {op ar E : Nat → Int} {s e lim : Nat} : ∀ (n m k : Nat) (st : List Int) (k1 : Nat) (st1 : List Int) (r : Option (Nat × List Int)), MS op ar E s e lim n k st (some (k1, st1)) → MS op ar E s e lim m k1 st1 r → MS op ar E s e lim (n + m) k st r := by
  intro n
  induction n with
  | zero =>
    intro m k st k1 st1 r h g
    have h' : some (k1, st1) = some (k, st) := h
    cases h'
    rw [Nat.zero_add]; exact g
  | succ n ih =>
    intro m k st k1 st1 r h g
    obtain ⟨h1, h2⟩ := h
    rw [show n + 1 + m = (n + m) + 1 from by omega]
    refine ⟨h1, ?_⟩
    rcases h2 with ⟨_, h2⟩ | ⟨k2, st2, g1, g2, g3⟩
    · exact nomatch h2
    · exact Or.inr ⟨k2, st2, g1, g2, ih m k2 st2 k1 st1 r g3 g⟩
theorem MS_1 {op ar E : Nat → Int} {s e lim k k1 : Nat} {st st1 : List Int} (h1 : s ≤ k) (h2 : k < e) (h : stp op ar E k st = some (some (k1, st1))) (hl : st1.length ≤ lim) (hB : BND st1) (hk : k < k1 := by omega) : MS op ar E s e lim 1 k st (some (k1, st1)) :=
  ⟨⟨h1, h2⟩, Or.inr ⟨k1, st1, h, ⟨hl, hB, hk⟩, rfl⟩⟩
theorem MS_b {op ar E : Nat → Int} {s e lim k : Nat} {st : List Int} (h1 : s ≤ k) (h2 : k < e) (h : stp op ar E k st = some none) : MS op ar E s e lim 1 k st none :=
  ⟨⟨h1, h2⟩, Or.inl ⟨h, rfl⟩⟩
/-- the words' values -/
noncomputable def EOK (E : Nat → Int) : Prop := ∀ j, j < 8 → 0 ≤ E j ∧ E j ≤ 100
/-- from s to e: so many numbers come on the pile, the latest first; d: how many more lie there at most meanwhile -/
noncomputable def RPush (op ar : Nat → Int) (s e d : Nat) (ν : (Nat → Int) → Option (List Int)) : Prop :=
  s ≤ e ∧ ∀ E, EOK E → (∀ l, ν E = some l → BND l) ∧ ∀ st : List Int, BND st → ∃ n, MS op ar E s e (st.length + d) n s st (match ν E with | some l => some (e, l ++ st) | none => none)
noncomputable def RVal (op ar : Nat → Int) (s e d : Nat) (ν : (Nat → Int) → Option Int) : Prop := RPush op ar s e d (fun E => (ν E).map (fun x => [x]))
noncomputable def NB (ν : (Nat → Int) → Option Int) : Prop := ∀ E, EOK E → ∀ x, ν E = some x → -1000000000 ≤ x ∧ x ≤ 1000000000
theorem RPush_x {op ar op' ar' : Nat → Int} {s e d d' : Nat} {ν : (Nat → Int) → Option (List Int)} (h : RPush op ar s e d ν) (hd : d ≤ d') (hx : ∀ j, s ≤ j → j < e → op' j = op j ∧ ar' j = ar j) : RPush op' ar' s e d' ν := by
  refine ⟨h.1, fun E hE => ⟨(h.2 E hE).1, fun st hst => ?_⟩⟩
  obtain ⟨n, hn⟩ := (h.2 E hE).2 st hst
  exact ⟨n, MS_w (Nat.le_refl _) (Nat.le_refl _) (by omega) hx n _ _ _ hn⟩
theorem RPush_0 {op ar : Nat → Int} {s d : Nat} : RPush op ar s s d (fun _ => some []) :=
  ⟨Nat.le_refl _, fun E hE => ⟨fun l hl => by cases hl; exact BND_nil, fun st _ => ⟨0, rfl⟩⟩⟩
noncomputable def vapp (ν μ : (Nat → Int) → Option (List Int)) : (Nat → Int) → Option (List Int) := fun E => match ν E with | none => none | some l => (match μ E with | none => none | some l2 => some (l2 ++ l))
theorem RPush_app {op ar : Nat → Int} {s m e d1 d2 d : Nat} {ν μ : (Nat → Int) → Option (List Int)} (h1 : RPush op ar s m d1 ν) (h2 : RPush op ar m e d2 μ) (hd1 : d1 ≤ d) (hd2 : ∀ E l, EOK E → ν E = some l → l.length + d2 ≤ d) : RPush op ar s e d (vapp ν μ) := by
  refine ⟨Nat.le_trans h1.1 h2.1, fun E hE => ⟨fun l hl => ?_, fun st hst => ?_⟩⟩
  · unfold vapp at hl
    cases hv : ν E with
    | none => rw [hv] at hl; exact nomatch hl
    | some l1 =>
      rw [hv] at hl
      cases hm : μ E with
      | none => rw [hm] at hl; exact nomatch hl
      | some l2 =>
        rw [hm] at hl
        cases hl
        exact BND_a ((h2.2 E hE).1 l2 hm) ((h1.2 E hE).1 l1 hv)
  obtain ⟨n, hn⟩ := (h1.2 E hE).2 st hst
  have hn2 := MS_w (s' := s) (e' := e) (Nat.le_refl _) h2.1 (show st.length + d1 ≤ st.length + d by omega) (fun j _ _ => ⟨rfl, rfl⟩) n _ _ _ hn
  unfold vapp
  cases hv : ν E with
  | none => rw [hv] at hn2; exact ⟨n, hn2⟩
  | some l =>
    rw [hv] at hn2
    obtain ⟨k, hk⟩ := (h2.2 E hE).2 (l ++ st) (BND_a ((h1.2 E hE).1 l hv) hst)
    have hl := hd2 E l hE hv
    have hk2 := MS_w (s' := s) (e' := e) h1.1 (Nat.le_refl _) (show (l ++ st).length + d2 ≤ st.length + d by rw [List.length_append]; omega) (fun j _ _ => ⟨rfl, rfl⟩) k _ _ _ hk
    refine ⟨n + k, MS_t n k _ _ _ _ _ hn2 ?_⟩
    dsimp only
    cases hm : μ E with
    | none => rw [hm] at hk2; exact hk2
    | some l2 => rw [hm] at hk2; dsimp only at hk2 ⊢; rw [List.append_assoc]; exact hk2
/-- an arithmetic sign, a comparison, behind two numbers -/
noncomputable def vop (o : Int) (ν : (Nat → Int) → Option (List Int)) : (Nat → Int) → Option (List Int) := fun E => match ν E with | some (b :: a :: l) => (match wop o a b with | none => none | some x => some (x :: l)) | _ => none
theorem RPush_op {op ar : Nat → Int} {s e d : Nat} {ν : (Nat → Int) → Option (List Int)} {o : Int} (h : RPush op ar s e d ν) (ho : op e = o) (h20 : 20 ≤ o ∧ o < 27) (hl : ∀ E l, EOK E → ν E = some l → 2 ≤ l.length ∧ l.length ≤ d) : RPush op ar s (e + 1) d (vop o ν) := by
  refine ⟨by have := h.1; omega, fun E hE => ⟨fun l hl2 => ?_, fun st hst => ?_⟩⟩
  · unfold vop at hl2
    cases hv : ν E with
    | none => rw [hv] at hl2; exact nomatch hl2
    | some l0 =>
      rw [hv] at hl2
      have g := hl E l0 hE hv
      have gb := (h.2 E hE).1 l0 hv
      match l0, g, gb with
      | b :: a :: l1, g, gb =>
        dsimp only at hl2
        cases hw : wop o a b with
        | none => rw [hw] at hl2; exact nomatch hl2
        | some x => rw [hw] at hl2; cases hl2; exact BND_c (wop_r hw) (BND_t (BND_t gb).2).2
  obtain ⟨n, hn⟩ := (h.2 E hE).2 st hst
  have hn2 := MS_w (s' := s) (e' := e + 1) (Nat.le_refl _) (by omega) (Nat.le_refl (st.length + d)) (fun j _ _ => ⟨rfl, rfl⟩) n _ _ _ hn
  unfold vop
  cases hv : ν E with
  | none => rw [hv] at hn2; exact ⟨n, hn2⟩
  | some l =>
    rw [hv] at hn2
    have g := hl E l hE hv
    have gb := (h.2 E hE).1 l hv
    match l, g, gb with
    | b :: a :: l, g, gb =>
      dsimp only at hn2 ⊢
      have e1 : stp op ar E e (b :: a :: l ++ st) = (match wop o a b with | none => some none | some x => some (some (e + 1, x :: (l ++ st)))) := by
        unfold stp stpv
        rw [ho, if_neg (by omega), if_neg (by omega), if_pos (by omega)]
        rfl
      cases hw : wop o a b with
      | none =>
        rw [hw] at e1
        exact ⟨n + 1, MS_t n 1 _ _ _ _ _ hn2 (MS_b h.1 (by omega) e1)⟩
      | some x =>
        rw [hw] at e1
        refine ⟨n + 1, MS_t n 1 _ _ _ _ _ hn2 (MS_1 h.1 (by omega) e1 ?_ (BND_c (wop_r hw) (BND_a (BND_t (BND_t gb).2).2 hst)))⟩
        simp only [List.length_cons, List.length_append] at g ⊢
        omega
theorem RVal_num {op ar : Nat → Int} {s : Nat} {c : Int} (h : op s = 0) (ha : ar s = c) (hc : -1000000000 ≤ c ∧ c ≤ 1000000000) : RVal op ar s (s + 1) 1 (fun _ => some c) := by
  refine ⟨by omega, fun E hE => ⟨fun l hl => by cases hl; exact BND_c hc BND_nil, fun st hst => ⟨1, MS_1 (Nat.le_refl _) (by omega) ?_ (by simp) (BND_c hc hst)⟩⟩⟩
  unfold stp stpv
  rw [if_pos h, ha]
  rfl
theorem RVal_word {op ar : Nat → Int} {s j : Nat} (h : op s = (j : Int) + 1) (hj : j < 8) : RVal op ar s (s + 1) 1 (fun E => some (E j)) := by
  have hb : ∀ E, EOK E → -1000000000 ≤ E j ∧ E j ≤ 1000000000 := fun E hE => by have := hE j hj; omega
  refine ⟨by omega, fun E hE => ⟨fun l hl => by cases hl; exact BND_c (hb E hE) BND_nil, fun st hst => ⟨1, MS_1 (Nat.le_refl _) (by omega) ?_ (by simp) (BND_c (hb E hE) hst)⟩⟩⟩
  unfold stp stpv
  rw [h, if_neg (by omega), if_pos (by omega), show ((j : Int) + 1 - 1).toNat = j from by omega]
  rfl
theorem RVal_x {op ar op' ar' : Nat → Int} {s e d d' : Nat} {ν : (Nat → Int) → Option Int} (h : RVal op ar s e d ν) (hd : d ≤ d') (hx : ∀ j, s ≤ j → j < e → op' j = op j ∧ ar' j = ar j) : RVal op' ar' s e d' ν := RPush_x h hd hx
/-! a row of conditions with 'and', 'or': where it comes to, while some jumps have no goal yet -/
noncomputable def bv (b : Bool) : Int := if b then 1 else 0
noncomputable def BVal (op ar : Nat → Int) (s e d : Nat) (β : (Nat → Int) → Option Bool) : Prop := RVal op ar s e d (fun E => (β E).map bv)
theorem bv_b (b : Bool) : -1000000000 ≤ bv b ∧ bv b ≤ 1000000000 := by cases b <;> decide
theorem BVal_not {op ar : Nat → Int} {s e d : Nat} {β : (Nat → Int) → Option Bool} (h : BVal op ar s e d β) (ho : op e = 27) (hd : 1 ≤ d) : BVal op ar s (e + 1) d (fun E => (β E).map (fun b => !b)) := by
  refine ⟨by have := h.1; omega, fun E hE => ⟨fun l hl => ?_, fun st hst => ?_⟩⟩
  · dsimp only at hl
    cases hv : β E with
    | none => rw [hv] at hl; exact nomatch hl
    | some b => rw [hv] at hl; cases hl; exact BND_c (bv_b _) BND_nil
  · obtain ⟨n, hn⟩ := (h.2 E hE).2 st hst
    have hn2 := MS_w (s' := s) (e' := e + 1) (Nat.le_refl _) (by omega) (Nat.le_refl (st.length + d)) (fun j _ _ => ⟨rfl, rfl⟩) n _ _ _ hn
    dsimp only at hn2 ⊢
    cases hv : β E with
    | none => rw [hv] at hn2; exact ⟨n, hn2⟩
    | some b =>
      rw [hv] at hn2
      have e1 : 1 - bv b = bv (!b) := by cases b <;> rfl
      refine ⟨n + 1, MS_t n 1 _ _ _ _ _ hn2 (MS_1 h.1 (by omega) (k1 := e + 1) (st1 := bv (!b) :: st) ?_ ?_ (BND_c (bv_b _) hst))⟩
      · unfold stp stpv
        rw [ho, if_neg (by omega), if_neg (by omega), if_neg (by omega), if_pos rfl]
        show some (some (e + 1, (1 - bv b) :: st)) = _
        rw [e1]
      · simp only [List.length_cons]; omega
/-- ψ: broken; 0 goes on at k; 1 an 'and' jumps with 0; 2 an 'or' jumps with 1 -/
noncomputable def PRE (op ar : Nat → Int) (s k d : Nat) (a o : Option Nat) (ψ : (Nat → Int) → Option Nat) : Prop :=
  s ≤ k ∧ (∀ i, a = some i → s ≤ i ∧ i < k) ∧ (∀ i, o = some i → s ≤ i ∧ i < k) ∧ ∀ (ar' : Nat → Int) (ta to : Nat), (∀ j, s ≤ j → j < k → a ≠ some j → o ≠ some j → ar' j = ar j) → (∀ i, a = some i → ar' i = (ta : Int)) → (∀ i, o = some i → ar' i = (to : Int)) → k ≤ ta → k ≤ to →
    ∀ E, EOK E → ∀ st : List Int, BND st → ∃ n, MS op ar' E s k (st.length + d) n s st (match ψ E with | none => none | some 0 => some (k, st) | some 1 => some (ta, 0 :: st) | _ => some (to, 1 :: st)) ∧ (∀ z, ψ E = some z → (z = 1 → a ≠ none) ∧ (z ≠ 0 → z ≠ 1 → o ≠ none))
theorem PRE_0 {op ar : Nat → Int} {s d : Nat} : PRE op ar s s d none none (fun _ => some 0) :=
  ⟨Nat.le_refl _, (fun _ h => nomatch h), (fun _ h => nomatch h), fun ar' ta to _ _ _ _ _ E hE st hst => ⟨0, rfl, fun z hz => by cases hz; exact ⟨fun h => (by omega), fun h => absurd rfl h⟩⟩⟩
theorem PRE_x {op ar op' ar' : Nat → Int} {s k d d' : Nat} {a o : Option Nat} {ψ : (Nat → Int) → Option Nat} (h : PRE op ar s k d a o ψ) (hd : d ≤ d') (hx : ∀ j, s ≤ j → j < k → op' j = op j ∧ (a ≠ some j → o ≠ some j → ar' j = ar j)) : PRE op' ar' s k d' a o ψ := by
  refine ⟨h.1, h.2.1, h.2.2.1, fun ar2 ta to g1 g2 g3 g4 g5 E hE st hst => ?_⟩
  obtain ⟨n, hn, hz⟩ := h.2.2.2 ar2 ta to (fun j j1 j2 j3 j4 => by rw [g1 j j1 j2 j3 j4]; exact (hx j j1 j2).2 j3 j4) g2 g3 g4 g5 E hE st hst
  exact ⟨n, MS_w (Nat.le_refl _) (Nat.le_refl _) (by omega) (fun j j1 j2 => ⟨(hx j j1 j2).1, rfl⟩) n _ _ _ hn, hz⟩
noncomputable def ψand (ψ : (Nat → Int) → Option Nat) (β : (Nat → Int) → Option Bool) : (Nat → Int) → Option Nat := fun E => match ψ E with | none => none | some 0 => (match β E with | none => none | some true => some 0 | some false => some 1) | some z => some z
noncomputable def ψor (ψ : (Nat → Int) → Option Nat) (β : (Nat → Int) → Option Bool) : (Nat → Int) → Option Nat := fun E => match ψ E with | none => none | some 0 => (match β E with | none => none | some true => some 2 | some false => some 0) | some 1 => some 0 | some z => some z
noncomputable def ψend (ψ : (Nat → Int) → Option Nat) (β : (Nat → Int) → Option Bool) : (Nat → Int) → Option Bool := fun E => match ψ E with | none => none | some 0 => β E | some 1 => some false | some _ => some true
theorem stp_and {op ar E : Nat → Int} {k t : Nat} {st : List Int} (h : op k = 28) (ha : ar k = (t : Int)) : stp op ar E k (0 :: st) = some (some (t, 0 :: st)) ∧ stp op ar E k (1 :: st) = some (some (k + 1, st)) := by
  constructor
  · unfold stp stpv
    rw [h, if_neg (by omega), if_neg (by omega), if_neg (by omega), if_neg (by omega), if_pos (by omega)]
    dsimp only
    rw [if_pos (by decide), ha, Int.toNat_natCast]
  · unfold stp stpv
    rw [h, if_neg (by omega), if_neg (by omega), if_neg (by omega), if_neg (by omega), if_pos (by omega)]
    dsimp only
    rw [if_neg (by decide)]
theorem stp_or {op ar E : Nat → Int} {k t : Nat} {st : List Int} (h : op k = 29) (ha : ar k = (t : Int)) : stp op ar E k (1 :: st) = some (some (t, 1 :: st)) ∧ stp op ar E k (0 :: st) = some (some (k + 1, st)) := by
  constructor
  · unfold stp stpv
    rw [h, if_neg (by omega), if_neg (by omega), if_neg (by omega), if_neg (by omega), if_pos (by omega)]
    dsimp only
    rw [if_pos (by decide), ha, Int.toNat_natCast]
  · unfold stp stpv
    rw [h, if_neg (by omega), if_neg (by omega), if_neg (by omega), if_neg (by omega), if_pos (by omega)]
    dsimp only
    rw [if_neg (by decide)]
/-- behind a condition: 'and' at m; the 'and' before it jumps here -/
theorem PRE_and {op ar ar0 : Nat → Int} {s k m d d0 : Nat} {a o : Option Nat} {ψ : (Nat → Int) → Option Nat} {β : (Nat → Int) → Option Bool} (h : PRE op ar0 s k d a o ψ) (hb : BVal op ar k m d0 β) (hd0 : d0 ≤ d) (hd1 : 1 ≤ d) (ho : op m = 28)
    (hx : ∀ j, s ≤ j → j < k → a ≠ some j → o ≠ some j → ar j = ar0 j) (ha : ∀ i, a = some i → ar i = (m : Int)) (hao : ∀ i, a = some i → o ≠ some i) : PRE op ar s (m + 1) d (some m) o (ψand ψ β) := by
  have hkm := hb.1
  refine ⟨by have := h.1; omega, fun i hi => by cases hi; have := h.1; omega, fun i hi => by have := h.2.2.1 i hi; omega, fun ar' ta to g1 g2 g3 g4 g5 E hE st hst => ?_⟩
  have hmo : o ≠ some m := fun e => by have := h.2.2.1 m e; omega
  obtain ⟨n, hn, hz⟩ := h.2.2.2 ar' m to (fun j j1 j2 j3 j4 => by rw [g1 j j1 (by omega) (fun e => by cases e; omega) j4]; exact hx j j1 j2 j3 j4) (fun i hi => by have := h.2.1 i hi; rw [g1 i this.1 (by omega) (fun e => by cases e; omega) (hao i hi)]; exact ha i hi) g3 hb.1 (by have := hb.1; omega) E hE st hst
  have hn2 := MS_w (s' := s) (e' := m + 1) (Nat.le_refl _) (by omega) (Nat.le_refl (st.length + d)) (fun j _ _ => ⟨rfl, rfl⟩) n _ _ _ hn
  have hs := stp_and (E := E) (st := st) ho (g2 m rfl)
  have hsk := h.1
  have la : (0 :: st).length ≤ st.length + d := by simp only [List.length_cons]; omega
  have lb : BND (0 :: st) := BND_c (by decide) hst
  unfold ψand
  cases hv : ψ E with
  | none => rw [hv] at hn2; exact ⟨n, hn2, fun z hz => nomatch hz⟩
  | some z =>
    rw [hv] at hn2
    match z with
    | 0 =>
      try dsimp only at hn2 ⊢
      obtain ⟨q, hq⟩ := (hb.2 E hE).2 st hst
      have hq2 := MS_w (op' := op) (ar' := ar') (s' := s) (e' := m + 1) hsk (by omega) (show st.length + d0 ≤ st.length + d by omega) (fun j j1 j2 => ⟨rfl, g1 j (by omega) (by omega) (fun e => by cases e; omega) (fun e => by have := h.2.2.1 j e; omega)⟩) q _ _ _ hq
      dsimp only at hq2
      cases hβ : β E with
      | none => rw [hβ] at hq2; exact ⟨n + q, MS_t n q _ _ _ _ _ hn2 hq2, fun z hz => nomatch hz⟩
      | some b =>
        rw [hβ] at hq2
        cases b with
        | true => exact ⟨n + (q + 1), MS_t n _ _ _ _ _ _ hn2 (MS_t q 1 _ _ _ _ _ hq2 (MS_1 (by omega) (by omega) hs.2 (by omega) hst)), fun z hz => by cases hz; exact ⟨fun h => (by omega), fun h => absurd rfl h⟩⟩
        | false => exact ⟨n + (q + 1), MS_t n _ _ _ _ _ _ hn2 (MS_t q 1 _ _ _ _ _ hq2 (MS_1 (by omega) (by omega) hs.1 la lb)), fun z hz => by cases hz; exact ⟨fun _ h => (nomatch h), fun _ h => absurd rfl h⟩⟩
    | 1 =>
      try dsimp only at hn2 ⊢
      exact ⟨n + 1, MS_t n 1 _ _ _ _ _ hn2 (MS_1 (by omega) (by omega) hs.1 la lb), fun z hz => by cases hz; exact ⟨fun _ h => (nomatch h), fun _ h => absurd rfl h⟩⟩
    | z + 2 =>
      exact ⟨n, hn2, fun y hy => by cases hy; exact ⟨fun h => (by omega), fun _ _ => (hz (z + 2) hv).2 (by omega) (by omega)⟩⟩
/-- behind a condition: 'or' at m; the 'and', the 'or' before it jump here -/
theorem PRE_or {op ar ar0 : Nat → Int} {s k m d d0 : Nat} {a o : Option Nat} {ψ : (Nat → Int) → Option Nat} {β : (Nat → Int) → Option Bool} (h : PRE op ar0 s k d a o ψ) (hb : BVal op ar k m d0 β) (hd0 : d0 ≤ d) (hd1 : 1 ≤ d) (ho : op m = 29)
    (hx : ∀ j, s ≤ j → j < k → a ≠ some j → o ≠ some j → ar j = ar0 j) (ha : ∀ i, a = some i → ar i = (m : Int)) (hoo : ∀ i, o = some i → ar i = (m : Int)) : PRE op ar s (m + 1) d none (some m) (ψor ψ β) := by
  have hkm := hb.1
  refine ⟨by have := h.1; omega, (fun i hi => nomatch hi), fun i hi => by cases hi; have := h.1; omega, fun ar' ta to g1 g2 g3 g4 g5 E hE st hst => ?_⟩
  have gj : ∀ j, s ≤ j → j < m → ar' j = ar j := fun j j1 j2 => g1 j j1 (by omega) (fun e => nomatch e) (fun e => by cases e; omega)
  obtain ⟨n, hn, hz⟩ := h.2.2.2 ar' m m (fun j j1 j2 j3 j4 => by rw [gj j j1 (by omega)]; exact hx j j1 j2 j3 j4) (fun i hi => by have := h.2.1 i hi; rw [gj i this.1 (by omega)]; exact ha i hi) (fun i hi => by have := h.2.2.1 i hi; rw [gj i this.1 (by omega)]; exact hoo i hi) hb.1 hb.1 E hE st hst
  have hn2 := MS_w (s' := s) (e' := m + 1) (Nat.le_refl _) (by omega) (Nat.le_refl (st.length + d)) (fun j _ _ => ⟨rfl, rfl⟩) n _ _ _ hn
  have hs := stp_or (E := E) (st := st) ho (g3 m rfl)
  have hsk := h.1
  have la : (1 :: st).length ≤ st.length + d := by simp only [List.length_cons]; omega
  have lb : BND (1 :: st) := BND_c (by decide) hst
  unfold ψor
  cases hv : ψ E with
  | none => rw [hv] at hn2; exact ⟨n, hn2, fun z hz => nomatch hz⟩
  | some z =>
    rw [hv] at hn2
    match z with
    | 0 =>
      try dsimp only at hn2 ⊢
      obtain ⟨q, hq⟩ := (hb.2 E hE).2 st hst
      have hq2 := MS_w (op' := op) (ar' := ar') (s' := s) (e' := m + 1) hsk (by omega) (show st.length + d0 ≤ st.length + d by omega) (fun j j1 j2 => ⟨rfl, gj j (by omega) j2⟩) q _ _ _ hq
      dsimp only at hq2
      cases hβ : β E with
      | none => rw [hβ] at hq2; exact ⟨n + q, MS_t n q _ _ _ _ _ hn2 hq2, fun z hz => nomatch hz⟩
      | some b =>
        rw [hβ] at hq2
        cases b with
        | true => exact ⟨n + (q + 1), MS_t n _ _ _ _ _ _ hn2 (MS_t q 1 _ _ _ _ _ hq2 (MS_1 (by omega) (by omega) hs.1 la lb)), fun z hz => by cases hz; exact ⟨fun h => (by omega), fun _ _ h => nomatch h⟩⟩
        | false => exact ⟨n + (q + 1), MS_t n _ _ _ _ _ _ hn2 (MS_t q 1 _ _ _ _ _ hq2 (MS_1 (by omega) (by omega) hs.2 (by omega) hst)), fun z hz => by cases hz; exact ⟨fun h => (by omega), fun h => absurd rfl h⟩⟩
    | 1 =>
      try dsimp only at hn2 ⊢
      exact ⟨n + 1, MS_t n 1 _ _ _ _ _ hn2 (MS_1 (by omega) (by omega) hs.2 (by omega) hst), fun z hz => by cases hz; exact ⟨fun h => (by omega), fun h => absurd rfl h⟩⟩
    | z + 2 =>
      try dsimp only at hn2 ⊢
      exact ⟨n + 1, MS_t n 1 _ _ _ _ _ hn2 (MS_1 (by omega) (by omega) hs.1 la lb), fun y hy => by cases hy; exact ⟨fun h => (by omega), fun _ _ h => nomatch h⟩⟩
theorem PRE_end {op ar ar0 : Nat → Int} {s k m d d0 : Nat} {a o : Option Nat} {ψ : (Nat → Int) → Option Nat} {β : (Nat → Int) → Option Bool} (h : PRE op ar0 s k d a o ψ) (hb : BVal op ar k m d0 β) (hd0 : d0 ≤ d) (hd1 : 1 ≤ d)
    (hx : ∀ j, s ≤ j → j < k → a ≠ some j → o ≠ some j → ar j = ar0 j) (ha : ∀ i, a = some i → ar i = (m : Int)) (hoo : ∀ i, o = some i → ar i = (m : Int)) : BVal op ar s m d (ψend ψ β) := by
  have hkm := hb.1
  have hsk := h.1
  refine ⟨by omega, fun E hE => ⟨fun l hl => ?_, fun st hst => ?_⟩⟩
  · dsimp only at hl
    cases hv : ψend ψ β E with
    | none => rw [hv] at hl; exact nomatch hl
    | some b => rw [hv] at hl; cases hl; exact BND_c (bv_b _) BND_nil
  obtain ⟨n, hn, hz⟩ := h.2.2.2 ar m m hx ha hoo hb.1 hb.1 E hE st hst
  have hn2 := MS_w (s' := s) (e' := m) (Nat.le_refl _) hkm (Nat.le_refl (st.length + d)) (fun j _ _ => ⟨rfl, rfl⟩) n _ _ _ hn
  unfold ψend
  dsimp only
  cases hv : ψ E with
  | none => rw [hv] at hn2; exact ⟨n, hn2⟩
  | some z =>
    rw [hv] at hn2
    match z with
    | 0 =>
      try dsimp only at hn2 ⊢
      obtain ⟨q, hq⟩ := (hb.2 E hE).2 st hst
      have hq2 := MS_w (s' := s) (e' := m) hsk (Nat.le_refl _) (show st.length + d0 ≤ st.length + d by omega) (fun j _ _ => ⟨rfl, rfl⟩) q _ _ _ hq
      dsimp only at hq2
      exact ⟨n + q, MS_t n q _ _ _ _ _ hn2 hq2⟩
    | 1 => exact ⟨n, hn2⟩
    | z + 2 => exact ⟨n, hn2⟩
end
section
/-! THE CLASS'S JUDGE over its orders -/
noncomputable def PREP (pile : Nat → Int) : List Int → Prop
  | [] => True
  | a :: l => pile l.length = a ∧ PREP pile l
theorem PREP_u {pile : Nat → Int} {i : Nat} {v : Int} : ∀ l : List Int, l.length ≤ i → PREP pile l → PREP (zu pile i v) l := by
  intro l
  induction l with
  | nil => intro _ _; trivial
  | cons a l ih =>
    intro h g
    rw [List.length_cons] at h
    exact ⟨by rw [zu_ne _ _ (by omega)]; exact g.1, ih (by omega) g.2⟩
noncomputable def cop (v : Int) : Int := if v % 16 = 1 then 0 else if v % 16 = 2 then (if v / 16 < 8 then v / 16 + 1 else 99) else if 3 ≤ v % 16 ∧ v % 16 ≤ 12 then v % 16 + 17 else 99
noncomputable def car (v : Int) : Int := v / 16
theorem zl_div_t {a b : Int} (ha : -1000000000 ≤ a ∧ a ≤ 1000000000) (hb : -1000000000 ≤ b ∧ b ≤ 1000000000) : zl_div a b = a.tdiv b := by
  have e1 : (Int64.ofInt a).toInt = a := zwl (by omega)
  have e2 : (Int64.ofInt b).toInt = b := zwl (by omega)
  have h1 : (a.tdiv b).natAbs ≤ a.natAbs := by rw [Int.natAbs_tdiv]; exact Nat.div_le_self _ _
  unfold zl_div
  rw [Int64.toInt_div, e1, e2]
  exact zbl (by omega)
theorem k_118 {x w : Int} (hx : -9223372036854775808 ≤ x ∧ x ≤ 9223372036854775807) (h : f_Judge_worked_118 x = some w) : w = if -1000000000 ≤ x ∧ x ≤ 1000000000 then x else -2000000000 := by
  unfold f_Judge_worked_118 at h
  rw [zwl (x := 1000000000) (by omega), zwl hx, zwl (x := -1000000000) (by omega)] at h
  by_cases h1 : 1000000000 < x
  · rw [if_pos h1] at h; cases h; rw [if_neg (by omega)]
  · rw [if_neg h1] at h
    by_cases h2 : -1000000000 ≤ x
    · rw [if_pos h2] at h; cases h; rw [if_pos (by omega)]
    · rw [if_neg h2] at h; cases h; rw [if_neg (by omega)]
theorem k_wopf {op a b x : Int} (hx : x = wopv op a b) : wop op a b = if -1000000000 ≤ x ∧ x ≤ 1000000000 then some x else none := by
  unfold wop
  rw [hx]
theorem k_worked {s a b w : Int} (hs : 3 ≤ s ∧ s ≤ 9) (ha : -1000000000 ≤ a ∧ a ≤ 1000000000) (hb : -1000000000 ≤ b ∧ b ≤ 1000000000) (h : f_Judge_worked s a b = some w) : (wop (s + 17) a b = none ∧ w = -2000000000) ∨ (wop (s + 17) a b = some w ∧ -1000000000 ≤ w ∧ w ≤ 1000000000) := by
  have fin : ∀ x : Int, (x = wopv (s + 17) a b) → (w = if -1000000000 ≤ x ∧ x ≤ 1000000000 then x else -2000000000) → (wop (s + 17) a b = none ∧ w = -2000000000) ∨ (wop (s + 17) a b = some w ∧ -1000000000 ≤ w ∧ w ≤ 1000000000) := by
    intro x hx hw
    rw [k_wopf hx]
    by_cases g : -1000000000 ≤ x ∧ x ≤ 1000000000
    · rw [if_pos g] at hw ⊢; subst hw; exact Or.inr ⟨rfl, g⟩
    · rw [if_neg g] at hw ⊢; exact Or.inl ⟨rfl, hw⟩
  unfold f_Judge_worked at h
  rw [zwi (x := s) (by omega), zwl (x := b) (by omega), zwl (x := a) (by omega)] at h
  have hs7 : s = 3 ∨ s = 4 ∨ s = 5 ∨ s = 6 ∨ s = 7 ∨ s = 8 ∨ s = 9 := by omega
  rcases hs7 with e | e | e | e | e | e | e <;> subst e
  · rw [if_pos rfl] at h
    exact fin (a + b) rfl (k_118 (by omega) h)
  · rw [if_neg (by decide), if_pos rfl] at h
    exact fin (a - b) rfl (k_118 (by omega) h)
  · rw [if_neg (by decide), if_neg (by decide), if_pos rfl] at h
    have hm := zmulA (a := a) (b := b) 1000000000 1000000000 (by omega) (by omega)
    exact fin (a * b) rfl (k_118 (by omega) h)
  · rw [if_neg (by decide), if_neg (by decide), if_neg (by decide), if_pos rfl, zwl (x := 0) (by decide)] at h
    by_cases hz : b = 0
    · rw [if_neg (fun g => g hz)] at h
      cases h
      exact fin 2000000000 (by unfold wopv; rw [if_neg (by decide), if_neg (by decide), if_neg (by decide), if_pos (by decide), if_pos hz]) (by rw [if_neg (by decide)])
    · rw [if_pos hz, if_neg hz] at h
      replace h := xp_n h
      have h1 : (a.tdiv b).natAbs ≤ a.natAbs := by rw [Int.natAbs_tdiv]; exact Nat.div_le_self _ _
      rw [zl_div_t ha hb] at h
      exact fin (a.tdiv b) (by unfold wopv; rw [if_neg (by decide), if_neg (by decide), if_neg (by decide), if_pos (by decide), if_neg hz]) (k_118 (by omega) h)
  · rw [if_neg (by decide), if_neg (by decide), if_neg (by decide), if_neg (by decide), if_pos rfl] at h
    by_cases hz : b ≤ a
    · rw [if_pos hz] at h; cases h
      exact fin 0 (by unfold wopv; rw [if_neg (by decide), if_neg (by decide), if_neg (by decide), if_neg (by decide), if_pos (by decide), if_neg (by omega)]) (by decide)
    · rw [if_neg hz] at h; cases h
      exact fin 1 (by unfold wopv; rw [if_neg (by decide), if_neg (by decide), if_neg (by decide), if_neg (by decide), if_pos (by decide), if_pos (by omega)]) (by decide)
  · rw [if_neg (by decide), if_neg (by decide), if_neg (by decide), if_neg (by decide), if_neg (by decide), if_pos rfl] at h
    by_cases hz : a ≤ b
    · rw [if_pos hz] at h; cases h
      exact fin 0 (by unfold wopv; rw [if_neg (by decide), if_neg (by decide), if_neg (by decide), if_neg (by decide), if_neg (by decide), if_pos (by decide), if_neg (by omega)]) (by decide)
    · rw [if_neg hz] at h; cases h
      exact fin 1 (by unfold wopv; rw [if_neg (by decide), if_neg (by decide), if_neg (by decide), if_neg (by decide), if_neg (by decide), if_pos (by decide), if_pos (by omega)]) (by decide)
  · rw [if_neg (by decide), if_neg (by decide), if_neg (by decide), if_neg (by decide), if_neg (by decide), if_neg (by decide), if_pos rfl] at h
    by_cases hz : a = b
    · rw [if_neg (fun g => g hz)] at h; cases h
      exact fin 1 (by unfold wopv; rw [if_neg (by decide), if_neg (by decide), if_neg (by decide), if_neg (by decide), if_neg (by decide), if_neg (by decide), if_pos hz]) (by decide)
    · rw [if_pos hz] at h; cases h
      exact fin 0 (by unfold wopv; rw [if_neg (by decide), if_neg (by decide), if_neg (by decide), if_neg (by decide), if_neg (by decide), if_neg (by decide), if_neg hz]) (by decide)
theorem k_push {x : Int} {k : Nat} {pile : Nat → Int} {o : Int × (Nat → Int)} (hk : k < 32) (h : f_Judge_push x (k : Int) pile = some o) : o = (((k + 1 : Nat) : Int), zu pile k x) := by
  unfold f_Judge_push at h
  rw [zwi (x := 32) (by decide), zwi (x := (k : Int)) (by omega), if_neg (by omega)] at h
  have h2 := (xp_s h).2
  rw [zwi (x := (k : Int)) (by omega), Int.toNat_natCast] at h2
  replace h2 := xp_n h2
  cases h2
  rfl
theorem k_pop {k : Nat} {pile : Nat → Int} {o : Int × Int} (hk : k < 32) (h : f_Judge_pop pile ((k + 1 : Nat) : Int) = some o) : o = (pile k, (k : Int)) := by
  unfold f_Judge_pop at h
  rw [zwi (x := ((k + 1 : Nat) : Int)) (by omega), if_pos (by omega)] at h
  replace h := xp_n h
  have h2 := (xp_g h).2
  have e : (((k + 1 : Nat) : Int) - 1) = (k : Int) := by omega
  rw [e, zwi (x := (k : Int)) (by omega), Int.toNat_natCast] at h2
  cases h2
  rfl
/-- the judge comes to o from here -/
noncomputable def HR (words ord : Nat → Int) (base n : Nat) (o : Int × Int × Int × (Nat → Int)) (res cE k : Nat) (piled til bar : Int) (pile : Nat → Int) : Prop :=
  ∃ N, f_Judge_hear_8 words ord N (base : Int) (n : Int) (res : Int) (cE : Int) (k : Int) piled til bar pile = some o
theorem HR_skip1 {words ord : Nat → Int} {base n : Nat} {o : Int × Int × Int × (Nat → Int)} {res cE k : Nat} {piled til bar : Int} {pile : Nat → Int} (hn : n ≤ 424) (hr : res ≤ 424) (h1 : k < res) (h2 : k < n) (h : HR words ord base n o res cE k piled til bar pile) : HR words ord base n o res cE (k + 1) piled til bar pile := by
  obtain ⟨N, h⟩ := h
  cases N with
  | zero => exact nomatch h
  | succ N =>
    have h' : f_Judge_hear_8_b words ord (f_Judge_hear_8 words ord N) (base : Int) (n : Int) (res : Int) (cE : Int) (k : Int) piled til bar pile = some o := h
    unfold f_Judge_hear_8_b at h'
    rw [zwi (x := (n : Int)) (by omega), zwi (x := (k : Int)) (by omega), zwi (x := (res : Int)) (by omega), if_neg (by omega), if_neg (by omega)] at h'
    unfold f_Judge_hear_338 at h'
    replace h' := xp_n h'
    exact ⟨N, h'⟩
theorem HR_skip {words ord : Nat → Int} {base n : Nat} {o : Int × Int × Int × (Nat → Int)} {res cE : Nat} {piled til bar : Int} {pile : Nat → Int} (hn : n ≤ 424) (hr : res ≤ 424) : ∀ (d k : Nat), k + d ≤ res → k + d ≤ n → HR words ord base n o res cE k piled til bar pile → HR words ord base n o res cE (k + d) piled til bar pile := by
  intro d
  induction d with
  | zero => intro k _ _ h; exact h
  | succ d ih =>
    intro k h1 h2 h
    have g := HR_skip1 hn hr (by omega) (by omega) h
    have := ih (k + 1) (by omega) (by omega) g
    rw [show k + (d + 1) = k + 1 + d from by omega]
    exact this
theorem zi_and15 {x : Int} (h : 0 ≤ x ∧ x ≤ 100000) : zi_and x 15 = x % 16 := by
  have e : zi_and x 15 = ((Int32.ofInt x).toBitVec &&& (Int32.ofInt 15).toBitVec).toInt := rfl
  have e1 : (Int32.ofInt x).toBitVec.toInt = x := zwi (x := x) (by omega)
  have n1 : (Int32.ofInt x).toBitVec.toNat = x.toNat := by
    have hlt := (Int32.ofInt x).toBitVec.isLt
    rw [BitVec.toInt_eq_toNat_cond] at e1
    split at e1 <;> omega
  have n2 : ((Int32.ofInt x).toBitVec &&& (Int32.ofInt 15).toBitVec).toNat = x.toNat % 16 := by
    rw [BitVec.toNat_and, n1]
    have e15 : (Int32.ofInt 15).toBitVec.toNat = 2 ^ 4 - 1 := by decide
    rw [e15, Nat.and_two_pow_sub_one_eq_mod]
  rw [e, BitVec.toInt_eq_toNat_cond, n2]
  split <;> omega
set_option maxHeartbeats 8000000 in
theorem HR_step {words ord E : Nat → Int} {base n : Nat} {o : Int × Int × Int × (Nat → Int)} {res cE k : Nat} {til bar : Int} {pile : Nat → Int} {st : List Int} (hn : n ≤ 424) (hb : base ≤ 2120) (hr : res ≤ k) (hk : k < n) (hw : ∀ j, j < 8 → words j = E j) (hE : EOK E) (hv : 0 ≤ ord (base + k) ∧ ord (base + k) ≤ 100000) (hP : PREP pile st) (hB : BND st) (hl : st.length ≤ 32)
    (h : HR words ord base n o res cE k (st.length : Int) til bar pile) :
    (∀ k1 st1, stp (fun j => cop (ord (base + j))) (fun j => car (ord (base + j))) E k st = some (some (k1, st1)) → k < k1 → k1 ≤ n → st1.length ≤ 32 → BND st1 → ∃ (res' : Nat) (pile' : Nat → Int), res' ≤ k1 ∧ HR words ord base n o res' cE k1 (st1.length : Int) til bar pile' ∧ PREP pile' st1) ∧
    (stp (fun j => cop (ord (base + j))) (fun j => car (ord (base + j))) E k st = some none → ∃ (piled' : Int) (pile' : Nat → Int), HR words ord base n o cE cE (k + 1) piled' til bar pile') := by
  generalize hV : ord (base + k) = v at hv
  have r16 := zemod v (w := 16) (by decide)
  have hd : 0 ≤ v / 16 ∧ v / 16 ≤ 100000 := by omega
  obtain ⟨N, h⟩ := h
  cases N with
  | zero => exact nomatch h
  | succ N =>
    replace h : f_Judge_hear_8_b words ord (f_Judge_hear_8 words ord N) (base : Int) (n : Int) (res : Int) (cE : Int) (k : Int) (st.length : Int) til bar pile = some o := h
    unfold f_Judge_hear_8_b at h
    rw [zwi (x := (n : Int)) (by omega), zwi (x := (k : Int)) (by omega), zwi (x := (res : Int)) (by omega), if_neg (by omega), if_pos (by omega)] at h
    replace h := xp_n h
    replace h := (xp_g h).2
    replace h := xp_n h
    replace h := xp_n h
    replace h := (xp_g h).2
    replace h := xp_n h
    have ei : (zi_w ((base : Int) + (k : Int))).toNat = base + k := by rw [zwi (by omega)]; omega
    have ea : zi_and v 15 = v % 16 := zi_and15 (by omega)
    have es : zi_shr v 4 = v / 16 := zi_shr_k 4 16 (by decide) (by decide) (by omega)
    rw [ei, hV, ea, es, zwi (x := v % 16) (by omega), zwi (x := v / 16) (by omega)] at h
    have es1 : stp (fun j => cop (ord (base + j))) (fun j => car (ord (base + j))) E k st = stpv (cop v) (v / 16) E k st := by rw [← hV]; rfl
    rw [es1]
    clear es1
    have key : v % 16 = 0 ∨ v % 16 = 1 ∨ v % 16 = 2 ∨ v % 16 = 3 ∨ v % 16 = 4 ∨ v % 16 = 5 ∨ v % 16 = 6 ∨ v % 16 = 7 ∨ v % 16 = 8 ∨ v % 16 = 9 ∨ v % 16 = 10 ∨ v % 16 = 11 ∨ v % 16 = 12 ∨ v % 16 = 13 ∨ v % 16 = 14 ∨ v % 16 = 15 := by omega
    rcases key with e | e | e | e | e | e | e | e | e | e | e | e | e | e | e | e
    · have ep : cop v = 99 := by unfold cop; rw [if_neg (by omega), if_neg (by omega), if_neg (by omega)]
      rw [ep]
      unfold stpv
      rw [if_neg (by decide), if_neg (by decide), if_neg (by decide), if_neg (by decide), if_neg (by decide)]
      exact ⟨fun k1 st1 g => (nomatch g), fun g => nomatch g⟩
    · have ep : cop v = 0 := by unfold cop; rw [if_pos e]
      rw [ep]
      unfold stpv
      rw [if_pos rfl]
      refine ⟨fun k1 st1 g g1 g2 g3 g4 => ?_, fun g => nomatch g⟩
      cases g
      rw [List.length_cons] at g3
      rw [if_neg (by omega), if_pos e] at h
      obtain ⟨v7, a8, e1, h⟩ := xz_d2 h
      have p := k_push (by omega) e1
      cases p
      unfold f_Judge_hear_338 at h
      replace h := xp_n h
      refine ⟨res, _, by omega, ⟨N, h⟩, ?_⟩
      exact ⟨zu_eq _ _ _, PREP_u st (Nat.le_refl _) hP⟩
    · by_cases h8 : v / 16 < 8
      · have ep : cop v = v / 16 + 1 := by unfold cop; rw [if_neg (by omega), if_pos e, if_pos h8]
        rw [ep]
        unfold stpv
        rw [if_neg (by omega), if_pos (by omega)]
        refine ⟨fun k1 st1 g g1 g2 g3 g4 => ?_, fun g => nomatch g⟩
        cases g
        rw [List.length_cons] at g3
        rw [if_neg (by omega), if_neg (by omega), if_pos e, if_neg (by omega), zwi (x := 8) (by decide), if_neg (by omega)] at h
        replace h := (xp_g h).2
        rw [zwi (x := v / 16) (by omega)] at h
        unfold f_Judge_hear_177 at h
        obtain ⟨v7, a8, e1, h⟩ := xz_d2 h
        have p := k_push (by omega) e1
        cases p
        unfold f_Judge_hear_338 at h
        replace h := xp_n h
        refine ⟨res, _, by omega, ⟨N, h⟩, ?_⟩
        refine ⟨?_, PREP_u st (Nat.le_refl _) hP⟩
        rw [zu_eq, hw _ (by omega), show (v / 16 + 1 - 1).toNat = (v / 16).toNat from by omega]
      · have ep : cop v = 99 := by unfold cop; rw [if_neg (by omega), if_pos e, if_neg h8]
        rw [ep]
        unfold stpv
        rw [if_neg (by decide), if_neg (by decide), if_neg (by decide), if_neg (by decide), if_neg (by decide)]
        exact ⟨fun k1 st1 g => (nomatch g), fun g => nomatch g⟩
    · have ep : cop v = 20 := by unfold cop; rw [if_neg (by omega), if_neg (by omega), if_pos (by omega), e]; rfl
      rw [ep]
      unfold stpv
      rw [if_neg (by decide), if_neg (by decide), if_pos (by decide)]
      match st, hP, hB, hl, h with
      | [], _, _, _, _ => exact ⟨fun k1 st1 g => (nomatch g), fun g => nomatch g⟩
      | [_], _, _, _, _ => exact ⟨fun k1 st1 g => (nomatch g), fun g => nomatch g⟩
      | b :: a :: l, hP, hB, hl, h =>
        dsimp only
        simp only [List.length_cons] at hl
        rw [if_neg (by omega), if_neg (by omega), if_neg (by omega), if_pos e, e] at h
        obtain ⟨u1, u2, e1, h⟩ := xz_d2 h
        have p1 := k_pop (k := l.length + 1) (by omega) e1
        cases p1
        obtain ⟨u3, u4, e2, h⟩ := xz_d2 h
        have p2 := k_pop (k := l.length) (by omega) e2
        cases p2
        have q1 : pile (l.length + 1) = b := hP.1
        have q2 : pile l.length = a := hP.2.1
        have qa := (BND_t (BND_t hB).2).1
        have qb := (BND_t hB).1
        replace h := xp_n h
        replace h := xp_n h
        rw [q1, q2, zwi (x := a) (by omega), zwi (x := b) (by omega)] at h
        obtain ⟨w, e3, h⟩ := xz_d1 h
        have p3 := k_worked (by decide) qa qb e3
        obtain ⟨u5, a6, e4, h⟩ := xz_d2 h
        have p4 := k_push (by omega) e4
        cases p4
        rw [zwi (x := -2000000000) (by decide)] at h
        rcases p3 with ⟨p3, p5⟩ | ⟨p3, p5⟩
        · rw [show ((3 : Int) + 17) = 20 from rfl] at p3
          rw [p3]
          refine ⟨fun k1 st1 g => (nomatch g), fun g => ?_⟩
          rw [p5, if_neg (by rw [zwi (by decide)]; exact fun g => g rfl)] at h
          unfold f_Judge_hear_337 f_Judge_hear_338 at h
          replace h := xp_n h
          exact ⟨_, _, ⟨N, h⟩⟩
        · rw [show ((3 : Int) + 17) = 20 from rfl] at p3
          rw [p3]
          refine ⟨fun k1 st1 g g1 g2 g3 g4 => ?_, fun g => nomatch g⟩
          cases g
          rw [if_pos (by rw [zwi (by omega)]; omega)] at h
          unfold f_Judge_hear_337 f_Judge_hear_338 at h
          replace h := xp_n h
          refine ⟨res, _, by omega, ⟨N, h⟩, ?_⟩
          exact ⟨zu_eq _ _ _, PREP_u l (Nat.le_refl _) hP.2.2⟩
    · have ep : cop v = 21 := by unfold cop; rw [if_neg (by omega), if_neg (by omega), if_pos (by omega), e]; rfl
      rw [ep]
      unfold stpv
      rw [if_neg (by decide), if_neg (by decide), if_pos (by decide)]
      match st, hP, hB, hl, h with
      | [], _, _, _, _ => exact ⟨fun k1 st1 g => (nomatch g), fun g => nomatch g⟩
      | [_], _, _, _, _ => exact ⟨fun k1 st1 g => (nomatch g), fun g => nomatch g⟩
      | b :: a :: l, hP, hB, hl, h =>
        dsimp only
        simp only [List.length_cons] at hl
        rw [if_neg (by omega), if_neg (by omega), if_neg (by omega), if_neg (by omega), if_pos e, e] at h
        obtain ⟨u1, u2, e1, h⟩ := xz_d2 h
        have p1 := k_pop (k := l.length + 1) (by omega) e1
        cases p1
        obtain ⟨u3, u4, e2, h⟩ := xz_d2 h
        have p2 := k_pop (k := l.length) (by omega) e2
        cases p2
        have q1 : pile (l.length + 1) = b := hP.1
        have q2 : pile l.length = a := hP.2.1
        have qa := (BND_t (BND_t hB).2).1
        have qb := (BND_t hB).1
        replace h := xp_n h
        replace h := xp_n h
        rw [q1, q2, zwi (x := a) (by omega), zwi (x := b) (by omega)] at h
        obtain ⟨w, e3, h⟩ := xz_d1 h
        have p3 := k_worked (by decide) qa qb e3
        obtain ⟨u5, a6, e4, h⟩ := xz_d2 h
        have p4 := k_push (by omega) e4
        cases p4
        rw [zwi (x := -2000000000) (by decide)] at h
        rcases p3 with ⟨p3, p5⟩ | ⟨p3, p5⟩
        · rw [show ((4 : Int) + 17) = 21 from rfl] at p3
          rw [p3]
          refine ⟨fun k1 st1 g => (nomatch g), fun g => ?_⟩
          rw [p5, if_neg (by rw [zwi (by decide)]; exact fun g => g rfl)] at h
          unfold f_Judge_hear_337 f_Judge_hear_338 at h
          replace h := xp_n h
          exact ⟨_, _, ⟨N, h⟩⟩
        · rw [show ((4 : Int) + 17) = 21 from rfl] at p3
          rw [p3]
          refine ⟨fun k1 st1 g g1 g2 g3 g4 => ?_, fun g => nomatch g⟩
          cases g
          rw [if_pos (by rw [zwi (by omega)]; omega)] at h
          unfold f_Judge_hear_337 f_Judge_hear_338 at h
          replace h := xp_n h
          refine ⟨res, _, by omega, ⟨N, h⟩, ?_⟩
          exact ⟨zu_eq _ _ _, PREP_u l (Nat.le_refl _) hP.2.2⟩
    · have ep : cop v = 22 := by unfold cop; rw [if_neg (by omega), if_neg (by omega), if_pos (by omega), e]; rfl
      rw [ep]
      unfold stpv
      rw [if_neg (by decide), if_neg (by decide), if_pos (by decide)]
      match st, hP, hB, hl, h with
      | [], _, _, _, _ => exact ⟨fun k1 st1 g => (nomatch g), fun g => nomatch g⟩
      | [_], _, _, _, _ => exact ⟨fun k1 st1 g => (nomatch g), fun g => nomatch g⟩
      | b :: a :: l, hP, hB, hl, h =>
        dsimp only
        simp only [List.length_cons] at hl
        rw [if_neg (by omega), if_neg (by omega), if_neg (by omega), if_neg (by omega), if_neg (by omega), if_pos e, e] at h
        obtain ⟨u1, u2, e1, h⟩ := xz_d2 h
        have p1 := k_pop (k := l.length + 1) (by omega) e1
        cases p1
        obtain ⟨u3, u4, e2, h⟩ := xz_d2 h
        have p2 := k_pop (k := l.length) (by omega) e2
        cases p2
        have q1 : pile (l.length + 1) = b := hP.1
        have q2 : pile l.length = a := hP.2.1
        have qa := (BND_t (BND_t hB).2).1
        have qb := (BND_t hB).1
        replace h := xp_n h
        replace h := xp_n h
        rw [q1, q2, zwi (x := a) (by omega), zwi (x := b) (by omega)] at h
        obtain ⟨w, e3, h⟩ := xz_d1 h
        have p3 := k_worked (by decide) qa qb e3
        obtain ⟨u5, a6, e4, h⟩ := xz_d2 h
        have p4 := k_push (by omega) e4
        cases p4
        rw [zwi (x := -2000000000) (by decide)] at h
        rcases p3 with ⟨p3, p5⟩ | ⟨p3, p5⟩
        · rw [show ((5 : Int) + 17) = 22 from rfl] at p3
          rw [p3]
          refine ⟨fun k1 st1 g => (nomatch g), fun g => ?_⟩
          rw [p5, if_neg (by rw [zwi (by decide)]; exact fun g => g rfl)] at h
          unfold f_Judge_hear_337 f_Judge_hear_338 at h
          replace h := xp_n h
          exact ⟨_, _, ⟨N, h⟩⟩
        · rw [show ((5 : Int) + 17) = 22 from rfl] at p3
          rw [p3]
          refine ⟨fun k1 st1 g g1 g2 g3 g4 => ?_, fun g => nomatch g⟩
          cases g
          rw [if_pos (by rw [zwi (by omega)]; omega)] at h
          unfold f_Judge_hear_337 f_Judge_hear_338 at h
          replace h := xp_n h
          refine ⟨res, _, by omega, ⟨N, h⟩, ?_⟩
          exact ⟨zu_eq _ _ _, PREP_u l (Nat.le_refl _) hP.2.2⟩
    · have ep : cop v = 23 := by unfold cop; rw [if_neg (by omega), if_neg (by omega), if_pos (by omega), e]; rfl
      rw [ep]
      unfold stpv
      rw [if_neg (by decide), if_neg (by decide), if_pos (by decide)]
      match st, hP, hB, hl, h with
      | [], _, _, _, _ => exact ⟨fun k1 st1 g => (nomatch g), fun g => nomatch g⟩
      | [_], _, _, _, _ => exact ⟨fun k1 st1 g => (nomatch g), fun g => nomatch g⟩
      | b :: a :: l, hP, hB, hl, h =>
        dsimp only
        simp only [List.length_cons] at hl
        rw [if_neg (by omega), if_neg (by omega), if_neg (by omega), if_neg (by omega), if_neg (by omega), if_neg (by omega), if_pos e, e] at h
        obtain ⟨u1, u2, e1, h⟩ := xz_d2 h
        have p1 := k_pop (k := l.length + 1) (by omega) e1
        cases p1
        obtain ⟨u3, u4, e2, h⟩ := xz_d2 h
        have p2 := k_pop (k := l.length) (by omega) e2
        cases p2
        have q1 : pile (l.length + 1) = b := hP.1
        have q2 : pile l.length = a := hP.2.1
        have qa := (BND_t (BND_t hB).2).1
        have qb := (BND_t hB).1
        replace h := xp_n h
        replace h := xp_n h
        rw [q1, q2, zwi (x := a) (by omega), zwi (x := b) (by omega)] at h
        obtain ⟨w, e3, h⟩ := xz_d1 h
        have p3 := k_worked (by decide) qa qb e3
        obtain ⟨u5, a6, e4, h⟩ := xz_d2 h
        have p4 := k_push (by omega) e4
        cases p4
        rw [zwi (x := -2000000000) (by decide)] at h
        rcases p3 with ⟨p3, p5⟩ | ⟨p3, p5⟩
        · rw [show ((6 : Int) + 17) = 23 from rfl] at p3
          rw [p3]
          refine ⟨fun k1 st1 g => (nomatch g), fun g => ?_⟩
          rw [p5, if_neg (by rw [zwi (by decide)]; exact fun g => g rfl)] at h
          unfold f_Judge_hear_337 f_Judge_hear_338 at h
          replace h := xp_n h
          exact ⟨_, _, ⟨N, h⟩⟩
        · rw [show ((6 : Int) + 17) = 23 from rfl] at p3
          rw [p3]
          refine ⟨fun k1 st1 g g1 g2 g3 g4 => ?_, fun g => nomatch g⟩
          cases g
          rw [if_pos (by rw [zwi (by omega)]; omega)] at h
          unfold f_Judge_hear_337 f_Judge_hear_338 at h
          replace h := xp_n h
          refine ⟨res, _, by omega, ⟨N, h⟩, ?_⟩
          exact ⟨zu_eq _ _ _, PREP_u l (Nat.le_refl _) hP.2.2⟩
    · have ep : cop v = 24 := by unfold cop; rw [if_neg (by omega), if_neg (by omega), if_pos (by omega), e]; rfl
      rw [ep]
      unfold stpv
      rw [if_neg (by decide), if_neg (by decide), if_pos (by decide)]
      match st, hP, hB, hl, h with
      | [], _, _, _, _ => exact ⟨fun k1 st1 g => (nomatch g), fun g => nomatch g⟩
      | [_], _, _, _, _ => exact ⟨fun k1 st1 g => (nomatch g), fun g => nomatch g⟩
      | b :: a :: l, hP, hB, hl, h =>
        dsimp only
        simp only [List.length_cons] at hl
        rw [if_neg (by omega), if_neg (by omega), if_neg (by omega), if_neg (by omega), if_neg (by omega), if_neg (by omega), if_neg (by omega), if_pos e, e] at h
        obtain ⟨u1, u2, e1, h⟩ := xz_d2 h
        have p1 := k_pop (k := l.length + 1) (by omega) e1
        cases p1
        obtain ⟨u3, u4, e2, h⟩ := xz_d2 h
        have p2 := k_pop (k := l.length) (by omega) e2
        cases p2
        have q1 : pile (l.length + 1) = b := hP.1
        have q2 : pile l.length = a := hP.2.1
        have qa := (BND_t (BND_t hB).2).1
        have qb := (BND_t hB).1
        replace h := xp_n h
        replace h := xp_n h
        rw [q1, q2, zwi (x := a) (by omega), zwi (x := b) (by omega)] at h
        obtain ⟨w, e3, h⟩ := xz_d1 h
        have p3 := k_worked (by decide) qa qb e3
        obtain ⟨u5, a6, e4, h⟩ := xz_d2 h
        have p4 := k_push (by omega) e4
        cases p4
        rw [zwi (x := -2000000000) (by decide)] at h
        rcases p3 with ⟨p3, p5⟩ | ⟨p3, p5⟩
        · rw [show ((7 : Int) + 17) = 24 from rfl] at p3
          rw [p3]
          refine ⟨fun k1 st1 g => (nomatch g), fun g => ?_⟩
          rw [p5, if_neg (by rw [zwi (by decide)]; exact fun g => g rfl)] at h
          unfold f_Judge_hear_337 f_Judge_hear_338 at h
          replace h := xp_n h
          exact ⟨_, _, ⟨N, h⟩⟩
        · rw [show ((7 : Int) + 17) = 24 from rfl] at p3
          rw [p3]
          refine ⟨fun k1 st1 g g1 g2 g3 g4 => ?_, fun g => nomatch g⟩
          cases g
          rw [if_pos (by rw [zwi (by omega)]; omega)] at h
          unfold f_Judge_hear_337 f_Judge_hear_338 at h
          replace h := xp_n h
          refine ⟨res, _, by omega, ⟨N, h⟩, ?_⟩
          exact ⟨zu_eq _ _ _, PREP_u l (Nat.le_refl _) hP.2.2⟩
    · have ep : cop v = 25 := by unfold cop; rw [if_neg (by omega), if_neg (by omega), if_pos (by omega), e]; rfl
      rw [ep]
      unfold stpv
      rw [if_neg (by decide), if_neg (by decide), if_pos (by decide)]
      match st, hP, hB, hl, h with
      | [], _, _, _, _ => exact ⟨fun k1 st1 g => (nomatch g), fun g => nomatch g⟩
      | [_], _, _, _, _ => exact ⟨fun k1 st1 g => (nomatch g), fun g => nomatch g⟩
      | b :: a :: l, hP, hB, hl, h =>
        dsimp only
        simp only [List.length_cons] at hl
        rw [if_neg (by omega), if_neg (by omega), if_neg (by omega), if_neg (by omega), if_neg (by omega), if_neg (by omega), if_neg (by omega), if_neg (by omega), if_pos e, e] at h
        obtain ⟨u1, u2, e1, h⟩ := xz_d2 h
        have p1 := k_pop (k := l.length + 1) (by omega) e1
        cases p1
        obtain ⟨u3, u4, e2, h⟩ := xz_d2 h
        have p2 := k_pop (k := l.length) (by omega) e2
        cases p2
        have q1 : pile (l.length + 1) = b := hP.1
        have q2 : pile l.length = a := hP.2.1
        have qa := (BND_t (BND_t hB).2).1
        have qb := (BND_t hB).1
        replace h := xp_n h
        replace h := xp_n h
        rw [q1, q2, zwi (x := a) (by omega), zwi (x := b) (by omega)] at h
        obtain ⟨w, e3, h⟩ := xz_d1 h
        have p3 := k_worked (by decide) qa qb e3
        obtain ⟨u5, a6, e4, h⟩ := xz_d2 h
        have p4 := k_push (by omega) e4
        cases p4
        rw [zwi (x := -2000000000) (by decide)] at h
        rcases p3 with ⟨p3, p5⟩ | ⟨p3, p5⟩
        · rw [show ((8 : Int) + 17) = 25 from rfl] at p3
          rw [p3]
          refine ⟨fun k1 st1 g => (nomatch g), fun g => ?_⟩
          rw [p5, if_neg (by rw [zwi (by decide)]; exact fun g => g rfl)] at h
          unfold f_Judge_hear_337 f_Judge_hear_338 at h
          replace h := xp_n h
          exact ⟨_, _, ⟨N, h⟩⟩
        · rw [show ((8 : Int) + 17) = 25 from rfl] at p3
          rw [p3]
          refine ⟨fun k1 st1 g g1 g2 g3 g4 => ?_, fun g => nomatch g⟩
          cases g
          rw [if_pos (by rw [zwi (by omega)]; omega)] at h
          unfold f_Judge_hear_337 f_Judge_hear_338 at h
          replace h := xp_n h
          refine ⟨res, _, by omega, ⟨N, h⟩, ?_⟩
          exact ⟨zu_eq _ _ _, PREP_u l (Nat.le_refl _) hP.2.2⟩
    · have ep : cop v = 26 := by unfold cop; rw [if_neg (by omega), if_neg (by omega), if_pos (by omega), e]; rfl
      rw [ep]
      unfold stpv
      rw [if_neg (by decide), if_neg (by decide), if_pos (by decide)]
      match st, hP, hB, hl, h with
      | [], _, _, _, _ => exact ⟨fun k1 st1 g => (nomatch g), fun g => nomatch g⟩
      | [_], _, _, _, _ => exact ⟨fun k1 st1 g => (nomatch g), fun g => nomatch g⟩
      | b :: a :: l, hP, hB, hl, h =>
        dsimp only
        simp only [List.length_cons] at hl
        rw [if_neg (by omega), if_neg (by omega), if_neg (by omega), if_neg (by omega), if_neg (by omega), if_neg (by omega), if_neg (by omega), if_neg (by omega), if_neg (by omega), if_pos e, e] at h
        obtain ⟨u1, u2, e1, h⟩ := xz_d2 h
        have p1 := k_pop (k := l.length + 1) (by omega) e1
        cases p1
        obtain ⟨u3, u4, e2, h⟩ := xz_d2 h
        have p2 := k_pop (k := l.length) (by omega) e2
        cases p2
        have q1 : pile (l.length + 1) = b := hP.1
        have q2 : pile l.length = a := hP.2.1
        have qa := (BND_t (BND_t hB).2).1
        have qb := (BND_t hB).1
        replace h := xp_n h
        replace h := xp_n h
        rw [q1, q2, zwi (x := a) (by omega), zwi (x := b) (by omega)] at h
        obtain ⟨w, e3, h⟩ := xz_d1 h
        have p3 := k_worked (by decide) qa qb e3
        obtain ⟨u5, a6, e4, h⟩ := xz_d2 h
        have p4 := k_push (by omega) e4
        cases p4
        rw [zwi (x := -2000000000) (by decide)] at h
        rcases p3 with ⟨p3, p5⟩ | ⟨p3, p5⟩
        · rw [show ((9 : Int) + 17) = 26 from rfl] at p3
          rw [p3]
          refine ⟨fun k1 st1 g => (nomatch g), fun g => ?_⟩
          rw [p5, if_neg (by rw [zwi (by decide)]; exact fun g => g rfl)] at h
          unfold f_Judge_hear_337 f_Judge_hear_338 at h
          replace h := xp_n h
          exact ⟨_, _, ⟨N, h⟩⟩
        · rw [show ((9 : Int) + 17) = 26 from rfl] at p3
          rw [p3]
          refine ⟨fun k1 st1 g g1 g2 g3 g4 => ?_, fun g => nomatch g⟩
          cases g
          rw [if_pos (by rw [zwi (by omega)]; omega)] at h
          unfold f_Judge_hear_337 f_Judge_hear_338 at h
          replace h := xp_n h
          refine ⟨res, _, by omega, ⟨N, h⟩, ?_⟩
          exact ⟨zu_eq _ _ _, PREP_u l (Nat.le_refl _) hP.2.2⟩
    · have ep : cop v = 27 := by unfold cop; rw [if_neg (by omega), if_neg (by omega), if_pos (by omega), e]; rfl
      rw [ep]
      unfold stpv
      rw [if_neg (by decide), if_neg (by decide), if_neg (by decide), if_pos rfl]
      match st, hP, hB, hl, h with
      | [], _, _, _, _ => exact ⟨fun k1 st1 g => (nomatch g), fun g => nomatch g⟩
      | a :: l, hP, hB, hl, h =>
        dsimp only
        simp only [List.length_cons] at hl
        refine ⟨fun k1 st1 g g1 g2 g3 g4 => ?_, fun g => nomatch g⟩
        cases g
        rw [if_neg (by omega), if_neg (by omega), if_neg (by omega), if_neg (by omega), if_neg (by omega), if_neg (by omega), if_neg (by omega), if_neg (by omega), if_neg (by omega), if_neg (by omega), if_pos e] at h
        obtain ⟨u1, u2, e1, h⟩ := xz_d2 h
        have p1 := k_pop (k := l.length) (by omega) e1
        cases p1
        replace h := xp_n h
        have q1 : pile l.length = a := hP.1
        rw [q1] at h
        obtain ⟨u5, a6, e4, h⟩ := xz_d2 h
        have p4 := k_push (by omega) e4
        cases p4
        unfold f_Judge_hear_338 at h
        replace h := xp_n h
        refine ⟨res, _, by omega, ⟨N, h⟩, ?_⟩
        exact ⟨zu_eq _ _ _, PREP_u l (Nat.le_refl _) hP.2⟩
    · have ep : cop v = 28 := by unfold cop; rw [if_neg (by omega), if_neg (by omega), if_pos (by omega), e]; rfl
      rw [ep]
      unfold stpv
      rw [if_neg (by decide), if_neg (by decide), if_neg (by decide), if_neg (by decide), if_pos (by decide)]
      match st, hP, hB, hl, h with
      | [], _, _, _, _ => exact ⟨fun k1 st1 g => (nomatch g), fun g => nomatch g⟩
      | a :: l, hP, hB, hl, h =>
        dsimp only
        simp only [List.length_cons] at hl
        have q1 : pile l.length = a := hP.1
        have qa := (BND_t hB).1
        rw [if_neg (by omega), if_neg (by omega), if_neg (by omega), if_neg (by omega), if_neg (by omega), if_neg (by omega), if_neg (by omega), if_neg (by omega), if_neg (by omega), if_neg (by omega), if_neg (by omega), if_pos e, e] at h
        obtain ⟨u1, u2, e1, h⟩ := xz_d2 h
        have p1 := k_pop (k := l.length) (by omega) e1
        cases p1
        rw [if_pos (by decide +kernel), q1] at h
        unfold f_Judge_hear_216 at h
        rw [zwi (x := a) (by omega), zwi (x := 0) (by decide)] at h
        by_cases ha : a = 0
        · rw [if_pos (by rw [if_pos rfl]; exact ha)]
          refine ⟨fun k1 st1 g g1 g2 g3 g4 => ?_, fun g => nomatch g⟩
          cases g
          rw [if_neg (fun g => g ha)] at h
          obtain ⟨u5, a6, e4, h⟩ := xz_d2 h
          have p4 := k_push (by omega) e4
          cases p4
          unfold f_Judge_hear_338 at h
          replace h := xp_n h
          have et : (v / 16) = (((v / 16).toNat : Nat) : Int) := by omega
          rw [et] at h
          have hs := HR_skip (res := (v / 16).toNat) (k := k + 1) (d := (v / 16).toNat - (k + 1)) hn (by omega) (by omega) (by omega) ⟨N, h⟩
          rw [show k + 1 + ((v / 16).toNat - (k + 1)) = (v / 16).toNat from by omega] at hs
          refine ⟨(v / 16).toNat, _, Nat.le_refl _, hs, ?_⟩
          exact ⟨by rw [zu_eq], PREP_u l (Nat.le_refl _) hP.2⟩
        · rw [if_neg (by rw [if_pos rfl]; exact ha)]
          refine ⟨fun k1 st1 g g1 g2 g3 g4 => ?_, fun g => nomatch g⟩
          cases g
          rw [if_pos ha] at h
          unfold f_Judge_hear_338 at h
          replace h := xp_n h
          exact ⟨res, pile, by omega, ⟨N, h⟩, hP.2⟩
    · have ep : cop v = 29 := by unfold cop; rw [if_neg (by omega), if_neg (by omega), if_pos (by omega), e]; rfl
      rw [ep]
      unfold stpv
      rw [if_neg (by decide), if_neg (by decide), if_neg (by decide), if_neg (by decide), if_pos (by decide)]
      match st, hP, hB, hl, h with
      | [], _, _, _, _ => exact ⟨fun k1 st1 g => (nomatch g), fun g => nomatch g⟩
      | a :: l, hP, hB, hl, h =>
        dsimp only
        simp only [List.length_cons] at hl
        have q1 : pile l.length = a := hP.1
        have qa := (BND_t hB).1
        rw [if_neg (by omega), if_neg (by omega), if_neg (by omega), if_neg (by omega), if_neg (by omega), if_neg (by omega), if_neg (by omega), if_neg (by omega), if_neg (by omega), if_neg (by omega), if_neg (by omega), if_neg (by omega), if_pos e, e] at h
        obtain ⟨u1, u2, e1, h⟩ := xz_d2 h
        have p1 := k_pop (k := l.length) (by omega) e1
        cases p1
        rw [if_neg (by decide +kernel), q1] at h
        unfold f_Judge_hear_216 at h
        rw [zwi (x := a) (by omega), zwi (x := 1) (by decide)] at h
        by_cases ha : a = 1
        · rw [if_pos (by rw [if_neg (by decide)]; exact ha)]
          refine ⟨fun k1 st1 g g1 g2 g3 g4 => ?_, fun g => nomatch g⟩
          cases g
          rw [if_neg (fun g => g ha)] at h
          obtain ⟨u5, a6, e4, h⟩ := xz_d2 h
          have p4 := k_push (by omega) e4
          cases p4
          unfold f_Judge_hear_338 at h
          replace h := xp_n h
          have et : (v / 16) = (((v / 16).toNat : Nat) : Int) := by omega
          rw [et] at h
          have hs := HR_skip (res := (v / 16).toNat) (k := k + 1) (d := (v / 16).toNat - (k + 1)) hn (by omega) (by omega) (by omega) ⟨N, h⟩
          rw [show k + 1 + ((v / 16).toNat - (k + 1)) = (v / 16).toNat from by omega] at hs
          refine ⟨(v / 16).toNat, _, Nat.le_refl _, hs, ?_⟩
          exact ⟨by rw [zu_eq], PREP_u l (Nat.le_refl _) hP.2⟩
        · rw [if_neg (by rw [if_neg (by decide)]; exact ha)]
          refine ⟨fun k1 st1 g g1 g2 g3 g4 => ?_, fun g => nomatch g⟩
          cases g
          rw [if_pos ha] at h
          unfold f_Judge_hear_338 at h
          replace h := xp_n h
          exact ⟨res, pile, by omega, ⟨N, h⟩, hP.2⟩
    · have ep : cop v = 99 := by unfold cop; rw [if_neg (by omega), if_neg (by omega), if_neg (by omega)]
      rw [ep]
      unfold stpv
      rw [if_neg (by decide), if_neg (by decide), if_neg (by decide), if_neg (by decide), if_neg (by decide)]
      exact ⟨fun k1 st1 g => (nomatch g), fun g => nomatch g⟩
    · have ep : cop v = 99 := by unfold cop; rw [if_neg (by omega), if_neg (by omega), if_neg (by omega)]
      rw [ep]
      unfold stpv
      rw [if_neg (by decide), if_neg (by decide), if_neg (by decide), if_neg (by decide), if_neg (by decide)]
      exact ⟨fun k1 st1 g => (nomatch g), fun g => nomatch g⟩
    · have ep : cop v = 99 := by unfold cop; rw [if_neg (by omega), if_neg (by omega), if_neg (by omega)]
      rw [ep]
      unfold stpv
      rw [if_neg (by decide), if_neg (by decide), if_neg (by decide), if_neg (by decide), if_neg (by decide)]
      exact ⟨fun k1 st1 g => (nomatch g), fun g => nomatch g⟩
theorem HR_run {words ord E : Nat → Int} {base n s e : Nat} {o : Int × Int × Int × (Nat → Int)} {cE : Nat} {til bar : Int} (hn : n ≤ 424) (hb : base ≤ 2120) (hw : ∀ j, j < 8 → words j = E j) (hE : EOK E) (he : e ≤ n) (hv : ∀ j, s ≤ j → j < e → 0 ≤ ord (base + j) ∧ ord (base + j) ≤ 100000) (lim : Nat) (hlim : lim ≤ 32) (hc : cE ≤ n) (hec : e ≤ cE) :
    ∀ (m k : Nat) (st : List Int) (r : Option (Nat × List Int)) (res : Nat) (pile : Nat → Int), MS (fun j => cop (ord (base + j))) (fun j => car (ord (base + j))) E s e lim m k st r → (∀ q, r = some q → q.1 ≤ n) → res ≤ k → PREP pile st → BND st → st.length ≤ 32 →
      HR words ord base n o res cE k (st.length : Int) til bar pile → (∀ q, r = some q → ∃ (res' : Nat) (pile' : Nat → Int), res' ≤ q.1 ∧ HR words ord base n o res' cE q.1 (q.2.length : Int) til bar pile' ∧ PREP pile' q.2) ∧ (r = none → ∃ (piled' : Int) (pile' : Nat → Int), HR words ord base n o cE cE cE piled' til bar pile') := by
  intro m
  induction m with
  | zero =>
    intro k st r res pile h hq hr hP hB hl H
    have h' : r = some (k, st) := h
    subst h'
    exact ⟨fun q hq2 => by cases hq2; exact ⟨res, pile, hr, H, hP⟩, fun g => nomatch g⟩
  | succ m ih =>
    intro k st r res pile h hq hr hP hB hl H
    obtain ⟨h1, h2⟩ := h
    have g := HR_step hn hb hr (by omega) hw hE (hv k h1.1 h1.2) hP hB hl H
    rcases h2 with ⟨h2, h3⟩ | ⟨k1, st1, g1, g2, g3⟩
    · subst h3
      refine ⟨fun q hq2 => (nomatch hq2), fun _ => ?_⟩
      obtain ⟨p', l', hp⟩ := g.2 h2
      have hs := HR_skip (res := cE) (k := k + 1) (d := cE - (k + 1)) hn (by omega) (by omega) (by omega) hp
      rw [show k + 1 + (cE - (k + 1)) = cE from by omega] at hs
      exact ⟨p', l', hs⟩
    · have hk1 : k1 ≤ n := by
        cases m with
        | zero => have g3' : r = some (k1, st1) := g3; exact hq _ g3'
        | succ m => have := g3.1; omega
      obtain ⟨res', pile', hr', H', hP'⟩ := g.1 k1 st1 g1 g2.2.2 hk1 (by omega) g2.2.1
      exact ih k1 st1 r res' pile' g3 hq hr' hP' g2.2.1 (by omega) H'
end
section
/-! THE REFERENCE'S RECKONING over its row -/
noncomputable def RR (row set : Nat → Int) (law e : Nat) (o : Int × Int × (Nat → Int)) (k : Nat) (n br val : Int) (rest : Nat → Int) : Prop :=
  ∃ N, f_HM_reckonAll_10 (law : Int) row set N (e : Int) n (k : Int) br val rest = some o
noncomputable def rop (row : Nat → Int) (law : Nat) : Nat → Int := fun j => row (law + 98 + 2 * j)
noncomputable def rar (row : Nat → Int) (law : Nat) : Nat → Int := fun j => row (law + 99 + 2 * j)
theorem r_in {x w : Int} (hx : -9223372036854775808 ≤ x ∧ x ≤ 9223372036854775807) (h : f_HM_in x (-1000000000) 1000000000 = some w) : w = if -1000000000 ≤ x ∧ x ≤ 1000000000 then 1 else 0 := by
  unfold f_HM_in at h
  rw [zwl (x := 1000000000) (by omega), zwl hx, zwl (x := -1000000000) (by omega)] at h
  by_cases h1 : x < -1000000000
  · rw [if_pos h1] at h; cases h; rw [if_neg (by omega)]
  · rw [if_neg h1] at h
    by_cases h2 : 1000000000 < x
    · rw [if_pos h2] at h; cases h; rw [if_neg (by omega)]
    · rw [if_neg h2] at h; cases h; rw [if_pos (by omega)]
theorem r_reckon {op a b x br : Int} (hs : 20 ≤ op ∧ op ≤ 26) (ha : -1000000000 ≤ a ∧ a ≤ 1000000000) (hb : -1000000000 ≤ b ∧ b ≤ 1000000000) (h : f_HM_reckon op a b 0 = some (x, br)) : (-9223372036854775808 ≤ x ∧ x ≤ 9223372036854775807) ∧ ((br = 1 ∧ wop op a b = none) ∨ (br = 0 ∧ wop op a b = if -1000000000 ≤ x ∧ x ≤ 1000000000 then some x else none)) := by
  unfold f_HM_reckon at h
  rw [zwi (x := op) (by omega), zwl (x := b) (by omega), zwl (x := a) (by omega), zwl (x := 0) (by decide)] at h
  have hs7 : op = 20 ∨ op = 21 ∨ op = 22 ∨ op = 23 ∨ op = 24 ∨ op = 25 ∨ op = 26 := by omega
  rcases hs7 with e | e | e | e | e | e | e <;> subst e
  · rw [if_pos rfl] at h
    replace h := xp_n h
    cases h
    exact ⟨by omega, Or.inr ⟨rfl, k_wopf (by unfold wopv; rw [if_pos rfl])⟩⟩
  · rw [if_neg (by decide), if_pos rfl] at h
    replace h := xp_n h
    cases h
    exact ⟨by omega, Or.inr ⟨rfl, k_wopf (by unfold wopv; rw [if_neg (by decide), if_pos rfl])⟩⟩
  · rw [if_neg (by decide), if_neg (by decide), if_pos rfl] at h
    replace h := xp_n h
    cases h
    have hm := zmulA (a := a) (b := b) 1000000000 1000000000 (by omega) (by omega)
    exact ⟨by omega, Or.inr ⟨rfl, k_wopf (by unfold wopv; rw [if_neg (by decide), if_neg (by decide), if_pos rfl])⟩⟩
  · rw [if_neg (by decide), if_neg (by decide), if_neg (by decide), if_pos rfl] at h
    by_cases hz : b = 0
    · rw [if_neg (fun g => g hz)] at h
      unfold f_HM_reckon_68 at h
      rw [zwi (x := 1) (by decide), if_neg (fun g => g (Or.inr rfl)), if_neg (by decide)] at h
      cases h
      exact ⟨by omega, Or.inl ⟨rfl, by rw [k_wopf (x := 2000000000) (by unfold wopv; rw [if_neg (by decide), if_neg (by decide), if_neg (by decide), if_pos rfl, if_pos hz]), if_neg (by decide)]⟩⟩
    · rw [if_pos hz] at h
      unfold f_HM_reckon_68 at h
      rw [zwi (x := 0) (by decide), if_neg (fun g => g (Or.inl rfl)), if_pos rfl, zwl (x := b) (by omega), if_neg hz] at h
      replace h := xp_n h
      have h1 : (a.tdiv b).natAbs ≤ a.natAbs := by rw [Int.natAbs_tdiv]; exact Nat.div_le_self _ _
      rw [zl_div_t ha hb] at h
      cases h
      exact ⟨by omega, Or.inr ⟨rfl, k_wopf (by unfold wopv; rw [if_neg (by decide), if_neg (by decide), if_neg (by decide), if_pos rfl, if_neg hz])⟩⟩
  · rw [if_neg (by decide), if_neg (by decide), if_neg (by decide), if_neg (by decide), if_pos rfl] at h
    by_cases hz : b ≤ a
    · rw [if_pos hz] at h; cases h
      exact ⟨by omega, Or.inr ⟨rfl, k_wopf (by unfold wopv; rw [if_neg (by decide), if_neg (by decide), if_neg (by decide), if_neg (by decide), if_pos rfl, if_neg (by omega)])⟩⟩
    · rw [if_neg hz] at h; cases h
      exact ⟨by omega, Or.inr ⟨rfl, k_wopf (by unfold wopv; rw [if_neg (by decide), if_neg (by decide), if_neg (by decide), if_neg (by decide), if_pos rfl, if_pos (by omega)])⟩⟩
  · rw [if_neg (by decide), if_neg (by decide), if_neg (by decide), if_neg (by decide), if_neg (by decide), if_pos rfl] at h
    by_cases hz : a ≤ b
    · rw [if_pos hz] at h; cases h
      exact ⟨by omega, Or.inr ⟨rfl, k_wopf (by unfold wopv; rw [if_neg (by decide), if_neg (by decide), if_neg (by decide), if_neg (by decide), if_neg (by decide), if_pos rfl, if_neg (by omega)])⟩⟩
    · rw [if_neg hz] at h; cases h
      exact ⟨by omega, Or.inr ⟨rfl, k_wopf (by unfold wopv; rw [if_neg (by decide), if_neg (by decide), if_neg (by decide), if_neg (by decide), if_neg (by decide), if_pos rfl, if_pos (by omega)])⟩⟩
  · rw [if_neg (by decide), if_neg (by decide), if_neg (by decide), if_neg (by decide), if_neg (by decide), if_neg (by decide)] at h
    by_cases hz : a = b
    · rw [if_neg (fun g => g hz)] at h; cases h
      exact ⟨by omega, Or.inr ⟨rfl, k_wopf (by unfold wopv; rw [if_neg (by decide), if_neg (by decide), if_neg (by decide), if_neg (by decide), if_neg (by decide), if_neg (by decide), if_pos hz])⟩⟩
    · rw [if_pos hz] at h; cases h
      exact ⟨by omega, Or.inr ⟨rfl, k_wopf (by unfold wopv; rw [if_neg (by decide), if_neg (by decide), if_neg (by decide), if_neg (by decide), if_neg (by decide), if_neg (by decide), if_neg hz])⟩⟩
set_option maxHeartbeats 8000000 in
theorem RR_step {row set E : Nat → Int} {law e : Nat} {o : Int × Int × (Nat → Int)} {k : Nat} {val : Int} {rest : Nat → Int} {st : List Int} (hlaw : law ≤ 4700) (he : e ≤ 400) (hk : k < e) (hw : ∀ j, j < 8 → set (j + 1) = E j) (hE : EOK E) (ho : 0 ≤ rop row law k ∧ rop row law k < 30) (ha : -1000000000 ≤ rar row law k ∧ rar row law k ≤ 1000000000) (hj : 28 ≤ rop row law k → 0 ≤ rar row law k) (hP : PREP rest st) (hB : BND st) (hl : st.length ≤ 100)
    (h : RR row set law e o k (st.length : Int) 0 val rest) :
    (∀ k1 st1, stp (rop row law) (rar row law) E k st = some (some (k1, st1)) → ∃ rest' : Nat → Int, RR row set law e o k1 (st1.length : Int) 0 val rest' ∧ PREP rest' st1) ∧
    (stp (rop row law) (rar row law) E k st = some none → ∃ (n' : Int) (rest' : Nat → Int), RR row set law e o (k + 1) n' 1 val rest') := by
  have hV : rop row law k = row (law + 98 + 2 * k) := rfl
  have hW : rar row law k = row (law + 99 + 2 * k) := rfl
  obtain ⟨N, h⟩ := h
  cases N with
  | zero => exact nomatch h
  | succ N =>
    replace h : f_HM_reckonAll_10_b (law : Int) row set (f_HM_reckonAll_10 (law : Int) row set N) (e : Int) (st.length : Int) (k : Int) 0 val rest = some o := h
    unfold f_HM_reckonAll_10_b at h
    rw [zwi (x := (e : Int)) (by omega), zwi (x := (k : Int)) (by omega), if_neg (by omega), if_neg (by decide +kernel)] at h
    replace h := (xp_g (xp_n (xp_n (xp_n h)))).2
    replace h := (xp_g (xp_n (xp_n (xp_n (xp_n h))))).2
    replace h := xp_n h
    have ei : (zi_w ((law : Int) + 98 + 2 * (k : Int))).toNat = law + 98 + 2 * k := by rw [zwi (by omega)]; omega
    have ej : (zi_w ((law : Int) + 98 + 2 * (k : Int) + 1)).toNat = law + 99 + 2 * k := by rw [zwi (by omega)]; omega
    rw [ei, ej, ← hV, ← hW] at h
    generalize hv : rop row law k = v at h ho hj
    generalize hw2 : rar row law k = w at h ha hj
    rw [zwi (x := v) (by omega), zwi (x := w) (by omega), zwi (x := 20) (by decide), zwi (x := 27) (by decide), zwi (x := 28) (by decide)] at h
    have es1 : stp (rop row law) (rar row law) E k st = stpv v w E k st := by rw [← hv, ← hw2]; rfl
    rw [es1]
    clear es1
    unfold stpv
    by_cases c0 : v = 0
    · rw [if_pos c0]
      rw [if_neg (by omega), if_neg (fun g => g c0)] at h
      replace h := xp_n h
      unfold f_HM_reckonAll_96 at h
      replace h := (xp_s h).2
      replace h := xp_n h
      rw [zwi (x := (st.length : Int)) (by omega), Int.toNat_natCast] at h
      refine ⟨fun k1 st1 g => ?_, fun g => nomatch g⟩
      cases g
      exact ⟨_, ⟨N, h⟩, ⟨zu_eq _ _ _, PREP_u st (Nat.le_refl _) hP⟩⟩
    rw [if_neg c0]
    by_cases c1 : 0 < v ∧ v < 9
    · rw [if_pos c1]
      rw [if_neg (by omega), if_pos c0] at h
      replace h := (xp_g h).2
      unfold f_HM_reckonAll_96 at h
      replace h := (xp_s h).2
      replace h := xp_n h
      rw [zwi (x := (st.length : Int)) (by omega), zwi (x := v) (by omega), Int.toNat_natCast] at h
      refine ⟨fun k1 st1 g => ?_, fun g => nomatch g⟩
      cases g
      have e1 := hw (v - 1).toNat (by omega)
      rw [show (v - 1).toNat + 1 = v.toNat from by omega] at e1
      refine ⟨_, ⟨N, h⟩, ⟨?_, PREP_u st (Nat.le_refl _) hP⟩⟩
      rw [zu_eq, e1]
    rw [if_neg c1]
    by_cases c2 : 20 ≤ v ∧ v < 27
    · rw [if_pos c2]
      rw [if_pos (by omega), if_neg (by omega)] at h
      match st, hP, hB, hl, h with
      | [], _, _, _, _ => exact ⟨fun k1 st1 g => (nomatch g), fun g => nomatch g⟩
      | [_], _, _, _, _ => exact ⟨fun k1 st1 g => (nomatch g), fun g => nomatch g⟩
      | b :: a :: l, hP, hB, hl, h =>
        dsimp only
        simp only [List.length_cons] at hl
        have q1 : rest (l.length + 1) = b := hP.1
        have q2 : rest l.length = a := hP.2.1
        have qa := (BND_t (BND_t hB).2).1
        have qb := (BND_t hB).1
        have x18 : (((b :: a :: l).length : Nat) : Int) + (-1) = ((l.length + 1 : Nat) : Int) := by simp only [List.length_cons]; omega
        have x19 : ((l.length + 1 : Nat) : Int) - 1 = ((l.length : Nat) : Int) := by omega
        rw [x18] at h
        replace h := xp_n (xp_n (xp_n h))
        rw [x19] at h
        replace h := (xp_g (xp_g h).2).2
        rw [zwi (x := (l.length : Int)) (by omega), zwi (x := ((l.length + 1 : Nat) : Int)) (by omega), Int.toNat_natCast, Int.toNat_natCast, q1, q2] at h
        obtain ⟨x, br, e1, h⟩ := xz_d2 h
        have p := r_reckon (by omega) qa qb e1
        replace h := (xp_s h).2
        rw [zwi (x := (l.length : Int)) (by omega), Int.toNat_natCast] at h
        rcases p with ⟨p0, ⟨p1, p2⟩ | ⟨p1, p2⟩⟩ <;> subst p1
        · rw [p2]
          refine ⟨fun k1 st1 g => (nomatch g), fun _ => ?_⟩
          rw [if_pos (by decide +kernel)] at h
          unfold f_HM_reckonAll_169 f_HM_reckonAll_174 f_HM_reckonAll_242 at h
          rw [if_neg (by decide +kernel)] at h
          exact ⟨_, _, ⟨N, h⟩⟩
        · rw [if_neg (by decide +kernel)] at h
          replace h := (xp_g (xp_n h)).2
          rw [zwi (x := (l.length : Int)) (by omega), Int.toNat_natCast, zu_eq] at h
          obtain ⟨w1, e2, h⟩ := xz_d1 h
          have p3 := r_in p0 e2
          by_cases hx : -1000000000 ≤ x ∧ x ≤ 1000000000
          · rw [if_pos hx] at p2 p3
            rw [p2]
            subst p3
            rw [if_pos (by decide +kernel)] at h
            unfold f_HM_reckonAll_174 f_HM_reckonAll_242 at h
            rw [if_neg (by decide +kernel)] at h
            refine ⟨fun k1 st1 g => ?_, fun g => nomatch g⟩
            cases g
            exact ⟨_, ⟨N, h⟩, ⟨zu_eq _ _ _, PREP_u l (Nat.le_refl _) hP.2.2⟩⟩
          · rw [if_neg hx] at p2 p3
            rw [p2]
            subst p3
            rw [if_neg (by decide +kernel)] at h
            unfold f_HM_reckonAll_169 f_HM_reckonAll_174 f_HM_reckonAll_242 at h
            rw [if_neg (by decide +kernel)] at h
            exact ⟨fun k1 st1 g => (nomatch g), fun _ => ⟨_, _, ⟨N, h⟩⟩⟩
    rw [if_neg c2]
    by_cases c3 : v = 27
    · rw [if_pos c3]
      rw [if_pos (by omega), if_pos (by omega), if_neg (fun g => g c3)] at h
      match st, hP, hB, hl, h with
      | [], _, _, _, _ => exact ⟨fun k1 st1 g => (nomatch g), fun g => nomatch g⟩
      | a :: l, hP, hB, hl, h =>
        dsimp only
        simp only [List.length_cons] at hl
        have q1 : rest l.length = a := hP.1
        have x13 : (((a :: l).length : Nat) : Int) - 1 = ((l.length : Nat) : Int) := by simp only [List.length_cons]; omega
        replace h := xp_n (xp_n h)
        rw [x13] at h
        replace h := (xp_s (xp_n (xp_g h).2)).2
        rw [zwi (x := (l.length : Int)) (by omega), Int.toNat_natCast, q1] at h
        unfold f_HM_reckonAll_242 at h
        refine ⟨fun k1 st1 g => ?_, fun g => nomatch g⟩
        cases g
        exact ⟨_, ⟨N, h⟩, ⟨zu_eq _ _ _, PREP_u l (Nat.le_refl _) hP.2⟩⟩
    rw [if_neg c3]
    by_cases c4 : v = 28 ∨ v = 29
    · rw [if_pos c4]
      rw [if_pos (by omega), if_pos (by omega), if_pos c3] at h
      match st, hP, hB, hl, h with
      | [], _, _, _, _ => exact ⟨fun k1 st1 g => (nomatch g), fun g => nomatch g⟩
      | a :: l, hP, hB, hl, h =>
        dsimp only
        simp only [List.length_cons] at hl
        have q1 : rest l.length = a := hP.1
        have qa := (BND_t hB).1
        have x13 : (((a :: l).length : Nat) : Int) - 1 = ((l.length : Nat) : Int) := by simp only [List.length_cons]; omega
        have x14 : (((a :: l).length : Nat) : Int) + (-1) = ((l.length : Nat) : Int) := by simp only [List.length_cons]; omega
        replace h := xp_n h
        rw [x13] at h
        replace h := (xp_g h).2
        rw [zwi (x := (l.length : Int)) (by omega), Int.toNat_natCast, q1] at h
        have h2 : f_HM_reckonAll_228 (law : Int) row set (f_HM_reckonAll_10 (law : Int) row set N) (e : Int) (((a :: l).length : Nat) : Int) ((k : Int) + 1) w a (if v = 28 then 0 else 1) 0 val rest = some o := by
          by_cases c5 : v = 28
          · rw [if_neg (fun g => g c5)] at h; rw [if_pos c5]; exact h
          · rw [if_pos c5] at h; rw [if_neg c5]; exact h
        clear h
        unfold f_HM_reckonAll_228 f_HM_reckonAll_242 at h2
        rw [zwl (x := a) (by omega), zwl (x := if v = 28 then 0 else 1) (by split <;> omega)] at h2
        by_cases c6 : a = if v = 28 then 0 else 1
        · rw [if_pos c6]
          rw [if_neg (fun g => g c6)] at h2
          refine ⟨fun k1 st1 g => ?_, fun g => nomatch g⟩
          cases g
          have et : w = ((w.toNat : Nat) : Int) := by omega
          rw [et] at h2
          exact ⟨rest, ⟨N, h2⟩, hP⟩
        · rw [if_neg c6]
          rw [if_pos c6] at h2
          replace h2 := xp_n h2
          rw [x14] at h2
          refine ⟨fun k1 st1 g => ?_, fun g => nomatch g⟩
          cases g
          exact ⟨rest, ⟨N, h2⟩, hP.2⟩
    rw [if_neg c4]
    exact ⟨fun k1 st1 g => (nomatch g), fun g => nomatch g⟩
theorem RR_end {row set : Nat → Int} {law e : Nat} {o : Int × Int × (Nat → Int)} {k : Nat} {n br val : Int} {rest : Nat → Int} (he : e ≤ 400) (hk : k ≤ 400) (hb : (br = 0 ∧ e ≤ k) ∨ br = 1) (h : RR row set law e o k n br val rest) : o.1 = br ∧ (n = 1 → o.2.1 = rest 0) := by
  obtain ⟨N, h⟩ := h
  cases N with
  | zero => exact nomatch h
  | succ N =>
    replace h : f_HM_reckonAll_10_b (law : Int) row set (f_HM_reckonAll_10 (law : Int) row set N) (e : Int) n (k : Int) br val rest = some o := h
    unfold f_HM_reckonAll_10_b at h
    have h2 : f_HM_reckonAll_245 (law : Int) row set n br val rest = some o := by
      rw [zwi (x := (e : Int)) (by omega), zwi (x := (k : Int)) (by omega)] at h
      by_cases c : (e : Int) ≤ (k : Int)
      · rw [if_pos c] at h; exact h
      · rw [if_neg c] at h
        rcases hb with hb | hb
        · omega
        · subst hb
          rw [if_pos (by decide +kernel)] at h; exact h
    unfold f_HM_reckonAll_245 at h2
    by_cases c : zi_w n ≤ 0
    · rw [if_pos c] at h2
      cases h2
      refine ⟨rfl, fun g => ?_⟩
      subst g
      exact absurd c (by decide +kernel)
    · rw [if_neg c] at h2
      replace h2 := (xp_g h2).2
      cases h2
      exact ⟨rfl, fun _ => by congr 1⟩
theorem RR_run {row set E : Nat → Int} {law e s0 : Nat} {o : Int × Int × (Nat → Int)} {val : Int} (hlaw : law ≤ 4700) (he : e ≤ 400) (hw : ∀ j, j < 8 → set (j + 1) = E j) (hE : EOK E) (hr : ∀ k, s0 ≤ k → k < e → (0 ≤ rop row law k ∧ rop row law k < 30) ∧ (-1000000000 ≤ rar row law k ∧ rar row law k ≤ 1000000000) ∧ (28 ≤ rop row law k → 0 ≤ rar row law k)) (lim : Nat) (hlim : lim ≤ 100) :
    ∀ (m k : Nat) (st : List Int) (r : Option (Nat × List Int)) (rest : Nat → Int), MS (rop row law) (rar row law) E s0 e lim m k st r → PREP rest st → BND st → st.length ≤ 100 → RR row set law e o k (st.length : Int) 0 val rest →
      (∀ q, r = some q → ∃ rest' : Nat → Int, RR row set law e o q.1 (q.2.length : Int) 0 val rest' ∧ PREP rest' q.2) ∧ (r = none → o.1 = 1) := by
  intro m
  induction m with
  | zero =>
    intro k st r rest h hP hB hl H
    have h' : r = some (k, st) := h
    subst h'
    exact ⟨fun q hq => by cases hq; exact ⟨rest, H, hP⟩, fun g => nomatch g⟩
  | succ m ih =>
    intro k st r rest h hP hB hl H
    obtain ⟨h1, h2⟩ := h
    have hk := hr k h1.1 h1.2
    have g := RR_step hlaw he h1.2 hw hE hk.1 hk.2.1 hk.2.2 hP hB hl H
    rcases h2 with ⟨h2, h3⟩ | ⟨k1, st1, g1, g2, g3⟩
    · subst h3
      refine ⟨fun q hq => (nomatch hq), fun _ => ?_⟩
      obtain ⟨n', rest', hp⟩ := g.2 h2
      exact (RR_end he (by omega) (Or.inr rfl) hp).1
    · obtain ⟨rest', H', hP'⟩ := g.1 k1 st1 g1
      exact ih k1 st1 r rest' g3 hP' g2.2.1 (by omega) H'
/-- what a piece of code that leaves one number reckons -/
theorem RR_val {row set E : Nat → Int} {law s e d : Nat} {ν : (Nat → Int) → Option Int} {o : Int × Int × (Nat → Int)} {val br0 : Int} {rest : Nat → Int} (hv : RVal (rop row law) (rar row law) s e d ν) (hd : d ≤ 100) (hlaw : law ≤ 4700) (he : e ≤ 400) (hw : ∀ j, j < 8 → set (j + 1) = E j) (hE : EOK E) (hr : ∀ k, s ≤ k → k < e → (0 ≤ rop row law k ∧ rop row law k < 30) ∧ (-1000000000 ≤ rar row law k ∧ rar row law k ≤ 1000000000) ∧ (28 ≤ rop row law k → 0 ≤ rar row law k))
    (h : f_HM_reckonAll (s : Int) (e : Int) (law : Int) row set br0 val rest = some o) : match ν E with | none => o.1 = 1 | some x => o.1 = 0 ∧ o.2.1 = x := by
  obtain ⟨n, hn⟩ := (hv.2 E hE).2 [] BND_nil
  have H : RR row set law e o s (([] : List Int).length : Int) 0 val rest := ⟨zfu, by unfold f_HM_reckonAll at h; exact h⟩
  have g := RR_run hlaw he hw hE hr (([] : List Int).length + d) (by simp; omega) n s [] _ rest hn trivial BND_nil (by simp) H
  dsimp only at g
  cases hx : ν E with
  | none =>
    rw [hx] at g
    exact g.2 rfl
  | some x =>
    rw [hx] at g
    obtain ⟨rest', hp, hq⟩ := g.1 _ rfl
    have z := RR_end he (by show e ≤ 400; omega) (Or.inl ⟨rfl, Nat.le_refl _⟩) hp
    exact ⟨z.1, by rw [z.2 rfl]; exact hq.1⟩
end
section
/-! A CLAUSE in the class's orders -/
theorem HR_head {words ord : Nat → Int} {base n : Nat} {o : Int × Int × Int × (Nat → Int)} {res cE k c : Nat} {piled til bar : Int} {pile : Nat → Int} (hn : n ≤ 424) (hb : base ≤ 2120) (hr : res ≤ k) (hk : k < n) (hv : ord (base + k) = 16 * (c : Int)) (hc : c ≤ 424)
    (h : HR words ord base n o res cE k piled til bar pile) : HR words ord base n o res c (k + 1) 0 til bar pile := by
  obtain ⟨N, h⟩ := h
  cases N with
  | zero => exact nomatch h
  | succ N =>
    replace h : f_Judge_hear_8_b words ord (f_Judge_hear_8 words ord N) (base : Int) (n : Int) (res : Int) (cE : Int) (k : Int) piled til bar pile = some o := h
    unfold f_Judge_hear_8_b at h
    rw [zwi (x := (n : Int)) (by omega), zwi (x := (k : Int)) (by omega), zwi (x := (res : Int)) (by omega), if_neg (by omega), if_pos (by omega)] at h
    replace h := xp_n h
    replace h := (xp_g h).2
    replace h := xp_n h
    replace h := xp_n h
    replace h := (xp_g h).2
    replace h := xp_n h
    have ei : (zi_w ((base : Int) + (k : Int))).toNat = base + k := by rw [zwi (by omega)]; omega
    generalize hV : ord (base + k) = v at *
    have r16 := zemod v (w := 16) (by decide)
    have ea : zi_and v 15 = v % 16 := zi_and15 (by omega)
    have es : zi_shr v 4 = v / 16 := zi_shr_k 4 16 (by decide) (by decide) (by omega)
    rw [ei, hV, ea, es, zwi (x := v % 16) (by omega)] at h
    rw [if_pos (by omega), show v / 16 = (c : Int) from by omega] at h
    unfold f_Judge_hear_338 at h
    exact ⟨N, xp_n h⟩
theorem HR_tires {words ord : Nat → Int} {base n : Nat} {o : Int × Int × Int × (Nat → Int)} {res cE k : Nat} {til bar : Int} {pile : Nat → Int} {b : Bool} {l : List Int} (hn : n ≤ 424) (hb : base ≤ 2120) (hr : res ≤ k) (hk : k < n) (hv : 0 ≤ ord (base + k) ∧ ord (base + k) ≤ 100000) (h13 : ord (base + k) % 16 = 13) (hP : PREP pile (bv b :: l)) (hB : BND l) (hl : l.length ≤ 31)
    (h : HR words ord base n o res cE k ((bv b :: l).length : Int) til bar pile) :
    (b = false → HR words ord base n o res cE (k + 1) (l.length : Int) til bar pile) ∧ (b = true → ∀ x l', l = x :: l' → HR words ord base n o res cE (k + 1) (l'.length : Int) (max 0 (min 99 x)) bar pile) := by
  obtain ⟨N, h⟩ := h
  cases N with
  | zero => exact nomatch h
  | succ N =>
    replace h : f_Judge_hear_8_b words ord (f_Judge_hear_8 words ord N) (base : Int) (n : Int) (res : Int) (cE : Int) (k : Int) ((bv b :: l).length : Int) til bar pile = some o := h
    unfold f_Judge_hear_8_b at h
    rw [zwi (x := (n : Int)) (by omega), zwi (x := (k : Int)) (by omega), zwi (x := (res : Int)) (by omega), if_neg (by omega), if_pos (by omega)] at h
    replace h := xp_n h
    replace h := (xp_g h).2
    replace h := xp_n h
    replace h := xp_n h
    replace h := (xp_g h).2
    replace h := xp_n h
    have ei : (zi_w ((base : Int) + (k : Int))).toNat = base + k := by rw [zwi (by omega)]; omega
    generalize hV : ord (base + k) = v at *
    have r16 := zemod v (w := 16) (by decide)
    have ea : zi_and v 15 = v % 16 := zi_and15 (by omega)
    have es : zi_shr v 4 = v / 16 := zi_shr_k 4 16 (by decide) (by decide) (by omega)
    rw [ei, hV, ea, es, zwi (x := v % 16) (by omega)] at h
    rw [if_neg (by omega), if_neg (by omega), if_neg (by omega), if_neg (by omega), if_neg (by omega), if_neg (by omega), if_neg (by omega), if_neg (by omega), if_neg (by omega), if_neg (by omega), if_neg (by omega), if_neg (by omega), if_neg (by omega), if_pos h13] at h
    obtain ⟨u1, u2, e1, h⟩ := xz_d2 h
    have p1 := k_pop (k := l.length) (by omega) e1
    cases p1
    have q1 : pile l.length = bv b := hP.1
    rw [q1, zwi (x := bv b) (by have := bv_b b; omega), zwi (x := 1) (by decide)] at h
    refine ⟨fun e => ?_, fun e x l' e2 => ?_⟩
    · subst e
      rw [if_pos (by decide)] at h
      unfold f_Judge_hear_264 f_Judge_hear_338 at h
      exact ⟨N, xp_n h⟩
    · subst e
      subst e2
      rw [if_neg (by decide)] at h
      obtain ⟨u3, u4, e3, h⟩ := xz_d2 h
      have p3 := k_pop (k := l'.length) (by simp only [List.length_cons] at hl; omega) e3
      cases p3
      have q2 : pile l'.length = x := hP.2.1
      have qx := (BND_t hB).1
      rw [q2] at h
      replace h := xp_n (xp_n h)
      have m1 := zi_min_f 99 (by decide) x (by omega)
      have e4 : zi_min 99 x = min 99 x := by omega
      have m2 := zi_max_f 0 (by decide) (min 99 x) (by omega)
      have e5 : zi_max 0 (min 99 x) = max 0 (min 99 x) := by omega
      rw [e4, e5] at h
      unfold f_Judge_hear_264 f_Judge_hear_338 at h
      exact ⟨N, xp_n h⟩
theorem HR_bars {words ord : Nat → Int} {base n : Nat} {o : Int × Int × Int × (Nat → Int)} {res cE k : Nat} {til bar : Int} {pile : Nat → Int} {b : Bool} {l : List Int} (hn : n ≤ 424) (hb : base ≤ 2120) (hr : res ≤ k) (hk : k < n) (hv : 0 ≤ ord (base + k) ∧ ord (base + k) ≤ 100000) (h14 : ord (base + k) % 16 = 14) (hP : PREP pile (bv b :: l)) (hl : l.length ≤ 31) (hbar : bar = 0 ∨ bar = 1)
    (h : HR words ord base n o res cE k ((bv b :: l).length : Int) til bar pile) :
    HR words ord base n o res cE (k + 1) (l.length : Int) til (if b then 1 else bar) pile := by
  obtain ⟨N, h⟩ := h
  cases N with
  | zero => exact nomatch h
  | succ N =>
    replace h : f_Judge_hear_8_b words ord (f_Judge_hear_8 words ord N) (base : Int) (n : Int) (res : Int) (cE : Int) (k : Int) ((bv b :: l).length : Int) til bar pile = some o := h
    unfold f_Judge_hear_8_b at h
    rw [zwi (x := (n : Int)) (by omega), zwi (x := (k : Int)) (by omega), zwi (x := (res : Int)) (by omega), if_neg (by omega), if_pos (by omega)] at h
    replace h := xp_n h
    replace h := (xp_g h).2
    replace h := xp_n h
    replace h := xp_n h
    replace h := (xp_g h).2
    replace h := xp_n h
    have ei : (zi_w ((base : Int) + (k : Int))).toNat = base + k := by rw [zwi (by omega)]; omega
    generalize hV : ord (base + k) = v at *
    have r16 := zemod v (w := 16) (by decide)
    have ea : zi_and v 15 = v % 16 := zi_and15 (by omega)
    have es : zi_shr v 4 = v / 16 := zi_shr_k 4 16 (by decide) (by decide) (by omega)
    rw [ei, hV, ea, es, zwi (x := v % 16) (by omega)] at h
    rw [if_neg (by omega), if_neg (by omega), if_neg (by omega), if_neg (by omega), if_neg (by omega), if_neg (by omega), if_neg (by omega), if_neg (by omega), if_neg (by omega), if_neg (by omega), if_neg (by omega), if_neg (by omega), if_neg (by omega), if_neg (by omega), if_pos h14] at h
    obtain ⟨u1, u2, e1, h⟩ := xz_d2 h
    have p1 := k_pop (k := l.length) (by omega) e1
    cases p1
    have q1 : pile l.length = bv b := hP.1
    rw [q1, zwi (x := bv b) (by have := bv_b b; omega), zwi (x := 1) (by decide), zwi (x := bar) (by omega)] at h
    cases b with
    | true =>
      rw [if_pos (by decide)] at h
      unfold f_Judge_hear_286 f_Judge_hear_291 f_Judge_hear_338 at h
      rw [if_neg (by decide +kernel)] at h
      exact ⟨N, xp_n h⟩
    | false =>
      rw [if_neg (by decide)] at h
      rcases hbar with g | g <;> subst g
      · rw [if_pos rfl] at h
        unfold f_Judge_hear_291 f_Judge_hear_338 at h
        rw [if_neg (by decide +kernel)] at h
        exact ⟨N, xp_n h⟩
      · rw [if_neg (by decide)] at h
        unfold f_Judge_hear_286 f_Judge_hear_291 f_Judge_hear_338 at h
        rw [if_neg (by decide +kernel)] at h
        exact ⟨N, xp_n h⟩
noncomputable def COP (ord : Nat → Int) (base : Nat) : Nat → Int := fun j => cop (ord (base + j))
noncomputable def CAR (ord : Nat → Int) (base : Nat) : Nat → Int := fun j => car (ord (base + j))
/-- a clause from p to t, where its last order stands -/
noncomputable def CLC (ord : Nat → Int) (base p t : Nat) (bars : Bool) (β : (Nat → Int) → Option Bool) (ν : (Nat → Int) → Option Int) : Prop :=
  ord (base + p) = 16 * ((t + 1 : Nat) : Int) ∧ p < t ∧ (∀ j, p ≤ j → j ≤ t → 0 ≤ ord (base + j) ∧ ord (base + j) ≤ 100000) ∧
  ((bars = true ∧ ord (base + t) % 16 = 14 ∧ ∃ d, d ≤ 31 ∧ BVal (COP ord base) (CAR ord base) (p + 1) t d β) ∨
   (bars = false ∧ ord (base + t) % 16 = 13 ∧ ∃ m d, d ≤ 31 ∧ RVal (COP ord base) (CAR ord base) (p + 1) m d ν ∧ BVal (COP ord base) (CAR ord base) m t d β))
noncomputable def clT (bars : Bool) (β : (Nat → Int) → Option Bool) (ν : (Nat → Int) → Option Int) (E : Nat → Int) (til : Int) : Int := match bars, β E, ν E with | false, some true, some x => max 0 (min 99 x) | _, _, _ => til
noncomputable def clB (bars : Bool) (β : (Nat → Int) → Option Bool) (E : Nat → Int) (bar : Int) : Int := match bars, β E with | true, some true => 1 | _, _ => bar
theorem HR_bval {words ord E : Nat → Int} {base n s e d : Nat} {o : Int × Int × Int × (Nat → Int)} {res cE : Nat} {til bar : Int} {pile : Nat → Int} {st : List Int} {ν : (Nat → Int) → Option Int} (hn : n ≤ 424) (hb : base ≤ 2120) (hw : ∀ j, j < 8 → words j = E j) (hE : EOK E) (hv : ∀ j, s ≤ j → j < e → 0 ≤ ord (base + j) ∧ ord (base + j) ≤ 100000) (hc : cE ≤ n) (hec : e ≤ cE) (hd : st.length + d ≤ 32) (hr : res ≤ s) (hP : PREP pile st) (hB : BND st) (hN : RVal (COP ord base) (CAR ord base) s e d ν) (h : HR words ord base n o res cE s (st.length : Int) til bar pile) :
    (∀ x, ν E = some x → ∃ (res' : Nat) (pile' : Nat → Int), res' ≤ e ∧ HR words ord base n o res' cE e ((x :: st).length : Int) til bar pile' ∧ PREP pile' (x :: st)) ∧ (ν E = none → ∃ (piled' : Int) (pile' : Nat → Int), HR words ord base n o cE cE cE piled' til bar pile') := by
  obtain ⟨q, hq⟩ := (hN.2 E hE).2 st hB
  have g := HR_run (e := e) hn hb hw hE (by omega) hv (st.length + d) hd hc hec q s st _ res pile hq (fun q hq2 => by
    dsimp only at hq2
    cases hx : ν E with
    | none => rw [hx] at hq2; exact nomatch hq2
    | some x => rw [hx] at hq2; cases hq2; show e ≤ n; omega) hr hP hB (by omega) h
  dsimp only at g
  refine ⟨fun x hx => ?_, fun hx => ?_⟩
  · rw [hx] at g
    exact g.1 _ rfl
  · rw [hx] at g
    exact g.2 rfl
theorem HR_clause {words ord E : Nat → Int} {base n p t : Nat} {o : Int × Int × Int × (Nat → Int)} {res cE : Nat} {piled til bar : Int} {pile : Nat → Int} {bars : Bool} {β : (Nat → Int) → Option Bool} {ν : (Nat → Int) → Option Int} (hn : n ≤ 424) (hb : base ≤ 2120) (hw : ∀ j, j < 8 → words j = E j) (hE : EOK E) (hC : CLC ord base p t bars β ν) (ht : t + 1 ≤ n) (hr : res ≤ p) (hbar : bar = 0 ∨ bar = 1) (h : HR words ord base n o res cE p piled til bar pile) :
    ∃ (res' : Nat) (piled' : Int) (pile' : Nat → Int), res' ≤ t + 1 ∧ HR words ord base n o res' (t + 1) (t + 1) piled' (clT bars β ν E til) (clB bars β E bar) pile' := by
  obtain ⟨h0, hpt, hv, hk⟩ := hC
  have h1 := HR_head hn hb hr (by omega) h0 (by omega) h
  rcases hk with ⟨e1, e2, d, hd, hβ⟩ | ⟨e1, e2, m, d, hd, hν, hβ⟩ <;> subst e1
  · have g := HR_bval (st := []) hn hb hw hE (fun j j1 j2 => hv j (by omega) (by omega)) ht (by omega) (by simp; omega) (by omega) trivial BND_nil hβ h1
    cases hx : β E with
    | none =>
      obtain ⟨p', l', H⟩ := g.2 (by rw [hx]; rfl)
      exact ⟨t + 1, p', l', Nat.le_refl _, by unfold clT clB; rw [hx]; exact H⟩
    | some b =>
      obtain ⟨r', l', h2, H, hP⟩ := g.1 (bv b) (by rw [hx]; rfl)
      have z := HR_bars hn hb h2 (by omega) (hv t (by omega) (Nat.le_refl _)) e2 hP (by simp) hbar H
      refine ⟨r', ((([] : List Int).length : Nat) : Int), l', by omega, ?_⟩
      unfold clT clB
      rw [hx]
      cases b <;> exact z
  · have hm := hβ.1
    have hm2 := hν.1
    have g := HR_bval (st := []) hn hb hw hE (fun j j1 j2 => hv j (by omega) (by omega)) ht (by omega) (by simp; omega) (by omega) trivial BND_nil hν h1
    cases hy : ν E with
    | none =>
      obtain ⟨p', l', H⟩ := g.2 hy
      refine ⟨t + 1, p', l', Nat.le_refl _, ?_⟩
      unfold clT clB
      rw [hy]
      cases hx : β E with
      | none => exact H
      | some b => cases b <;> exact H
    | some x =>
      obtain ⟨r', l', h2, H, hP⟩ := g.1 x hy
      have hBx : BND [x] := (hν.2 E hE).1 [x] (by show (ν E).map (fun x => [x]) = some [x]; rw [hy]; rfl)
      have g2 := HR_bval (st := [x]) hn hb hw hE (fun j j1 j2 => hv j (by omega) (by omega)) ht (by omega) (by simp; omega) h2 hP hBx hβ H
      cases hx : β E with
      | none =>
        obtain ⟨p', l', H⟩ := g2.2 (by rw [hx]; rfl)
        exact ⟨t + 1, p', l', Nat.le_refl _, by unfold clT clB; rw [hx, hy]; exact H⟩
      | some b =>
        obtain ⟨r3, l3, h3, H3, hP3⟩ := g2.1 (bv b) (by rw [hx]; rfl)
        have z := HR_tires hn hb h3 (by omega) (hv t (by omega) (Nat.le_refl _)) e2 hP3 hBx (by simp) H3
        unfold clT clB
        rw [hx, hy]
        cases b with
        | false => exact ⟨r3, _, _, by omega, z.1 rfl⟩
        | true => exact ⟨r3, _, _, by omega, z.2 rfl x [] rfl⟩
/-! A LAW: its clauses -/
noncomputable def CSE : Type := Bool × ((Nat → Int) → Option Bool) × ((Nat → Int) → Option Int)
noncomputable def CLL (ord : Nat → Int) (base n : Nat) : List CSE → Nat → Prop
  | [] => fun p => p = n
  | c :: l => fun p => ∃ t, CLC ord base p t c.1 c.2.1 c.2.2 ∧ CLL ord base n l (t + 1)
theorem CLL_le {ord : Nat → Int} {base n : Nat} : ∀ (l : List CSE) (p : Nat), CLL ord base n l p → p ≤ n := by
  intro l
  induction l with
  | nil => intro p h; have h' : p = n := h; omega
  | cons c l ih =>
    intro p h
    obtain ⟨t, h1, h2⟩ := h
    have := ih _ h2
    have := h1.2.1
    omega
noncomputable def lwS (E : Nat → Int) : List CSE → Int → Int → Int × Int
  | [] => fun til bar => (til, bar)
  | c :: l => fun til bar => lwS E l (clT c.1 c.2.1 c.2.2 E til) (clB c.1 c.2.1 E bar)
theorem clB_r {bars : Bool} {β : (Nat → Int) → Option Bool} {E : Nat → Int} {bar : Int} (h : bar = 0 ∨ bar = 1) : clB bars β E bar = 0 ∨ clB bars β E bar = 1 := by
  unfold clB
  split
  · exact Or.inr rfl
  · exact h
theorem HR_law {words ord E : Nat → Int} {base n : Nat} {o : Int × Int × Int × (Nat → Int)} (hn : n ≤ 424) (hb : base ≤ 2120) (hw : ∀ j, j < 8 → words j = E j) (hE : EOK E) : ∀ (l : List CSE) (p res cE : Nat) (piled til bar : Int) (pile : Nat → Int), CLL ord base n l p → res ≤ p → (bar = 0 ∨ bar = 1) → HR words ord base n o res cE p piled til bar pile → o.2.1 = (lwS E l til bar).1 ∧ o.2.2.1 = (lwS E l til bar).2 := by
  intro l
  induction l with
  | nil =>
    intro p res cE piled til bar pile hC hr hbar h
    have e : p = n := hC
    subst e
    obtain ⟨N, h⟩ := h
    cases N with
    | zero => exact nomatch h
    | succ N =>
      replace h : f_Judge_hear_8_b words ord (f_Judge_hear_8 words ord N) (base : Int) (p : Int) (res : Int) (cE : Int) (p : Int) piled til bar pile = some o := h
      unfold f_Judge_hear_8_b at h
      rw [if_pos (Int.le_refl _)] at h
      cases h
      exact ⟨rfl, rfl⟩
  | cons c l ih =>
    intro p res cE piled til bar pile hC hr hbar h
    obtain ⟨t, h1, h2⟩ := hC
    obtain ⟨r', p', l', h3, h4⟩ := HR_clause hn hb hw hE h1 (CLL_le l _ h2) hr hbar h
    exact ih (t + 1) r' (t + 1) p' _ _ l' h2 h3 (clB_r hbar) h4
theorem hear_law {words ord E pile : Nat → Int} {base n : Nat} {o : Int × Int × Int × (Nat → Int)} {l : List CSE} {piled til bar : Int} (hn : n ≤ 424) (hb : base ≤ 2120) (hw : ∀ j, j < 8 → words j = E j) (hE : EOK E) (hC : CLL ord base n l 0) (hbar : bar = 0 ∨ bar = 1) (h : f_Judge_hear (base : Int) (n : Int) words ord piled til bar pile = some o) : o.2.1 = (lwS E l til bar).1 ∧ o.2.2.1 = (lwS E l til bar).2 :=
  HR_law hn hb hw hE l 0 0 0 piled til bar pile hC (Nat.le_refl _) hbar ⟨zfu, by unfold f_Judge_hear at h; exact h⟩
end
section
/-! A CLAUSE in the reference's row -/
noncomputable def RNG (row : Nat → Int) (law s e : Nat) : Prop := ∀ k, s ≤ k → k < e → (0 ≤ rop row law k ∧ rop row law k < 30) ∧ (-1000000000 ≤ rar row law k ∧ rar row law k ≤ 1000000000) ∧ (28 ≤ rop row law k → 0 ≤ rar row law k)
noncomputable def RCL (row : Nat → Int) (law q : Nat) (bars : Bool) (β : (Nat → Int) → Option Bool) (ν : (Nat → Int) → Option Int) : Prop :=
  row q = (if bars then 1 else 0) ∧
  (∃ s e : Nat, row (q + 5) = (s : Int) ∧ row (q + 6) = (e : Int) ∧ s ≤ 400 ∧ e ≤ 400 ∧ ((e ≤ s ∧ ∀ E, β E = some true) ∨ (s < e ∧ RNG row law s e ∧ ∃ d, d ≤ 100 ∧ BVal (rop row law) (rar row law) s e d β))) ∧
  (bars = false → ∃ s e : Nat, row (q + 3) = (s : Int) ∧ row (q + 4) = (e : Int) ∧ s ≤ 400 ∧ e ≤ 400 ∧ RNG row law s e ∧ ∃ d, d ≤ 100 ∧ RVal (rop row law) (rar row law) s e d ν)
noncomputable def soV (bars : Bool) (β : (Nat → Int) → Option Bool) (ν : (Nat → Int) → Option Int) (E : Nat → Int) : Option Int := match bars, β E, ν E with | true, some true, _ => some 0 | false, some true, some x => some x | _, _, _ => none
theorem r_so59 {row set E : Nat → Int} {law q : Nat} {br val sum : Int} {rest : Nat → Int} {bars : Bool} {β : (Nat → Int) → Option Bool} {ν : (Nat → Int) → Option Int} {o : Int × Int × Int × Int × (Nat → Int)} (hlaw : law ≤ 4700) (hq : q ≤ 5000) (hw : ∀ j, j < 8 → set (j + 1) = E j) (hE : EOK E) (hR : RCL row law q bars β ν) (hβ : β E = some true)
    (h : f_HM_isSo_59 (law : Int) row set (q : Int) br val sum rest = some o) : (bars = true ∧ o.1 = 1) ∨ (bars = false ∧ ((ν E = none ∧ o.1 = 0) ∨ ∃ x, ν E = some x ∧ o.1 = 1 ∧ o.2.2.2.1 = x)) := by
  unfold f_HM_isSo_59 at h
  replace h := (xp_g h).2
  rw [zwi (x := (q : Int)) (by omega), Int.toNat_natCast, hR.1] at h
  cases bars with
  | true =>
    rw [if_pos (by decide +kernel)] at h
    cases h
    exact Or.inl ⟨rfl, rfl⟩
  | false =>
    rw [if_neg (by decide +kernel)] at h
    obtain ⟨s, e, h3, h4, hs, he, hr, d, hd, hv⟩ := hR.2.2 rfl
    replace h := (xp_g (xp_n h)).2
    replace h := (xp_g (xp_n h)).2
    rw [show (zi_w ((q : Int) + 3)).toNat = q + 3 from by rw [zwi (by omega)]; omega, show (zi_w ((q : Int) + 4)).toNat = q + 4 from by rw [zwi (by omega)]; omega, h3, h4] at h
    obtain ⟨v6, v7, a8, e1, h⟩ := xz_d3 h
    have g := RR_val hv hd hlaw he hw hE hr e1
    refine Or.inr ⟨rfl, ?_⟩
    cases hx : ν E with
    | none =>
      rw [hx] at g
      have g' : v6 = 1 := g
      subst g'
      rw [if_pos (by decide +kernel)] at h
      cases h
      exact Or.inl ⟨rfl, rfl⟩
    | some x =>
      rw [hx] at g
      have g1 : v6 = 0 := g.1
      have g2 : v7 = x := g.2
      subst g1
      rw [if_neg (by decide +kernel)] at h
      cases h
      exact Or.inr ⟨x, rfl, rfl, g2⟩
theorem r_so {row set E : Nat → Int} {law q : Nat} {br val sum : Int} {rest : Nat → Int} {bars : Bool} {β : (Nat → Int) → Option Bool} {ν : (Nat → Int) → Option Int} {o : Int × Int × Int × Int × (Nat → Int)} (hlaw : law ≤ 4700) (hq : q ≤ 5000) (hw : ∀ j, j < 8 → set (j + 1) = E j) (hE : EOK E) (hR : RCL row law q bars β ν)
    (h : f_HM_isSo (q : Int) (law : Int) row set br val sum rest = some o) : (β E = some true ∧ ((bars = true ∧ o.1 = 1) ∨ (bars = false ∧ ((ν E = none ∧ o.1 = 0) ∨ ∃ x, ν E = some x ∧ o.1 = 1 ∧ o.2.2.2.1 = x)))) ∨ (β E ≠ some true ∧ o.1 = 0) := by
  obtain ⟨s, e, h5, h6, hs, he, hc⟩ := hR.2.1
  unfold f_HM_isSo at h
  replace h := (xp_g (xp_n h)).2
  replace h := (xp_g (xp_n h)).2
  have e5 : (zi_w ((q : Int) + 5)).toNat = q + 5 := by rw [zwi (by omega)]; omega
  have e6 : (zi_w ((q : Int) + 6)).toNat = q + 6 := by rw [zwi (by omega)]; omega
  rw [e5, e6, h5, h6, zwi (x := (s : Int)) (by omega), zwi (x := (e : Int)) (by omega)] at h
  by_cases c : (e : Int) ≤ (s : Int)
  · rw [if_pos c] at h
    have hb : β E = some true := by
      rcases hc with hc | hc
      · exact hc.2 E
      · have := hc.1; omega
    exact Or.inl ⟨hb, r_so59 hlaw hq hw hE hR hb h⟩
  · rw [if_neg c] at h
    replace h := (xp_g (xp_n h)).2
    replace h := (xp_g (xp_n h)).2
    rw [e5, e6, h5, h6] at h
    rcases hc with hc | ⟨_, hr, d, hd, hv⟩
    · have := hc.1; omega
    obtain ⟨v9, v10, a11, e1, h⟩ := xz_d3 h
    have g := RR_val hv hd hlaw he hw hE hr e1
    dsimp only at g
    cases hx : β E with
    | none =>
      rw [hx] at g
      have g' : v9 = 1 := g
      subst g'
      rw [if_pos (by decide +kernel)] at h
      cases h
      exact Or.inr ⟨fun z => (by cases z), rfl⟩
    | some b =>
      rw [hx] at g
      have g1 : v9 = 0 := g.1
      have g2 : v10 = bv b := g.2
      subst g1
      subst g2
      rw [if_neg (by decide +kernel)] at h
      cases b with
      | false =>
        rw [if_neg (by decide +kernel)] at h
        cases h
        exact Or.inr ⟨fun z => (by cases z), rfl⟩
      | true =>
        rw [if_pos (by decide +kernel)] at h
        exact Or.inl ⟨rfl, r_so59 hlaw hq hw hE hR hx h⟩
/-- what lies in the row from clause i on: the clauses' list -/
noncomputable def RLL (row : Nat → Int) (law : Nat) : List CSE → Nat → Prop
  | [] => fun _ => True
  | c :: l => fun i => RCL row law (law + 2 + 8 * i) c.1 c.2.1 c.2.2 ∧ RLL row law l (i + 1)
/-- the reference's way through the clauses: none, where one bars -/
noncomputable def rwS (E : Nat → Int) : List CSE → Int → Option Int
  | [] => fun x => some x
  | c :: l => fun x => match c.1, c.2.1 E, c.2.2 E with
    | true, some true, _ => none
    | false, some true, some y => rwS E l y
    | _, _, _ => rwS E l x
theorem rwS_c {E : Nat → Int} {c : CSE} {l : List CSE} {x : Int} (h : c.2.1 E ≠ some true) : rwS E (c :: l) x = rwS E l x := by
  obtain ⟨bars, β, ν⟩ := c
  have h' : β E ≠ some true := h
  show (match (generalizing := false) bars, β E, ν E with | true, some true, _ => none | false, some true, some y => rwS E l y | _, _, _ => rwS E l x) = rwS E l x
  cases hz : β E with
  | none => cases bars <;> rfl
  | some b =>
    cases b with
    | true => exact absurd hz h'
    | false => cases bars <;> rfl
theorem r_239 {row set rest : Nat → Int} {x law br val sum : Int} {o : Int × Int × Int × Int × Int × (Nat → Int) × (Nat → Int)} (hx : -1000000000 ≤ x ∧ x ≤ 1000000000) (h : f_HM_tiring_239 row x law br val sum set rest = some o) : o.1 = max 0 (min 99 x) := by
  unfold f_HM_tiring_239 at h
  rw [zwl (x := x) (by omega), zwl (x := 0) (by decide), zwl (x := 99) (by decide)] at h
  by_cases c : 0 ≤ x
  · rw [if_pos c] at h
    by_cases d : x ≤ 99
    · rw [if_pos d] at h; cases h; show x = _; omega
    · rw [if_neg d] at h; cases h; show (99 : Int) = _; omega
  · rw [if_neg c] at h; cases h; show (0 : Int) = _; omega
theorem r_tir {row set E : Nat → Int} {law : Nat} {o : Int × Int × Int × Int × Int × (Nat → Int) × (Nat → Int)} (hlaw : law ≤ 4700) (hw : ∀ j, j < 8 → set (j + 1) = E j) (hE : EOK E) : ∀ (l : List CSE) (i : Nat) (x br val sum : Int) (rest : Nat → Int), row (law + 1) = ((l.length + i : Nat) : Int) → l.length + i ≤ 12 → RLL row law l i → (-1000000000 ≤ x ∧ x ≤ 1000000000) → (∃ N, f_HM_tiring_175 row N x (i : Int) (law : Int) br val sum set rest = some o) → match rwS E l x with | none => o.1 = -1 | some y => o.1 = max 0 (min 99 y) := by
  intro l
  induction l with
  | nil =>
    intro i x br val sum rest hl hi hR hx h
    obtain ⟨N, h⟩ := h
    cases N with
    | zero => exact nomatch h
    | succ N =>
      replace h : f_HM_tiring_175_b row (f_HM_tiring_175 row N) x (i : Int) (law : Int) br val sum set rest = some o := h
      unfold f_HM_tiring_175_b at h
      replace h := (xp_g (xp_n h)).2
      simp only [List.length_nil, Nat.zero_add] at hl hi
      rw [show (zi_w ((law : Int) + 1)).toNat = law + 1 from by rw [zwi (by omega)]; omega, hl, if_pos (Int.le_refl _)] at h
      exact r_239 hx h
  | cons c l ih =>
    intro i x br val sum rest hl hi hR hx h
    obtain ⟨N, h⟩ := h
    cases N with
    | zero => exact nomatch h
    | succ N =>
      replace h : f_HM_tiring_175_b row (f_HM_tiring_175 row N) x (i : Int) (law : Int) br val sum set rest = some o := h
      unfold f_HM_tiring_175_b at h
      replace h := (xp_g (xp_n h)).2
      simp only [List.length_cons] at hl hi
      rw [show (zi_w ((law : Int) + 1)).toNat = law + 1 from by rw [zwi (by omega)]; omega, hl, zwi (x := ((l.length + 1 + i : Nat) : Int)) (by omega), zwi (x := (i : Int)) (by omega), if_neg (by omega)] at h
      replace h := xp_n (xp_n (xp_n h))
      have eq : (law : Int) + 2 + 8 * (i : Int) = ((law + 2 + 8 * i : Nat) : Int) := by omega
      rw [eq] at h
      obtain ⟨v6, v7, v8, v9, a10, e1, h⟩ := xz_d5 h
      have g := r_so hlaw (by omega) hw hE hR.1 e1
      have hR2 : RLL row law l (i + 1) := hR.2
      have nx : ∀ y : Int, (-1000000000 ≤ y ∧ y ≤ 1000000000) → f_HM_tiring_233 row (f_HM_tiring_175 row N) y (i : Int) (law : Int) v7 v8 v9 set a10 = some o → match rwS E l y with | none => o.1 = -1 | some z => o.1 = max 0 (min 99 z) := fun y hy hh => by
        unfold f_HM_tiring_233 at hh
        exact ih (i + 1) y v7 v8 v9 a10 (by rw [hl]; omega) (by omega) hR2 hy ⟨N, xp_n hh⟩
      obtain ⟨bars, β, ν⟩ := c
      dsimp only at g
      rcases g with ⟨gb, ⟨ga, g1⟩ | ⟨ga, ⟨gx, g1⟩ | ⟨y, gx, g1, g2⟩⟩⟩ | ⟨gb, g1⟩
      · subst ga
        have g1' : v6 = 1 := g1
        subst g1'
        rw [if_neg (by decide +kernel)] at h
        replace h := (xp_g h).2
        have e11 : row (law + 2 + 8 * i) = 1 := hR.1.1
        rw [zwi (x := ((law + 2 + 8 * i : Nat) : Int)) (by omega), Int.toNat_natCast, e11] at h
        rw [if_neg (by decide +kernel)] at h
        cases h
        unfold rwS
        dsimp only
        rw [gb]
      · subst ga
        have g1' : v6 = 0 := g1
        subst g1'
        rw [if_pos (by decide +kernel)] at h
        unfold rwS
        dsimp only
        rw [gb, gx]
        exact nx x hx h
      · subst ga
        have g1' : v6 = 1 := g1
        have g2' : v9 = y := g2
        subst g1'
        subst g2'
        rw [if_neg (by decide +kernel)] at h
        replace h := (xp_g h).2
        have e11 : row (law + 2 + 8 * i) = 0 := hR.1.1
        rw [zwi (x := ((law + 2 + 8 * i : Nat) : Int)) (by omega), Int.toNat_natCast, e11] at h
        rw [if_pos (by decide +kernel)] at h
        unfold rwS
        dsimp only
        rw [gb, gx]
        refine nx _ ?_ h
        obtain ⟨s, e, q3, q4, qs, qe, qr, d, qd, qv⟩ := hR.1.2.2 rfl
        exact (qv.2 E hE).1 [_] (by show (ν E).map (fun x => [x]) = some [_]; rw [gx]; rfl) _ List.mem_cons_self
      · have g1' : v6 = 0 := g1
        subst g1'
        rw [if_pos (by decide +kernel)] at h
        rw [rwS_c (c := (bars, β, ν)) gb]
        exact nx x hx h
end
section
/-! BOTH SIDES OF A LAW -/
theorem lwS_1 {E : Nat → Int} : ∀ (l : List CSE) (til : Int), (lwS E l til 1).2 = 1 := by
  intro l
  induction l with
  | nil => intro til; rfl
  | cons c l ih =>
    intro til
    show (lwS E l (clT c.1 c.2.1 c.2.2 E til) (clB c.1 c.2.1 E 1)).2 = 1
    have e : clB c.1 c.2.1 E 1 = 1 := by
      unfold clB
      split <;> rfl
    rw [e]
    exact ih _
theorem lwS_rwS {E : Nat → Int} : ∀ (l : List CSE) (til x : Int), til = max 0 (min 99 x) → match rwS E l x with | none => (lwS E l til 0).2 = 1 | some y => (lwS E l til 0).2 = 0 ∧ (lwS E l til 0).1 = max 0 (min 99 y) := by
  intro l
  induction l with
  | nil => intro til x h; exact ⟨rfl, h⟩
  | cons c l ih =>
    intro til x h
    obtain ⟨bars, β, ν⟩ := c
    by_cases hb : β E = some true
    · cases bars with
      | true =>
        have e1 : rwS E ((true, β, ν) :: l) x = none := by
          unfold rwS
          dsimp only
          rw [hb]
        rw [e1]
        show (lwS E l (clT true β ν E til) (clB true β E 0)).2 = 1
        have e2 : clB true β E 0 = 1 := by unfold clB; rw [hb]
        rw [e2]
        exact lwS_1 l _
      | false =>
        have e2 : clB false β E 0 = 0 := by unfold clB; rfl
        cases hv : ν E with
        | none =>
          have e1 : rwS E ((false, β, ν) :: l) x = rwS E l x := by
            show (match (generalizing := false) false, β E, ν E with | true, some true, _ => none | false, some true, some y => rwS E l y | _, _, _ => rwS E l x) = _
            rw [hb, hv]
          have e3 : clT false β ν E til = til := by unfold clT; rw [hb, hv]
          rw [e1]
          show match rwS E l x with | none => (lwS E l (clT false β ν E til) (clB false β E 0)).2 = 1 | some y => (lwS E l (clT false β ν E til) (clB false β E 0)).2 = 0 ∧ (lwS E l (clT false β ν E til) (clB false β E 0)).1 = max 0 (min 99 y)
          rw [e2, e3]
          exact ih til x h
        | some y =>
          have e1 : rwS E ((false, β, ν) :: l) x = rwS E l y := by
            show (match (generalizing := false) false, β E, ν E with | true, some true, _ => none | false, some true, some y => rwS E l y | _, _, _ => rwS E l x) = _
            rw [hb, hv]
          have e3 : clT false β ν E til = max 0 (min 99 y) := by unfold clT; rw [hb, hv]
          rw [e1]
          show match rwS E l y with | none => (lwS E l (clT false β ν E til) (clB false β E 0)).2 = 1 | some y => (lwS E l (clT false β ν E til) (clB false β E 0)).2 = 0 ∧ (lwS E l (clT false β ν E til) (clB false β E 0)).1 = max 0 (min 99 y)
          rw [e2, e3]
          exact ih _ y rfl
    · rw [rwS_c (c := (bars, β, ν)) hb]
      have e2 : clB bars β E 0 = 0 := by
        unfold clB
        split
        · rename_i z; exact absurd z hb
        · rfl
      have e3 : clT bars β ν E til = til := by
        unfold clT
        split
        · rename_i z _; exact absurd z hb
        · rfl
      show match rwS E l x with | none => (lwS E l (clT bars β ν E til) (clB bars β E 0)).2 = 1 | some y => (lwS E l (clT bars β ν E til) (clB bars β E 0)).2 = 0 ∧ (lwS E l (clT bars β ν E til) (clB bars β E 0)).1 = max 0 (min 99 y)
      rw [e2, e3]
      exact ih til x h
end
section
/-! A LAW of both -/
noncomputable def LW2 (ord ordered row : Nat → Int) (k : Nat) : Prop := ∃ l : List CSE, l.length ≤ 12 ∧ (0 ≤ ordered k ∧ ordered k ≤ 424) ∧ CLL ord (424 * k) (ordered k).toNat l 0 ∧ row (181 + 900 * k) = (l.length : Int) ∧ RLL row (180 + 900 * k) l 0
theorem x_size {x w : Int} (hx : -1000 ≤ x ∧ x ≤ 1000) (h : f_HM_size x = some w) : w = (if x < 0 then -x else x) := by
  unfold f_HM_size at h
  rw [zwi (x := x) (by omega)] at h
  by_cases c : x < 0
  · first
    | (rw [if_pos c] at h ⊢; first | (cases h; rfl) | (replace h := xp_n h; cases h; rfl))
    | (rw [if_neg (by omega)] at h; rw [if_pos c]; first | (cases h; rfl) | (replace h := xp_n h; cases h; rfl))
  · first
    | (rw [if_neg c] at h ⊢; first | (cases h; rfl) | (replace h := xp_n h; cases h; rfl))
    | (rw [if_pos (by omega)] at h; rw [if_neg c]; first | (cases h; rfl) | (replace h := xp_n h; cases h; rfl))
theorem x_abs {x : Int} (hx : -1000 ≤ x ∧ x ≤ 1000) : zi_abs x = (if x < 0 then -x else x) := by
  unfold zi_abs
  rw [zwi (x := x) (by omega)]
theorem zu8 {f : Nat → Int} {a0 a1 a2 a3 a4 a5 a6 a7 : Int} : ∀ j, j < 8 → zu (zu (zu (zu (zu (zu (zu (zu f 0 a0) 1 a1) 2 a2) 3 a3) 4 a4) 5 a5) 6 a6) 7 a7 j = ([a0, a1, a2, a3, a4, a5, a6, a7] : List Int).getD j 0 := by
  intro j hj
  have hj8 : j = 0 ∨ j = 1 ∨ j = 2 ∨ j = 3 ∨ j = 4 ∨ j = 5 ∨ j = 6 ∨ j = 7 := by omega
  rcases hj8 with e | e | e | e | e | e | e | e <;> subst e <;> simp [zu]
theorem zu9 {f : Nat → Int} {a0 a1 a2 a3 a4 a5 a6 a7 : Int} : ∀ j, j < 8 → zu (zu (zu (zu (zu (zu (zu (zu f 1 a0) 2 a1) 3 a2) 4 a3) 5 a4) 6 a5) 7 a6) 8 a7 (j + 1) = ([a0, a1, a2, a3, a4, a5, a6, a7] : List Int).getD j 0 := by
  intro j hj
  have hj8 : j = 0 ∨ j = 1 ∨ j = 2 ∨ j = 3 ∨ j = 4 ∨ j = 5 ∨ j = 6 ∨ j = 7 := by omega
  rcases hj8 with e | e | e | e | e | e | e | e <;> subst e <;> simp [zu]
theorem EOK_8 {a0 a1 a2 a3 a4 a5 a6 a7 : Int} (h : (0 ≤ a0 ∧ a0 ≤ 100) ∧ (0 ≤ a1 ∧ a1 ≤ 100) ∧ (0 ≤ a2 ∧ a2 ≤ 100) ∧ (0 ≤ a3 ∧ a3 ≤ 100) ∧ (0 ≤ a4 ∧ a4 ≤ 100) ∧ (0 ≤ a5 ∧ a5 ≤ 100) ∧ (0 ≤ a6 ∧ a6 ≤ 100) ∧ (0 ≤ a7 ∧ a7 ≤ 100)) : EOK (fun j => ([a0, a1, a2, a3, a4, a5, a6, a7] : List Int).getD j 0) := by
  intro j hj
  have hj8 : j = 0 ∨ j = 1 ∨ j = 2 ∨ j = 3 ∨ j = 4 ∨ j = 5 ∨ j = 6 ∨ j = 7 := by omega
  obtain ⟨h0, h1, h2, h3, h4, h5, h6, h7⟩ := h
  rcases hj8 with e | e | e | e | e | e | e | e <;> subst e
  · exact h0
  · exact h1
  · exact h2
  · exact h3
  · exact h4
  · exact h5
  · exact h6
  · exact h7
theorem lw_fin {E : Nat → Int} {l : List CSE} {d u1 w1 ti ba : Int} (hd : 0 ≤ d ∧ d ≤ 99) (h1 : ti = (lwS E l d 0).1 ∧ ba = (lwS E l d 0).2) (hu : u1 = if ba = 0 then ti else -1) (hw : match rwS E l d with | none => w1 = -1 | some y => w1 = max 0 (min 99 y)) : u1 = w1 := by
  have g := lwS_rwS (E := E) l d d (by omega)
  cases hr : rwS E l d with
  | none =>
    rw [hr] at g hw
    have g' : (lwS E l d 0).2 = 1 := g
    have hw' : w1 = -1 := hw
    rw [hu, hw', h1.2, g', if_neg (by decide)]
  | some y =>
    rw [hr] at g hw
    have g' : (lwS E l d 0).2 = 0 ∧ (lwS E l d 0).1 = max 0 (min 99 y) := g
    have hw' : w1 = max 0 (min 99 y) := hw
    rw [hu, hw', h1.2, g'.1, if_pos rfl, h1.1, g'.2]
theorem k_182 {ch la fo : Int} {st ex te orr od : Nat → Int} {pi ti ba : Int} {wo pl : Nat → Int} {u : Int × Int × Int × Int × (Nat → Int) × (Nat → Int)} (hb : ba = 0 ∨ ba = 1) (h : f_Judge_effort_182 ch la fo st ex te orr od pi ti ba wo pl = some u) : u.1 = if ba = 0 then ti else -1 := by
  unfold f_Judge_effort_182 at h
  rcases hb with e | e <;> subst e
  · replace h := xp_t (by decide +kernel) h
    cases h
    rfl
  · replace h := xp_f (by decide +kernel) h
    cases h
    rfl
theorem lwS_b {E : Nat → Int} : ∀ (l : List CSE) (til bar : Int), (bar = 0 ∨ bar = 1) → ((lwS E l til bar).2 = 0 ∨ (lwS E l til bar).2 = 1) := by
  intro l
  induction l with
  | nil => intro til bar h; exact h
  | cons c l ih => intro til bar h; exact ih _ _ (clB_r h)
theorem eff_tir {x1 x2 x3 x4 x5 x6 ch la fo : Int} {st ex te ord od wo pl row set rest : Nat → Int} {pi ti ba lw br va su : Int} {u : Int × Int × Int × Int × (Nat → Int) × (Nat → Int)} {w : Int × Int × Int × Int × Int × (Nat → Int) × (Nat → Int)}
    (hx : (0 ≤ x1 ∧ x1 < ch ∧ ch ≤ 6) ∧ (0 ≤ x2 ∧ x2 ≤ 11) ∧ (0 ≤ x3 ∧ x3 ≤ 11) ∧ (0 ≤ x4 ∧ x4 ≤ 30) ∧ (0 ≤ x5 ∧ x5 ≤ 10) ∧ (0 ≤ x6 ∧ x6 ≤ 10)) (hs : st x1.toNat = row (153 + 3 * x1.toNat) ∧ 0 ≤ st x1.toNat ∧ st x1.toNat ≤ 60) (he : ex x1.toNat = row (154 + 3 * x1.toNat) ∧ 0 ≤ ex x1.toNat ∧ ex x1.toNat ≤ 1) (ht : te 0 = row 5 ∧ 0 ≤ te 0 ∧ te 0 ≤ 99)
    (hf : fo = row 4 ∧ -1 ≤ fo ∧ fo < la ∧ la ≤ 6) (hl : 0 ≤ fo → LW2 ord od row fo.toNat)
    (h1 : f_Judge_effort x1 x2 x3 x4 x5 x6 ch la fo st ex te ord od pi ti ba wo pl = some u) (h2 : f_HM_tiring x1 x4 x2 x3 x5 x6 row lw br va su set rest = some w) : u.1 = w.1 := by
  unfold f_Judge_effort at h1
  unfold f_HM_tiring at h2
  rw [zwi (x := x5) (by omega), zwi (x := x6) (by omega), zwi (x := x2) (by omega), zwi (x := x3) (by omega), zwi (x := 1) (by decide), zwi (x := 10) (by decide)] at h1
  replace h2 := (xp_g (xp_n (xp_n h2))).2
  have ei : (zi_w (153 + 3 * x1)).toNat = 153 + 3 * x1.toNat := by rw [zwi (by omega)]; omega
  have ej : (zi_w (153 + 3 * x1 + 1)).toNat = 154 + 3 * x1.toNat := by rw [zwi (by omega)]; omega
  rw [ei, ← hs.1, zwi (x := x5) (by omega), zwi (x := x6) (by omega), zwi (x := x2) (by omega), zwi (x := x3) (by omega), zwi (x := 9) (by decide)] at h2
  by_cases c5 : x5 = 0
  · rw [if_pos (by omega)] at h1
    rw [if_pos c5] at h2
    cases h1; cases h2; rfl
  rw [if_neg (by omega)] at h1
  rw [if_neg c5] at h2
  by_cases c6 : 10 ≤ x6
  · rw [if_pos c6] at h1
    rw [if_pos (by omega)] at h2
    cases h1; cases h2; rfl
  rw [if_neg c6] at h1
  rw [if_neg (by omega)] at h2
  by_cases c2 : x2 = x3
  · rw [if_pos c2] at h1 h2
    cases h1; cases h2; rfl
  rw [if_neg c2] at h1 h2
  obtain ⟨v1, e1, h1⟩ := xz_d1 h1
  replace h2 := (xp_g (xp_n (xp_n (xp_n h2)))).2
  rw [ej, ← he.1, zwi (x := ex x1.toNat) (by omega), zwi (x := 1) (by decide), zwi (x := x4) (by omega), zwi (x := st x1.toNat) (by omega)] at h2
  have able : (ex x1.toNat ≠ 0 ∧ v1 = 0) ∨ (ex x1.toNat = 0 ∧ st x1.toNat < x4 ∧ v1 = 0) ∨ (ex x1.toNat = 0 ∧ x4 ≤ st x1.toNat ∧ v1 = 1) := by
    unfold f_Hill_isAble at e1
    obtain ⟨v2, e2, e1⟩ := xz_d1 e1
    unfold f_Hill_hasChild at e2
    rw [zwi (x := x1) (by omega), zwi (x := ch) (by omega), if_neg (by omega)] at e2
    first | rw [if_neg (by omega)] at e2 | rw [if_pos (by omega)] at e2
    cases e2
    replace e1 := xp_f (by decide +kernel) e1
    replace e1 := (xp_g e1).2
    rw [zwi (x := x1) (by omega), zwi (x := ex x1.toNat) (by omega)] at e1
    by_cases c : ex x1.toNat = 0
    · rw [if_neg (fun z => z c)] at e1
      replace e1 := (xp_g e1).2
      rw [zwi (x := x1) (by omega), zwi (x := st x1.toNat) (by omega), zwi (x := x4) (by omega)] at e1
      by_cases c4 : st x1.toNat < x4
      · rw [if_pos c4] at e1; cases e1; exact Or.inr (Or.inl ⟨c, c4, rfl⟩)
      · rw [if_neg c4] at e1; cases e1; exact Or.inr (Or.inr ⟨c, by omega, rfl⟩)
    · rw [if_pos c] at e1; cases e1; exact Or.inl ⟨c, rfl⟩
  rcases able with ⟨a1, a2⟩ | ⟨a1, a3, a2⟩ | ⟨a1, a3, a2⟩ <;> subst a2
  · replace h1 := xp_f (by decide +kernel) h1
    rw [if_pos (by omega)] at h2
    cases h1; cases h2; rfl
  · replace h1 := xp_f (by decide +kernel) h1
    rw [if_neg (by omega), if_neg (by omega)] at h2
    cases h1; cases h2; rfl
  replace h1 := xp_n (xp_n (xp_t (by decide +kernel) h1))
  rw [if_neg (by omega), if_pos a3] at h2
  obtain ⟨v9, e9, h2⟩ := xz_d1 (xp_n h2)
  have g9 := x_size (by omega) e9
  replace h2 := (xp_g (xp_n h2)).2
  have e4 : row (zi_w 4).toNat = fo := by rw [hf.1]; rfl
  rw [x_abs (by omega), zwi (x := fo) (by omega)] at h1
  rw [e4, zwi (x := fo) (by omega), zwi (x := -1) (by decide)] at h2
  have hd : 0 ≤ v9 ∧ v9 ≤ 99 := by rw [g9]; split <;> omega
  rw [← g9] at h1
  by_cases cf : fo = -1
  · rw [if_pos (by omega)] at h1
    rw [if_pos cf] at h2
    have r1 := k_182 (Or.inl rfl) h1
    rw [zwi (x := v9) (by omega)] at h2
    have r2 := r_239 (by omega) h2
    rw [r1, r2, if_pos rfl]
    omega
  · rw [if_neg (by omega), zwi (x := la) (by omega), if_neg (by omega)] at h1
    rw [if_neg cf] at h2
    obtain ⟨l, hl12, hod, hcl, hrn, hrl⟩ := hl (by omega)
    replace h1 := (xp_s h1).2
    replace h1 := (xp_g h1).2
    replace h1 := (xp_s (xp_s (xp_s (xp_s (xp_s (xp_s h1).2).2).2).2).2).2
    replace h1 := (xp_g h1).2
    replace h1 := xp_n (xp_s h1).2
    replace h1 := (xp_g h1).2
    obtain ⟨v16, v17, v18, a19, e16, h1⟩ := xz_d4 h1
    rw [zwi (x := x1) (by omega), zwi (x := fo) (by omega)] at e16
    have E8 : EOK (fun j => ([x1, st x1.toNat, x4, x2, x3, x5, x6, te 0] : List Int).getD j 0) := EOK_8 ⟨by omega, by omega, by omega, by omega, by omega, by omega, by omega, by omega⟩
    have eb : fo * 424 = ((424 * fo.toNat : Nat) : Int) := by omega
    have eo : od fo.toNat = (((od fo.toNat).toNat : Nat) : Int) := by omega
    rw [eb, eo] at e16
    have hh := hear_law (base := 424 * fo.toNat) (n := (od fo.toNat).toNat) (l := l) (by omega) (by omega) (E := fun j => ([x1, st x1.toNat, x4, x2, x3, x5, x6, te 0] : List Int).getD j 0) (fun j hj => zu8 j hj) E8 hcl (Or.inl rfl) e16
    replace h2 := (xp_g h2).2
    replace h2 := xp_n (xp_n (xp_n h2))
    replace h2 := (xp_s (xp_n (xp_s (xp_n (xp_s (xp_n (xp_s (xp_n (xp_s (xp_n (xp_s (xp_n (xp_s h2).2)).2)).2)).2)).2)).2)).2
    replace h2 := xp_n (xp_g h2).2
    replace h2 := (xp_s h2).2
    have e5 : row (zi_w 5).toNat = te 0 := by rw [ht.1]; rfl
    have el : 180 + 900 * fo = ((180 + 900 * fo.toNat : Nat) : Int) := by omega
    rw [e5, e4, el, zwi (x := v9) (by omega), zwi (x := x1) (by omega), zwi (x := te 0) (by omega)] at h2
    have hr := r_tir (law := 180 + 900 * fo.toNat) (E := fun j => ([x1, st x1.toNat, x4, x2, x3, x5, x6, te 0] : List Int).getD j 0) (by omega) (fun j hj => zu9 j hj) E8 l 0 v9 br va su rest (by rw [show 180 + 900 * fo.toNat + 1 = 181 + 900 * fo.toNat from by omega]; exact hrn) (by omega) hrl (by omega) ⟨zfu, h2⟩
    dsimp only at hh
    have hb18 : v18 = 0 ∨ v18 = 1 := by rw [hh.2]; exact lwS_b l _ _ (Or.inl rfl)
    have r1 := k_182 hb18 h1
    exact lw_fin hd hh r1 hr
end
