/-! THE LAW'S END -/
theorem x_tell {x st : Int} {rf : Nat → Int} {r : Int × Int × (Nat → Int)} (hx : -7 < x ∧ x ≤ 100000) (h : f_HM_tell x st rf = some r) : (0 ≤ x ∧ r = (x, 0, rf)) ∨ (x < 0 ∧ r = (x, x, zu rf (-x).toNat (rf (-x).toNat + 1))) := by
  sorry
theorem k_refuse {x st : Int} {rf : Nat → Int} {r : Int × Int × (Nat → Int)} (hx : -7 < x ∧ x < 0) (h : f_HS_refuse x st rf = some r) : r = (x, x, zu rf (-x).toNat (rf (-x).toNat + 1)) := by
  sorry
theorem k_accept {x st ch : Int} {r : Int × Int × Int} (h : f_HS_accept x st ch = some r) : r = (x, 0, ch + 1) := by
  sorry
theorem zu_agr {f g : Nat → Int} {n i : Nat} (h : ∀ k, k < n → f k = g k) : ∀ k, k < n → zu f i (f i + 1) k = zu g i (g i + 1) k := fun k hk => by
  by_cases e : k = i
  · subst e
    rw [zu_eq, zu_eq, h k hk]
  · rw [zu_ne _ _ e, zu_ne _ _ e, h k hk]
/-- a law lies in other rows, too -/
theorem RLL_x {row row' : Nat → Int} {law law' : Nat} (hx : ∀ k, k < 900 → row' (law' + k) = row (law + k)) : ∀ (l : List CSE) (i : Nat), i + l.length ≤ 12 → RLL row law l i → RLL row' law' l i := by
  sorry
theorem LW2_x {ord ord' od od' row row' : Nat → Int} {k : Nat} (h : LW2 ord od row k) (h1 : ∀ j, j < 424 → ord' (424 * k + j) = ord (424 * k + j)) (h2 : od' k = od k) (h3 : ∀ j, j < 900 → row' (180 + 900 * k + j) = row (180 + 900 * k + j)) : LW2 ord' od' row' k := by
  sorry
theorem c_180 {T W : Nat → Int} {lw c L : Nat} (hlw : 4 ≤ lw ∧ lw ≤ 4680) (hc : c ≤ 400) (hL6 : L ≤ 100) {th st tp fr to so wo ft bd q a3 a4 a5 : Int} {rf nC op ar f4 f5 : Nat → Int} {R : Int × Int × Int × Int × Int × Int × Int × Int × Int × Int × Int × Int × Int × Int × Int × (Nat → Int) × (Nat → Int) × (Nat → Int) × (Nat → Int) × (Nat → Int) × (Nat → Int) × (Nat → Int)} : ∀ (N k : Nat) (row : Nat → Int), k ≤ c → row 3 = (L : Int) → f_HM_law_180 T W N (lw : Int) (k : Int) th st tp fr to so wo ft bd q (c : Int) a3 a4 a5 rf row nC op ar f4 f5 = some R → ∃ row2 : Nat → Int, (∀ t, k ≤ t → t < c → row2 (lw + 98 + 2 * t) = op t ∧ row2 (lw + 99 + 2 * t) = ar t) ∧ (∀ y, y ≠ 3 → (y < lw + 98 + 2 * k ∨ lw + 98 + 2 * c ≤ y) → row2 y = row y) ∧ row2 3 = ((L + 1 : Nat) : Int) ∧ R = ((L : Int), th, 0, tp, fr, to, so, wo, ft, bd, q, (c : Int), a3, a4, a5, rf, row2, nC, op, ar, f4, f5) := by
  sorry
theorem c_145 {T W : Nat → Int} {lw q c : Nat} (hlw : 4 ≤ lw ∧ lw ≤ 4680) (hq : q ≤ 12) {th st tp fr to so wo ft bd a3 a4 a5 : Int} {rf nC op ar f4 f5 : Nat → Int} {R : Int × Int × Int × Int × Int × Int × Int × Int × Int × Int × Int × Int × Int × Int × Int × (Nat → Int) × (Nat → Int) × (Nat → Int) × (Nat → Int) × (Nat → Int) × (Nat → Int) × (Nat → Int)} : ∀ (N k : Nat) (row : Nat → Int), k ≤ 8 * q → f_HM_law_145 T W N (lw : Int) (k : Int) th st tp fr to so wo ft bd (q : Int) (c : Int) a3 a4 a5 rf row nC op ar f4 f5 = some R → ∃ (row2 : Nat → Int) (N2 : Nat), (∀ t, k ≤ t → t < 8 * q → row2 (lw + 2 + t) = nC t) ∧ (∀ y, (y < lw + 2 + k ∨ lw + 2 + 8 * q ≤ y) → row2 y = row y) ∧ f_HM_law_180 T W N2 (lw : Int) 0 th st tp fr to so wo ft bd (q : Int) (c : Int) a3 a4 a5 rf row2 nC op ar f4 f5 = some R := by
  sorry
theorem c_97 {T W : Nat → Int} {L q c : Nat} (hL6 : L < 6) (hq : q ≤ 12) (hc : c ≤ 400) {th st tp fr to so wo ft a3 a4 a5 : Int} {rf row nC op ar f4 f5 : Nat → Int} {R : Int × Int × Int × Int × Int × Int × Int × Int × Int × Int × Int × Int × Int × Int × Int × (Nat → Int) × (Nat → Int) × (Nat → Int) × (Nat → Int) × (Nat → Int) × (Nat → Int) × (Nat → Int)} (h3 : row 3 = (L : Int)) (h : f_HM_law_97 T W th st tp fr to so wo ft 0 (q : Int) (c : Int) a3 a4 a5 rf row nC op ar f4 f5 = some R) :
    ∃ row2 : Nat → Int, (∀ t, t < 8 * q → row2 (180 + 900 * L + 2 + t) = nC t) ∧ (∀ t, t < c → row2 (180 + 900 * L + 98 + 2 * t) = op t ∧ row2 (180 + 900 * L + 99 + 2 * t) = ar t) ∧ row2 (181 + 900 * L) = (q : Int) ∧ row2 3 = ((L + 1 : Nat) : Int) ∧ (∀ y, y ≠ 3 → (y < 180 + 900 * L ∨ 180 + 900 * L + 900 ≤ y) → row2 y = row y) ∧ R = ((L : Int), th, 0, 0, fr, to, so, wo, ft, 0, (q : Int), (c : Int), a3, a4, a5, rf, row2, nC, op, ar, f4, f5) := by
  sorry
theorem c_97b {T W : Nat → Int} {th st tp fr to so wo ft a1 a2 a3 a4 a5 : Int} {rf row f1 f2 f3 f4 f5 : Nat → Int} {R : Int × Int × Int × Int × Int × Int × Int × Int × Int × Int × Int × Int × Int × Int × Int × (Nat → Int) × (Nat → Int) × (Nat → Int) × (Nat → Int) × (Nat → Int) × (Nat → Int) × (Nat → Int)} (h : f_HM_law_97 T W th st tp fr to so wo ft 1 a1 a2 a3 a4 a5 rf row f1 f2 f3 f4 f5 = some R) : R = (-6, th, -6, 0, fr, to, so, wo, ft, 1, a1, a2, a3, a4, a5, zu rf 6 (rf 6 + 1), row, f1, f2, f3, f4, f5) := by
  sorry
/-- the law of both -/
theorem law_eq {T W rfc hor hod rord rtok rpl rval rfr row nC op ar pl pa : Nat → Int} {tpd lf ls hl ch ro ra rp th st fr to so wo bd a1 a2 a3 a4 a5 : Int} {v : Int × Int × Int × Int × Int × Int × (Nat → Int) × Int × Int × Int × (Nat → Int) × (Nat → Int) × (Nat → Int) × (Nat → Int) × (Nat → Int) × (Nat → Int)} {R : Int × Int × Int × Int × Int × Int × Int × Int × Int × Int × Int × Int × Int × Int × Int × (Nat → Int) × (Nat → Int) × (Nat → Int) × (Nat → Int) × (Nat → Int) × (Nat → Int) × (Nat → Int)} (hT : zR T 0 255) (hW : ∀ k : Nat, k < 8 → W k = zcd k) (htp : 0 ≤ tpd ∧ tpd ≤ 400) (hl6 : 0 ≤ hl ∧ hl ≤ 6) (hl3 : hl = row 3) (hLW : ∀ k : Nat, (k : Int) < hl → LW2 hor hod row k)
    (h : f_HS_law T tpd lf ls hl ch rfc ro ra rp hor hod rord rtok rpl rval = some v) (g : f_HM_law T W th st tpd fr to so wo lf bd a1 a2 a3 a4 a5 rfr row nC op ar pl pa = some R) :
    v.1 = R.1 ∧ v.2.2.1 = R.2.2.2.2.2.2.2.2.1 ∧ v.2.2.2.1 = R.2.2.1 ∧ ((∀ k, k < 7 → rfc k = rfr k) → ∀ k, k < 7 → v.2.2.2.2.2.2.1 k = R.2.2.2.2.2.2.2.2.2.2.2.2.2.2.2.1 k) ∧ v.2.2.2.2.1 = R.2.2.2.2.2.2.2.2.2.2.2.2.2.2.2.2.1 3 ∧ (∀ j, j < 177 → j ≠ 3 → R.2.2.2.2.2.2.2.2.2.2.2.2.2.2.2.2.1 j = row j) ∧ (∀ k : Nat, (k : Int) < v.2.2.2.2.1 → LW2 v.2.2.2.2.2.2.2.2.2.2.1 v.2.2.2.2.2.2.2.2.2.2.2.1 R.2.2.2.2.2.2.2.2.2.2.2.2.2.2.2.2.1 k) := by
  sorry
