/-! THE LAW'S END -/
theorem x_tell {x st : Int} {rf : Nat → Int} {r : Int × Int × (Nat → Int)} (hx : -7 < x ∧ x ≤ 100000) (h : f_HM_tell x st rf = some r) : (0 ≤ x ∧ r = (x, 0, rf)) ∨ (x < 0 ∧ r = (x, x, zu rf (-x).toNat (rf (-x).toNat + 1))) := by
  unfold f_HM_tell at h
  rw [zwi (x := x) (by omega)] at h
  by_cases c : 0 ≤ x
  · rw [if_pos c] at h
    unfold f_HM_tell_10 at h
    rw [zwi (x := x) (by omega), if_pos c] at h
    cases h
    exact Or.inl ⟨c, rfl⟩
  · rw [if_neg c] at h
    unfold f_HM_tell_10 at h
    rw [zwi (x := x) (by omega), if_neg c] at h
    replace h := xp_n h
    replace h := xp_n (xp_g h).2
    replace h := (xp_s h).2
    rw [zwi (x := -x) (by omega)] at h
    cases h
    exact Or.inr ⟨by omega, rfl⟩
theorem k_refuse {x st : Int} {rf : Nat → Int} {r : Int × Int × (Nat → Int)} (hx : -7 < x ∧ x < 0) (h : f_HS_refuse x st rf = some r) : r = (x, x, zu rf (-x).toNat (rf (-x).toNat + 1)) := by
  unfold f_HS_refuse at h
  replace h := xp_n h
  replace h := xp_n (xp_g h).2
  replace h := (xp_s h).2
  rw [zwi (x := -x) (by omega)] at h
  cases h
  rfl
theorem k_accept {x st ch : Int} {r : Int × Int × Int} (h : f_HS_accept x st ch = some r) : r = (x, 0, ch + 1) := by
  unfold f_HS_accept at h
  replace h := xp_n h
  cases h
  rfl
theorem zu_agr {f g : Nat → Int} {n i : Nat} (h : ∀ k, k < n → f k = g k) : ∀ k, k < n → zu f i (f i + 1) k = zu g i (g i + 1) k := fun k hk => by
  by_cases e : k = i
  · subst e
    rw [zu_eq, zu_eq, h k hk]
  · rw [zu_ne _ _ e, zu_ne _ _ e, h k hk]
/-- a law lies in other rows, too -/
theorem RLL_x {row row' : Nat → Int} {law law' : Nat} (hx : ∀ k, k < 900 → row' (law' + k) = row (law + k)) : ∀ (l : List CSE) (i : Nat), i + l.length ≤ 12 → RLL row law l i → RLL row' law' l i := by
  intro l
  induction l with
  | nil => intro i _ _; trivial
  | cons x l ih =>
    intro i hi h
    rw [List.length_cons] at hi
    refine ⟨?_, ih (i + 1) (by omega) h.2⟩
    obtain ⟨g1, ⟨s, e, g2, g3, g4, g5, g6⟩, g7⟩ := h.1
    have at8 : ∀ k, k < 8 → row' (law' + 2 + 8 * i + k) = row (law + 2 + 8 * i + k) := fun k hk => by
      have := hx (2 + 8 * i + k) (by omega)
      rw [show law' + 2 + 8 * i + k = law' + (2 + 8 * i + k) from by omega, show law + 2 + 8 * i + k = law + (2 + 8 * i + k) from by omega]
      exact this
    have hc : ∀ a b : Nat, b ≤ 400 → ∀ j, a ≤ j → j < b → rop row' law' j = rop row law j ∧ rar row' law' j = rar row law j := fun a b hb j _ j2 => by
      have h1 := hx (98 + 2 * j) (by omega)
      have h2 := hx (99 + 2 * j) (by omega)
      unfold rop rar
      rw [show law' + 98 + 2 * j = law' + (98 + 2 * j) from by omega, show law' + 99 + 2 * j = law' + (99 + 2 * j) from by omega, h1, h2, show law + 98 + 2 * j = law + (98 + 2 * j) from by omega, show law + 99 + 2 * j = law + (99 + 2 * j) from by omega]
      exact ⟨rfl, rfl⟩
    refine ⟨by rw [← g1]; exact at8 0 (by decide), ⟨s, e, by rw [← g2]; exact at8 5 (by decide), by rw [← g3]; exact at8 6 (by decide), g4, g5, ?_⟩, fun hb => ?_⟩
    · rcases g6 with g6 | ⟨a1, a2, d, a3, a4⟩
      · exact Or.inl g6
      · exact Or.inr ⟨a1, RG_x a2 (hc s e g5), d, a3, RVal_x a4 (Nat.le_refl _) (hc s e g5)⟩
    · obtain ⟨s, e, b1, b2, b3, b4, b5, d, b6, b7⟩ := g7 hb
      exact ⟨s, e, by rw [← b1]; exact at8 3 (by decide), by rw [← b2]; exact at8 4 (by decide), b3, b4, RG_x b5 (hc s e b4), d, b6, RVal_x b7 (Nat.le_refl _) (hc s e b4)⟩
theorem LW2_x {ord ord' od od' row row' : Nat → Int} {k : Nat} (h : LW2 ord od row k) (h1 : ∀ j, j < 424 → ord' (424 * k + j) = ord (424 * k + j)) (h2 : od' k = od k) (h3 : ∀ j, j < 900 → row' (180 + 900 * k + j) = row (180 + 900 * k + j)) : LW2 ord' od' row' k := by
  obtain ⟨l, a1, a2, a3, a4, a5⟩ := h
  refine ⟨l, a1, by rw [h2]; exact a2, by rw [h2]; exact CLL_x l 0 a3 (fun j _ j2 => h1 j (by omega)), ?_, RLL_x h3 l 0 (by omega) a5⟩
  rw [show 181 + 900 * k = 180 + 900 * k + 1 from by omega, h3 1 (by decide)]
  rw [show 180 + 900 * k + 1 = 181 + 900 * k from by omega]
  exact a4
theorem c_180 {T W : Nat → Int} {lw c L : Nat} (hlw : 4 ≤ lw ∧ lw ≤ 4680) (hc : c ≤ 400) (hL6 : L ≤ 100) {th st tp fr to so wo ft bd q a3 a4 a5 : Int} {rf nC op ar f4 f5 : Nat → Int} {R : Int × Int × Int × Int × Int × Int × Int × Int × Int × Int × Int × Int × Int × Int × Int × (Nat → Int) × (Nat → Int) × (Nat → Int) × (Nat → Int) × (Nat → Int) × (Nat → Int) × (Nat → Int)} : ∀ (N k : Nat) (row : Nat → Int), k ≤ c → row 3 = (L : Int) → f_HM_law_180 T W N (lw : Int) (k : Int) th st tp fr to so wo ft bd q (c : Int) a3 a4 a5 rf row nC op ar f4 f5 = some R → ∃ row2 : Nat → Int, (∀ t, k ≤ t → t < c → row2 (lw + 98 + 2 * t) = op t ∧ row2 (lw + 99 + 2 * t) = ar t) ∧ (∀ y, y ≠ 3 → (y < lw + 98 + 2 * k ∨ lw + 98 + 2 * c ≤ y) → row2 y = row y) ∧ row2 3 = ((L + 1 : Nat) : Int) ∧ R = ((L : Int), th, 0, tp, fr, to, so, wo, ft, bd, q, (c : Int), a3, a4, a5, rf, row2, nC, op, ar, f4, f5) := by
  intro N
  induction N with
  | zero => intro k row _ _ h; exact nomatch h
  | succ N ih =>
    intro k row hk h3 h
    replace h : f_HM_law_180_b T W (f_HM_law_180 T W N) (lw : Int) (k : Int) th st tp fr to so wo ft bd q (c : Int) a3 a4 a5 rf row nC op ar f4 f5 = some R := h
    unfold f_HM_law_180_b at h
    rw [zwi (x := (c : Int)) (by omega), zwi (x := (k : Int)) (by omega)] at h
    by_cases e : (c : Int) ≤ (k : Int)
    · rw [if_pos e] at h
      replace h := xp_n (xp_g h).2
      replace h := (xp_s h).2
      replace h := xp_n (xp_g h).2
      obtain ⟨u1, u2, u3, e1, h⟩ := xz_d3 h
      have e3 : row (zi_w 3).toNat = (L : Int) := h3
      have e4 : zu row (zi_w 3).toNat (row (zi_w 3).toNat + 1) (zi_w 3).toNat = (L : Int) + 1 := by rw [zu_eq, e3]
      rw [e4, show (L : Int) + 1 - 1 = (L : Int) from by omega] at e1
      rw [e3] at h
      rcases x_tell (by omega) e1 with ⟨_, g⟩ | ⟨g, _⟩
      · cases g
        cases h
        refine ⟨zu row 3 ((L : Int) + 1), fun t t1 t2 => by omega, fun y y1 _ => zu_ne _ _ y1, ?_, rfl⟩
        rw [zu_eq]; omega
      · omega
    · rw [if_neg e] at h
      replace h := xp_n (xp_n (xp_n h))
      replace h := (xp_g h).2
      replace h := (xp_s h).2
      replace h := xp_n (xp_n (xp_n (xp_n h)))
      replace h := (xp_g h).2
      replace h := xp_n (xp_s h).2
      have e1 : (zi_w ((lw : Int) + 98 + 2 * (k : Int))).toNat = lw + 98 + 2 * k := by rw [zwi (by omega)]; omega
      have e2 : (zi_w ((lw : Int) + 98 + 2 * (k : Int) + 1)).toNat = lw + 99 + 2 * k := by rw [zwi (by omega)]; omega
      rw [e1, e2, zwi (x := (k : Int)) (by omega), Int.toNat_natCast] at h
      obtain ⟨row2, r1, r2, r3, r4⟩ := ih (k + 1) _ (by omega) (by rw [zu_ne _ _ (by omega), zu_ne _ _ (by omega)]; exact h3) h
      refine ⟨row2, fun t t1 t2 => ?_, fun y y1 y2 => ?_, r3, r4⟩
      · by_cases et : t = k
        · subst et
          rw [r2 (lw + 98 + 2 * t) (by omega) (by omega), r2 (lw + 99 + 2 * t) (by omega) (by omega), zu_ne _ _ (by omega), zu_eq, zu_eq]
          exact ⟨rfl, rfl⟩
        · exact r1 t (by omega) t2
      · rw [r2 y y1 (by omega), zu_ne _ _ (by omega), zu_ne _ _ (by omega)]
theorem c_145 {T W : Nat → Int} {lw q c : Nat} (hlw : 4 ≤ lw ∧ lw ≤ 4680) (hq : q ≤ 12) {th st tp fr to so wo ft bd a3 a4 a5 : Int} {rf nC op ar f4 f5 : Nat → Int} {R : Int × Int × Int × Int × Int × Int × Int × Int × Int × Int × Int × Int × Int × Int × Int × (Nat → Int) × (Nat → Int) × (Nat → Int) × (Nat → Int) × (Nat → Int) × (Nat → Int) × (Nat → Int)} : ∀ (N k : Nat) (row : Nat → Int), k ≤ 8 * q → f_HM_law_145 T W N (lw : Int) (k : Int) th st tp fr to so wo ft bd (q : Int) (c : Int) a3 a4 a5 rf row nC op ar f4 f5 = some R → ∃ (row2 : Nat → Int) (N2 : Nat), (∀ t, k ≤ t → t < 8 * q → row2 (lw + 2 + t) = nC t) ∧ (∀ y, (y < lw + 2 + k ∨ lw + 2 + 8 * q ≤ y) → row2 y = row y) ∧ f_HM_law_180 T W N2 (lw : Int) 0 th st tp fr to so wo ft bd (q : Int) (c : Int) a3 a4 a5 rf row2 nC op ar f4 f5 = some R := by
  intro N
  induction N with
  | zero => intro k row _ h; exact nomatch h
  | succ N ih =>
    intro k row hk h
    replace h : f_HM_law_145_b T W (f_HM_law_145 T W N) (lw : Int) (k : Int) th st tp fr to so wo ft bd (q : Int) (c : Int) a3 a4 a5 rf row nC op ar f4 f5 = some R := h
    unfold f_HM_law_145_b at h
    replace h := xp_n h
    rw [zwi (x := 8 * (q : Int)) (by omega), zwi (x := (k : Int)) (by omega)] at h
    by_cases e : 8 * (q : Int) ≤ (k : Int)
    · rw [if_pos e] at h
      exact ⟨row, zfu, fun t t1 t2 => by omega, fun y _ => rfl, h⟩
    · rw [if_neg e] at h
      replace h := xp_n (xp_n h)
      replace h := (xp_g h).2
      replace h := xp_n (xp_s h).2
      have e1 : (zi_w ((lw : Int) + 2 + (k : Int))).toNat = lw + 2 + k := by rw [zwi (by omega)]; omega
      rw [e1, zwi (x := (k : Int)) (by omega), Int.toNat_natCast] at h
      obtain ⟨row2, N2, r1, r2, r3⟩ := ih (k + 1) _ (by omega) h
      refine ⟨row2, N2, fun t t1 t2 => ?_, fun y y1 => ?_, r3⟩
      · by_cases et : t = k
        · subst et
          rw [r2 (lw + 2 + t) (by omega), zu_eq]
        · exact r1 t (by omega) t2
      · rw [r2 y (by omega), zu_ne _ _ (by omega)]
theorem c_97 {T W : Nat → Int} {L q c : Nat} (hL6 : L < 6) (hq : q ≤ 12) (hc : c ≤ 400) {th st tp fr to so wo ft a3 a4 a5 : Int} {rf row nC op ar f4 f5 : Nat → Int} {R : Int × Int × Int × Int × Int × Int × Int × Int × Int × Int × Int × Int × Int × Int × Int × (Nat → Int) × (Nat → Int) × (Nat → Int) × (Nat → Int) × (Nat → Int) × (Nat → Int) × (Nat → Int)} (h3 : row 3 = (L : Int)) (h : f_HM_law_97 T W th st tp fr to so wo ft 0 (q : Int) (c : Int) a3 a4 a5 rf row nC op ar f4 f5 = some R) :
    ∃ row2 : Nat → Int, (∀ t, t < 8 * q → row2 (180 + 900 * L + 2 + t) = nC t) ∧ (∀ t, t < c → row2 (180 + 900 * L + 98 + 2 * t) = op t ∧ row2 (180 + 900 * L + 99 + 2 * t) = ar t) ∧ row2 (181 + 900 * L) = (q : Int) ∧ row2 3 = ((L + 1 : Nat) : Int) ∧ (∀ y, y ≠ 3 → (y < 180 + 900 * L ∨ 180 + 900 * L + 900 ≤ y) → row2 y = row y) ∧ R = ((L : Int), th, 0, 0, fr, to, so, wo, ft, 0, (q : Int), (c : Int), a3, a4, a5, rf, row2, nC, op, ar, f4, f5) := by
  unfold f_HM_law_97 at h
  replace h := xp_t (by decide +kernel) h
  replace h := xp_n (xp_n (xp_n (xp_g h).2))
  replace h := (xp_s h).2
  have e3 : row (zi_w 3).toNat = (L : Int) := h3
  rw [e3] at h
  have e4 : (zi_w (180 + 900 * (L : Int) + 1)).toNat = 181 + 900 * L := by rw [zwi (by omega)]; omega
  have e5 : 180 + 900 * (L : Int) = ((180 + 900 * L : Nat) : Int) := by omega
  rw [e4, e5] at h
  obtain ⟨row1, N2, r1, r2, r3⟩ := c_145 (lw := 180 + 900 * L) (q := q) (c := c) (by omega) hq zfu 0 _ (by omega) h
  obtain ⟨row2, s1, s2, s3, s4⟩ := c_180 (lw := 180 + 900 * L) (c := c) (L := L) (by omega) hc (by omega) N2 0 row1 (by omega) (by rw [r2 3 (by omega), zu_ne _ _ (by omega)]; exact h3) r3
  refine ⟨row2, fun t ht => ?_, fun t ht => s1 t (by omega) ht, ?_, s3, fun y y1 y2 => ?_, s4⟩
  · rw [s2 _ (by omega) (by omega)]; exact r1 t (by omega) ht
  · rw [s2 _ (by omega) (by omega), r2 _ (by omega), zu_eq]
  · rw [s2 y y1 (by omega), r2 y (by omega), zu_ne _ _ (by omega)]
theorem c_97b {T W : Nat → Int} {th st tp fr to so wo ft a1 a2 a3 a4 a5 : Int} {rf row f1 f2 f3 f4 f5 : Nat → Int} {R : Int × Int × Int × Int × Int × Int × Int × Int × Int × Int × Int × Int × Int × Int × Int × (Nat → Int) × (Nat → Int) × (Nat → Int) × (Nat → Int) × (Nat → Int) × (Nat → Int) × (Nat → Int)} (h : f_HM_law_97 T W th st tp fr to so wo ft 1 a1 a2 a3 a4 a5 rf row f1 f2 f3 f4 f5 = some R) : R = (-6, th, -6, 0, fr, to, so, wo, ft, 1, a1, a2, a3, a4, a5, zu rf 6 (rf 6 + 1), row, f1, f2, f3, f4, f5) := by
  unfold f_HM_law_97 at h
  replace h := xp_f (by decide +kernel) h
  obtain ⟨v6, v7, a8, e, h⟩ := xz_d3 h
  rcases x_tell (by decide) e with ⟨g, _⟩ | ⟨_, g⟩
  · omega
  · cases g
    cases h
    rfl
/-- the law of both -/
theorem law_eq {T W rfc hor hod rord rtok rpl rval rfr row nC op ar pl pa : Nat → Int} {tpd lf ls hl ch ro ra rp th st fr to so wo bd a1 a2 a3 a4 a5 : Int} {v : Int × Int × Int × Int × Int × Int × (Nat → Int) × Int × Int × Int × (Nat → Int) × (Nat → Int) × (Nat → Int) × (Nat → Int) × (Nat → Int) × (Nat → Int)} {R : Int × Int × Int × Int × Int × Int × Int × Int × Int × Int × Int × Int × Int × Int × Int × (Nat → Int) × (Nat → Int) × (Nat → Int) × (Nat → Int) × (Nat → Int) × (Nat → Int) × (Nat → Int)} (hT : zR T 0 255) (hW : ∀ k : Nat, k < 8 → W k = zcd k) (htp : 0 ≤ tpd ∧ tpd ≤ 400) (hl6 : 0 ≤ hl ∧ hl ≤ 6) (hl3 : hl = row 3) (hLW : ∀ k : Nat, (k : Int) < hl → LW2 hor hod row k)
    (h : f_HS_law T tpd lf ls hl ch rfc ro ra rp hor hod rord rtok rpl rval = some v) (g : f_HM_law T W th st tpd fr to so wo lf bd a1 a2 a3 a4 a5 rfr row nC op ar pl pa = some R) :
    v.1 = R.1 ∧ v.2.2.1 = R.2.2.2.2.2.2.2.2.1 ∧ v.2.2.2.1 = R.2.2.1 ∧ ((∀ k, k < 7 → rfc k = rfr k) → ∀ k, k < 7 → v.2.2.2.2.2.2.1 k = R.2.2.2.2.2.2.2.2.2.2.2.2.2.2.2.1 k) ∧ v.2.2.2.2.1 = R.2.2.2.2.2.2.2.2.2.2.2.2.2.2.2.2.1 3 ∧ (∀ j, j < 177 → j ≠ 3 → R.2.2.2.2.2.2.2.2.2.2.2.2.2.2.2.2.1 j = row j) ∧ (∀ k : Nat, (k : Int) < v.2.2.2.2.1 → LW2 v.2.2.2.2.2.2.2.2.2.2.1 v.2.2.2.2.2.2.2.2.2.2.2.1 R.2.2.2.2.2.2.2.2.2.2.2.2.2.2.2.2.1 k) := by
  obtain ⟨n, en⟩ : ∃ n : Nat, tpd = (n : Int) := ⟨tpd.toNat, by omega⟩
  subst en
  obtain ⟨L, eL⟩ : ∃ L : Nat, hl = (L : Int) := ⟨hl.toNat, by omega⟩
  subst eL
  have hn400 : n ≤ 400 := by omega
  unfold f_HS_law at h
  unfold f_HM_law at g
  replace g := (xp_g g).2
  have e3 : row (zi_w 3).toNat = (L : Int) := hl3.symm
  rw [e3, zwi (x := (L : Int)) (by omega), zwi (x := 6) (by decide)] at g
  rw [zwi (x := (L : Int)) (by omega), zwi (x := 6) (by decide)] at h
  by_cases c6 : (L : Int) = 6
  · rw [if_neg (by omega)] at h
    rw [if_neg (fun z => z c6)] at g
    obtain ⟨u1, u2, u3, e1, h⟩ := xz_d3 h
    obtain ⟨w1, w2, w3, e2, g⟩ := xz_d3 g
    have k1 := k_refuse (by decide) e1
    rcases x_tell (by decide) e2 with ⟨k2, _⟩ | ⟨_, k2⟩
    · omega
    · cases k1
      cases k2
      cases h
      cases g
      exact ⟨rfl, rfl, rfl, fun hrf => zu_agr hrf, hl3, fun j _ _ => rfl, hLW⟩
  · rw [if_pos (by omega)] at h
    rw [if_pos c6] at g
    obtain ⟨v1, v2, v3, v4, a5', a6, a7, a8, e1, h⟩ := xz_d8 h
    unfold f_LawReader_read at e1
    replace e1 := xp_n (xp_n (xp_n e1))
    obtain ⟨tk, plc, vl, e2, eL1⟩ := xz_d3 e1
    clear e1
    have m1 := zi_min_f 400 (by decide) 400 (by decide)
    have m1' : zi_min 400 400 = 400 := by omega
    have m2 := zi_min_f (n : Int) (by omega) 400 (by decide)
    have m2' : zi_min (n : Int) 400 = (n : Int) := by omega
    have m3 := zi_max_f 0 (by decide) (n : Int) (by omega)
    have m3' : zi_max 0 (n : Int) = (n : Int) := by omega
    rw [m1', m2', m3'] at e2
    obtain ⟨m, z, s1, s2, s3, s4, s5⟩ := zok_x (l_split T hT n hn400 rtok rpl rval) e2
    dsimp only at s1 s4 s5
    obtain ⟨qs, rs, x1, x2, x3, x4⟩ := LXS_of s1 s2 s3 s5
    have hL : LEX T n m qs rs tk vl := by
      refine ⟨hT, hn400, x4, x1, fun i hi => ?_, s4⟩
      rcases Nat.lt_or_ge i m with q | q
      · have t1 := x1.1 i q
        exact TKR_of hT t1.1 t1.2.2 (x3 i q)
      · have e : i = m := by omega
        subst e
        rw [s4, x1.2.1.1, x1.2.1.2]
        exact TKR_end
    obtain ⟨b2, b3, b4, b5, b6, b7, e4, g⟩ := xz_d6 g
    unfold f_HM_begin at e4
    obtain ⟨y1, y2, y3, y4, e5, e4⟩ := xz_d4 e4
    have gx : (y1, y2, y3, y4) = ((qs 0 : Int), (rs 0 : Int), SO T n (qs 0), WO T n (qs 0) (rs 0)) := NXQ_i x1 (i := 0) (by omega) (zok_x (l_next T hT n 0 hn400 (by omega) fr so wo) e5)
    cases gx
    cases e4
    obtain ⟨r1, r2, r3, r4, r5, r6, r7, r8, r9, r10, r11, k1, k2, k3, k4, k5, e6, g⟩ := xz_d16 g
    rcases l_loop hL hW x2 zfu 0 0 0 0 0 rord nC op ar pl pa _ _ [] ⟨by omega, by omega, by omega, by omega, by omega⟩ rfl rfl trivial eL1 ⟨(r1, r2, r3, r4, r5, r6, r7, r8, r9, r10, r11, k1, k2, k3, k4, k5), zfu, e6, g⟩ with ⟨i', fr', to', so', wo', c1, c2, c3, c4, c5, f1, f2, f3, f4, f5, hi', hv, h97⟩ | ⟨hv, l, s', c', fr', to', so', wo', c3, c4, c5, nC', op', ar', f4, f5, hl12, hs', hc', hvs, hCL, hRL, h97⟩
    · have hR := c_97b h97
      replace hv : v1 = (qs i' : Int) := hv
      have hq : qs i' ≤ n := by
        rcases Nat.lt_or_ge i' m with q | q
        · exact Nat.le_of_lt (x1.1 i' q).1
        · have e : i' = m := by omega
          rw [e, x1.2.1.1]
          exact Nat.le_refl _
      rw [hv, zwi (x := (qs i' : Int)) (by omega), zwi (x := -1) (by decide), if_neg (by omega)] at h
      obtain ⟨u1, u2, u3, e7, h⟩ := xz_d3 h
      have kr := k_refuse (by decide) e7
      cases kr
      subst hR
      cases h
      exact ⟨rfl, rfl, rfl, fun hrf => zu_agr hrf, hl3, fun j _ _ => rfl, hLW⟩
    · replace hv : v1 = -1 := hv
      replace hvs : v2 = (s' : Int) := hvs
      replace hCL : CLL a5' 0 s' l 0 := hCL
      subst hv
      subst hvs
      replace h := xp_t (by decide +kernel) h
      obtain ⟨v9, v10, a11, a12, e7, h⟩ := xz_d4 h
      obtain ⟨v13, v14, v15, e8, h⟩ := xz_d3 h
      have ka := k_accept e8
      cases ka
      have hL6 : L < 6 := by omega
      obtain ⟨row2, w1, w2, w3, w4, w5, w6⟩ := c_97 (L := L) hL6 hl12 hc' hl3.symm h97
      unfold f_Hill_enact at e7
      rw [zwi (x := (L : Int)) (by omega), zwi (x := 6) (by decide), if_pos (by omega)] at e7
      replace e7 := xp_cp (xp_n e7)
      replace e7 := xp_n (xp_s e7).2
      have q1 : (zi_w ((L : Int) * 424)).toNat = 424 * L := by rw [zwi (by omega)]; omega
      have q2 : (zi_w ((s' : Nat) : Int)).toNat = s' := by rw [zwi (by omega)]; omega
      rw [q1, q2, zwi (x := (L : Int)) (by omega), Int.toNat_natCast] at e7
      cases e7
      subst w6
      cases h
      refine ⟨rfl, rfl, rfl, fun hrf => hrf, ?_, fun j j1 j2 => w5 j j2 (by omega), fun k hk => ?_⟩
      · show (L : Int) + 1 = row2 3
        rw [w4]; omega
      · replace hk : (k : Int) < (L : Int) + 1 := hk
        show LW2 (va_cpy a5' hor (zi_w 0).toNat (424 * L) s') (zu hod L (s' : Int)) row2 k
        have e0 : (zi_w 0).toNat = 0 := rfl
        rw [e0]
        by_cases ek : k = L
        · subst ek
          refine ⟨l, hl12, by rw [zu_eq]; omega, ?_, w3, RLL_of (nC := nC') (op := op') (ar := ar') (c := c') hc' (fun t ht => w2 t ht) l 0 (fun t ht => w1 t (by omega)) hRL⟩
          rw [zu_eq, Int.toNat_natCast]
          refine CLL_x l 0 hCL (fun j _ j2 => ?_)
          unfold va_cpy
          rw [if_pos (by omega)]
          congr 1
          omega
        · have hk2 : k < L := by omega
          refine LW2_x (hLW k (by omega)) (fun j hj => ?_) (zu_ne _ _ ek) (fun j hj => w5 _ (by omega) (by omega))
          unfold va_cpy
          rw [if_neg (by omega)]
