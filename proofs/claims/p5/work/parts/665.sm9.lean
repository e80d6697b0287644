/-! status and refusals of the ops that change a fact -/
theorem r_change {i x st : Int} {row : Nat → Int} {w : Int × Int × (Nat → Int)} (h : f_HM_change i x st row = some w) : w = (row (zi_w i).toNat, 0, zu row (zi_w i).toNat x) := by
  unfold f_HM_change at h
  replace h := (xp_s (xp_g h).2).2
  cases h
  rfl
theorem SR_chg {x i b st st' ch : Int} {row f g : Nat → Int} {u : Int × Int × Int} {w : Int × Int × (Nat → Int)} (ex : row (zi_w i).toNat = x) (e1 : f_HS_accept x st ch = some u) (e2 : f_HM_change i b st' row = some w) : SR u.1 w.1 u.2.1 w.2.1 f g f g := by
  have k1 := k_accept e1
  have k2 := r_change e2
  rw [k1, k2, ex]
  exact ⟨rfl, rfl, fun h => h⟩
theorem x_child {a ch s3 s30 s4 s5 : Int} {t2 t3 stt exx trp row : Nat → Int} {v : Int × Int × Int × Int × (Nat → Int) × (Nat → Int) × (Nat → Int) × (Nat → Int)} {w : Int × Int × Int × (Nat → Int) × (Nat → Int)} (b1 : -2147483648 ≤ a ∧ a ≤ 2147483647) (hc : 0 ≤ ch ∧ ch ≤ 6) (ec : ch = row 1) (h : f_HS_child a s3 ch s30 t2 stt exx trp = some v) (g : f_HM_child a s4 s5 t3 row = some w) : SR v.1 w.1 v.2.1 w.2.2.1 t2 t3 v.2.2.2.2.1 w.2.2.2.1 := by
  have no : f_HS_child_11 s3 ch s30 t2 stt exx trp = some v → (∃ x y z, f_HM_tell (-1) s5 t3 = some (x, y, z) ∧ w = (x, 0, y, z, row)) → SR v.1 w.1 v.2.1 w.2.2.1 t2 t3 v.2.2.2.2.1 w.2.2.2.1 := fun h ⟨x, y, z, e4, hw⟩ => by
    unfold f_HS_child_11 at h
    obtain ⟨u1, u2, u3, e3, h⟩ := xz_d3 h
    have sr := SR_ref (by decide) e3 e4
    cases h
    subst hw
    exact sr
  unfold f_HS_child at h
  unfold f_HM_child at g
  obtain ⟨w1, e1, g⟩ := xz_d1 (xp_n g)
  rw [zwi b1] at e1
  rw [zwi b1, zwi (x := 1) (by decide), zwi (x := 60) (by decide)] at h
  have g1 := x_in (by omega) (by decide) (by decide) e1
  by_cases c : 1 ≤ a ∧ a ≤ 60
  · rw [if_pos c] at g1
    subst g1
    replace g := (xp_g (xp_t (by decide +kernel) g)).2
    have z : row (zi_w 1).toNat = ch := ec.symm
    rw [z] at g
    rw [if_neg (by omega), if_pos (by omega)] at h
    rw [zwi (x := ch) (by omega), zwi (x := 6) (by decide)] at h g
    by_cases d : ch < 6
    · rw [if_pos d] at h
      rw [if_pos (by omega)] at g
      obtain ⟨u1, u2, u3, u4, u5, e2, h⟩ := xz_d5 h
      unfold f_Hill_enroll at e2
      rw [zwi (x := ch) (by omega), zwi (x := 6) (by decide), if_pos d] at e2
      replace e2 := xp_n (xp_s (xp_s (xp_s e2).2).2).2
      cases e2
      obtain ⟨u6, u7, u8, e3, h⟩ := xz_d3 h
      replace g := (xp_s (xp_n (xp_n g))).2
      replace g := (xp_s (xp_n (xp_n (xp_n g)))).2
      replace g := (xp_s (xp_n (xp_n (xp_n g)))).2
      replace g := (xp_g g).2
      replace g := (xp_s (xp_n g)).2
      obtain ⟨w3, w4, w5, e4, g⟩ := xz_d3 g
      have sr := SR_acc (f := t2) (by omega) rfl e3 e4
      cases h; cases g
      exact sr
    · rw [if_neg d] at h
      rw [if_neg (by omega)] at g
      obtain ⟨u6, u7, u8, e3, h⟩ := xz_d3 h
      obtain ⟨w3, w4, w5, e4, g⟩ := xz_d3 g
      have sr := SR_ref (by decide) e3 e4
      cases h; cases g
      exact sr
  · rw [if_neg c] at g1
    subst g1
    replace g := xp_f (by decide +kernel) g
    obtain ⟨w3, w4, w5, e4, g⟩ := xz_d3 g
    have hw : w = (w3, 0, w4, w5, row) := by cases g; rfl
    by_cases d : a < 1
    · rw [if_pos d] at h; exact no h ⟨_, _, _, e4, hw⟩
    · rw [if_neg d, if_neg (by omega)] at h; exact no h ⟨_, _, _, e4, hw⟩
theorem x_expel {a b ch s3 s30 s4 s5 : Int} {t2 t3 ex row : Nat → Int} {v : Int × Int × Int × (Nat → Int) × (Nat → Int)} {w : Int × Int × Int × (Nat → Int) × (Nat → Int)} (b1 : -2147483648 ≤ a ∧ a ≤ 2147483647) (b2 : -2147483648 ≤ b ∧ b ≤ 2147483647) (hc : 0 ≤ ch ∧ ch ≤ 6) (ec : ch = row 1) (hv : ∀ c : Nat, (c : Int) < ch → ex c = row (154 + 3 * c)) (h : f_HS_expel a b ch s3 s30 t2 ex = some v) (g : f_HM_expel a b s4 s5 t3 row = some w) : SR v.1 w.1 v.2.1 w.2.2.1 t2 t3 v.2.2.2.1 w.2.2.2.1 := by
  have no : f_HS_expel_9 ch s3 s30 t2 ex = some v → (∃ x y z, f_HM_tell (-1) s5 t3 = some (x, y, z) ∧ w = (x, 0, y, z, row)) → SR v.1 w.1 v.2.1 w.2.2.1 t2 t3 v.2.2.2.1 w.2.2.2.1 := fun h ⟨x, y, z, e4, hw⟩ => by
    unfold f_HS_expel_9 at h
    obtain ⟨u1, u2, u3, e3, h⟩ := xz_d3 h
    have sr := SR_ref (by decide) e3 e4
    cases h
    subst hw
    exact sr
  unfold f_HS_expel at h
  unfold f_HM_expel at g
  obtain ⟨w1, e1, g⟩ := xz_d1 (xp_n g)
  rw [zwi b2] at e1
  rw [zwi b2, zwi (x := 1) (by decide)] at h
  have g1 := x_in (by omega) (by decide) (by decide) e1
  by_cases c : 0 ≤ b ∧ b ≤ 1
  · rw [if_pos c] at g1
    subst g1
    replace g := xp_t (by decide +kernel) g
    rw [if_neg (by omega), if_pos (by omega)] at h
    obtain ⟨u1, e2, h⟩ := xz_d1 h
    obtain ⟨w2, d2, g⟩ := xz_d1 g
    rcases k_hasChild b1 hc e2 with ⟨q1, q2⟩ | ⟨q1, q2⟩ <;> rcases r_isChild b1 (by omega) d2 with ⟨p1, p2⟩ | ⟨p1, p2⟩ <;> subst q2 <;> subst p2
    · obtain ⟨C, eC⟩ : ∃ C : Nat, a = (C : Int) := ⟨a.toNat, by omega⟩
      subst eC
      replace h := xp_t (by decide +kernel) h
      replace g := xp_n (xp_n (xp_n (xp_f (by decide +kernel) g)))
      replace h := (xp_s (xp_g h).2).2
      obtain ⟨u6, u7, u8, e3, h⟩ := xz_d3 h
      obtain ⟨w3, w4, w5, e4, g⟩ := xz_d3 g
      have z1 : (zi_w (C : Int)).toNat = C := by rw [zwi (by omega)]; omega
      have z2 : (zi_w (153 + 3 * (C : Int) + 1)).toNat = 154 + 3 * C := by rw [zwi (by omega)]; omega
      have sr := SR_chg (f := t2) (g := t3) (by rw [z2, z1]; exact (hv C (by omega)).symm) e3 e4
      cases h; cases g
      exact sr
    · omega
    · omega
    · replace h := xp_f (by decide +kernel) h
      replace g := xp_t (by decide +kernel) g
      obtain ⟨u6, u7, u8, e3, h⟩ := xz_d3 h
      obtain ⟨w3, w4, w5, e4, g⟩ := xz_d3 g
      have sr := SR_ref (by decide) e3 e4
      cases h; cases g
      exact sr
  · rw [if_neg c] at g1
    subst g1
    replace g := xp_f (by decide +kernel) g
    obtain ⟨w3, w4, w5, e4, g⟩ := xz_d3 g
    have hw : w = (w3, 0, w4, w5, row) := by cases g; rfl
    by_cases d : b < 0
    · rw [if_pos d] at h; exact no h ⟨_, _, _, e4, hw⟩
    · rw [if_neg d, if_neg (by omega)] at h; exact no h ⟨_, _, _, e4, hw⟩
theorem x_trips {a b ch s3 s30 s4 s5 : Int} {t2 t3 ex row : Nat → Int} {v : Int × Int × Int × (Nat → Int) × (Nat → Int)} {w : Int × Int × Int × (Nat → Int) × (Nat → Int)} (b1 : -2147483648 ≤ a ∧ a ≤ 2147483647) (b2 : -2147483648 ≤ b ∧ b ≤ 2147483647) (hc : 0 ≤ ch ∧ ch ≤ 6) (ec : ch = row 1) (hv : ∀ c : Nat, (c : Int) < ch → ex c = row (155 + 3 * c)) (h : f_HS_trips a b ch s3 s30 t2 ex = some v) (g : f_HM_trips a b s4 s5 t3 row = some w) : SR v.1 w.1 v.2.1 w.2.2.1 t2 t3 v.2.2.2.1 w.2.2.2.1 := by
  have no : f_HS_trips_10 ch s3 s30 t2 ex = some v → (∃ x y z, f_HM_tell (-1) s5 t3 = some (x, y, z) ∧ w = (x, 0, y, z, row)) → SR v.1 w.1 v.2.1 w.2.2.1 t2 t3 v.2.2.2.1 w.2.2.2.1 := fun h ⟨x, y, z, e4, hw⟩ => by
    unfold f_HS_trips_10 at h
    obtain ⟨u1, u2, u3, e3, h⟩ := xz_d3 h
    have sr := SR_ref (by decide) e3 e4
    cases h
    subst hw
    exact sr
  unfold f_HS_trips at h
  unfold f_HM_trips at g
  obtain ⟨w1, e1, g⟩ := xz_d1 (xp_n g)
  rw [zwi b2] at e1
  rw [zwi b2, zwi (x := 20) (by decide)] at h
  have g1 := x_in (by omega) (by decide) (by decide) e1
  by_cases c : 0 ≤ b ∧ b ≤ 20
  · rw [if_pos c] at g1
    subst g1
    replace g := xp_t (by decide +kernel) g
    rw [if_neg (by omega), if_pos (by omega)] at h
    obtain ⟨u1, e2, h⟩ := xz_d1 h
    obtain ⟨w2, d2, g⟩ := xz_d1 g
    rcases k_hasChild b1 hc e2 with ⟨q1, q2⟩ | ⟨q1, q2⟩ <;> rcases r_isChild b1 (by omega) d2 with ⟨p1, p2⟩ | ⟨p1, p2⟩ <;> subst q2 <;> subst p2
    · obtain ⟨C, eC⟩ : ∃ C : Nat, a = (C : Int) := ⟨a.toNat, by omega⟩
      subst eC
      replace h := xp_t (by decide +kernel) h
      replace g := xp_n (xp_n (xp_n (xp_f (by decide +kernel) g)))
      replace h := (xp_s (xp_g h).2).2
      obtain ⟨u6, u7, u8, e3, h⟩ := xz_d3 h
      obtain ⟨w3, w4, w5, e4, g⟩ := xz_d3 g
      have z1 : (zi_w (C : Int)).toNat = C := by rw [zwi (by omega)]; omega
      have z2 : (zi_w (153 + 3 * (C : Int) + 2)).toNat = 155 + 3 * C := by rw [zwi (by omega)]; omega
      have sr := SR_chg (f := t2) (g := t3) (by rw [z2, z1]; exact (hv C (by omega)).symm) e3 e4
      cases h; cases g
      exact sr
    · omega
    · omega
    · replace h := xp_f (by decide +kernel) h
      replace g := xp_t (by decide +kernel) g
      obtain ⟨u6, u7, u8, e3, h⟩ := xz_d3 h
      obtain ⟨w3, w4, w5, e4, g⟩ := xz_d3 g
      have sr := SR_ref (by decide) e3 e4
      cases h; cases g
      exact sr
  · rw [if_neg c] at g1
    subst g1
    replace g := xp_f (by decide +kernel) g
    obtain ⟨w3, w4, w5, e4, g⟩ := xz_d3 g
    have hw : w = (w3, 0, w4, w5, row) := by cases g; rfl
    by_cases d : b < 0
    · rw [if_pos d] at h; exact no h ⟨_, _, _, e4, hw⟩
    · rw [if_neg d, if_neg (by omega)] at h; exact no h ⟨_, _, _, e4, hw⟩
theorem x_parish {a many pa s3 s30 s4 s5 : Int} {t2 t3 pls row : Nat → Int} {v : Int × Int × Int × Int × (Nat → Int) × (Nat → Int)} {w : Int × Int × Int × (Nat → Int) × (Nat → Int)} (b1 : -2147483648 ≤ a ∧ a ≤ 2147483647) (hm : 0 ≤ many ∧ many ≤ 12) (em : many = row 0) (hp : 0 ≤ pa ∧ pa ≤ 6) (ep : pa = row 2) (h : f_HS_parish a many s3 pa s30 t2 pls = some v) (g : f_HM_parish a s4 s5 t3 row = some w) : SR v.1 w.1 v.2.1 w.2.2.1 t2 t3 v.2.2.2.2.1 w.2.2.2.1 := by
  unfold f_HS_parish at h
  unfold f_HM_parish at g
  obtain ⟨u1, e2, h⟩ := xz_d1 h
  obtain ⟨w2, d2, g⟩ := xz_d1 g
  rcases k_has b1 hm e2 with ⟨q1, q2⟩ | ⟨q1, q2⟩ <;> rcases r_isColumn b1 (by omega) d2 with ⟨p1, p2⟩ | ⟨p1, p2⟩ <;> subst q2 <;> subst p2
  · replace h := xp_t (by decide +kernel) h
    replace g := (xp_g (xp_t (by decide +kernel) g)).2
    have z : row (zi_w 2).toNat = pa := ep.symm
    rw [z] at g
    rw [zwi (x := pa) (by omega), zwi (x := 6) (by decide)] at h g
    by_cases d : pa < 6
    · rw [if_pos d] at h
      rw [if_pos (by omega)] at g
      replace h := xp_n (xp_s h).2
      obtain ⟨u6, u7, u8, e3, h⟩ := xz_d3 h
      replace g := (xp_g (xp_s (xp_n g)).2).2
      replace g := (xp_s (xp_n g)).2
      obtain ⟨w3, w4, w5, e4, g⟩ := xz_d3 g
      have sr := SR_acc (f := t2) (by omega) rfl e3 e4
      cases h; cases g
      exact sr
    · rw [if_neg d] at h
      rw [if_neg (by omega)] at g
      obtain ⟨u6, u7, u8, e3, h⟩ := xz_d3 h
      obtain ⟨w3, w4, w5, e4, g⟩ := xz_d3 g
      have sr := SR_ref (by decide) e3 e4
      cases h; cases g
      exact sr
  · omega
  · omega
  · replace h := xp_f (by decide +kernel) h
    replace g := xp_f (by decide +kernel) g
    obtain ⟨u6, u7, u8, e3, h⟩ := xz_d3 h
    obtain ⟨w3, w4, w5, e4, g⟩ := xz_d3 g
    have sr := SR_ref (by decide) e3 e4
    cases h; cases g
    exact sr
theorem x_goal {a b many s3 s30 s4 s5 : Int} {t2 t3 go row : Nat → Int} {v : Int × Int × Int × (Nat → Int) × (Nat → Int)} {w : Int × Int × Int × (Nat → Int) × (Nat → Int)} (b1 : -2147483648 ≤ a ∧ a ≤ 2147483647) (b2 : -2147483648 ≤ b ∧ b ≤ 2147483647) (hm : 0 ≤ many ∧ many ≤ 12) (em : many = row 0) (hv : ∀ c : Nat, (c : Int) < many → go c = row (141 + c)) (h : f_HS_goal a b many s3 s30 t2 go = some v) (g : f_HM_goal a b s4 s5 t3 row = some w) : v.2.1 = w.2.2.1 ∧ ((∀ k, k < 7 → t2 k = t3 k) → ∀ k, k < 7 → v.2.2.2.1 k = w.2.2.2.1 k) := by
  have no : f_HS_goal_11 many s3 s30 t2 go = some v → (∃ x y z q, f_HM_tell (-1) s5 t3 = some (x, y, z) ∧ w = (q, 0, y, z, row)) → v.2.1 = w.2.2.1 ∧ ((∀ k, k < 7 → t2 k = t3 k) → ∀ k, k < 7 → v.2.2.2.1 k = w.2.2.2.1 k) := fun h ⟨x, y, z, q, e4, hw⟩ => by
    unfold f_HS_goal_11 at h
    obtain ⟨u1, u2, u3, e3, h⟩ := xz_d3 h
    have sr := SR_ref (by decide) e3 e4
    cases h
    subst hw
    exact sr.2
  unfold f_HS_goal at h
  unfold f_HM_goal at g
  obtain ⟨w1, e1, g⟩ := xz_d1 (xp_n g)
  rw [zwi b2] at e1
  rw [zwi b2, zwi (x := -1) (by decide), zwi (x := 10) (by decide)] at h
  have g1 := x_in (by omega) (by decide) (by decide) e1
  by_cases c : -1 ≤ b ∧ b ≤ 10
  · rw [if_pos c] at g1
    subst g1
    replace g := xp_t (by decide +kernel) g
    rw [if_neg (by omega), if_pos (by omega)] at h
    obtain ⟨u1, e2, h⟩ := xz_d1 h
    obtain ⟨w2, d2, g⟩ := xz_d1 g
    rcases k_has b1 hm e2 with ⟨q1, q2⟩ | ⟨q1, q2⟩ <;> rcases r_isColumn b1 (by omega) d2 with ⟨p1, p2⟩ | ⟨p1, p2⟩ <;> subst q2 <;> subst p2
    · obtain ⟨C, eC⟩ : ∃ C : Nat, a = (C : Int) := ⟨a.toNat, by omega⟩
      subst eC
      replace h := xp_t (by decide +kernel) h
      replace g := xp_n (xp_t (by decide +kernel) g)
      replace h := (xp_s (xp_g h).2).2
      obtain ⟨u6, u7, u8, e3, h⟩ := xz_d3 h
      obtain ⟨w3, w4, w5, e4, g⟩ := xz_d3 g
      have z1 : (zi_w (C : Int)).toNat = C := by rw [zwi (by omega)]; omega
      have z2 : (zi_w (141 + (C : Int))).toNat = 141 + C := by rw [zwi (by omega)]; omega
      have sr := SR_chg (f := t2) (g := t3) (by rw [z2, z1]; exact (hv C (by omega)).symm) e3 e4
      cases h; cases g
      exact sr.2
    · omega
    · omega
    · replace h := xp_f (by decide +kernel) h
      replace g := xp_f (by decide +kernel) g
      obtain ⟨u6, u7, u8, e3, h⟩ := xz_d3 h
      obtain ⟨w3, w4, w5, e4, g⟩ := xz_d3 g
      have sr := SR_ref (by decide) e3 e4
      rcases xp_if g with ⟨_, g⟩ | ⟨_, g⟩ <;> cases h <;> cases g <;> exact sr.2
  · rw [if_neg c] at g1
    subst g1
    replace g := xp_f (by decide +kernel) g
    obtain ⟨w3, w4, w5, e4, g⟩ := xz_d3 g
    have hw : ∃ q, w = (q, 0, w4, w5, row) := by
      rcases xp_if g with ⟨_, g⟩ | ⟨_, g⟩ <;> cases g <;> exact ⟨_, rfl⟩
    obtain ⟨q, hw⟩ := hw
    by_cases d : b < -1
    · rw [if_pos d] at h; exact no h ⟨_, _, _, _, e4, hw⟩
    · rw [if_neg d, if_neg (by omega)] at h; exact no h ⟨_, _, _, _, e4, hw⟩
def TLM (a b : Int) : Prop := (a = 0 ∧ 0 ≤ b ∧ b ≤ 99) ∨ (a = 1 ∧ 1 ≤ b ∧ b ≤ 9) ∨ (a = 2 ∧ 1 ≤ b ∧ b ≤ 9) ∨ (a = 3 ∧ 0 ≤ b ∧ b ≤ 30)
theorem r_isTerm {a b v : Int} (b1 : -2147483648 ≤ a ∧ a ≤ 2147483647) (b2 : -2147483648 ≤ b ∧ b ≤ 2147483647) (h : f_HM_isTerm a b = some v) : (TLM a b ∧ v = 1) ∨ (¬ TLM a b ∧ v = 0) := by
  unfold f_HM_isTerm at h
  rw [zwi b1] at h
  by_cases c0 : a = 0
  · rw [if_pos c0] at h
    obtain ⟨v1, e1, h⟩ := xz_d1 (xp_n h)
    rw [zwi b2] at e1
    have g := x_in (by omega) (by decide) (by decide) e1
    by_cases d : 0 ≤ b ∧ b ≤ 99
    · rw [if_pos d] at g; subst g
      exact Or.inl ⟨by unfold TLM; omega, x_bool (Or.inr rfl) h⟩
    · rw [if_neg d] at g; subst g
      exact Or.inr ⟨by unfold TLM; omega, x_bool (Or.inl rfl) h⟩
  rw [if_neg c0] at h
  by_cases c1 : a = 1
  · rw [if_pos c1] at h
    obtain ⟨v1, e1, h⟩ := xz_d1 (xp_n h)
    rw [zwi b2] at e1
    have g := x_in (by omega) (by decide) (by decide) e1
    by_cases d : 1 ≤ b ∧ b ≤ 9
    · rw [if_pos d] at g; subst g
      exact Or.inl ⟨by unfold TLM; omega, x_bool (Or.inr rfl) h⟩
    · rw [if_neg d] at g; subst g
      exact Or.inr ⟨by unfold TLM; omega, x_bool (Or.inl rfl) h⟩
  rw [if_neg c1] at h
  by_cases c2 : a = 2
  · rw [if_pos c2] at h
    obtain ⟨v1, e1, h⟩ := xz_d1 (xp_n h)
    rw [zwi b2] at e1
    have g := x_in (by omega) (by decide) (by decide) e1
    by_cases d : 1 ≤ b ∧ b ≤ 9
    · rw [if_pos d] at g; subst g
      exact Or.inl ⟨by unfold TLM; omega, x_bool (Or.inr rfl) h⟩
    · rw [if_neg d] at g; subst g
      exact Or.inr ⟨by unfold TLM; omega, x_bool (Or.inl rfl) h⟩
  rw [if_neg c2] at h
  by_cases c3 : a = 3
  · rw [if_pos c3] at h
    obtain ⟨v1, e1, h⟩ := xz_d1 (xp_n h)
    rw [zwi b2] at e1
    have g := x_in (by omega) (by decide) (by decide) e1
    by_cases d : 0 ≤ b ∧ b ≤ 30
    · rw [if_pos d] at g; subst g
      exact Or.inl ⟨by unfold TLM; omega, x_bool (Or.inr rfl) h⟩
    · rw [if_neg d] at g; subst g
      exact Or.inr ⟨by unfold TLM; omega, x_bool (Or.inl rfl) h⟩
  rw [if_neg c3] at h
  cases h
  exact Or.inr ⟨by unfold TLM; omega, rfl⟩
theorem k_terms {a b s3 s30 : Int} {t2 te : Nat → Int} {v : Int × Int × Int × (Nat → Int) × (Nat → Int)} (b1 : -2147483648 ≤ a ∧ a ≤ 2147483647) (b2 : -2147483648 ≤ b ∧ b ≤ 2147483647) (h : f_HS_terms a b s3 s30 t2 te = some v) : (TLM a b ∧ ∃ x y z r, f_HS_accept (te a.toNat) s3 s30 = some (x, y, z) ∧ v = (x, y, z, t2, r)) ∨ (¬ TLM a b ∧ f_HS_terms_30 s3 s30 t2 te = some v) := by
  unfold f_HS_terms at h
  rw [zwi b1, zwi b2, zwi (x := 4) (by decide)] at h
  by_cases c1 : a < 0
  · rw [if_pos c1] at h; exact Or.inr ⟨by unfold TLM; omega, h⟩
  rw [if_neg c1] at h
  by_cases c2 : 4 ≤ a
  · rw [if_pos c2] at h; exact Or.inr ⟨by unfold TLM; omega, h⟩
  rw [if_neg c2] at h
  replace h := (xp_g h).2
  have za : (zi_w a).toNat = a.toNat := by rw [zwi (by omega)]
  rw [za] at h
  rcases (show a = 0 ∨ a = 1 ∨ a = 2 ∨ a = 3 by omega) with e | e | e | e <;> subst e
  · have z0 : zk 0 (Int.toNat 0) = 0 := by decide +kernel
    have z1 : zk 1 (Int.toNat 0) = 99 := by decide +kernel
    rw [z0, zwi (x := 0) (by decide)] at h
    by_cases d1 : b < 0
    · rw [if_pos d1] at h; exact Or.inr ⟨by unfold TLM; omega, h⟩
    rw [if_neg d1] at h
    replace h := (xp_g h).2
    rw [za, z1, zwi (x := 99) (by decide)] at h
    by_cases d2 : b ≤ 99
    · rw [if_pos d2] at h
      replace h := (xp_s (xp_g h).2).2
      obtain ⟨u6, u7, u8, e3, h⟩ := xz_d3 h
      rw [za] at e3
      cases h
      exact Or.inl ⟨by unfold TLM; omega, _, _, _, _, e3, rfl⟩
    · rw [if_neg d2] at h; exact Or.inr ⟨by unfold TLM; omega, h⟩
  · have z0 : zk 0 (Int.toNat 1) = 1 := by decide +kernel
    have z1 : zk 1 (Int.toNat 1) = 9 := by decide +kernel
    rw [z0, zwi (x := 1) (by decide)] at h
    by_cases d1 : b < 1
    · rw [if_pos d1] at h; exact Or.inr ⟨by unfold TLM; omega, h⟩
    rw [if_neg d1] at h
    replace h := (xp_g h).2
    rw [za, z1, zwi (x := 9) (by decide)] at h
    by_cases d2 : b ≤ 9
    · rw [if_pos d2] at h
      replace h := (xp_s (xp_g h).2).2
      obtain ⟨u6, u7, u8, e3, h⟩ := xz_d3 h
      rw [za] at e3
      cases h
      exact Or.inl ⟨by unfold TLM; omega, _, _, _, _, e3, rfl⟩
    · rw [if_neg d2] at h; exact Or.inr ⟨by unfold TLM; omega, h⟩
  · have z0 : zk 0 (Int.toNat 2) = 1 := by decide +kernel
    have z1 : zk 1 (Int.toNat 2) = 9 := by decide +kernel
    rw [z0, zwi (x := 1) (by decide)] at h
    by_cases d1 : b < 1
    · rw [if_pos d1] at h; exact Or.inr ⟨by unfold TLM; omega, h⟩
    rw [if_neg d1] at h
    replace h := (xp_g h).2
    rw [za, z1, zwi (x := 9) (by decide)] at h
    by_cases d2 : b ≤ 9
    · rw [if_pos d2] at h
      replace h := (xp_s (xp_g h).2).2
      obtain ⟨u6, u7, u8, e3, h⟩ := xz_d3 h
      rw [za] at e3
      cases h
      exact Or.inl ⟨by unfold TLM; omega, _, _, _, _, e3, rfl⟩
    · rw [if_neg d2] at h; exact Or.inr ⟨by unfold TLM; omega, h⟩
  · have z0 : zk 0 (Int.toNat 3) = 0 := by decide +kernel
    have z1 : zk 1 (Int.toNat 3) = 30 := by decide +kernel
    rw [z0, zwi (x := 0) (by decide)] at h
    by_cases d1 : b < 0
    · rw [if_pos d1] at h; exact Or.inr ⟨by unfold TLM; omega, h⟩
    rw [if_neg d1] at h
    replace h := (xp_g h).2
    rw [za, z1, zwi (x := 30) (by decide)] at h
    by_cases d2 : b ≤ 30
    · rw [if_pos d2] at h
      replace h := (xp_s (xp_g h).2).2
      obtain ⟨u6, u7, u8, e3, h⟩ := xz_d3 h
      rw [za] at e3
      cases h
      exact Or.inl ⟨by unfold TLM; omega, _, _, _, _, e3, rfl⟩
    · rw [if_neg d2] at h; exact Or.inr ⟨by unfold TLM; omega, h⟩
theorem x_terms {a b s3 s30 s4 s5 : Int} {t2 t3 te row : Nat → Int} {v : Int × Int × Int × (Nat → Int) × (Nat → Int)} {w : Int × Int × Int × (Nat → Int) × (Nat → Int)} (b1 : -2147483648 ≤ a ∧ a ≤ 2147483647) (b2 : -2147483648 ≤ b ∧ b ≤ 2147483647) (et : ∀ k, k < 4 → te k = row (5 + k)) (h : f_HS_terms a b s3 s30 t2 te = some v) (g : f_HM_terms a b s4 s5 t3 row = some w) : SR v.1 w.1 v.2.1 w.2.2.1 t2 t3 v.2.2.2.1 w.2.2.2.1 := by
  unfold f_HM_terms at g
  obtain ⟨w1, d1, g⟩ := xz_d1 g
  rcases k_terms b1 b2 h with ⟨q1, x, y, z, r, e3, e5⟩ | ⟨q1, q2⟩ <;> rcases r_isTerm b1 b2 d1 with ⟨p1, p2⟩ | ⟨p1, p2⟩ <;> subst p2
  · replace g := xp_n (xp_f (by decide +kernel) g)
    obtain ⟨w3, w4, w5, e4, g⟩ := xz_d3 g
    have ha : 0 ≤ a ∧ a ≤ 3 := by unfold TLM at q1; omega
    have z2 : (zi_w (5 + a)).toNat = 5 + a.toNat := by rw [zwi (by omega)]; omega
    have sr := SR_chg (f := t2) (g := t3) (by rw [z2]; exact (et a.toNat (by omega)).symm) e3 e4
    subst e5
    cases g
    exact sr
  · exact absurd q1 p1
  · exact absurd p1 q1
  · replace g := xp_t (by decide +kernel) g
    obtain ⟨w3, w4, w5, e4, g⟩ := xz_d3 g
    unfold f_HS_terms_30 at q2
    obtain ⟨u6, u7, u8, e3, q2⟩ := xz_d3 q2
    have sr := SR_ref (by decide) e3 e4
    cases q2; cases g
    exact sr
theorem HILL_c {la fo many : Int} {ord od hts wts ord' od' hts' wts' row row' : Nat → Int} (hl : la ≤ 6) (hm : many ≤ 12) (hh : zR hts 0 10) (h : HILL la fo many ord od hts wts row) (h1 : ∀ j, j < 2544 → ord' j = ord j) (h2 : ∀ j, j < 6 → od' j = od j) (h3 : ∀ j, j < 12 → hts' j = hts j) (h4 : ∀ j, j < 120 → wts' j = wts j) (f : ∀ y, y < 5580 → row' y = row y) : HILL la fo many ord' od' hts' wts' row' :=
  ⟨HILL2_c hl h.1 h1 h2 f, CREL_c hm hh h.2 h3 h4 (fun j hj => f _ (by omega)) (fun j hj => f _ (by omega))⟩
theorem r_image_23 {C : Nat} {s5 : Int} {row t3 : Nat → Int} {w : Int × Int × Int × (Nat → Int) × (Nat → Int) × (Nat → Int)} : ∀ (N k : Nat) (im kp : Nat → Int), f_HM_image_23 row N (C : Int) (k : Int) 0 s5 t3 im kp = some w → ∃ x y z p q, f_HM_tell 0 s5 t3 = some (x, y, z) ∧ w = (x, 0, y, z, p, q) := by
  intro N
  induction N with
  | zero => intro k im kp g; exact nomatch g
  | succ N ih =>
    intro k im kp g
    replace g : f_HM_image_23_b row (f_HM_image_23 row N) (C : Int) (k : Int) 0 s5 t3 im kp = some w := g
    unfold f_HM_image_23_b at g
    rcases xp_if g with ⟨_, g⟩ | ⟨_, g⟩
    · replace g := (xp_s (xp_f (by decide +kernel) g)).2
      obtain ⟨x, y, z, e, g⟩ := xz_d3 g
      cases g
      exact ⟨x, y, z, _, _, e, rfl⟩
    · replace g := (xp_g (xp_n (xp_n g))).2
      replace g := xp_n (xp_s g).2
      exact ih (k + 1) _ _ g
theorem r_image {a s4 s5 : Int} {row t3 im kp : Nat → Int} {w : Int × Int × Int × (Nat → Int) × (Nat → Int) × (Nat → Int)} (b1 : -2147483648 ≤ a ∧ a ≤ 2147483647) (g : f_HM_image a row s4 s5 t3 im kp = some w) : ∃ x y z p q, f_HM_tell (if 0 ≤ a ∧ a ≤ 1 then 0 else -1) s5 t3 = some (x, y, z) ∧ w = (x, 0, y, z, p, q) := by
  unfold f_HM_image at g
  obtain ⟨w1, e1, g⟩ := xz_d1 (xp_n g)
  rw [zwi b1] at e1
  have g1 := x_in (by omega) (by decide) (by decide) e1
  by_cases c : 0 ≤ a ∧ a ≤ 1
  · rw [if_pos c] at g1 ⊢
    subst g1
    replace g := xp_t (by decide +kernel) g
    obtain ⟨C, eC⟩ : ∃ C : Nat, a = (C : Int) := ⟨a.toNat, by omega⟩
    subst eC
    exact r_image_23 zfu 0 _ _ g
  · rw [if_neg c] at g1 ⊢
    subst g1
    replace g := xp_f (by decide +kernel) g
    obtain ⟨x, y, z, e, g⟩ := xz_d3 g
    cases g
    exact ⟨x, y, z, _, _, e, rfl⟩
theorem r_back_39 {C : Nat} {s5 : Int} {im kp t3 : Nat → Int} {w : Int × Int × Int × (Nat → Int) × (Nat → Int)} : ∀ (N k : Nat) (row : Nat → Int), f_HM_back_39 im kp N (C : Int) (k : Int) 0 s5 t3 row = some w → ∃ x y z p, f_HM_tell 0 s5 t3 = some (x, y, z) ∧ w = (x, 0, y, z, p) := by
  intro N
  induction N with
  | zero => intro k row g; exact nomatch g
  | succ N ih =>
    intro k row g
    replace g : f_HM_back_39_b im kp (f_HM_back_39 im kp N) (C : Int) (k : Int) 0 s5 t3 row = some w := g
    unfold f_HM_back_39_b at g
    rcases xp_if g with ⟨_, g⟩ | ⟨_, g⟩
    · obtain ⟨x, y, z, e, g⟩ := xz_d3 g
      cases g
      exact ⟨x, y, z, _, e, rfl⟩
    · replace g := (xp_g (xp_n (xp_n g))).2
      replace g := xp_n (xp_s g).2
      exact ih (k + 1) _ g
def BKX (a : Int) (kp : Nat → Int) : Int := if 0 ≤ a ∧ a ≤ 1 then (if kp a.toNat ≠ 0 then 0 else -2) else -1
theorem r_back {a s4 s5 : Int} {row t3 im kp : Nat → Int} {w : Int × Int × Int × (Nat → Int) × (Nat → Int)} (b1 : -2147483648 ≤ a ∧ a ≤ 2147483647) (hk : zR kp 0 1) (g : f_HM_back a im kp s4 s5 t3 row = some w) : ∃ x y z p, f_HM_tell (BKX a kp) s5 t3 = some (x, y, z) ∧ w = (x, 0, y, z, p) := by
  unfold f_HM_back at g
  unfold BKX
  obtain ⟨w1, e1, g⟩ := xz_d1 (xp_n g)
  rw [zwi b1] at e1
  have g1 := x_in (by omega) (by decide) (by decide) e1
  by_cases c : 0 ≤ a ∧ a ≤ 1
  · rw [if_pos c] at g1 ⊢
    subst g1
    replace g := (xp_g (xp_t (by decide +kernel) g)).2
    have bk := hk a.toNat
    rw [zwi (x := a) (by omega), zwi (x := kp a.toNat) (by omega)] at g
    obtain ⟨C, eC⟩ : ∃ C : Nat, a = (C : Int) := ⟨a.toNat, by omega⟩
    by_cases d : kp a.toNat ≠ 0
    · rw [if_pos d] at g ⊢
      subst eC
      exact r_back_39 zfu 0 _ g
    · rw [if_neg d] at g ⊢
      obtain ⟨x, y, z, e, g⟩ := xz_d3 g
      cases g
      exact ⟨x, y, z, _, e, rfl⟩
  · rw [if_neg c] at g1 ⊢
    subst g1
    replace g := xp_f (by decide +kernel) g
    obtain ⟨x, y, z, e, g⟩ := xz_d3 g
    cases g
    exact ⟨x, y, z, _, e, rfl⟩
