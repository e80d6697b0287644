/-! status and refusals of the ops that change a fact -/
theorem r_change {i x st : Int} {row : Nat → Int} {w : Int × Int × (Nat → Int)} (h : f_HM_change i x st row = some w) : w = (row (zi_w i).toNat, 0, zu row (zi_w i).toNat x) := by
  sorry
theorem SR_chg {x i b st st' ch : Int} {row f g : Nat → Int} {u : Int × Int × Int} {w : Int × Int × (Nat → Int)} (ex : row (zi_w i).toNat = x) (e1 : f_HS_accept x st ch = some u) (e2 : f_HM_change i b st' row = some w) : SR u.1 w.1 u.2.1 w.2.1 f g f g := by
  sorry
theorem x_child {a ch s3 s30 s4 s5 : Int} {t2 t3 stt exx trp row : Nat → Int} {v : Int × Int × Int × Int × (Nat → Int) × (Nat → Int) × (Nat → Int) × (Nat → Int)} {w : Int × Int × Int × (Nat → Int) × (Nat → Int)} (b1 : -2147483648 ≤ a ∧ a ≤ 2147483647) (hc : 0 ≤ ch ∧ ch ≤ 6) (ec : ch = row 1) (h : f_HS_child a s3 ch s30 t2 stt exx trp = some v) (g : f_HM_child a s4 s5 t3 row = some w) : SR v.1 w.1 v.2.1 w.2.2.1 t2 t3 v.2.2.2.2.1 w.2.2.2.1 := by
  sorry
theorem x_expel {a b ch s3 s30 s4 s5 : Int} {t2 t3 ex row : Nat → Int} {v : Int × Int × Int × (Nat → Int) × (Nat → Int)} {w : Int × Int × Int × (Nat → Int) × (Nat → Int)} (b1 : -2147483648 ≤ a ∧ a ≤ 2147483647) (b2 : -2147483648 ≤ b ∧ b ≤ 2147483647) (hc : 0 ≤ ch ∧ ch ≤ 6) (ec : ch = row 1) (hv : ∀ c : Nat, (c : Int) < ch → ex c = row (154 + 3 * c)) (h : f_HS_expel a b ch s3 s30 t2 ex = some v) (g : f_HM_expel a b s4 s5 t3 row = some w) : SR v.1 w.1 v.2.1 w.2.2.1 t2 t3 v.2.2.2.1 w.2.2.2.1 := by
  sorry
theorem x_trips {a b ch s3 s30 s4 s5 : Int} {t2 t3 ex row : Nat → Int} {v : Int × Int × Int × (Nat → Int) × (Nat → Int)} {w : Int × Int × Int × (Nat → Int) × (Nat → Int)} (b1 : -2147483648 ≤ a ∧ a ≤ 2147483647) (b2 : -2147483648 ≤ b ∧ b ≤ 2147483647) (hc : 0 ≤ ch ∧ ch ≤ 6) (ec : ch = row 1) (hv : ∀ c : Nat, (c : Int) < ch → ex c = row (155 + 3 * c)) (h : f_HS_trips a b ch s3 s30 t2 ex = some v) (g : f_HM_trips a b s4 s5 t3 row = some w) : SR v.1 w.1 v.2.1 w.2.2.1 t2 t3 v.2.2.2.1 w.2.2.2.1 := by
  sorry
theorem x_parish {a many pa s3 s30 s4 s5 : Int} {t2 t3 pls row : Nat → Int} {v : Int × Int × Int × Int × (Nat → Int) × (Nat → Int)} {w : Int × Int × Int × (Nat → Int) × (Nat → Int)} (b1 : -2147483648 ≤ a ∧ a ≤ 2147483647) (hm : 0 ≤ many ∧ many ≤ 12) (em : many = row 0) (hp : 0 ≤ pa ∧ pa ≤ 6) (ep : pa = row 2) (h : f_HS_parish a many s3 pa s30 t2 pls = some v) (g : f_HM_parish a s4 s5 t3 row = some w) : SR v.1 w.1 v.2.1 w.2.2.1 t2 t3 v.2.2.2.2.1 w.2.2.2.1 := by
  sorry
theorem x_goal {a b many s3 s30 s4 s5 : Int} {t2 t3 go row : Nat → Int} {v : Int × Int × Int × (Nat → Int) × (Nat → Int)} {w : Int × Int × Int × (Nat → Int) × (Nat → Int)} (b1 : -2147483648 ≤ a ∧ a ≤ 2147483647) (b2 : -2147483648 ≤ b ∧ b ≤ 2147483647) (hm : 0 ≤ many ∧ many ≤ 12) (em : many = row 0) (hv : ∀ c : Nat, (c : Int) < many → go c = row (141 + c)) (h : f_HS_goal a b many s3 s30 t2 go = some v) (g : f_HM_goal a b s4 s5 t3 row = some w) : v.2.1 = w.2.2.1 ∧ ((∀ k, k < 7 → t2 k = t3 k) → ∀ k, k < 7 → v.2.2.2.1 k = w.2.2.2.1 k) := by
  sorry
def TLM (a b : Int) : Prop := (a = 0 ∧ 0 ≤ b ∧ b ≤ 99) ∨ (a = 1 ∧ 1 ≤ b ∧ b ≤ 9) ∨ (a = 2 ∧ 1 ≤ b ∧ b ≤ 9) ∨ (a = 3 ∧ 0 ≤ b ∧ b ≤ 30)
theorem r_isTerm {a b v : Int} (b1 : -2147483648 ≤ a ∧ a ≤ 2147483647) (b2 : -2147483648 ≤ b ∧ b ≤ 2147483647) (h : f_HM_isTerm a b = some v) : (TLM a b ∧ v = 1) ∨ (¬ TLM a b ∧ v = 0) := by
  sorry
theorem k_terms {a b s3 s30 : Int} {t2 te : Nat → Int} {v : Int × Int × Int × (Nat → Int) × (Nat → Int)} (b1 : -2147483648 ≤ a ∧ a ≤ 2147483647) (b2 : -2147483648 ≤ b ∧ b ≤ 2147483647) (h : f_HS_terms a b s3 s30 t2 te = some v) : (TLM a b ∧ ∃ x y z r, f_HS_accept (te a.toNat) s3 s30 = some (x, y, z) ∧ v = (x, y, z, t2, r)) ∨ (¬ TLM a b ∧ f_HS_terms_30 s3 s30 t2 te = some v) := by
  sorry
theorem x_terms {a b s3 s30 s4 s5 : Int} {t2 t3 te row : Nat → Int} {v : Int × Int × Int × (Nat → Int) × (Nat → Int)} {w : Int × Int × Int × (Nat → Int) × (Nat → Int)} (b1 : -2147483648 ≤ a ∧ a ≤ 2147483647) (b2 : -2147483648 ≤ b ∧ b ≤ 2147483647) (et : ∀ k, k < 4 → te k = row (5 + k)) (h : f_HS_terms a b s3 s30 t2 te = some v) (g : f_HM_terms a b s4 s5 t3 row = some w) : SR v.1 w.1 v.2.1 w.2.2.1 t2 t3 v.2.2.2.1 w.2.2.2.1 := by
  sorry
theorem HILL_c {la fo many : Int} {ord od hts wts ord' od' hts' wts' row row' : Nat → Int} (hl : la ≤ 6) (hm : many ≤ 12) (hh : zR hts 0 10) (h : HILL la fo many ord od hts wts row) (h1 : ∀ j, j < 2544 → ord' j = ord j) (h2 : ∀ j, j < 6 → od' j = od j) (h3 : ∀ j, j < 12 → hts' j = hts j) (h4 : ∀ j, j < 120 → wts' j = wts j) (f : ∀ y, y < 5580 → row' y = row y) : HILL la fo many ord' od' hts' wts' row' :=
  ⟨HILL2_c hl h.1 h1 h2 f, CREL_c hm hh h.2 h3 h4 (fun j hj => f _ (by omega)) (fun j hj => f _ (by omega))⟩
theorem r_image_23 {C : Nat} {s5 : Int} {row t3 : Nat → Int} {w : Int × Int × Int × (Nat → Int) × (Nat → Int) × (Nat → Int)} : ∀ (N k : Nat) (im kp : Nat → Int), f_HM_image_23 row N (C : Int) (k : Int) 0 s5 t3 im kp = some w → ∃ x y z p q, f_HM_tell 0 s5 t3 = some (x, y, z) ∧ w = (x, 0, y, z, p, q) := by
  sorry
theorem r_image {a s4 s5 : Int} {row t3 im kp : Nat → Int} {w : Int × Int × Int × (Nat → Int) × (Nat → Int) × (Nat → Int)} (b1 : -2147483648 ≤ a ∧ a ≤ 2147483647) (g : f_HM_image a row s4 s5 t3 im kp = some w) : ∃ x y z p q, f_HM_tell (if 0 ≤ a ∧ a ≤ 1 then 0 else -1) s5 t3 = some (x, y, z) ∧ w = (x, 0, y, z, p, q) := by
  sorry
theorem r_back_39 {C : Nat} {s5 : Int} {im kp t3 : Nat → Int} {w : Int × Int × Int × (Nat → Int) × (Nat → Int)} : ∀ (N k : Nat) (row : Nat → Int), f_HM_back_39 im kp N (C : Int) (k : Int) 0 s5 t3 row = some w → ∃ x y z p, f_HM_tell 0 s5 t3 = some (x, y, z) ∧ w = (x, 0, y, z, p) := by
  sorry
def BKX (a : Int) (kp : Nat → Int) : Int := if 0 ≤ a ∧ a ≤ 1 then (if kp a.toNat ≠ 0 then 0 else -2) else -1
theorem r_back {a s4 s5 : Int} {row t3 im kp : Nat → Int} {w : Int × Int × Int × (Nat → Int) × (Nat → Int)} (b1 : -2147483648 ≤ a ∧ a ≤ 2147483647) (hk : zR kp 0 1) (g : f_HM_back a im kp s4 s5 t3 row = some w) : ∃ x y z p, f_HM_tell (BKX a kp) s5 t3 = some (x, y, z) ∧ w = (x, 0, y, z, p) := by
  sorry
