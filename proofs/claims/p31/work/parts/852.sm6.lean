/-! stones one by one -/
theorem k_heft {C : Nat} {i many v : Int} {hts wts : Nat → Int} (hm : 0 ≤ many ∧ many ≤ 12) (hh : zR hts 0 10) (hc : (C : Int) < many) (hi : 0 ≤ i ∧ i ≤ 2147483647) (h : f_Columns_heft (C : Int) i many hts wts = some v) : v = if i < hts C then wts (10 * C + i.toNat) else 0 := by
  sorry
def LSUM (w : Nat → Int) (c : Nat) : Nat → Int
  | 0 => 0
  | k + 1 => LSUM w c k + w (10 * c + k)
theorem LSUM_agr {w w' : Nat → Int} {c : Nat} : ∀ k, (∀ i, i < k → w' (10 * c + i) = w (10 * c + i)) → LSUM w' c k = LSUM w c k := by
  sorry
theorem k_load_4 {C : Nat} {many : Int} {hts wts : Nat → Int} (hm : 0 ≤ many ∧ many ≤ 12) (hh : zR hts 0 10) (hc : (C : Int) < many) : ∀ (N k : Nat) (v : Int), (k : Int) ≤ hts C → f_Columns_load_4 many hts wts N (C : Int) (LSUM wts C k) (k : Int) = some v → v = LSUM wts C (hts C).toNat := by
  sorry
theorem k_load {C : Nat} {many v : Int} {hts wts : Nat → Int} (hm : 0 ≤ many ∧ many ≤ 12) (hh : zR hts 0 10) (hc : (C : Int) < many) (h : f_Columns_load (C : Int) many hts wts = some v) : v = LSUM wts C (hts C).toNat := by
  sorry
theorem r_weight_19 {C : Nat} {row : Nat → Int} (hC : C < 12) (hh : 0 ≤ row (9 + C) ∧ row (9 + C) ≤ 10) : ∀ (N k : Nat) (th : Int) (w : Int × Int), (k : Int) ≤ row (9 + C) → f_HM_weight_19 row N (C : Int) (LSUM (fun j => row (21 + j)) C k) (k : Int) th = some w → w.1 = LSUM (fun j => row (21 + j)) C (row (9 + C)).toNat := by
  sorry
theorem x_weight {a many s4 : Int} {hts wts row : Nat → Int} {v : Int} {w : Int × Int} (b1 : -2147483648 ≤ a ∧ a ≤ 2147483647) (hm : 0 ≤ many ∧ many ≤ 12) (em : many = row 0) (hh : zR hts 0 10) (hC : CREL many hts wts (fun c => row (9 + c)) (fun j => row (21 + j))) (h : f_HS_weight a many hts wts = some v) (g : f_HM_weight a row s4 = some w) : v = w.1 := by
  sorry
theorem x_of {a i many s4 : Int} {hts wts row : Nat → Int} {v : Int} {w : Int × Int} (b1 : -2147483648 ≤ a ∧ a ≤ 2147483647) (b2 : -2147483648 ≤ i ∧ i ≤ 2147483647) (hm : 0 ≤ many ∧ many ≤ 12) (em : many = row 0) (hh : zR hts 0 10) (hC : CREL many hts wts (fun c => row (9 + c)) (fun j => row (21 + j))) (h : f_HS_of a i many hts wts = some v) (g : f_HM_of a i row s4 = some w) : v = w.1 := by
  sorry
theorem lay_eq {C : Nat} {many : Int} {hts wts row : Nat → Int} (hm : 0 ≤ many ∧ many ≤ 12) (hh : zR hts 0 10) (hw : zR wts 0 30) (hc : (C : Int) < many) (hC : CREL many hts wts (fun c => row (9 + c)) (fun j => row (21 + j))) : ∀ (N M k : Nat) (x th v : Int) (w : Int × Int), 1 ≤ k → k ≤ 11 → f_Scales_layersOf_18 many hts wts N (C : Int) x (k : Int) = some v → f_HM_layers_35 row M (C : Int) x (k : Int) th = some w → v = w.1 := by
  sorry
theorem x_layers {a many s4 : Int} {hts wts row : Nat → Int} {v : Int} {w : Int × Int} (b1 : -2147483648 ≤ a ∧ a ≤ 2147483647) (hm : 0 ≤ many ∧ many ≤ 12) (em : many = row 0) (hh : zR hts 0 10) (hw : zR wts 0 30) (hC : CREL many hts wts (fun c => row (9 + c)) (fun j => row (21 + j))) (h : f_HS_layers a many hts wts = some v) (g : f_HM_layers a row s4 = some w) : v = w.1 := by
  sorry
/-! parishes and shades -/
def PREL (pa : Int) (pl te row : Nat → Int) : Prop := (0 ≤ pa ∧ pa ≤ 6 ∧ pa = row 2) ∧ (∀ c : Nat, (c : Int) < pa → pl c = row (171 + c)) ∧ zR pl 0 11 ∧ (te 1 = row 6 ∧ 1 ≤ te 1 ∧ te 1 ≤ 9)
theorem k_hasParish {a pa v : Int} (b : -2147483648 ≤ a ∧ a ≤ 2147483647) (hc : 0 ≤ pa ∧ pa ≤ 6) (h : f_Hill_hasParish a pa = some v) : ((0 ≤ a ∧ a < pa) ∧ v = 1) ∨ ((a < 0 ∨ pa ≤ a) ∧ v = 0) := by
  sorry
theorem r_isParish {x v : Int} {row : Nat → Int} (hx : -2147483648 ≤ x ∧ x ≤ 2147483647) (hm : 0 ≤ row 2 ∧ row 2 ≤ 6) (h : f_HM_isParish x row = some v) : ((0 ≤ x ∧ x < row 2) ∧ v = 1) ∨ ((x < 0 ∨ row 2 ≤ x) ∧ v = 0) := by
  sorry
/-- the shade at one parish on both sides -/
theorem shade1 {pa many v w : Int} {pl te hts H row : Nat → Int} {P : Nat} (hm : 0 ≤ many ∧ many ≤ 12) (em : many = row 0) (hh : zR hts 0 10) (hP : PREL pa pl te row) (hp : (P : Int) < pa) (hH : ∀ c : Nat, (c : Int) < many → H c = hts c) (h : f_Hill_shadeOf (P : Int) pa many pl te hts = some v) (g : f_HM_shadeAt (row (171 + P)) row H = some w) : v = w ∧ 0 ≤ v ∧ v ≤ 10 := by
  sorry
theorem shades_eq {pa many : Int} {pl te hts H row : Nat → Int} (hm : 0 ≤ many ∧ many ≤ 12) (em : many = row 0) (hh : zR hts 0 10) (hP : PREL pa pl te row) (hH : ∀ c : Nat, (c : Int) < many → H c = hts c) : ∀ (N M k : Nat) (x v w : Int), k ≤ 6 → (0 ≤ x ∧ x ≤ 10 * (k : Int)) → f_Hill_shades_4 pa many pl te hts N x (k : Int) = some v → f_HM_allShades_4 row H M x (k : Int) = some w → v = w ∧ 0 ≤ v ∧ v ≤ 60 := by
  sorry
theorem x_shade {a pa many s4 : Int} {pl te hts wts row hi he : Nat → Int} {v : Int} {w : Int × Int × (Nat → Int) × (Nat → Int)} (b1 : -2147483648 ≤ a ∧ a ≤ 2147483647) (hm : 0 ≤ many ∧ many ≤ 12) (em : many = row 0) (hh : zR hts 0 10) (hP : PREL pa pl te row) (hC : CREL many hts wts (fun c => row (9 + c)) (fun j => row (21 + j))) (h : f_HS_shade a pa many pl te hts = some v) (g : f_HM_shade a row s4 hi he = some w) : v = w.1 := by
  sorry
/-- carried there and back -/
theorem back_same {hts wts : Nat → Int} (hh : zR hts 0 10) {a b : Nat} (hab : a ≠ b) (h1 : 0 < hts a) (h2 : hts b < 10) {h1' w1' h2' w2' : Nat → Int} (e1 : h1' = zu (zu hts b (hts b + 1)) a (hts a - 1)) (e2 : w1' = zu wts (10 * b + (hts b).toNat) (TOPV hts wts a)) (e3 : h2' = zu (zu h1' a (h1' a + 1)) b (h1' b - 1)) (e4 : w2' = zu w1' (10 * a + (h1' a).toNat) (TOPV h1' w1' b)) : (∀ c, h2' c = hts c) ∧ ∀ c i : Nat, (i : Int) < hts c → w2' (10 * c + i) = wts (10 * c + i) := by
  sorry
