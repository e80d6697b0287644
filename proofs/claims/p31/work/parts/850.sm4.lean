/-! what both have of a hill -/
def HILL (la fo many : Int) (ord od hts wts row : Nat → Int) : Prop := HILL2 la fo ord od row ∧ CREL many hts wts (fun c => row (9 + c)) (fun j => row (21 + j))
theorem HILL_f {la fo many : Int} {ord od hts wts row row' : Nat → Int} (h : HILL la fo many ord od hts wts row) (hm : many ≤ 12) (hh : zR hts 0 10) (f : FRM3 row row') : HILL la fo many ord od hts wts row' :=
  ⟨HILL2_f h.1 (FRM_3 f), fun c hc => (f _ (by omega)).trans (h.2.1 c hc), fun c i hc hi => (f _ (by have := hh c; omega)).trans (h.2.2 c i hc hi)⟩
theorem CREL_c {many : Int} {hts wts hts' wts' H W H' W' : Nat → Int} (hm : many ≤ 12) (hh : zR hts 0 10) (h : CREL many hts wts H W) (h1 : ∀ j, j < 12 → hts' j = hts j) (h2 : ∀ j, j < 120 → wts' j = wts j) (h3 : ∀ j, j < 12 → H' j = H j) (h4 : ∀ j, j < 120 → W' j = W j) : CREL many hts' wts' H' W' := by
  sorry
/-- answers, status, refusals -/
def SR (a b sa sb : Int) (f g f' g' : Nat → Int) : Prop := a = b ∧ sa = sb ∧ ((∀ k, k < 7 → f k = g k) → ∀ k, k < 7 → f' k = g' k)
theorem SR_ref {x st st' : Int} {f g : Nat → Int} {u w : Int × Int × (Nat → Int)} (hx : -7 < x ∧ x < 0) (e1 : f_HS_refuse x st f = some u) (e2 : f_HM_tell x st' g = some w) : SR u.1 w.1 u.2.1 w.2.1 f g u.2.2 w.2.2 := by
  sorry
theorem SR_acc {x x' st st' ch : Int} {f g : Nat → Int} {u : Int × Int × Int} {w : Int × Int × (Nat → Int)} (hx : 0 ≤ x ∧ x ≤ 100000) (ex : x' = x) (e1 : f_HS_accept x st ch = some u) (e2 : f_HM_tell x' st' g = some w) : SR u.1 w.1 u.2.1 w.2.1 f g f w.2.2 := by
  sorry
theorem x_column {many s3 s30 s4 s5 la fo : Int} {t2 t3 go hts wts ord od row : Nat → Int} {v : Int × Int × Int × (Nat → Int) × Int × (Nat → Int) × (Nat → Int)} {w : Int × Int × Int × (Nat → Int) × (Nat → Int)} (hm : 0 ≤ many ∧ many ≤ 12) (em : many = row 0) (hh : zR hts 0 10) (hH : HILL la fo many ord od hts wts row) (h : f_HS_column s3 s30 t2 many go hts = some v) (g : f_HM_column s4 s5 t3 row = some w) : SR v.1 w.1 v.2.1 w.2.2.1 t2 t3 v.2.2.2.1 w.2.2.2.1 ∧ HILL la fo v.2.2.2.2.1 ord od v.2.2.2.2.2.2 wts w.2.2.2.2 := by
  sorry
theorem x_isWeight {a v : Int} (b : -2147483648 ≤ a ∧ a ≤ 2147483647) (h : f_HM_isWeight a = some v) : (v = 1 ∧ 1 ≤ a ∧ a ≤ 30) ∨ (v = 0 ∧ (a < 1 ∨ 30 < a)) := by
  sorry
/-- a stone more on both -/
theorem CREL_put {many x : Int} {hts wts H W : Nat → Int} (hh : zR hts 0 10) (h : CREL many hts wts H W) {c : Nat} (hc : (c : Int) < many) (h10 : hts c < 10) : CREL many (zu hts c (hts c + 1)) (zu wts (10 * c + (hts c).toNat) x) (zu H c (H c + 1)) (zu W (10 * c + (H c).toNat) x) := by
  sorry
theorem HILL_put {la fo many x : Int} {ord od hts wts row : Nat → Int} (hm : many ≤ 12) (hh : zR hts 0 10) (h : HILL la fo many ord od hts wts row) {c : Nat} (hc : (c : Int) < many) (h10 : hts c < 10) : HILL la fo many ord od (zu hts c (hts c + 1)) (zu wts (10 * c + (hts c).toNat) x) (zu (zu row (21 + (10 * c + (hts c).toNat)) x) (9 + c) (hts c + 1)) := by
  sorry
theorem x_stone {a1 a2 many s3 s30 s4 s5 la fo : Int} {t2 t3 hts wts ord od row : Nat → Int} {v : Int × Int × Int × (Nat → Int) × (Nat → Int) × (Nat → Int)} {w : Int × Int × Int × (Nat → Int) × (Nat → Int)} (b1 : -2147483648 ≤ a1 ∧ a1 ≤ 2147483647) (b2 : -2147483648 ≤ a2 ∧ a2 ≤ 2147483647) (hm : 0 ≤ many ∧ many ≤ 12) (em : many = row 0) (hh : zR hts 0 10) (hH : HILL la fo many ord od hts wts row) (h : f_HS_stone a1 a2 many s3 s30 t2 hts wts = some v) (g : f_HM_stone a1 a2 s4 s5 t3 row = some w) : SR v.1 w.1 v.2.1 w.2.2.1 t2 t3 v.2.2.2.1 w.2.2.2.1 ∧ HILL la fo many ord od v.2.2.2.2.1 v.2.2.2.2.2 w.2.2.2.2 := by
  sorry
theorem x_lift {a1 many s3 s30 s4 s5 la fo : Int} {t2 t3 hts wts ord od row : Nat → Int} {v : Int × Int × Int × (Nat → Int) × (Nat → Int)} {w : Int × Int × Int × (Nat → Int) × (Nat → Int)} (b1 : -2147483648 ≤ a1 ∧ a1 ≤ 2147483647) (hm : 0 ≤ many ∧ many ≤ 12) (em : many = row 0) (hh : zR hts 0 10) (hw : zR wts 0 30) (hH : HILL la fo many ord od hts wts row) (h : f_HS_lift a1 many wts s3 s30 t2 hts = some v) (g : f_HM_lift a1 s4 s5 t3 row = some w) : SR v.1 w.1 v.2.1 w.2.2.1 t2 t3 v.2.2.2.1 w.2.2.2.1 ∧ HILL la fo many ord od v.2.2.2.2 wts w.2.2.2.2 := by
  sorry
