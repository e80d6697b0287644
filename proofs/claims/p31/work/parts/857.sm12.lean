/-! changes and stones of the class alone -/
def HCH (ch many : Int) (hts wts : Nat → Int) (ch' many' : Int) (hts' wts' : Nat → Int) : Prop := ch ≤ ch' ∧ (ch' = ch → many' = many ∧ CREL many hts wts hts' wts')
theorem CREL_0 {many : Int} {hts wts : Nat → Int} : CREL many hts wts hts wts := ⟨fun _ _ => rfl, fun _ _ _ _ => rfl⟩
theorem HCH_0 {ch many : Int} {hts wts : Nat → Int} : HCH ch many hts wts ch many hts wts := ⟨Int.le_refl _, fun _ => ⟨rfl, CREL_0⟩⟩
theorem HCH_1 {ch ch' many many' : Int} {hts wts hts' wts' : Nat → Int} (e : ch' = ch + 1) : HCH ch many hts wts ch' many' hts' wts' := ⟨by omega, fun h => by omega⟩
theorem WOK_step {ver ch many ch' many' : Int} {hts wts hts' wts' sets : Nat → Int} (hm : 0 ≤ many) (hh : zR hts 0 10) (hW : WOK ver ch many hts wts sets) (h : HCH ch many hts wts ch' many' hts' wts') : WOK ver ch' many' hts' wts' sets := by
  sorry
theorem hc_column {many s3 s30 : Int} {t2 go hts wts : Nat → Int} {v : Int × Int × Int × (Nat → Int) × Int × (Nat → Int) × (Nat → Int)} (h : f_HS_column s3 s30 t2 many go hts = some v) : HCH s30 many hts wts v.2.2.1 v.2.2.2.2.1 v.2.2.2.2.2.2 wts := by
  sorry
theorem hc_stone {a1 a2 many s3 s30 : Int} {t2 hts wts : Nat → Int} {v : Int × Int × Int × (Nat → Int) × (Nat → Int) × (Nat → Int)} (b1 : -2147483648 ≤ a1 ∧ a1 ≤ 2147483647) (hm : 0 ≤ many ∧ many ≤ 12) (hh : zR hts 0 10) (h : f_HS_stone a1 a2 many s3 s30 t2 hts wts = some v) : HCH s30 many hts wts v.2.2.1 many v.2.2.2.2.1 v.2.2.2.2.2 := by
  sorry
theorem hc_lift {a1 many s3 s30 : Int} {t2 hts wts : Nat → Int} {v : Int × Int × Int × (Nat → Int) × (Nat → Int)} (h : f_HS_lift a1 many wts s3 s30 t2 hts = some v) : HCH s30 many hts wts v.2.2.1 many v.2.2.2.2 wts := by
  sorry
theorem hc_slide {many s30 : Int} {te hts wts : Nat → Int} {v : Int × Int × (Nat → Int) × (Nat → Int)} (h : f_HS_slide many te s30 hts wts = some v) : HCH s30 many hts wts v.2.1 many v.2.2.1 v.2.2.2 := by
  sorry
theorem hc_carry {a b c ch la fo many s3 s30 pi ti ba : Int} {st ex te ord od t2 wo pl hts wts : Nat → Int} {v : Int × Int × Int × (Nat → Int) × Int × Int × Int × (Nat → Int) × (Nat → Int) × (Nat → Int) × (Nat → Int)} (h : f_HS_carry a b c ch la fo many st ex te ord od s3 s30 t2 pi ti ba wo pl hts wts = some v) : HCH s30 many hts wts v.2.2.1 many v.2.2.2.2.2.2.2.2.2.1 v.2.2.2.2.2.2.2.2.2.2 := by
  sorry
theorem hc_row_44 {many T s3 s30 : Int} {tape t2 : Nat → Int} {V : Int × Int × Int × Int × Int × (Nat → Int) × (Nat → Int) × (Nat → Int)} : ∀ (N : Nat) (p k tp s2 : Int) (hts wts : Nat → Int), f_HS_row_44 tape many N T p k tp s2 s3 s30 t2 hts wts = some V → V.2.2.2.2.1 = s30 + 1 := by
  sorry
theorem hc_row {many s0 s2 s3 s30 : Int} {tape t2 hts wts : Nat → Int} {v : Int × Int × Int × Int × Int × (Nat → Int) × (Nat → Int) × (Nat → Int)} (h : f_HS_row tape many s0 s2 s3 s30 t2 hts wts = some v) : HCH s30 many hts wts v.2.2.2.2.1 many v.2.2.2.2.2.2.1 v.2.2.2.2.2.2.2 := by
  sorry
theorem hc_back {many : Int} {hts wts h1 w1 h2 w2 : Nat → Int} {B C : Nat} (hm : 0 ≤ many ∧ many ≤ 12) (hh : zR hts 0 10) (hbm : (B : Int) < many) (hcm : (C : Int) < many) (hne : B ≠ C) (ef : 0 < hts B ∧ hts C < 10) (x2 : f_Columns_move (B : Int) (C : Int) many hts wts = some (h1, w1)) (x6 : f_Columns_move (C : Int) (B : Int) many h1 w1 = some (h2, w2)) : CREL many hts wts h2 w2 := by
  sorry
theorem hc_gains {a p b c ch pa la fo many pi ti ba : Int} {st ex pls te ord od wo pl hts wts : Nat → Int} {v : Int × Int × Int × Int × (Nat → Int) × (Nat → Int) × (Nat → Int) × (Nat → Int)} (b1 : -2147483648 ≤ a ∧ a ≤ 2147483647) (b2 : -2147483648 ≤ b ∧ b ≤ 2147483647) (b3 : -2147483648 ≤ c ∧ c ≤ 2147483647) (hc6 : 0 ≤ ch ∧ ch ≤ 6) (hm : 0 ≤ many ∧ many ≤ 12) (hh : zR hts 0 10) (h : f_HS_gains p a b c ch pa la fo many st ex pls te ord od pi ti ba wo pl hts wts = some v) : CREL many hts wts v.2.2.2.2.2.2.1 v.2.2.2.2.2.2.2 := by
  sorry
theorem hc_exchange {a b c d ch la fo many s3 s30 pi ti ba : Int} {st ex te ord od t2 wo pl hts wts : Nat → Int} {v : Int × Int × Int × (Nat → Int) × Int × Int × Int × (Nat → Int) × (Nat → Int) × (Nat → Int) × (Nat → Int)} (b1 : -2147483648 ≤ a ∧ a ≤ 2147483647) (b2 : -2147483648 ≤ b ∧ b ≤ 2147483647) (b3 : -2147483648 ≤ c ∧ c ≤ 2147483647) (hc6 : 0 ≤ ch ∧ ch ≤ 6) (hm : 0 ≤ many ∧ many ≤ 12) (hh : zR hts 0 10) (h : f_HS_exchange a b c d ch la fo many st ex te ord od s3 s30 t2 pi ti ba wo pl hts wts = some v) : HCH s30 many hts wts v.2.2.1 many v.2.2.2.2.2.2.2.2.2.1 v.2.2.2.2.2.2.2.2.2.2 := by
  sorry
