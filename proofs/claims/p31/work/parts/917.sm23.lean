/-! EVERY STONE WEIGHS SOMETHING, whatever is done -/
theorem sw_put {many x : Int} {H W : Nat → Int} (hh : zR H 0 10) (hS : STW many H W) (hx : 1 ≤ x) (c : Nat) (h10 : H c < 10) : STW many (zu H c (H c + 1)) (zu W (10 * c + (H c).toNat) x) := fun d i hd hi => by
  have bd := hh d
  have bc := hh c
  by_cases e : 10 * d + i = 10 * c + (H c).toNat
  · rw [e, zu_eq]; exact hx
  · rw [zu_ne _ _ e]
    refine hS d i hd ?_
    by_cases f : d = c
    · subst f; rw [zu_eq] at hi; omega
    · rw [zu_ne _ _ f] at hi; exact hi
theorem sw_less {many : Int} {H W : Nat → Int} (hS : STW many H W) (c : Nat) (x : Int) (hx : x ≤ H c) : STW many (zu H c x) W := fun d i hd hi => by
  refine hS d i hd ?_
  by_cases f : d = c
  · subst f; rw [zu_eq] at hi; omega
  · rw [zu_ne _ _ f] at hi; exact hi
theorem sw_column {many s3 s30 : Int} {t2 go hts wts : Nat → Int} {v : Int × Int × Int × (Nat → Int) × Int × (Nat → Int) × (Nat → Int)} (hm : 0 ≤ many ∧ many ≤ 12) (hS : STW many hts wts) (h : f_HS_column s3 s30 t2 many go hts = some v) : STW v.2.2.2.2.1 v.2.2.2.2.2.2 wts := by
  sorry
theorem sw_stone {a1 a2 many s3 s30 : Int} {t2 hts wts : Nat → Int} {v : Int × Int × Int × (Nat → Int) × (Nat → Int) × (Nat → Int)} (b1 : -2147483648 ≤ a1 ∧ a1 ≤ 2147483647) (b2 : -2147483648 ≤ a2 ∧ a2 ≤ 2147483647) (hm : 0 ≤ many ∧ many ≤ 12) (hh : zR hts 0 10) (hS : STW many hts wts) (h : f_HS_stone a1 a2 many s3 s30 t2 hts wts = some v) : STW many v.2.2.2.2.1 v.2.2.2.2.2 := by
  sorry
theorem sw_lift {a1 many s3 s30 : Int} {t2 hts wts : Nat → Int} {v : Int × Int × Int × (Nat → Int) × (Nat → Int)} (hS : STW many hts wts) (h : f_HS_lift a1 many wts s3 s30 t2 hts = some v) : STW many v.2.2.2.2 wts := by
  sorry
theorem sw_row_44 {many T s3 s30 : Int} {tape t2 : Nat → Int} {V : Int × Int × Int × Int × Int × (Nat → Int) × (Nat → Int) × (Nat → Int)} (hm : 0 ≤ many ∧ many ≤ 12) (ht : zR tape 0 255) (h0 : 0 ≤ tape 0 ∧ tape 0 < many) : ∀ (N : Nat) (p k tp s2 : Int) (hts wts : Nat → Int), zR hts 0 10 → STW many hts wts → f_HS_row_44 tape many N T p k tp s2 s3 s30 t2 hts wts = some V → STW many V.2.2.2.2.2.2.1 V.2.2.2.2.2.2.2 := by
  sorry
theorem sw_row {many s0 s2 s3 s30 : Int} {tape t2 hts wts : Nat → Int} {v : Int × Int × Int × Int × Int × (Nat → Int) × (Nat → Int) × (Nat → Int)} (hm : 0 ≤ many ∧ many ≤ 12) (ht : zR tape 0 255) (hh : zR hts 0 10) (hS : STW many hts wts) (h : f_HS_row tape many s0 s2 s3 s30 t2 hts wts = some v) : STW many v.2.2.2.2.2.2.1 v.2.2.2.2.2.2.2 := by
  sorry
theorem sw_settle {many st : Int} (hm : 0 ≤ many ∧ many ≤ 12) (hs : 0 ≤ st ∧ st ≤ 100) {V : Int × (Nat → Int) × (Nat → Int)} : ∀ (N : Nat) (n : Int) (hts wts : Nat → Int), zR hts 0 10 → STW many hts wts → f_Columns_settle_2 many N st n hts wts = some V → STW many V.2.1 V.2.2 := by
  sorry
theorem sw_slide {many s30 : Int} {te hts wts : Nat → Int} {v : Int × Int × (Nat → Int) × (Nat → Int)} (hm : 0 ≤ many ∧ many ≤ 12) (ht : zR te 0 99) (hh : zR hts 0 10) (hS : STW many hts wts) (h : f_HS_slide many te s30 hts wts = some v) : STW many v.2.2.1 v.2.2.2 := by
  sorry
theorem sw_carry {a b c ch la fo many s3 s30 pi ti ba : Int} {st ex te ord od t2 wo pl hts wts : Nat → Int} {v : Int × Int × Int × (Nat → Int) × Int × Int × Int × (Nat → Int) × (Nat → Int) × (Nat → Int) × (Nat → Int)} (b1 : -2147483648 ≤ a ∧ a ≤ 2147483647) (b2 : -2147483648 ≤ b ∧ b ≤ 2147483647) (b3 : -2147483648 ≤ c ∧ c ≤ 2147483647) (hc6 : 0 ≤ ch ∧ ch ≤ 6) (hm : 0 ≤ many ∧ many ≤ 12) (hh : zR hts 0 10) (hS : STW many hts wts) (h : f_HS_carry a b c ch la fo many st ex te ord od s3 s30 t2 pi ti ba wo pl hts wts = some v) : STW many v.2.2.2.2.2.2.2.2.2.1 v.2.2.2.2.2.2.2.2.2.2 := by
  sorry
theorem sw_exchange {a b c d ch la fo many s3 s30 pi ti ba : Int} {st ex te ord od t2 wo pl hts wts : Nat → Int} {v : Int × Int × Int × (Nat → Int) × Int × Int × Int × (Nat → Int) × (Nat → Int) × (Nat → Int) × (Nat → Int)} (b1 : -2147483648 ≤ a ∧ a ≤ 2147483647) (b2 : -2147483648 ≤ b ∧ b ≤ 2147483647) (b3 : -2147483648 ≤ c ∧ c ≤ 2147483647) (b4 : -2147483648 ≤ d ∧ d ≤ 2147483647) (hc6 : 0 ≤ ch ∧ ch ≤ 6) (hm : 0 ≤ many ∧ many ≤ 12) (hh : zR hts 0 10) (hS : STW many hts wts) (h : f_HS_exchange a b c d ch la fo many st ex te ord od s3 s30 t2 pi ti ba wo pl hts wts = some v) : STW many v.2.2.2.2.2.2.2.2.2.1 v.2.2.2.2.2.2.2.2.2.2 := by
  sorry
