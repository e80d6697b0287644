theorem zmv_perm {n : Nat} {sm ta sm' ta' : Nat → Int} (h : zSm n sm ta) {f t : Nat} (hf : f < 4) (ht : t < 4) (hft : f ≠ t) (hh : 1 ≤ ta f) (h1 : ta' f = ta f - 1) (h2 : ta' t = ta t + 1) (h3 : ∀ c, c ≠ f → c ≠ t → ta' c = ta c) (h4 : ∀ i, i ≠ 5 * t + (ta t).toNat → sm' i = sm i) (h5 : sm' (5 * t + (ta t).toNat) = sm (5 * f + ((ta f).toNat - 1))) : zSm n sm' ta' := by
  sorry
theorem z_moved {n N : Nat} {sm ta st tb row : Nat → Int} (h : zSm n sm ta) (hT : TI n N st tb) (h0 : RI row) (x1 x2 : Int) (e2 : x2 = (N : Int)) (hm : zMv row ta x1) : zok (f_HM_moved x1 x2 st tb sm ta) (fun o => ∃ c, zNP n N st c (o.1, o.2.1, o.2.2.1, o.2.2.2.1)) := by
  sorry
