theorem s_HM_in (x0 : Int) (x2 : Int) (x4 : Int) (b_x0 : (-9223372036854775808) ≤ x0 ∧ x0 ≤ 9223372036854775807) (b_x2 : (-9223372036854775808) ≤ x2 ∧ x2 ≤ 9223372036854775807) (b_x4 : (-9223372036854775808) ≤ x4 ∧ x4 ≤ 9223372036854775807) : zok (f_HM_in x0 x2 x4) (fun o => ((o = 1 ∧ x2 ≤ x0 ∧ x0 ≤ x4) ∨ (o = 0 ∧ (x0 < x2 ∨ x4 < x0)))) := by
  sorry
theorem s_HM_tell (x1 : Int) (i_status : Int) (i_refusals : Nat → Int) (b_x1 : (-6) ≤ x1 ∧ x1 ≤ 2147483647) : zok (f_HM_tell x1 i_status i_refusals) (fun o => (o.1 = x1) ∧ ((0 ≤ x1 ∧ o.2.1 = 0) ∨ (x1 < 0 ∧ o.2.1 = x1))) := by
  sorry
theorem s_HM_columns (i_row : Nat → Int) (h_i_row : RI i_row) : zok (f_HM_columns i_row) (fun o => (o = i_row 0) ∧ (0 ≤ i_row 0 ∧ i_row 0 ≤ 12)) := by
  sorry
theorem s_HM_isWeight (x0 : Int) (b_x0 : (-2147483648) ≤ x0 ∧ x0 ≤ 2147483647) : zok (f_HM_isWeight x0) (fun o => ((o = 1 ∧ 1 ≤ x0 ∧ x0 ≤ 30) ∨ (o = 0 ∧ (x0 < 1 ∨ 30 < x0)))) := by
  sorry
theorem s_HM_isColumn (x1 : Int) (i_row : Nat → Int) (b_x1 : (-2147483648) ≤ x1 ∧ x1 ≤ 2147483647) (h_i_row : RI i_row) : zok (f_HM_isColumn x1 i_row) (fun o => ((o = 1 ∧ 0 ≤ x1 ∧ x1 < i_row 0) ∨ (o = 0 ∧ (x1 < 0 ∨ i_row 0 ≤ x1))) ∧ (0 ≤ i_row 0 ∧ i_row 0 ≤ 12)) := by
  sorry
theorem s_HM_isChild (x1 : Int) (i_row : Nat → Int) (b_x1 : (-2147483648) ≤ x1 ∧ x1 ≤ 2147483647) (h_i_row : RI i_row) : zok (f_HM_isChild x1 i_row) (fun o => ((o = 1 ∧ 0 ≤ x1 ∧ x1 < i_row 1) ∨ (o = 0 ∧ (x1 < 0 ∨ i_row 1 ≤ x1))) ∧ (0 ≤ i_row 1 ∧ i_row 1 ≤ 6)) := by
  sorry
theorem s_HM_isParish (x1 : Int) (i_row : Nat → Int) (b_x1 : (-2147483648) ≤ x1 ∧ x1 ≤ 2147483647) (h_i_row : RI i_row) : zok (f_HM_isParish x1 i_row) (fun o => ((o = 1 ∧ 0 ≤ x1 ∧ x1 < i_row 2) ∨ (o = 0 ∧ (x1 < 0 ∨ i_row 2 ≤ x1))) ∧ (0 ≤ i_row 2 ∧ i_row 2 ≤ 6)) := by
  sorry
theorem s_HM_are (x1 : Int) (x2 : Int) (x3 : Int) (i_row : Nat → Int) (b_x1 : (-2147483648) ≤ x1 ∧ x1 ≤ 2147483647) (b_x2 : (-2147483648) ≤ x2 ∧ x2 ≤ 2147483647) (b_x3 : (-2147483648) ≤ x3 ∧ x3 ≤ 2147483647) (h_i_row : RI i_row) : zok (f_HM_are x1 x2 x3 i_row) (fun o => ((o = 1 ∧ (0 ≤ x1 ∧ x1 < i_row 1) ∧ (0 ≤ x2 ∧ x2 < i_row 0) ∧ (0 ≤ x3 ∧ x3 < i_row 0)) ∨ (o = 0 ∧ ((x1 < 0 ∨ i_row 1 ≤ x1) ∨ (x2 < 0 ∨ i_row 0 ≤ x2) ∨ (x3 < 0 ∨ i_row 0 ≤ x3)))) ∧ (0 ≤ i_row 0 ∧ i_row 0 ≤ 12) ∧ (0 ≤ i_row 1 ∧ i_row 1 ≤ 6)) := by
  sorry
theorem s_HM_isTerm (x0 : Int) (x1 : Int) (b_x0 : (-2147483648) ≤ x0 ∧ x0 ≤ 2147483647) (b_x1 : (-2147483648) ≤ x1 ∧ x1 ≤ 2147483647) : zok (f_HM_isTerm x0 x1) (fun o => ((o = 1 ∧ ((x0 = 0 ∧ 0 ≤ x1 ∧ x1 ≤ 99) ∨ (x0 = 1 ∧ 1 ≤ x1 ∧ x1 ≤ 9) ∨ (x0 = 2 ∧ 1 ≤ x1 ∧ x1 ≤ 9) ∨ (x0 = 3 ∧ 0 ≤ x1 ∧ x1 ≤ 30))) ∨ (o = 0 ∧ ((x0 = 0 ∧ (x1 < 0 ∨ 99 < x1)) ∨ ((x0 = 1 ∨ x0 = 2) ∧ (x1 < 1 ∨ 9 < x1)) ∨ (x0 = 3 ∧ (x1 < 0 ∨ 30 < x1)) ∨ x0 < 0 ∨ 3 < x0)))) := by
  sorry
theorem s_HM_change (x1 : Int) (x2 : Int) (i_status : Int) (i_row : Nat → Int) (b_x1 : 0 ≤ x1 ∧ x1 ≤ 5579) : zok (f_HM_change x1 x2 i_status i_row) (fun o => (o.1 = i_row x1.toNat) ∧ (o.2.1 = 0) ∧ (o.2.2 = zu i_row x1.toNat x2)) := by
  sorry
theorem s_HM_column (i_thrown : Int) (i_status : Int) (i_refusals : Nat → Int) (i_row : Nat → Int) (h_i_row : RI i_row) : zok (f_HM_column i_thrown i_status i_refusals i_row) (fun o => RI o.2.2.2.2) := by
  sorry
theorem s_HM_stone (x1 : Int) (x2 : Int) (i_thrown : Int) (i_status : Int) (i_refusals : Nat → Int) (i_row : Nat → Int) (b_x1 : (-2147483648) ≤ x1 ∧ x1 ≤ 2147483647) (b_x2 : (-2147483648) ≤ x2 ∧ x2 ≤ 2147483647) (h_i_row : RI i_row) : zok (f_HM_stone x1 x2 i_thrown i_status i_refusals i_row) (fun o => RI o.2.2.2.2 ∧ (∀ j : Nat, (j < 9 ∨ 141 ≤ j) → o.2.2.2.2 j = i_row j)) := by
  sorry
theorem s_HM_lift (x1 : Int) (i_thrown : Int) (i_status : Int) (i_refusals : Nat → Int) (i_row : Nat → Int) (b_x1 : (-2147483648) ≤ x1 ∧ x1 ≤ 2147483647) (h_i_row : RI i_row) : zok (f_HM_lift x1 i_thrown i_status i_refusals i_row) (fun o => RI o.2.2.2.2 ∧ (∀ j : Nat, (j < 9 ∨ 141 ≤ j) → o.2.2.2.2 j = i_row j)) := by
  sorry
theorem s_HM_of (x1 : Int) (x2 : Int) (i_row : Nat → Int) (i_thrown : Int) (b_x1 : (-2147483648) ≤ x1 ∧ x1 ≤ 2147483647) (b_x2 : (-2147483648) ≤ x2 ∧ x2 ≤ 2147483647) (h_i_row : RI i_row) : zok (f_HM_of x1 x2 i_row i_thrown) (fun o => True) := by
  sorry
theorem s_HM_weight_19 (i_row : Nat → Int) (h_i_row : RI i_row) : ∀ (n : Nat) (x1 : Int) (x2 : Int) (x3 : Int) (i_thrown : Int), (0 ≤ x1 ∧ x1 ≤ 11) → (0 ≤ x3 ∧ x3 ≤ 10) → (11 - x3) < (n : Int) → zok (f_HM_weight_19 i_row n x1 x2 x3 i_thrown) (fun o => True) := by
  sorry
theorem s_HM_weight (x1 : Int) (i_row : Nat → Int) (i_thrown : Int) (b_x1 : (-2147483648) ≤ x1 ∧ x1 ≤ 2147483647) (h_i_row : RI i_row) : zok (f_HM_weight x1 i_row i_thrown) (fun o => True) := by
  sorry
theorem s_HM_child (x1 : Int) (i_thrown : Int) (i_status : Int) (i_refusals : Nat → Int) (i_row : Nat → Int) (b_x1 : (-2147483648) ≤ x1 ∧ x1 ≤ 2147483647) (h_i_row : RI i_row) : zok (f_HM_child x1 i_thrown i_status i_refusals i_row) (fun o => RI o.2.2.2.2) := by
  sorry
theorem s_HM_expel (x1 : Int) (x2 : Int) (i_thrown : Int) (i_status : Int) (i_refusals : Nat → Int) (i_row : Nat → Int) (b_x1 : (-2147483648) ≤ x1 ∧ x1 ≤ 2147483647) (b_x2 : (-2147483648) ≤ x2 ∧ x2 ≤ 2147483647) (h_i_row : RI i_row) : zok (f_HM_expel x1 x2 i_thrown i_status i_refusals i_row) (fun o => RI o.2.2.2.2) := by
  sorry
theorem s_HM_fact (x1 : Int) (x2 : Int) (i_row : Nat → Int) (i_thrown : Int) (b_x1 : (-2147483648) ≤ x1 ∧ x1 ≤ 2147483647) (b_x2 : (-2147483648) ≤ x2 ∧ x2 ≤ 2147483647) (h_i_row : RI i_row) : zok (f_HM_fact x1 x2 i_row i_thrown) (fun o => True) := by
  sorry
theorem s_HM_parish (x1 : Int) (i_thrown : Int) (i_status : Int) (i_refusals : Nat → Int) (i_row : Nat → Int) (b_x1 : (-2147483648) ≤ x1 ∧ x1 ≤ 2147483647) (h_i_row : RI i_row) : zok (f_HM_parish x1 i_thrown i_status i_refusals i_row) (fun o => RI o.2.2.2.2) := by
  sorry
theorem s_HM_terms (x1 : Int) (x2 : Int) (i_thrown : Int) (i_status : Int) (i_refusals : Nat → Int) (i_row : Nat → Int) (b_x1 : (-2147483648) ≤ x1 ∧ x1 ≤ 2147483647) (b_x2 : (-2147483648) ≤ x2 ∧ x2 ≤ 2147483647) (h_i_row : RI i_row) : zok (f_HM_terms x1 x2 i_thrown i_status i_refusals i_row) (fun o => RI o.2.2.2.2) := by
  sorry
theorem s_HM_row_56 (i_tape : Nat → Int) (h_i_tape : zR i_tape 0 255) : ∀ (n : Nat) (x1 : Int) (x2 : Int) (x3 : Int) (x4 : Int) (i_thrown : Int) (i_status : Int) (i_gravel : Int) (i_taped : Int) (i_refusals : Nat → Int) (i_row : Nat → Int), (1 ≤ x1 ∧ x1 ≤ 400) → (0 ≤ x2 ∧ x2 ≤ 11) → (0 ≤ x3 ∧ x3 ≤ 400) → (1 ≤ x4 ∧ x4 ≤ 400) → (0 ≤ i_taped ∧ i_taped ≤ 400) → (RI i_row) → (x4 ≤ x1) → (x3 ≤ x4) → (401 - x4) < (n : Int) → zok (f_HM_row_56 i_tape n x1 x2 x3 x4 i_thrown i_status i_gravel i_taped i_refusals i_row) (fun o => (0 ≤ o.2.2.2.2.1 ∧ o.2.2.2.2.1 ≤ 400) ∧ RI o.2.2.2.2.2.2 ∧ (o.2.2.2.2.1 = i_taped) ∧ (∀ j : Nat, (j < 9 ∨ 141 ≤ j) → o.2.2.2.2.2.2 j = i_row j)) := by
  sorry
theorem s_HM_row (i_tape : Nat → Int) (i_thrown : Int) (i_status : Int) (i_gravel : Int) (i_taped : Int) (i_refusals : Nat → Int) (i_row : Nat → Int) (h_i_tape : zR i_tape 0 255) (b_i_taped : 0 ≤ i_taped ∧ i_taped ≤ 400) (h_i_row : RI i_row) : zok (f_HM_row i_tape i_thrown i_status i_gravel i_taped i_refusals i_row) (fun o => (0 ≤ o.2.2.2.2.1 ∧ o.2.2.2.2.1 ≤ 400) ∧ RI o.2.2.2.2.2.2 ∧ (o.2.2.2.2.1 = 0) ∧ (∀ j : Nat, (j < 9 ∨ 141 ≤ j) → o.2.2.2.2.2.2 j = i_row j)) := by
  sorry
theorem s_HM_gravel (i_gravel : Int) (i_thrown : Int)  : zok (f_HM_gravel i_gravel i_thrown) (fun o => True) := by
  sorry
theorem s_HM_four_3   : ∀ (n : Nat) (x1 : Int) (x2 : Int) (i_taped : Int) (i_tape : Nat → Int), ((-2147483648) ≤ x1 ∧ x1 ≤ 2147483647) → ((-8) ≤ x2 ∧ x2 ≤ 24) → (0 ≤ i_taped ∧ i_taped ≤ 400) → (zR i_tape 0 255) → (x2 % 8 = 0) → (8 * i_taped + x2 ≤ 3192) → (x2 + 9) < (n : Int) → zok (f_HM_four_3  n x1 x2 i_taped i_tape) (fun o => zR o.2 0 255 ∧ (8 * o.1 - 8 = 8 * i_taped + x2)) := by
  sorry
theorem s_HM_four (x1 : Int) (i_taped : Int) (i_tape : Nat → Int) (b_x1 : (-2147483648) ≤ x1 ∧ x1 ≤ 2147483647) (b_i_taped : 0 ≤ i_taped ∧ i_taped ≤ 396) (h_i_tape : zR i_tape 0 255) : zok (f_HM_four x1 i_taped i_tape) (fun o => zR o.2 0 255 ∧ (o.1 = i_taped + 4)) := by
  sorry
theorem s_HM_feed (x1 : Int) (x2 : Int) (x3 : Int) (x4 : Int) (x5 : Int) (i_thrown : Int) (i_taped : Int) (i_tape : Nat → Int) (b_x1 : (-2147483648) ≤ x1 ∧ x1 ≤ 2147483647) (b_x2 : (-2147483648) ≤ x2 ∧ x2 ≤ 2147483647) (b_x3 : (-2147483648) ≤ x3 ∧ x3 ≤ 2147483647) (b_x4 : (-2147483648) ≤ x4 ∧ x4 ≤ 2147483647) (b_x5 : (-2147483648) ≤ x5 ∧ x5 ≤ 2147483647) (b_i_taped : 0 ≤ i_taped ∧ i_taped ≤ 400) (h_i_tape : zR i_tape 0 255) : zok (f_HM_feed x1 x2 x3 x4 x5 i_thrown i_taped i_tape) (fun o => (0 ≤ o.2.2.1 ∧ o.2.2.1 ≤ 400) ∧ zR o.2.2.2 0 255 ∧ ((i_taped + 20 ≤ 400 ∧ o.1 = i_taped + 20 ∧ o.2.2.1 = i_taped + 20) ∨ (400 < i_taped + 20 ∧ o.1 = -1 ∧ o.2.2.1 = i_taped))) := by
  sorry
theorem s_HM_end (x1 : Int) (i_thrown : Int) (i_taped : Int) (b_x1 : (-2147483648) ≤ x1 ∧ x1 ≤ 2147483647) (b_i_taped : 0 ≤ i_taped ∧ i_taped ≤ 400) : zok (f_HM_end x1 i_thrown i_taped) (fun o => (0 ≤ o.2.2 ∧ o.2.2 ≤ 400)) := by
  sorry
theorem s_HM_fault (i_fault : Int) (i_thrown : Int)  : zok (f_HM_fault i_fault i_thrown) (fun o => True) := by
  sorry
theorem s_HM_force (x1 : Int) (i_thrown : Int) (i_status : Int) (i_refusals : Nat → Int) (i_row : Nat → Int) (b_x1 : (-2147483648) ≤ x1 ∧ x1 ≤ 2147483647) (h_i_row : RI i_row) : zok (f_HM_force x1 i_thrown i_status i_refusals i_row) (fun o => RI o.2.2.2.2) := by
  sorry
theorem s_HM_top (x1 : Int) (i_high : Nat → Int) (i_heaps : Nat → Int) (b_x1 : 0 ≤ x1 ∧ x1 ≤ 11) (h_i_high : zR i_high 0 10) (h_i_heaps : zR i_heaps 0 30) : zok (f_HM_top x1 i_high i_heaps) (fun o => (0 ≤ o ∧ o ≤ 30)) := by
  sorry
theorem s_HM_isSteep (x1 : Int) (x2 : Int) (i_row : Nat → Int) (i_high : Nat → Int) (b_x1 : 0 ≤ x1 ∧ x1 ≤ 11) (b_x2 : (-1) ≤ x2 ∧ x2 ≤ 12) (h_i_row : RI i_row) (h_i_high : zR i_high 0 10) : zok (f_HM_isSteep x1 x2 i_row i_high) (fun o => ((o = 1 ∧ 0 ≤ x2 ∧ x2 < i_row 0 ∧ i_high x2.toNat + i_row 7 < i_high x1.toNat) ∨ (o = 0 ∧ (x2 < 0 ∨ i_row 0 ≤ x2 ∨ i_high x1.toNat ≤ i_high x2.toNat + i_row 7))) ∧ (1 ≤ i_row 7) ∧ (0 ≤ i_row 0 ∧ i_row 0 ≤ 12)) := by
  sorry
theorem s_HM_steepest_2 (i_row : Nat → Int) (i_high : Nat → Int) (h_i_row : RI i_row) (h_i_high : zR i_high 0 10) : ∀ (n : Nat) (x1 : Int), (0 ≤ x1 ∧ x1 ≤ 12) → (13 - x1) < (n : Int) → zok (f_HM_steepest_2 i_row i_high n x1) (fun o => ((-1) ≤ o ∧ o ≤ 11) ∧ (o = -1 ∨ (0 ≤ o ∧ o < i_row 0 ∧ ((1 ≤ o ∧ i_high (o - 1).toNat + i_row 7 < i_high (o).toNat) ∨ (o + 1 < i_row 0 ∧ i_high (o + 1).toNat + i_row 7 < i_high (o).toNat))))) := by
  sorry
theorem s_HM_steepest (i_row : Nat → Int) (i_high : Nat → Int) (h_i_row : RI i_row) (h_i_high : zR i_high 0 10) : zok (f_HM_steepest i_row i_high) (fun o => ((-1) ≤ o ∧ o ≤ 11) ∧ (o = -1 ∨ (0 ≤ o ∧ o < i_row 0 ∧ ((1 ≤ o ∧ i_high (o - 1).toNat + i_row 7 < i_high (o).toNat) ∨ (o + 1 < i_row 0 ∧ i_high (o + 1).toNat + i_row 7 < i_high (o).toNat))))) := by
  sorry
theorem s_HM_size (x0 : Int) (b_x0 : (-2147483647) ≤ x0 ∧ x0 ≤ 2147483647) : zok (f_HM_size x0) (fun o => ((o = x0 ∧ 0 ≤ x0) ∨ (o = -x0 ∧ x0 < 0))) := by
  sorry
theorem s_HM_shadeAt_4 (i_row : Nat → Int) (i_high : Nat → Int) (h_i_row : RI i_row) (h_i_high : zR i_high 0 10) : ∀ (n : Nat) (x1 : Int) (x2 : Int) (x3 : Int), (0 ≤ x1 ∧ x1 ≤ 11) → (0 ≤ x2 ∧ x2 ≤ 10) → (0 ≤ x3 ∧ x3 ≤ 12) → (13 - x3) < (n : Int) → zok (f_HM_shadeAt_4 i_row i_high n x1 x2 x3) (fun o => (0 ≤ o ∧ o ≤ 10)) := by
  sorry
theorem s_HM_shadeAt (x1 : Int) (i_row : Nat → Int) (i_high : Nat → Int) (b_x1 : 0 ≤ x1 ∧ x1 ≤ 11) (h_i_row : RI i_row) (h_i_high : zR i_high 0 10) : zok (f_HM_shadeAt x1 i_row i_high) (fun o => (0 ≤ o ∧ o ≤ 10)) := by
  sorry
theorem s_HM_allShades_4 (i_row : Nat → Int) (i_high : Nat → Int) (h_i_row : RI i_row) (h_i_high : zR i_high 0 10) : ∀ (n : Nat) (x1 : Int) (x2 : Int), (0 ≤ x1 ∧ x1 ≤ 60) → (0 ≤ x2 ∧ x2 ≤ 6) → (x1 ≤ 10 * x2) → (7 - x2) < (n : Int) → zok (f_HM_allShades_4 i_row i_high n x1 x2) (fun o => (0 ≤ o ∧ o ≤ 60)) := by
  sorry
theorem s_HM_allShades (i_row : Nat → Int) (i_high : Nat → Int) (h_i_row : RI i_row) (h_i_high : zR i_high 0 10) : zok (f_HM_allShades i_row i_high) (fun o => (0 ≤ o ∧ o ≤ 60)) := by
  sorry
theorem s_HM_goal (x1 : Int) (x2 : Int) (i_thrown : Int) (i_status : Int) (i_refusals : Nat → Int) (i_row : Nat → Int) (b_x1 : (-2147483648) ≤ x1 ∧ x1 ≤ 2147483647) (b_x2 : (-2147483648) ≤ x2 ∧ x2 ≤ 2147483647) (h_i_row : RI i_row) : zok (f_HM_goal x1 x2 i_thrown i_status i_refusals i_row) (fun o => RI o.2.2.2.2) := by
  sorry
theorem s_HM_stones_4 (i_row : Nat → Int) (h_i_row : RI i_row) : ∀ (n : Nat) (x1 : Int) (x2 : Int), (0 ≤ x1 ∧ x1 ≤ 120) → (0 ≤ x2 ∧ x2 ≤ 12) → (x1 ≤ 10 * x2) → (13 - x2) < (n : Int) → zok (f_HM_stones_4 i_row n x1 x2) (fun o => (0 ≤ o ∧ o ≤ 120)) := by
  sorry
theorem s_HM_stones (i_row : Nat → Int) (h_i_row : RI i_row) : zok (f_HM_stones i_row) (fun o => (0 ≤ o ∧ o ≤ 120)) := by
  sorry
theorem s_HM_weighs_91 (i_row : Nat → Int) (k49 : Int → Int → Int → (Nat → Int) → Option (Int × Int × (Nat → Int))) (Nk49 : Nat) (hk49 : ∀ (x1 : Int) (x2 : Int) (i_thrown : Int) (i_sets : Nat → Int), (0 ≤ x1 ∧ x1 ≤ 3600) → (0 ≤ x2 ∧ x2 ≤ 12) → (zR i_sets 0 1000000000) → (13 - x2) < (Nk49 : Int) → zok (k49 x1 x2 i_thrown i_sets) (fun o => zR o.2.2 0 1000000000)) (k59 : Int → Int → Int → Int → (Nat → Int) → Option (Int × Int × (Nat → Int))) (Nk59 : Nat) (hk59 : ∀ (x1 : Int) (x2 : Int) (x3 : Int) (i_thrown : Int) (i_sets : Nat → Int), (0 ≤ x1 ∧ x1 ≤ 3600) → (0 ≤ x2 ∧ x2 ≤ 11) → (0 ≤ x3 ∧ x3 ≤ 10) → (zR i_sets 0 1000000000) → (13 - x2) < (Nk49 : Int) + 1 → (11 - x3) < (Nk59 : Int) → zok (k59 x1 x2 x3 i_thrown i_sets) (fun o => zR o.2.2 0 1000000000)) (h_i_row : RI i_row) : ∀ (n : Nat) (x1 : Int) (x2 : Int) (x3 : Int) (x4 : Int) (x5 : Int) (i_thrown : Int) (i_sets : Nat → Int), (0 ≤ x1 ∧ x1 ≤ 3600) → (0 ≤ x2 ∧ x2 ≤ 11) → (0 ≤ x3 ∧ x3 ≤ 9) → (0 ≤ x4 ∧ x4 ≤ 30) → ((-31) ≤ x5 ∧ x5 ≤ 3600) → (zR i_sets 0 1000000000) → (x5 ≤ x1) → (13 - x2) < (Nk49 : Int) + 1 → (11 - x3) < (Nk59 : Int) + 1 → (x5 + 32) < (n : Int) → zok (f_HM_weighs_91 i_row k49 k59 n x1 x2 x3 x4 x5 i_thrown i_sets) (fun o => zR o.2.2 0 1000000000) := by
  sorry
theorem s_HM_weighs_59 (i_row : Nat → Int) (k49 : Int → Int → Int → (Nat → Int) → Option (Int × Int × (Nat → Int))) (Nk49 : Nat) (hk49 : ∀ (x1 : Int) (x2 : Int) (i_thrown : Int) (i_sets : Nat → Int), (0 ≤ x1 ∧ x1 ≤ 3600) → (0 ≤ x2 ∧ x2 ≤ 12) → (zR i_sets 0 1000000000) → (13 - x2) < (Nk49 : Int) → zok (k49 x1 x2 i_thrown i_sets) (fun o => zR o.2.2 0 1000000000)) (h_i_row : RI i_row) : ∀ (n : Nat) (x1 : Int) (x2 : Int) (x3 : Int) (i_thrown : Int) (i_sets : Nat → Int), (0 ≤ x1 ∧ x1 ≤ 3600) → (0 ≤ x2 ∧ x2 ≤ 11) → (0 ≤ x3 ∧ x3 ≤ 10) → (zR i_sets 0 1000000000) → (13 - x2) < (Nk49 : Int) + 1 → (11 - x3) < (n : Int) → zok (f_HM_weighs_59 i_row k49 n x1 x2 x3 i_thrown i_sets) (fun o => zR o.2.2 0 1000000000) := by
  sorry
theorem s_HM_weighs_49 (i_row : Nat → Int) (h_i_row : RI i_row) : ∀ (n : Nat) (x1 : Int) (x2 : Int) (i_thrown : Int) (i_sets : Nat → Int), (0 ≤ x1 ∧ x1 ≤ 3600) → (0 ≤ x2 ∧ x2 ≤ 12) → (zR i_sets 0 1000000000) → (13 - x2) < (n : Int) → zok (f_HM_weighs_49 i_row n x1 x2 i_thrown i_sets) (fun o => zR o.2.2 0 1000000000) := by
  sorry
theorem s_HM_weighs_21 (i_row : Nat → Int) (h_i_row : RI i_row) : ∀ (n : Nat) (x1 : Int) (x2 : Int) (i_thrown : Int) (i_sets : Nat → Int), (0 ≤ x1 ∧ x1 ≤ 3600) → (0 ≤ x2 ∧ x2 ≤ 3601) → (zR i_sets 0 1000000000) → (3602 - x2) < (n : Int) → zok (f_HM_weighs_21 i_row n x1 x2 i_thrown i_sets) (fun o => zR o.2.2 0 1000000000) := by
  sorry
theorem s_HM_weighs (x1 : Int) (i_row : Nat → Int) (i_thrown : Int) (i_sets : Nat → Int) (b_x1 : (-2147483648) ≤ x1 ∧ x1 ≤ 2147483647) (h_i_row : RI i_row) (h_i_sets : zR i_sets 0 1000000000) : zok (f_HM_weighs x1 i_row i_thrown i_sets) (fun o => zR o.2.2 0 1000000000) := by
  sorry
theorem s_HM_trips (x1 : Int) (x2 : Int) (i_thrown : Int) (i_status : Int) (i_refusals : Nat → Int) (i_row : Nat → Int) (b_x1 : (-2147483648) ≤ x1 ∧ x1 ≤ 2147483647) (b_x2 : (-2147483648) ≤ x2 ∧ x2 ≤ 2147483647) (h_i_row : RI i_row) : zok (f_HM_trips x1 x2 i_thrown i_status i_refusals i_row) (fun o => RI o.2.2.2.2) := by
  sorry
theorem s_HM_is (x0 : Int) (x1 : Int) (b_x0 : (-2147483648) ≤ x0 ∧ x0 ≤ 2147483647) (b_x1 : (-2147483648) ≤ x1 ∧ x1 ≤ 2147483647) : zok (f_HM_is x0 x1) (fun o => (o = 0 ∨ o = 1)) := by
  sorry
theorem s_HM_layers_35 (i_row : Nat → Int) (h_i_row : RI i_row) : ∀ (n : Nat) (x1 : Int) (x2 : Int) (x3 : Int) (i_thrown : Int), (0 ≤ x1 ∧ x1 ≤ 11) → (1 ≤ x3 ∧ x3 ≤ 10) → (11 - x3) < (n : Int) → zok (f_HM_layers_35 i_row n x1 x2 x3 i_thrown) (fun o => True) := by
  sorry
theorem s_HM_layers (x1 : Int) (i_row : Nat → Int) (i_thrown : Int) (b_x1 : (-2147483648) ≤ x1 ∧ x1 ≤ 2147483647) (h_i_row : RI i_row) : zok (f_HM_layers x1 i_row i_thrown) (fun o => True) := by
  sorry
theorem s_HM_rained (x1 : Int) (x2 : Int) (i_wet : Int) (i_rained : Nat → Int) (i_thrown : Int) (b_x1 : (-2147483648) ≤ x1 ∧ x1 ≤ 2147483647) (b_x2 : (-2147483648) ≤ x2 ∧ x2 ≤ 2147483647) (b_i_wet : 0 ≤ i_wet ∧ i_wet ≤ 12) : zok (f_HM_rained x1 x2 i_wet i_rained i_thrown) (fun o => True) := by
  sorry
theorem s_HM_count (x1 : Int) (i_taped : Int) (i_refusals : Nat → Int) (i_row : Nat → Int) (i_thrown : Int) (b_x1 : (-2147483648) ≤ x1 ∧ x1 ≤ 2147483647) (h_i_row : RI i_row) : zok (f_HM_count x1 i_taped i_refusals i_row i_thrown) (fun o => True) := by
  sorry
theorem s_HM_status (i_status : Int) (i_thrown : Int)  : zok (f_HM_status i_status i_thrown) (fun o => True) := by
  sorry
