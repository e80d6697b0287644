/-! SETS of stones: one stone more, a column, all columns -/
def WST (w : Int) (f : Nat → Int) : Nat → Int := fun s => if w ≤ (s : Int) then (if f s + f (s - w.toNat) ≤ 1000000000 then f s + f (s - w.toNat) else 1000000000) else f s
def DPC (wts : Nat → Int) (c : Nat) (f : Nat → Int) : Nat → Nat → Int
  | 0 => f
  | i + 1 => WST (wts (10 * c + i)) (DPC wts c f i)
def DPA (hts wts : Nat → Int) : Nat → Nat → Int
  | 0 => fun s => if s = 0 then 1 else 0
  | c + 1 => DPC wts c (DPA hts wts c) (hts c).toNat
theorem WST_r {w : Int} {f : Nat → Int} (hf : zR f 0 1000000000) : zR (WST w f) 0 1000000000 := fun s => by
  have b1 := hf s
  have b2 := hf (s - w.toNat)
  unfold WST
  split
  · split <;> omega
  · exact b1
theorem DPC_r {wts : Nat → Int} {c : Nat} {f : Nat → Int} (hf : zR f 0 1000000000) : ∀ i, zR (DPC wts c f i) 0 1000000000 := by
  sorry
theorem DPA_r {hts wts : Nat → Int} : ∀ c, zR (DPA hts wts c) 0 1000000000 := by
  sorry
theorem DPC_agr {wts wts' : Nat → Int} {c : Nat} {f : Nat → Int} : ∀ i, (∀ j, j < i → wts' (10 * c + j) = wts (10 * c + j)) → DPC wts' c f i = DPC wts c f i := by
  sorry
theorem DPA_agr {many : Int} {hts wts H W : Nat → Int} (hh : zR hts 0 10) (hC : CREL many hts wts H W) : ∀ c : Nat, (c : Int) ≤ many → DPA H W c = DPA hts wts c := by
  sorry
/-- one stone: the table from above down to its weight -/
def STG (f : Nat → Int) (w : Int) (k n : Nat) (g : Nat → Int) : Prop := ∀ s, s < n → g s = if s < k then f s else WST w f s
theorem STG_end {f g : Nat → Int} {w : Int} {k n : Nat} (hk : (k : Int) ≤ w) (h : STG f w k n g) : ∀ s, s < n → g s = WST w f s := fun s hs => by
  have e := h s hs
  by_cases c : s < k
  · rw [if_pos c] at e
    rw [e]
    unfold WST
    rw [if_neg (by omega)]
  · rw [if_neg c] at e
    exact e
theorem STG_step {f g : Nat → Int} {w v : Int} {k n : Nat} (hn : k + 1 ≤ n) (hw : w ≤ (k : Int)) (hv : v = if f k + f (k - w.toNat) ≤ 1000000000 then f k + f (k - w.toNat) else 1000000000) (h : STG f w (k + 1) n g) : STG f w k n (zu g k v) := fun s hs => by
  have e := h s hs
  by_cases c : s = k
  · subst c
    rw [zu_eq, if_neg (by omega), hv]
    unfold WST
    rw [if_pos hw]
  · rw [zu_ne _ _ c, e]
    by_cases d : s < k
    · rw [if_pos (by omega), if_pos d]
    · rw [if_neg (by omega), if_neg d]
theorem STG_at {f g : Nat → Int} {w : Int} {k n s : Nat} (hn : k ≤ n) (h : STG f w k n g) (hs : s < k) : g s = f s := by
  sorry
theorem k_78 {many x1 x2 x3 w : Int} {hts wts f o : Nat → Int} {K19 : Int → Int → (Nat → Int) → Option (Nat → Int)} {K35 : Int → Int → Int → (Nat → Int) → Option (Nat → Int)} (hw : 0 ≤ w ∧ w ≤ 30) (hf : zR f 0 1000000000) : ∀ (N k : Nat) (x5 : Int) (g : Nat → Int), x5 = (k : Int) - 1 → k ≤ 3601 → STG f w k 3601 g → f_Scales_weighAll_78 many hts wts K19 K35 N x1 x2 x3 w x5 g = some o → ∃ g', (∀ s, s < 3601 → g' s = WST w f s) ∧ K35 x1 x2 (x3 + 1) g' = some o := by
  sorry
theorem k_35 {many o1 : Int} {C : Nat} {hts wts F o : Nat → Int} {K19 : Int → Int → (Nat → Int) → Option (Nat → Int)} (hm : 0 ≤ many ∧ many ≤ 12) (hh : zR hts 0 10) (hw : zR wts 0 30) (hc : (C : Int) < many) (hF : zR F 0 1000000000) (he : o1 = 0) : ∀ (N i : Nat) (x1 : Int) (g : Nat → Int), (i : Int) ≤ hts C → (0 ≤ x1 ∧ x1 ≤ 3600) → (∀ s, s < 3601 → g s = DPC wts C F i s) → (∀ s : Nat, s < 3601 → x1 < (s : Int) → DPC wts C F i s = 0) → f_Scales_weighAll_35 many hts wts K19 N x1 (C : Int) (i : Int) g = some o → ∃ (g' : Nat → Int) (x1' : Int), (0 ≤ x1' ∧ x1' ≤ 3600) ∧ (∀ s, s < 3601 → g' s = DPC wts C F (hts C).toNat s) ∧ (∀ s : Nat, s < 3601 → x1' < (s : Int) → DPC wts C F (hts C).toNat s = 0) ∧ K19 x1' ((C : Int) + 1) g' = some o := by
  sorry
theorem k_19 {many : Int} {hts wts o : Nat → Int} (hm : 0 ≤ many ∧ many ≤ 12) (hh : zR hts 0 10) (hw : zR wts 0 30) : ∀ (N c : Nat) (x1 : Int) (g : Nat → Int), (c : Int) ≤ many → (0 ≤ x1 ∧ x1 ≤ 3600) → (∀ s, s < 3601 → g s = DPA hts wts c s) → (∀ s : Nat, s < 3601 → x1 < (s : Int) → DPA hts wts c s = 0) → f_Scales_weighAll_19 many hts wts N x1 (c : Int) g = some o → ∀ s, s < 3601 → o s = DPA hts wts many.toNat s := by
  sorry
theorem k_fill {o : Nat → Int} : ∀ (N k : Nat) (g : Nat → Int), k ≤ 3601 → (∀ s, s < k → g s = 0) → f_Arrays_fill_n3601_5 N 0 (k : Int) 3601 g = some o → ∀ s, s < 3601 → o s = 0 := by
  sorry
theorem k_weighAll {many : Int} {hts wts g o : Nat → Int} (hm : 0 ≤ many ∧ many ≤ 12) (hh : zR hts 0 10) (hw : zR wts 0 30) (h : f_Scales_weighAll many hts wts g = some o) : ∀ s, s < 3601 → o s = DPA hts wts many.toNat s := by
  sorry
theorem r_91 {X x2 x3 w : Int} {row f : Nat → Int} {o : Int × Int × (Nat → Int)} {K49 : Int → Int → Int → (Nat → Int) → Option (Int × Int × (Nat → Int))} {K59 : Int → Int → Int → Int → (Nat → Int) → Option (Int × Int × (Nat → Int))} (hX : 0 ≤ X ∧ X ≤ 3600) (hw : 0 ≤ w ∧ w ≤ 30) (hf : zR f 0 1000000000) : ∀ (N k : Nat) (x5 : Int) (g : Nat → Int), x5 = (k : Int) - 1 → (k : Int) ≤ X + 1 → STG f w k (X + 1).toNat g → f_HM_weighs_91 row K49 K59 N X x2 x3 w x5 0 g = some o → ∃ g', (∀ s, s < (X + 1).toNat → g' s = WST w f s) ∧ K59 X x2 (x3 + 1) 0 g' = some o := by
  sorry
theorem r_59 {X : Int} {C : Nat} {row F : Nat → Int} {o : Int × Int × (Nat → Int)} {K49 : Int → Int → Int → (Nat → Int) → Option (Int × Int × (Nat → Int))} (hX : 0 ≤ X ∧ X ≤ 3600) (hC : C < 12) (hR : RI row) (hF : zR F 0 1000000000) : ∀ (N i : Nat) (g : Nat → Int), (i : Int) ≤ row (9 + C) → (∀ s, s < (X + 1).toNat → g s = DPC (fun j => row (21 + j)) C F i s) → f_HM_weighs_59 row K49 N X (C : Int) (i : Int) 0 g = some o → ∃ g' : Nat → Int, (∀ s, s < (X + 1).toNat → g' s = DPC (fun j => row (21 + j)) C F (row (9 + C)).toNat s) ∧ K49 X ((C : Int) + 1) 0 g' = some o := by
  sorry
theorem r_49 {X : Int} {row : Nat → Int} {o : Int × Int × (Nat → Int)} (hX : 0 ≤ X ∧ X ≤ 3600) (hR : RI row) : ∀ (N c : Nat) (g : Nat → Int), (c : Int) ≤ row 0 → (∀ s, s < (X + 1).toNat → g s = DPA (fun c => row (9 + c)) (fun j => row (21 + j)) c s) → f_HM_weighs_49 row N X (c : Int) 0 g = some o → o.1 = DPA (fun c => row (9 + c)) (fun j => row (21 + j)) (row 0).toNat X.toNat := by
  sorry
theorem r_21 {X : Int} {row : Nat → Int} {o : Int × Int × (Nat → Int)} (hX : 0 ≤ X ∧ X ≤ 3600) (hR : RI row) : ∀ (N k : Nat) (g : Nat → Int), (k : Int) ≤ X + 1 → (∀ s, s < k → g s = if s = 0 then 1 else 0) → f_HM_weighs_21 row N X (k : Int) 0 g = some o → o.1 = DPA (fun c => row (9 + c)) (fun j => row (21 + j)) (row 0).toNat X.toNat := by
  sorry
/-- what the class has weighed: of the hill at these changes -/
def WOK (ver ch : Int) (many : Int) (hts wts sets : Nat → Int) : Prop := ver ≤ ch ∧ (ver = ch → ∀ s, s < 3601 → sets s = DPA hts wts many.toNat s)
theorem x_weighs {a many ch ver s4 N : Int} {hts wts sets row rs : Nat → Int} {v : Int × Int × (Nat → Int)} {w : Int × Int × (Nat → Int)} (b1 : -2147483648 ≤ a ∧ a ≤ 2147483647) (hm : 0 ≤ many ∧ many ≤ 12) (em : many = row 0) (hh : zR hts 0 10) (hw : zR wts 0 30) (hR : RI row) (hC : CREL many hts wts (fun c => row (9 + c)) (fun j => row (21 + j))) (hch : 0 ≤ ch ∧ ch ≤ 2147483647) (hv : -2147483648 ≤ ver) (hW : WOK ver ch many hts wts sets) (h : f_HS_weighs a ch many hts wts ver sets = some v) (g : f_HM_weighs a row s4 rs = some w) : v.1 = w.1 ∧ WOK v.2.1 ch many hts wts v.2.2 := by
  sorry
