def zbase : Nat → List Int
  | 0 => [0, 0, 0]
  | n + 1 => ((n : Int) + 1) :: zbase n
def zins (a : Int) : List Int → List (List Int)
  | [] => [[a]]
  | b :: l => (a :: b :: l) :: (zins a l).map (fun m => b :: m)
def zVL : Nat → List (List Int)
  | 0 => [[0, 0, 0]]
  | n + 1 => (zVL n).flatMap (zins ((n : Int) + 1))
theorem zins_mem (a : Int) (s t : List Int) : s ++ a :: t ∈ zins a (s ++ t) := by
  sorry
theorem zVL_mem : ∀ (n : Nat) (l : List Int), l.Perm (zbase n) → l ∈ zVL n := by
  sorry
theorem zVL_len : (zVL 5).length = 6720 := by decide +kernel
theorem zVL_len' (n : Nat) (h : n ≤ 5) : (zVL n).length ≤ 6720 := by
  sorry
theorem zpig {α : Type} (st : Nat → α) : ∀ (n : Nat) (m : List α), (∀ i, i < n → st i ∈ m) → (∀ i j, i < j → j < n → st i ≠ st j) → n ≤ m.length := by
  sorry
def zcode (l : List Int) : Int := l.foldl (fun c d => 6 * c + d) 0
theorem zcode_snoc (l : List Int) (d : Int) : zcode (l ++ [d]) = 6 * zcode l + d := by
  sorry
def zD (n : Nat) (l : List Int) : Prop := l.Perm (zbase n)
theorem zbase_len (n : Nat) : (zbase n).length = n + 3 := by
  sorry
theorem zbase_r (n : Nat) : ∀ d, d ∈ zbase n → 0 ≤ d ∧ d ≤ (n : Int) := by
  sorry
theorem zbase_c (n : Nat) : (zbase n).count 0 = 3 := by
  sorry
theorem zD_len {n : Nat} {l : List Int} (h : zD n l) : l.length = n + 3 := h.length_eq.trans (zbase_len n)
theorem zD_r {n : Nat} {l : List Int} (h : zD n l) : ∀ d, d ∈ l → 0 ≤ d ∧ d ≤ (n : Int) := fun d hd => zbase_r n d (h.mem_iff.mp hd)
theorem zD_c {n : Nat} {l : List Int} (h : zD n l) : l.count 0 = 3 := (h.count_eq 0).trans (zbase_c n)
theorem zcode_r : ∀ (k : Nat) (l : List Int), l.length = k → (∀ d, d ∈ l → 0 ≤ d ∧ d ≤ 5) → 0 ≤ zcode l ∧ zcode l + 1 ≤ (6 : Int) ^ k := by
  sorry
theorem zcode_b {n : Nat} {l : List Int} (hn : n ≤ 5) (h : zD n l) : 0 ≤ zcode l ∧ zcode l ≤ 1679615 := by
  sorry
def zcol (sm : Nat → Int) (c t : Nat) : List Int := (List.range t).map (fun i => sm (5 * c + i) + 1)
def zdig (sm ta : Nat → Int) : List Int := zcol sm 0 (ta 0).toNat ++ 0 :: (zcol sm 1 (ta 1).toNat ++ 0 :: (zcol sm 2 (ta 2).toNat ++ 0 :: zcol sm 3 (ta 3).toNat))
theorem zcol_s (sm : Nat → Int) (c t : Nat) : zcol sm c (t + 1) = zcol sm c t ++ [sm (5 * c + t) + 1] := by
  sorry
theorem zcol_len (sm : Nat → Int) (c t : Nat) : (zcol sm c t).length = t := by
  sorry
theorem zcol_ext {sm sm' : Nat → Int} {c t : Nat} (h : ∀ i, i < t → sm' (5 * c + i) = sm (5 * c + i)) : zcol sm' c t = zcol sm c t := by
  sorry
theorem zcol_mem {sm : Nat → Int} {c t i : Nat} (h : i < t) : sm (5 * c + i) + 1 ∈ zcol sm c t := by
  sorry
theorem zcode_p {l : List Int} (h : l.length ≤ 8) (hd : ∀ d, d ∈ l → 0 ≤ d ∧ d ≤ 5) : 0 ≤ zcode l ∧ zcode l ≤ 1679615 := by
  sorry
def zSm (n : Nat) (sm ta : Nat → Int) : Prop := n ≤ 5 ∧ (0 ≤ ta 0 ∧ 0 ≤ ta 1 ∧ 0 ≤ ta 2 ∧ 0 ≤ ta 3) ∧ zD n (zdig sm ta)
theorem zdig_len (sm ta : Nat → Int) : (zdig sm ta).length = (ta 0).toNat + (ta 1).toNat + (ta 2).toNat + (ta 3).toNat + 3 := by
  sorry
theorem zSm_t {n : Nat} {sm ta : Nat → Int} (h : zSm n sm ta) : ta 0 + ta 1 + ta 2 + ta 3 = (n : Int) := by
  sorry
theorem zdig_in {sm ta : Nat → Int} {c i : Nat} (hc : c < 4) (hi : i < (ta c).toNat) : sm (5 * c + i) + 1 ∈ zdig sm ta := by
  sorry
def zpre (sm ta : Nat → Int) : Nat → List Int
  | 0 => []
  | c + 1 => zpre sm ta c ++ zcol sm c (ta c).toNat ++ (if c < 3 then [0] else [])
theorem zpre_4 (sm ta : Nat → Int) : zpre sm ta 4 = zdig sm ta := by
  sorry
theorem zcol_r {n : Nat} {sm ta : Nat → Int} (h : zSm n sm ta) {c i : Nat} (hc : c < 4) (hi : i ≤ (ta c).toNat) : ∀ d, d ∈ zcol sm c i → 0 ≤ d ∧ d ≤ 5 := by
  sorry
theorem zpre_r {n : Nat} {sm ta : Nat → Int} (h : zSm n sm ta) : ∀ c, c ≤ 4 → ∀ d, d ∈ zpre sm ta c → 0 ≤ d ∧ d ≤ 5 := by
  sorry
theorem zpre_l {n : Nat} {sm ta : Nat → Int} (h : zSm n sm ta) : ∀ c, c < 4 → (zpre sm ta c).length + (ta c).toNat ≤ 8 := by
  sorry
theorem zpre_b {n : Nat} {sm ta : Nat → Int} (h : zSm n sm ta) {c i : Nat} (hc : c < 4) (hi : i ≤ (ta c).toNat) : 0 ≤ zcode (zpre sm ta c ++ zcol sm c i) ∧ zcode (zpre sm ta c ++ zcol sm c i) ≤ 1679615 := by
  sorry
theorem zSm_i {n : Nat} {sm ta : Nat → Int} (h : zSm n sm ta) {c i : Nat} (hc : c < 4) (hi : (i : Int) < ta c) : 0 ≤ sm (5 * c + i) + 1 ∧ sm (5 * c + i) + 1 ≤ 5 := by
  sorry
theorem zSm_c {n : Nat} {sm ta : Nat → Int} (h : zSm n sm ta) {c : Nat} (hc : c < 4) : 0 ≤ ta c ∧ ta c ≤ 5 := by
  sorry
theorem z_cs11 (n : Nat) (sm ta : Nat → Int) (h : zSm n sm ta) (k4 : Int → Int → Option Int) (P : Int → Prop) (c : Nat) (hc : c < 4) (hk : ∀ v : Int, v = zcode (zpre sm ta (c + 1)) → zok (k4 v ((c : Int) + 1)) P) : ∀ (m i : Nat) (x1 x2 x3 : Int), x2 = (c : Int) → x3 = (i : Int) → (i : Int) ≤ ta c → x1 = zcode (zpre sm ta c ++ zcol sm c i) → ta c - (i : Int) + 1 ≤ (m : Int) → zok (f_HM_codeOfSmall_11 sm ta k4 m x1 x2 x3) P := by
  sorry
theorem z_cs4 (n : Nat) (sm ta : Nat → Int) (h : zSm n sm ta) : ∀ (m c : Nat) (x1 x2 : Int), x2 = (c : Int) → c ≤ 4 → x1 = zcode (zpre sm ta c) → 5 - c ≤ m → zok (f_HM_codeOfSmall_4 sm ta m x1 x2) (fun o => o = zcode (zdig sm ta)) := by
  sorry
theorem z_codeOfSmall {n : Nat} {sm ta : Nat → Int} (h : zSm n sm ta) : zok (f_HM_codeOfSmall sm ta) (fun o => o = zcode (zdig sm ta)) := by
  sorry
def zrv (sm ta : Nat → Int) : Nat → List Int
  | 0 => []
  | z + 1 => zrv sm ta z ++ zcol sm (3 - z) (ta (3 - z)).toNat ++ [0]
theorem zcol_get (sm : Nat → Int) (c t i : Nat) (h : i < (zcol sm c t).length) : (zcol sm c t)[i] = sm (5 * c + i) + 1 := by
  sorry
theorem zcol_rev {sm s0 : Nat → Int} {c t : Nat} (h : ∀ j, j < t → sm (5 * c + j) = s0 (5 * c + (t - 1 - j))) : zcol sm c t = (zcol s0 c t).reverse := by
  sorry
theorem zrv_dig {sm s0 ta : Nat → Int} (h : ∀ c, c < 4 → ∀ j : Nat, (j : Int) < ta c → sm (5 * c + j) = s0 (5 * c + ((ta c).toNat - 1 - j))) : zdig sm ta = (zrv s0 ta 3 ++ zcol s0 0 (ta 0).toNat).reverse := by
  sorry
theorem zrv_ext {sm sm' ta ta' : Nat → Int} : ∀ z, z ≤ 3 → (∀ c, 3 - z < c → c ≤ 3 → ta' c = ta c ∧ ∀ i, i < (ta c).toNat → sm' (5 * c + i) = sm (5 * c + i)) → zrv sm' ta' z = zrv sm ta z := by
  sorry
theorem zrv_len (sm ta : Nat → Int) (z : Nat) : z ≤ (zrv sm ta z).length := by
  sorry
theorem z_os111 (k102 : Int → (Nat → Int) → (Nat → Int) → Option ((Nat → Int) × (Nat → Int))) (P : (Nat → Int) × (Nat → Int) → Prop) (s0 ta : Nat → Int) (c : Nat) (hc : c < 4) (ht : 0 ≤ ta c ∧ ta c ≤ 5) (hk : ∀ sm : Nat → Int, (∀ j : Nat, (j : Int) < ta c → sm (5 * c + j) = s0 (5 * c + ((ta c).toNat - 1 - j))) → (∀ i, (i < 5 * c ∨ 5 * c + 5 ≤ i) → sm i = s0 i) → zok (k102 ((c : Int) + 1) sm ta) P) : ∀ (m a : Nat) (x5 x6 : Int) (sm : Nat → Int), x5 = (c : Int) → x6 = (a : Int) → 2 * (a : Int) ≤ ta c → (∀ j, j < (ta c).toNat → (j < a ∨ (ta c).toNat ≤ j + a) → sm (5 * c + j) = s0 (5 * c + ((ta c).toNat - 1 - j))) → (∀ j, j < (ta c).toNat → a ≤ j → j + a < (ta c).toNat → sm (5 * c + j) = s0 (5 * c + j)) → (∀ i, (i < 5 * c ∨ 5 * c + 5 ≤ i) → sm i = s0 i) → 4 - (a : Int) ≤ (m : Int) → zok (f_HM_openSmall_111 k102 m x5 x6 sm ta) P := by
  sorry
theorem z_os102 (s0 ta : Nat → Int) (ht : ∀ c, c < 4 → 0 ≤ ta c ∧ ta c ≤ 5) : ∀ (m c : Nat) (x5 : Int) (sm : Nat → Int), x5 = (c : Int) → c ≤ 4 → (∀ c', c' < c → ∀ j : Nat, (j : Int) < ta c' → sm (5 * c' + j) = s0 (5 * c' + ((ta c').toNat - 1 - j))) → (∀ i, 5 * c ≤ i → sm i = s0 i) → 5 - c ≤ m → zok (f_HM_openSmall_102 m x5 sm ta) (fun o => zdig o.1 o.2 = (zrv s0 ta 3 ++ zcol s0 0 (ta 0).toNat).reverse ∧ o.2 = ta) := by
  sorry
