def zbase : Nat → List Int
  | 0 => [0, 0, 0]
  | n + 1 => ((n : Int) + 1) :: zbase n
def zins (a : Int) : List Int → List (List Int)
  | [] => [[a]]
  | b :: l => (a :: b :: l) :: (zins a l).map (fun m => b :: m)
def zVL : Nat → List (List Int)
  | 0 => [[0, 0, 0]]
  | n + 1 => (zVL n).flatMap (zins ((n : Int) + 1))
theorem zins_mem (a : Int) (s t : List Int) : s ++ a :: t ∈ zins a (s ++ t) := by
  induction s with
  | nil =>
    match t with
    | [] => exact List.mem_singleton.mpr rfl
    | b :: l => exact List.mem_cons_self
  | cons c s ih =>
    show c :: (s ++ a :: t) ∈ (a :: c :: (s ++ t)) :: (zins a (s ++ t)).map (fun m => c :: m)
    exact List.mem_cons_of_mem _ (List.mem_map_of_mem ih)
theorem zVL_mem : ∀ (n : Nat) (l : List Int), l.Perm (zbase n) → l ∈ zVL n := by
  intro n
  induction n with
  | zero =>
    intro l h
    have : l = [0, 0, 0] := by
      have h2 : l.Perm (List.replicate 3 (0 : Int)) := h
      exact List.perm_replicate.mp h2
    rw [this]
    exact List.mem_singleton.mpr rfl
  | succ n ih =>
    intro l h
    have hm : ((n : Int) + 1) ∈ l := h.mem_iff.mpr List.mem_cons_self
    obtain ⟨s, t, e⟩ := List.append_of_mem hm
    rw [e] at h ⊢
    have h2 := (List.perm_middle.symm.trans h).cons_inv
    exact List.mem_flatMap.mpr ⟨_, ih _ h2, zins_mem _ s t⟩
theorem zVL_len : (zVL 5).length = 6720 := by decide +kernel
theorem zVL_len' (n : Nat) (h : n ≤ 5) : (zVL n).length ≤ 6720 := by
  have : n = 0 ∨ n = 1 ∨ n = 2 ∨ n = 3 ∨ n = 4 ∨ n = 5 := by omega
  rcases this with h | h | h | h | h | h <;> (subst h; decide +kernel)
theorem zpig {α : Type} (st : Nat → α) : ∀ (n : Nat) (m : List α), (∀ i, i < n → st i ∈ m) → (∀ i j, i < j → j < n → st i ≠ st j) → n ≤ m.length := by
  intro n
  induction n with
  | zero => intro m _ _; exact Nat.zero_le _
  | succ n ih =>
    intro m h1 h2
    obtain ⟨s, t, e⟩ := List.append_of_mem (h1 n (by omega))
    have h3 := ih (s ++ t) (fun i hi => by
      have k := h1 i (by omega)
      rw [e] at k
      rcases List.mem_append.mp k with k | k
      · exact List.mem_append.mpr (Or.inl k)
      · rcases List.mem_cons.mp k with k | k
        · exact absurd k (h2 i n hi (by omega))
        · exact List.mem_append.mpr (Or.inr k)) (fun i j hi hj => h2 i j hi (by omega))
    rw [e]
    simp only [List.length_append, List.length_cons] at h3 ⊢
    omega
def zcode (l : List Int) : Int := l.foldl (fun c d => 6 * c + d) 0
theorem zcode_snoc (l : List Int) (d : Int) : zcode (l ++ [d]) = 6 * zcode l + d := by
  unfold zcode
  rw [List.foldl_append]
  rfl
def zD (n : Nat) (l : List Int) : Prop := l.Perm (zbase n)
theorem zbase_len (n : Nat) : (zbase n).length = n + 3 := by
  induction n with
  | zero => rfl
  | succ n ih => show (zbase n).length + 1 = _; omega
theorem zbase_r (n : Nat) : ∀ d, d ∈ zbase n → 0 ≤ d ∧ d ≤ (n : Int) := by
  induction n with
  | zero => intro d h; have h2 : d ∈ List.replicate 3 (0 : Int) := h; rw [List.eq_of_mem_replicate h2]; decide
  | succ n ih =>
    intro d h
    rcases List.mem_cons.mp h with h | h
    · omega
    · have := ih d h; omega
theorem zbase_c (n : Nat) : (zbase n).count 0 = 3 := by
  induction n with
  | zero => decide
  | succ n ih =>
    show (((n : Int) + 1) :: zbase n).count 0 = 3
    rw [List.count_cons_of_ne (by omega)]
    exact ih
theorem zD_len {n : Nat} {l : List Int} (h : zD n l) : l.length = n + 3 := h.length_eq.trans (zbase_len n)
theorem zD_r {n : Nat} {l : List Int} (h : zD n l) : ∀ d, d ∈ l → 0 ≤ d ∧ d ≤ (n : Int) := fun d hd => zbase_r n d (h.mem_iff.mp hd)
theorem zD_c {n : Nat} {l : List Int} (h : zD n l) : l.count 0 = 3 := (h.count_eq 0).trans (zbase_c n)
theorem zcode_r : ∀ (k : Nat) (l : List Int), l.length = k → (∀ d, d ∈ l → 0 ≤ d ∧ d ≤ 5) → 0 ≤ zcode l ∧ zcode l + 1 ≤ (6 : Int) ^ k := by
  intro k
  induction k with
  | zero =>
    intro l h _
    have : l = [] := List.length_eq_zero_iff.mp h
    subst this
    decide
  | succ k ih =>
    intro l h hd
    rcases List.eq_nil_or_concat l with e | ⟨p, d, e⟩
    · subst e; exact absurd h (by simp)
    · have e2 : l = p ++ [d] := by rw [e]; simp
      subst e2
      rw [List.length_append, List.length_singleton] at h
      have h1 := ih p (by omega) (fun x hx => hd x (List.mem_append.mpr (Or.inl hx)))
      have h2 := hd d (List.mem_append.mpr (Or.inr (List.mem_singleton.mpr rfl)))
      rw [zcode_snoc, Int.pow_succ]
      omega
theorem zcode_b {n : Nat} {l : List Int} (hn : n ≤ 5) (h : zD n l) : 0 ≤ zcode l ∧ zcode l ≤ 1679615 := by
  have h1 := zcode_r (n + 3) l (zD_len h) (fun d hd => by have := zD_r h d hd; omega)
  have : n = 0 ∨ n = 1 ∨ n = 2 ∨ n = 3 ∨ n = 4 ∨ n = 5 := by omega
  rcases this with q | q | q | q | q | q <;> (subst q; have e : ∀ k : Int, k + 1 ≤ (6 : Int) ^ 8 → k ≤ 1679615 := (by intro k hk; have : (6 : Int) ^ 8 = 1679616 := (by decide); omega); skip)
  all_goals first | exact ⟨h1.1, e _ h1.2⟩ | (refine ⟨h1.1, e _ (Int.le_trans h1.2 (by decide))⟩)
def zcol (sm : Nat → Int) (c t : Nat) : List Int := (List.range t).map (fun i => sm (5 * c + i) + 1)
def zdig (sm ta : Nat → Int) : List Int := zcol sm 0 (ta 0).toNat ++ 0 :: (zcol sm 1 (ta 1).toNat ++ 0 :: (zcol sm 2 (ta 2).toNat ++ 0 :: zcol sm 3 (ta 3).toNat))
theorem zcol_s (sm : Nat → Int) (c t : Nat) : zcol sm c (t + 1) = zcol sm c t ++ [sm (5 * c + t) + 1] := by
  unfold zcol
  rw [List.range_succ, List.map_append]
  rfl
theorem zcol_len (sm : Nat → Int) (c t : Nat) : (zcol sm c t).length = t := by
  unfold zcol
  rw [List.length_map, List.length_range]
theorem zcol_ext {sm sm' : Nat → Int} {c t : Nat} (h : ∀ i, i < t → sm' (5 * c + i) = sm (5 * c + i)) : zcol sm' c t = zcol sm c t := by
  unfold zcol
  apply List.map_congr_left
  intro i hi
  rw [h i (List.mem_range.mp hi)]
theorem zcol_mem {sm : Nat → Int} {c t i : Nat} (h : i < t) : sm (5 * c + i) + 1 ∈ zcol sm c t := by
  unfold zcol
  exact List.mem_map.mpr ⟨i, List.mem_range.mpr h, rfl⟩

theorem zcode_p {l : List Int} (h : l.length ≤ 8) (hd : ∀ d, d ∈ l → 0 ≤ d ∧ d ≤ 5) : 0 ≤ zcode l ∧ zcode l ≤ 1679615 := by
  have h1 := zcode_r l.length l rfl hd
  generalize l.length = k at h h1
  have e : ∀ v : Int, v + 1 ≤ (6 : Int) ^ k → v ≤ 1679615 := by
    intro v hv
    have : (6 : Int) ^ k ≤ 1679616 := by
      have : k = 0 ∨ k = 1 ∨ k = 2 ∨ k = 3 ∨ k = 4 ∨ k = 5 ∨ k = 6 ∨ k = 7 ∨ k = 8 := by omega
      rcases this with q | q | q | q | q | q | q | q | q <;> (subst q; decide)
    omega
  exact ⟨h1.1, e _ h1.2⟩
def zSm (n : Nat) (sm ta : Nat → Int) : Prop := n ≤ 5 ∧ (0 ≤ ta 0 ∧ 0 ≤ ta 1 ∧ 0 ≤ ta 2 ∧ 0 ≤ ta 3) ∧ zD n (zdig sm ta)
theorem zdig_len (sm ta : Nat → Int) : (zdig sm ta).length = (ta 0).toNat + (ta 1).toNat + (ta 2).toNat + (ta 3).toNat + 3 := by
  unfold zdig
  simp only [List.length_append, List.length_cons, zcol_len]
  omega
theorem zSm_t {n : Nat} {sm ta : Nat → Int} (h : zSm n sm ta) : ta 0 + ta 1 + ta 2 + ta 3 = (n : Int) := by
  have h1 := zD_len h.2.2
  rw [zdig_len] at h1
  have := h.2.1
  omega
theorem zdig_in {sm ta : Nat → Int} {c i : Nat} (hc : c < 4) (hi : i < (ta c).toNat) : sm (5 * c + i) + 1 ∈ zdig sm ta := by
  have h := zcol_mem (sm := sm) (c := c) hi
  unfold zdig
  have : c = 0 ∨ c = 1 ∨ c = 2 ∨ c = 3 := by omega
  rcases this with q | q | q | q <;> subst q
  · exact List.mem_append.mpr (Or.inl h)
  · exact List.mem_append.mpr (Or.inr (List.mem_cons_of_mem _ (List.mem_append.mpr (Or.inl h))))
  · exact List.mem_append.mpr (Or.inr (List.mem_cons_of_mem _ (List.mem_append.mpr (Or.inr (List.mem_cons_of_mem _ (List.mem_append.mpr (Or.inl h)))))))
  · exact List.mem_append.mpr (Or.inr (List.mem_cons_of_mem _ (List.mem_append.mpr (Or.inr (List.mem_cons_of_mem _ (List.mem_append.mpr (Or.inr (List.mem_cons_of_mem _ h))))))))
def zpre (sm ta : Nat → Int) : Nat → List Int
  | 0 => []
  | c + 1 => zpre sm ta c ++ zcol sm c (ta c).toNat ++ (if c < 3 then [0] else [])
theorem zpre_4 (sm ta : Nat → Int) : zpre sm ta 4 = zdig sm ta := by
  unfold zdig
  show ((((([] ++ zcol sm 0 (ta 0).toNat) ++ [0]) ++ zcol sm 1 (ta 1).toNat) ++ [0] ++ zcol sm 2 (ta 2).toNat) ++ [0] ++ zcol sm 3 (ta 3).toNat) ++ [] = _
  simp only [List.nil_append, List.append_nil, List.append_assoc, List.cons_append]
theorem zcol_r {n : Nat} {sm ta : Nat → Int} (h : zSm n sm ta) {c i : Nat} (hc : c < 4) (hi : i ≤ (ta c).toNat) : ∀ d, d ∈ zcol sm c i → 0 ≤ d ∧ d ≤ 5 := by
  intro d hd
  unfold zcol at hd
  obtain ⟨k, hk, e⟩ := List.mem_map.mp hd
  have hk2 := List.mem_range.mp hk
  have h1 := zD_r h.2.2 _ (zdig_in (sm := sm) (ta := ta) hc (Nat.lt_of_lt_of_le hk2 hi))
  have := h.1
  try dsimp only at e
  omega
theorem zpre_r {n : Nat} {sm ta : Nat → Int} (h : zSm n sm ta) : ∀ c, c ≤ 4 → ∀ d, d ∈ zpre sm ta c → 0 ≤ d ∧ d ≤ 5 := by
  intro c
  induction c with
  | zero => intro _ d hd; exact absurd hd List.not_mem_nil
  | succ c ih =>
    intro hc d hd
    rcases List.mem_append.mp hd with hd | hd
    · rcases List.mem_append.mp hd with hd | hd
      · exact ih (by omega) d hd
      · exact zcol_r h (by omega) (Nat.le_refl _) d hd
    · by_cases q : c < 3
      · rw [if_pos q] at hd
        rw [List.mem_singleton.mp hd]
        decide
      · rw [if_neg q] at hd
        exact absurd hd List.not_mem_nil
theorem zpre_l {n : Nat} {sm ta : Nat → Int} (h : zSm n sm ta) : ∀ c, c < 4 → (zpre sm ta c).length + (ta c).toNat ≤ 8 := by
  intro c hc
  have h1 := zSm_t h
  have h2 := h.2.1
  have h3 := h.1
  have : c = 0 ∨ c = 1 ∨ c = 2 ∨ c = 3 := by omega
  rcases this with q | q | q | q <;> subst q
  · show 0 + _ ≤ 8
    omega
  · show (([] ++ zcol sm 0 (ta 0).toNat) ++ [0]).length + _ ≤ 8
    simp only [List.length_append, List.length_cons, List.length_nil, zcol_len]
    omega
  · show ((([] ++ zcol sm 0 (ta 0).toNat) ++ [0]) ++ zcol sm 1 (ta 1).toNat ++ [0]).length + _ ≤ 8
    simp only [List.length_append, List.length_cons, List.length_nil, zcol_len]
    omega
  · show ((((([] ++ zcol sm 0 (ta 0).toNat) ++ [0]) ++ zcol sm 1 (ta 1).toNat) ++ [0] ++ zcol sm 2 (ta 2).toNat) ++ [0]).length + _ ≤ 8
    simp only [List.length_append, List.length_cons, List.length_nil, zcol_len]
    omega
theorem zpre_b {n : Nat} {sm ta : Nat → Int} (h : zSm n sm ta) {c i : Nat} (hc : c < 4) (hi : i ≤ (ta c).toNat) : 0 ≤ zcode (zpre sm ta c ++ zcol sm c i) ∧ zcode (zpre sm ta c ++ zcol sm c i) ≤ 1679615 := by
  apply zcode_p
  · have := zpre_l h c hc
    rw [List.length_append, zcol_len]
    omega
  · intro d hd
    rcases List.mem_append.mp hd with hd | hd
    · exact zpre_r h c (by omega) d hd
    · exact zcol_r h hc hi d hd
theorem zSm_i {n : Nat} {sm ta : Nat → Int} (h : zSm n sm ta) {c i : Nat} (hc : c < 4) (hi : (i : Int) < ta c) : 0 ≤ sm (5 * c + i) + 1 ∧ sm (5 * c + i) + 1 ≤ 5 := by
  have h1 := zD_r h.2.2 _ (zdig_in (sm := sm) (ta := ta) (i := i) hc (by omega))
  have := h.1
  omega
theorem zSm_c {n : Nat} {sm ta : Nat → Int} (h : zSm n sm ta) {c : Nat} (hc : c < 4) : 0 ≤ ta c ∧ ta c ≤ 5 := by
  have h1 := zSm_t h
  have h2 := h.2.1
  have h3 := h.1
  have : c = 0 ∨ c = 1 ∨ c = 2 ∨ c = 3 := by omega
  rcases this with q | q | q | q <;> subst q <;> omega
theorem z_cs11 (n : Nat) (sm ta : Nat → Int) (h : zSm n sm ta) (k4 : Int → Int → Option Int) (P : Int → Prop) (c : Nat) (hc : c < 4) (hk : ∀ v : Int, v = zcode (zpre sm ta (c + 1)) → zok (k4 v ((c : Int) + 1)) P) : ∀ (m i : Nat) (x1 x2 x3 : Int), x2 = (c : Int) → x3 = (i : Int) → (i : Int) ≤ ta c → x1 = zcode (zpre sm ta c ++ zcol sm c i) → ta c - (i : Int) + 1 ≤ (m : Int) → zok (f_HM_codeOfSmall_11 sm ta k4 m x1 x2 x3) P := by
  intro m
  induction m with
  | zero => intro i x1 x2 x3 e2 e3 hi e1 hm; exact absurd hm (by omega)
  | succ m ih =>
    intro i x1 x2 x3 e2 e3 hi e1 hm
    have ht := zSm_c h hc
    have hb := zpre_b h (c := c) (i := i) hc (by omega)
    show zok (f_HM_codeOfSmall_11_b sm ta k4 (f_HM_codeOfSmall_11 sm ta k4 m) x1 x2 x3) P
    unfold f_HM_codeOfSmall_11_b
    refine zk_gl c (by omega) (by omega) (by decide) (fun v1 h1 => ?_)
    refine zk_ifc (zci_le (by omega) (by omega)) (fun hc1 => ?_) (fun hc1 => ?_)
    · have ei : i = (ta c).toNat := by omega
      refine zk_ifc (zci_le (by omega) (by omega)) (fun hc2 => ?_) (fun hc2 => ?_)
      · unfold f_HM_codeOfSmall_58
        refine zk_nE (fun w hw => ?_)
        rw [hw, e2]
        refine hk x1 ?_
        show _ = zcode (zpre sm ta c ++ zcol sm c (ta c).toNat ++ (if c < 3 then [0] else []))
        rw [if_neg (by omega), List.append_nil, e1, ei]
      · refine zk_nE (fun v2 h2 => ?_)
        unfold f_HM_codeOfSmall_58
        refine zk_nE (fun w hw => ?_)
        rw [hw, e2]
        refine hk v2 ?_
        show _ = zcode (zpre sm ta c ++ zcol sm c (ta c).toNat ++ (if c < 3 then [0] else []))
        rw [if_pos (by omega), zcode_snoc, h2, e1, ei]
        omega
    · refine zk_nE (fun v3 h3 => ?_)
      refine zk_nE (fun v4 h4 => ?_)
      refine zk_nE (fun v5 h5 => ?_)
      refine zk_gl (5 * c + i) (by omega) (by omega) (by decide) (fun v6 h6 => ?_)
      refine zk_nE (fun v7 h7 => ?_)
      refine zk_nE (fun v8 h8 => ?_)
      refine zk_nE (fun v9 h9 => ?_)
      refine ih (i + 1) v8 x2 v9 e2 (by omega) (by omega) ?_ (by omega)
      rw [zcol_s, ← List.append_assoc, zcode_snoc, ← e1]
      omega
theorem z_cs4 (n : Nat) (sm ta : Nat → Int) (h : zSm n sm ta) : ∀ (m c : Nat) (x1 x2 : Int), x2 = (c : Int) → c ≤ 4 → x1 = zcode (zpre sm ta c) → 5 - c ≤ m → zok (f_HM_codeOfSmall_4 sm ta m x1 x2) (fun o => o = zcode (zdig sm ta)) := by
  intro m
  induction m with
  | zero => intro c x1 x2 e2 hc e1 hm; exact absurd hm (by omega)
  | succ m ih =>
    intro c x1 x2 e2 hc e1 hm
    show zok (f_HM_codeOfSmall_4_b sm ta (f_HM_codeOfSmall_4 sm ta m) x1 x2) _
    unfold f_HM_codeOfSmall_4_b
    refine zk_ifc (zci_le (by omega) (by omega)) (fun hc1 => ?_) (fun hc1 => ?_)
    · have : c = 4 := by omega
      subst this
      refine zk_ret ?_
      rw [e1, zpre_4]
    · have hc2 : c < 4 := by omega
      have ht := zSm_c h hc2
      refine z_cs11 n sm ta h _ _ c hc2 (fun v hv => ih (c + 1) v _ (by omega) (by omega) hv (by omega)) zfu 0 x1 x2 0 e2 rfl (by omega) ?_ (by unfold zfu; omega)
      rw [e1]
      show zcode _ = zcode (zpre sm ta c ++ [])
      rw [List.append_nil]
theorem z_codeOfSmall {n : Nat} {sm ta : Nat → Int} (h : zSm n sm ta) : zok (f_HM_codeOfSmall sm ta) (fun o => o = zcode (zdig sm ta)) := by
  unfold f_HM_codeOfSmall
  exact z_cs4 n sm ta h zfu 0 0 0 rfl (by decide) rfl (by unfold zfu; omega)

def zrv (sm ta : Nat → Int) : Nat → List Int
  | 0 => []
  | z + 1 => zrv sm ta z ++ zcol sm (3 - z) (ta (3 - z)).toNat ++ [0]
theorem zcol_get (sm : Nat → Int) (c t i : Nat) (h : i < (zcol sm c t).length) : (zcol sm c t)[i] = sm (5 * c + i) + 1 := by
  simp [zcol]
theorem zcol_rev {sm s0 : Nat → Int} {c t : Nat} (h : ∀ j, j < t → sm (5 * c + j) = s0 (5 * c + (t - 1 - j))) : zcol sm c t = (zcol s0 c t).reverse := by
  apply List.ext_getElem
  · rw [List.length_reverse, zcol_len, zcol_len]
  · intro i h1 h2
    have h3 := h1
    rw [zcol_len] at h3
    rw [List.getElem_reverse, zcol_get, zcol_get, zcol_len, h i h3]
theorem zrv_dig {sm s0 ta : Nat → Int} (h : ∀ c, c < 4 → ∀ j : Nat, (j : Int) < ta c → sm (5 * c + j) = s0 (5 * c + ((ta c).toNat - 1 - j))) : zdig sm ta = (zrv s0 ta 3 ++ zcol s0 0 (ta 0).toNat).reverse := by
  have r : ∀ c, c < 4 → zcol sm c (ta c).toNat = (zcol s0 c (ta c).toNat).reverse := fun c hc => zcol_rev (fun j hj => h c hc j (by omega))
  unfold zdig
  rw [r 0 (by decide), r 1 (by decide), r 2 (by decide), r 3 (by decide)]
  show _ = (((((([] ++ zcol s0 3 (ta 3).toNat) ++ [0]) ++ zcol s0 2 (ta 2).toNat) ++ [0]) ++ zcol s0 1 (ta 1).toNat) ++ [0] ++ zcol s0 0 (ta 0).toNat).reverse
  simp only [List.reverse_append, List.nil_append, List.append_nil, List.append_assoc, List.cons_append, List.reverse_cons, List.reverse_nil, List.singleton_append]
theorem zrv_ext {sm sm' ta ta' : Nat → Int} : ∀ z, z ≤ 3 → (∀ c, 3 - z < c → c ≤ 3 → ta' c = ta c ∧ ∀ i, i < (ta c).toNat → sm' (5 * c + i) = sm (5 * c + i)) → zrv sm' ta' z = zrv sm ta z := by
  intro z
  induction z with
  | zero => intro _ _; rfl
  | succ z ih =>
    intro hz h
    have h1 := h (3 - z) (by omega) (by omega)
    show zrv sm' ta' z ++ zcol sm' (3 - z) (ta' (3 - z)).toNat ++ [0] = zrv sm ta z ++ zcol sm (3 - z) (ta (3 - z)).toNat ++ [0]
    rw [ih (by omega) (fun c h2 h3 => h c (by omega) h3), h1.1, zcol_ext h1.2]
theorem zrv_len (sm ta : Nat → Int) (z : Nat) : z ≤ (zrv sm ta z).length := by
  induction z with
  | zero => exact Nat.zero_le _
  | succ z ih =>
    show z + 1 ≤ (zrv sm ta z ++ zcol sm (3 - z) (ta (3 - z)).toNat ++ [0]).length
    simp only [List.length_append, List.length_cons, List.length_nil]
    omega
theorem z_os111 (k102 : Int → (Nat → Int) → (Nat → Int) → Option ((Nat → Int) × (Nat → Int))) (P : (Nat → Int) × (Nat → Int) → Prop) (s0 ta : Nat → Int) (c : Nat) (hc : c < 4) (ht : 0 ≤ ta c ∧ ta c ≤ 5) (hk : ∀ sm : Nat → Int, (∀ j : Nat, (j : Int) < ta c → sm (5 * c + j) = s0 (5 * c + ((ta c).toNat - 1 - j))) → (∀ i, (i < 5 * c ∨ 5 * c + 5 ≤ i) → sm i = s0 i) → zok (k102 ((c : Int) + 1) sm ta) P) : ∀ (m a : Nat) (x5 x6 : Int) (sm : Nat → Int), x5 = (c : Int) → x6 = (a : Int) → 2 * (a : Int) ≤ ta c → (∀ j, j < (ta c).toNat → (j < a ∨ (ta c).toNat ≤ j + a) → sm (5 * c + j) = s0 (5 * c + ((ta c).toNat - 1 - j))) → (∀ j, j < (ta c).toNat → a ≤ j → j + a < (ta c).toNat → sm (5 * c + j) = s0 (5 * c + j)) → (∀ i, (i < 5 * c ∨ 5 * c + 5 ≤ i) → sm i = s0 i) → 4 - (a : Int) ≤ (m : Int) → zok (f_HM_openSmall_111 k102 m x5 x6 sm ta) P := by
  intro m
  induction m with
  | zero => intro a x5 x6 sm e5 e6 ha h1 h2 h3 hm; exact absurd hm (by omega)
  | succ m ih =>
    intro a x5 x6 sm e5 e6 ha h1 h2 h3 hm
    show zok (f_HM_openSmall_111_b k102 (f_HM_openSmall_111 k102 m) x5 x6 sm ta) P
    unfold f_HM_openSmall_111_b
    refine zk_gl c (by omega) (by omega) (by decide) (fun v1 e1 => ?_)
    refine zk_g0zi_w (by omega) ?_
    refine zk_nE (fun v2 e2 => ?_)
    rw [zi_div_n (by omega) (by omega)] at e2
    refine zk_ifc (zci_le (by omega) (by omega)) (fun hc1 => ?_) (fun hc1 => ?_)
    · refine zk_nE (fun v3 e3 => ?_)
      rw [e3, e5]
      refine hk sm (fun j hj => ?_) h3
      by_cases q : j < a ∨ (ta c).toNat ≤ j + a
      · exact h1 j (by omega) q
      · have := h2 j (by omega) (by omega) (by omega)
        rw [this]
        have e : (ta c).toNat - 1 - j = j := by omega
        rw [e]
    · refine zk_gl c (by omega) (by omega) (by decide) (fun v4 e4 => ?_)
      refine zk_nE (fun v5 e5' => ?_)
      refine zk_nE (fun v6 e6' => ?_)
      refine zk_nE (fun v7 e7 => ?_)
      refine zk_nE (fun v8 e8 => ?_)
      refine zk_gl (5 * c + a) (by omega) (by omega) (by decide) (fun v9 e9 => ?_)
      refine zk_nE (fun v10 e10 => ?_)
      refine zk_nE (fun v11 e11 => ?_)
      refine zk_nE (fun v12 e12 => ?_)
      refine zk_nE (fun v13 e13 => ?_)
      refine zk_gl (5 * c + ((ta c).toNat - 1 - a)) (by omega) (by omega) (by decide) (fun v14 e14 => ?_)
      refine zk_sl (5 * c + a) (by omega) (by omega) (by decide) (fun a15 e15 => ?_)
      refine zk_nE (fun v16 e16 => ?_)
      refine zk_nE (fun v17 e17 => ?_)
      refine zk_sl (5 * c + ((ta c).toNat - 1 - a)) (by omega) (by omega) (by decide) (fun a18 e18 => ?_)
      refine zk_nE (fun v19 e19 => ?_)
      have o9 := h2 a (by omega) (by omega) (by omega)
      have o14 := h2 ((ta c).toNat - 1 - a) (by omega) (by omega) (by omega)
      refine ih (a + 1) x5 v19 a18 e5 (by omega) (by omega) ?_ ?_ ?_ (by omega)
      · intro j hj hq
        have r1 := zu_rd e18 (5 * c + j)
        have r2 := zu_rd e15 (5 * c + j)
        by_cases q1 : j = a
        · have r3 : a18 (5 * c + j) = v14 := by omega
          rw [r3, e14, o14, q1]
        · by_cases q2 : j = (ta c).toNat - 1 - a
          · have r3 : a18 (5 * c + j) = v9 := by omega
            rw [r3, e9, o9, q2]
            have e : (ta c).toNat - 1 - ((ta c).toNat - 1 - a) = a := by omega
            rw [e]
          · have r3 : a18 (5 * c + j) = sm (5 * c + j) := by omega
            rw [r3]
            exact h1 j hj (by omega)
      · intro j hj hq1 hq2
        have r1 := zu_rd e18 (5 * c + j)
        have r2 := zu_rd e15 (5 * c + j)
        have r3 : a18 (5 * c + j) = sm (5 * c + j) := by omega
        rw [r3]
        exact h2 j hj (by omega) (by omega)
      · intro i hi
        have r1 := zu_rd e18 i
        have r2 := zu_rd e15 i
        have r3 : a18 i = sm i := by omega
        rw [r3]
        exact h3 i hi
theorem z_os102 (s0 ta : Nat → Int) (ht : ∀ c, c < 4 → 0 ≤ ta c ∧ ta c ≤ 5) : ∀ (m c : Nat) (x5 : Int) (sm : Nat → Int), x5 = (c : Int) → c ≤ 4 → (∀ c', c' < c → ∀ j : Nat, (j : Int) < ta c' → sm (5 * c' + j) = s0 (5 * c' + ((ta c').toNat - 1 - j))) → (∀ i, 5 * c ≤ i → sm i = s0 i) → 5 - c ≤ m → zok (f_HM_openSmall_102 m x5 sm ta) (fun o => zdig o.1 o.2 = (zrv s0 ta 3 ++ zcol s0 0 (ta 0).toNat).reverse ∧ o.2 = ta) := by
  intro m
  induction m with
  | zero => intro c x5 sm e5 hc h1 h2 hm; exact absurd hm (by omega)
  | succ m ih =>
    intro c x5 sm e5 hc h1 h2 hm
    show zok (f_HM_openSmall_102_b (f_HM_openSmall_102 m) x5 sm ta) _
    unfold f_HM_openSmall_102_b
    refine zk_ifc (zci_le (by omega) (by omega)) (fun hc1 => ?_) (fun hc1 => ?_)
    · refine zk_ret ⟨zrv_dig (fun c' hc' j hj => h1 c' (by omega) j hj), rfl⟩
    · have hc2 : c < 4 := by omega
      refine z_os111 _ _ sm ta c hc2 (ht c hc2) (fun sm' g1 g2 => ?_) zfu 0 x5 0 sm e5 rfl (by have := ht c hc2; omega) (fun j hj hq => absurd hq (by omega)) (fun j _ _ _ => rfl) (fun i _ => rfl) (by unfold zfu; omega)
      refine ih (c + 1) _ sm' (by omega) (by omega) (fun c' hc' j hj => ?_) (fun i hi => ?_) (by omega)
      · by_cases q : c' = c
        · subst q
          have tt := ht c' hc2
          rw [g1 j hj, h2 _ (by omega)]
        · have tt := ht c' (by omega)
          rw [g2 _ (by omega)]
          exact h1 c' (by omega) j hj
      · rw [g2 i (by omega)]
        exact h2 i (by omega)

