/-! NUMBERS OF AN ORDER -/
theorem zi_nat {x : Int} (h : 0 ≤ x ∧ x ≤ 2147483647) : (Int32.ofInt x).toBitVec.toNat = x.toNat := by
  have hlt := (Int32.ofInt x).toBitVec.isLt
  have e1 : (Int32.ofInt x).toBitVec.toInt = x := zwi (x := x) (by omega)
  rw [BitVec.toInt_eq_toNat_cond] at e1
  split at e1 <;> omega
theorem zi_shl4 {v : Int} (hv : 0 ≤ v ∧ v ≤ 5000) : zi_shl v 4 = 16 * v := by
  have e : zi_shl v 4 = ((Int32.ofInt v).toBitVec <<< ((Int32.ofInt 4 &&& 31).toBitVec.smod 32)).toInt := rfl
  have k1 : ((Int32.ofInt 4 &&& 31).toBitVec.smod 32).toNat = 4 := by decide +kernel
  have n1 := zi_nat (x := v) (by omega)
  have n2 : ((Int32.ofInt v).toBitVec <<< ((Int32.ofInt 4 &&& 31).toBitVec.smod 32)).toNat = 16 * v.toNat := by
    rw [BitVec.shiftLeft_eq', BitVec.toNat_shiftLeft, k1, n1, Nat.shiftLeft_eq]
    omega
  rw [e, BitVec.toInt_eq_toNat_cond, n2]
  split <;> omega
theorem zor16 {v k : Int} (hv : 0 ≤ v ∧ v ≤ 5000) (hk : 0 ≤ k ∧ k < 16) : zi_or (zi_shl v 4) k = 16 * v + k := by
  rw [zi_shl4 hv]
  have e : zi_or (16 * v) k = ((Int32.ofInt (16 * v)).toBitVec ||| (Int32.ofInt k).toBitVec).toInt := rfl
  have n2 : ((Int32.ofInt (16 * v)).toBitVec ||| (Int32.ofInt k).toBitVec).toNat = 16 * v.toNat + k.toNat := by
    rw [BitVec.toNat_or, zi_nat (x := 16 * v) (by omega), zi_nat (x := k) (by omega)]
    have h := Nat.shiftLeft_add_eq_or_of_lt (b := k.toNat) (i := 4) (by omega) v.toNat
    rw [Nat.shiftLeft_eq] at h
    rw [show (16 * v).toNat = v.toNat * 2 ^ 4 from by omega, ← h]
    omega
  rw [e, BitVec.toInt_eq_toNat_cond, n2]
  split <;> omega
/-! THE TOKENS OF BOTH -/
def LEX (T : Nat → Int) (n m : Nat) (qs rs : Nat → Nat) (tk vl : Nat → Int) : Prop :=
  zR T 0 255 ∧ n ≤ 400 ∧ m ≤ n ∧ LXS T n m qs rs ∧ (∀ i, i ≤ m → TKR (tk i) (vl i) (SO T n (qs i)) (WO T n (qs i) (rs i))) ∧ tk m = 257
theorem tk_r {c v s w : Int} (h : TKR c v s w) : (0 ≤ c ∧ c ≤ 265) ∧ (0 ≤ s ∧ s ≤ 3) ∧ (c = 258 → 0 ≤ v ∧ v ≤ 1000) ∧ (c = 259 → 0 ≤ v ∧ v ≤ 7) := by
  obtain ⟨_, h⟩ := h
  rcases h with ⟨_, ⟨k, _, g, _⟩ | ⟨k, g1, g, _⟩ | ⟨g, _⟩⟩ | ⟨_, g | g⟩ | h | h <;> omega
theorem LEX_lt {T : Nat → Int} {n m : Nat} {qs rs : Nat → Nat} {tk vl : Nat → Int} (hL : LEX T n m qs rs tk vl) {i : Nat} (hi : i ≤ m) (h : tk i ≠ 257) : i < m := by
  rcases Nat.lt_or_ge i m with q | q
  · exact q
  · have e : i = m := by omega
    subst e
    exact absurd hL.2.2.2.2.2 h
theorem p_pass {T : Nat → Int} {n m : Nat} {qs rs : Nat → Nat} {tk vl : Nat → Int} (hL : LEX T n m qs rs tk vl) {i : Nat} (hi : i ≤ m) {x : Int} (hx : 0 ≤ x ∧ x ≤ 300) (h7 : x ≠ 257) {o : Int × Int} (h : f_LawReader_pass x tk (i : Int) = some o) : (tk i = x ∧ i < m ∧ o = (1, ((i + 1 : Nat) : Int))) ∨ (tk i ≠ x ∧ o = (0, (i : Int))) := by
  have hn := hL.2.1
  have hm := hL.2.2.1
  have hr := (tk_r (hL.2.2.2.2.1 i hi)).1
  unfold f_LawReader_pass at h
  replace h := (xp_g h).2
  rw [zwi (x := (i : Int)) (by omega), Int.toNat_natCast, zwi (x := tk i) (by omega), zwi (x := x) (by omega), zwi (x := 400) (by decide)] at h
  by_cases c : tk i = x
  · rw [if_neg (fun q => q c)] at h
    have him : i < m := LEX_lt hL hi (by omega)
    rw [if_pos (by omega)] at h
    replace h := xp_n h
    cases h
    exact Or.inl ⟨c, him, by rw [show ((i : Int) + 1) = ((i + 1 : Nat) : Int) from by omega]⟩
  · rw [if_pos c] at h
    cases h
    exact Or.inr ⟨c, rfl⟩
theorem p_tok {T : Nat → Int} {n m : Nat} {qs rs : Nat → Nat} {tk vl : Nat → Int} (hL : LEX T n m qs rs tk vl) {i : Nat} (hi : i ≤ m) {β : Type} {k : Int → Option β} {o : β} (h : zg 401 tk (i : Int) k = some o) : k (tk i) = some o := by
  have hn := hL.2.1
  have hm := hL.2.2.1
  have h2 := (xp_g h).2
  rw [zwi (x := (i : Int)) (by omega), Int.toNat_natCast] at h2
  exact h2
theorem p_order {k v : Int} {s : Nat} {O : Nat → Int} {o : Int × Int × (Nat → Int)} (hs : s < 424) (hk : 0 ≤ k ∧ k < 16) (hv : 0 ≤ v ∧ v ≤ 5000) (h : f_LawReader_order k v (s : Int) O = some o) : o = ((s : Int), ((s + 1 : Nat) : Int), zu O s (16 * v + k)) := by
  unfold f_LawReader_order at h
  rw [zwi (x := (s : Int)) (by omega), zwi (x := 424) (by decide), if_pos (by omega)] at h
  replace h := xp_n (xp_n h)
  replace h := (xp_s h).2
  rw [zwi (x := (s : Int)) (by omega), Int.toNat_natCast, zor16 hv hk] at h
  replace h := xp_n (xp_n h)
  cases h
  rw [show ((s : Int) + 1 - 1) = (s : Int) from by omega, show ((s : Int) + 1) = ((s + 1 : Nat) : Int) from by omega]
theorem p_aim {s a : Nat} {O o : Nat → Int} (hs : s ≤ 424) (ha : a < s) (hO : 0 ≤ O a ∧ O a ≤ 100000) (h : f_LawReader_aimHere (a : Int) (s : Int) O = some o) : o = zu O a (16 * (s : Int) + O a % 16) := by
  unfold f_LawReader_aimHere at h
  have r16 := zemod (O a) (w := 16) (by decide)
  rw [zwi (x := (a : Int)) (by omega), zwi (x := (s : Int)) (by omega), if_neg (by omega), if_neg (by omega)] at h
  replace h := xp_n h
  replace h := (xp_g h).2
  rw [zwi (x := (a : Int)) (by omega), Int.toNat_natCast] at h
  replace h := xp_n (xp_n h)
  replace h := (xp_s h).2
  rw [zwi (x := (a : Int)) (by omega), Int.toNat_natCast, zi_and15 hO, zor16 (by omega) (by omega)] at h
  cases h
  rfl
theorem p_aim0 {s : Int} {O o : Nat → Int} (h : f_LawReader_aimHere (-1) s O = some o) : o = O := by
  unfold f_LawReader_aimHere at h
  replace h := xp_t (by decide +kernel) h
  cases h
  rfl
/-! PIECES OF CODE, on both sides -/
def AGR (f g : Nat → Int) (k : Nat) : Prop := ∀ j, j < k → g j = f j
theorem AGR_0 {f : Nat → Int} {k : Nat} : AGR f f k := fun _ _ => rfl
theorem AGR_t {f g h : Nat → Int} {k l : Nat} (h1 : AGR f g k) (h2 : AGR g h l) (hk : k ≤ l) : AGR f h k := fun j hj => by rw [h2 j (by omega), h1 j hj]
theorem AGR_u {f : Nat → Int} {k i : Nat} {v : Int} (h : k ≤ i) : AGR f (zu f i v) k := fun j hj => zu_ne _ _ (by omega)
def CO (O : Nat → Int) : Nat → Int := fun j => cop (O j)
def CA (O : Nat → Int) : Nat → Int := fun j => car (O j)
def CR (O : Nat → Int) (s s' : Nat) : Prop := ∀ j, s ≤ j → j < s' → 0 ≤ O j ∧ O j ≤ 100000
def RG (op ar : Nat → Int) (c c' : Nat) : Prop := ∀ k, c ≤ k → k < c' → (0 ≤ op k ∧ op k < 30) ∧ (-1000000000 ≤ ar k ∧ ar k ≤ 1000000000) ∧ (28 ≤ op k → 0 ≤ ar k)
abbrev LNu : Type := (Nat → Int) → Option (List Int)
def CSg (O O' : Nat → Int) (s s' d : Nat) (ν : LNu) : Prop := AGR O O' s ∧ CR O' s s' ∧ RPush (CO O') (CA O') s s' d ν
def RSg (op ar op' ar' : Nat → Int) (c c' d : Nat) (ν : LNu) : Prop := (AGR op op' c ∧ AGR ar ar' c) ∧ RG op' ar' c c' ∧ RPush op' ar' c c' d ν
def LEN (ν : LNu) (k : Nat) : Prop := ∀ E l, EOK E → ν E = some l → l.length = k
theorem CS_0 {O : Nat → Int} {s d : Nat} : CSg O O s s d (fun _ => some []) := ⟨AGR_0, fun j h1 h2 => by omega, RPush_0⟩
theorem RS_0 {op ar : Nat → Int} {c d : Nat} : RSg op ar op ar c c d (fun _ => some []) := ⟨⟨AGR_0, AGR_0⟩, fun j h1 h2 => by omega, RPush_0⟩
theorem LEN_0 : LEN (fun _ => some []) 0 := fun E l _ h => by cases h; rfl
theorem LEN_app {ν μ : LNu} {k l : Nat} (h : LEN ν k) (g : LEN μ l) : LEN (vapp ν μ) (k + l) := fun E q hE hq => by
  unfold vapp at hq
  cases hv : ν E with
  | none => rw [hv] at hq; exact nomatch hq
  | some l1 =>
    rw [hv] at hq
    dsimp only at hq
    cases hm : μ E with
    | none => rw [hm] at hq; exact nomatch hq
    | some l2 =>
      rw [hm] at hq
      cases hq
      rw [List.length_append, h E l1 hE hv, g E l2 hE hm, Nat.add_comm]
theorem LEN_op {ν : LNu} {k : Nat} {o : Int} (h : LEN ν (k + 2)) : LEN (vop o ν) (k + 1) := fun E q hE hq => by
  unfold vop at hq
  cases hv : ν E with
  | none => rw [hv] at hq; exact nomatch hq
  | some l0 =>
    rw [hv] at hq
    have g := h E l0 hE hv
    match l0, g with
    | b :: a :: l1, g =>
      dsimp only at hq
      cases hw : wop o a b with
      | none => rw [hw] at hq; exact nomatch hq
      | some x =>
        rw [hw] at hq
        cases hq
        simp only [List.length_cons] at g ⊢
        omega
theorem CO_agr {O O' : Nat → Int} {s e : Nat} (h : ∀ j, s ≤ j → j < e → O' j = O j) : ∀ j, s ≤ j → j < e → CO O' j = CO O j ∧ CA O' j = CA O j := fun j h1 h2 => by
  unfold CO CA
  rw [h j h1 h2]
  exact ⟨rfl, rfl⟩
theorem CS_app {O O1 O2 : Nat → Int} {s s1 s2 d1 d2 d k : Nat} {ν μ : LNu} (h : CSg O O1 s s1 d1 ν) (g : CSg O1 O2 s1 s2 d2 μ) (hk : LEN ν k) (hd1 : d1 ≤ d) (hd2 : k + d2 ≤ d) : CSg O O2 s s2 d (vapp ν μ) := by
  have h12 := h.2.2.1
  refine ⟨AGR_t h.1 g.1 h12, fun j h1 h2 => ?_, ?_⟩
  · rcases Nat.lt_or_ge j s1 with q | q
    · rw [g.1 j q]; exact h.2.1 j h1 q
    · exact g.2.1 j q h2
  · exact RPush_app (RPush_x h.2.2 (Nat.le_refl _) (CO_agr (fun j h1 h2 => g.1 j h2))) g.2.2 hd1 (fun E l hE hl => by rw [hk E l hE hl]; exact hd2)
theorem RS_app {op ar op1 ar1 op2 ar2 : Nat → Int} {c c1 c2 d1 d2 d k : Nat} {ν μ : LNu} (h : RSg op ar op1 ar1 c c1 d1 ν) (g : RSg op1 ar1 op2 ar2 c1 c2 d2 μ) (hk : LEN ν k) (hd1 : d1 ≤ d) (hd2 : k + d2 ≤ d) : RSg op ar op2 ar2 c c2 d (vapp ν μ) := by
  have h12 := h.2.2.1
  refine ⟨⟨AGR_t h.1.1 g.1.1 h12, AGR_t h.1.2 g.1.2 h12⟩, fun j h1 h2 => ?_, ?_⟩
  · rcases Nat.lt_or_ge j c1 with q | q
    · rw [g.1.1 j q, g.1.2 j q]; exact h.2.1 j h1 q
    · exact g.2.1 j q h2
  · exact RPush_app (RPush_x h.2.2 (Nat.le_refl _) (fun j h1 h2 => ⟨g.1.1 j h2, g.1.2 j h2⟩)) g.2.2 hd1 (fun E l hE hl => by rw [hk E l hE hl]; exact hd2)
theorem CS_d {O O' : Nat → Int} {s s' d d' : Nat} {ν : LNu} (h : CSg O O' s s' d ν) (hd : d ≤ d') : CSg O O' s s' d' ν := ⟨h.1, h.2.1, RPush_x h.2.2 hd (fun _ _ _ => ⟨rfl, rfl⟩)⟩
theorem RS_d {op ar op' ar' : Nat → Int} {c c' d d' : Nat} {ν : LNu} (h : RSg op ar op' ar' c c' d ν) (hd : d ≤ d') : RSg op ar op' ar' c c' d' ν := ⟨h.1, h.2.1, RPush_x h.2.2 hd (fun _ _ _ => ⟨rfl, rfl⟩)⟩
theorem CS_op {O O1 : Nat → Int} {s s1 d k : Nat} {ν : LNu} {o : Int} (h : CSg O O1 s s1 d ν) (ho : 3 ≤ o ∧ o ≤ 9) (hk : LEN ν (k + 2)) (hd : k + 2 ≤ d) : CSg O (zu O1 s1 (16 * 0 + o)) s (s1 + 1) d (vop (o + 17) ν) := by
  have h12 := h.2.2.1
  refine ⟨AGR_t h.1 (AGR_u h12) (Nat.le_refl _), fun j h1 h2 => ?_, ?_⟩
  · rcases Nat.lt_or_ge j s1 with q | q
    · rw [zu_ne _ _ (by omega)]; exact h.2.1 j h1 q
    · rw [show j = s1 from by omega, zu_eq]; omega
  · refine RPush_op (RPush_x h.2.2 (Nat.le_refl _) (CO_agr (fun j h1 h2 => zu_ne _ _ (by omega)))) ?_ (by omega) (fun E l hE hl => by rw [hk E l hE hl]; omega)
    show cop (zu O1 s1 (16 * 0 + o) s1) = o + 17
    rw [zu_eq]
    unfold cop
    rw [if_neg (by omega), if_neg (by omega), if_pos (by omega)]
    omega
theorem RS_op {op ar op1 ar1 : Nat → Int} {c c1 d k : Nat} {ν : LNu} {o : Int} (h : RSg op ar op1 ar1 c c1 d ν) (ho : 20 ≤ o ∧ o < 27) (hk : LEN ν (k + 2)) (hd : k + 2 ≤ d) : RSg op ar (zu op1 c1 o) (zu ar1 c1 0) c (c1 + 1) d (vop o ν) := by
  have h12 := h.2.2.1
  refine ⟨⟨AGR_t h.1.1 (AGR_u h12) (Nat.le_refl _), AGR_t h.1.2 (AGR_u h12) (Nat.le_refl _)⟩, fun j h1 h2 => ?_, ?_⟩
  · rcases Nat.lt_or_ge j c1 with q | q
    · rw [zu_ne _ _ (by omega), zu_ne _ _ (by omega)]; exact h.2.1 j h1 q
    · rw [show j = c1 from by omega, zu_eq, zu_eq]; omega
  · exact RPush_op (RPush_x h.2.2 (Nat.le_refl _) (fun j h1 h2 => ⟨zu_ne _ _ (by omega), zu_ne _ _ (by omega)⟩)) (zu_eq _ _ _) (by omega) (fun E l hE hl => by rw [hk E l hE hl]; omega)
theorem CS_num {O : Nat → Int} {s : Nat} {v : Int} (hv : 0 ≤ v ∧ v ≤ 1000) : CSg O (zu O s (16 * v + 1)) s (s + 1) 1 (fun _ => some [v]) := by
  refine ⟨AGR_u (Nat.le_refl _), fun j h1 h2 => ?_, ?_⟩
  · rw [show j = s from by omega, zu_eq]; omega
  · refine RVal_num (op := CO (zu O s (16 * v + 1))) (ar := CA (zu O s (16 * v + 1))) (s := s) (c := v) ?_ ?_ (by omega)
    · show cop (zu O s (16 * v + 1) s) = 0
      rw [zu_eq]; unfold cop; rw [if_pos (by omega)]
    · show car (zu O s (16 * v + 1) s) = v
      rw [zu_eq]; unfold car; omega
theorem CS_word {O : Nat → Int} {s w : Nat} (hw : w < 8) : CSg O (zu O s (16 * (w : Int) + 2)) s (s + 1) 1 (fun E => some [E w]) := by
  refine ⟨AGR_u (Nat.le_refl _), fun j h1 h2 => ?_, ?_⟩
  · rw [show j = s from by omega, zu_eq]; omega
  · refine RVal_word (op := CO (zu O s (16 * (w : Int) + 2))) (ar := CA (zu O s (16 * (w : Int) + 2))) (s := s) (j := w) ?_ hw
    show cop (zu O s (16 * (w : Int) + 2) s) = (w : Int) + 1
    rw [zu_eq]; unfold cop; rw [if_neg (by omega), if_pos (by omega), if_pos (by omega)]; omega
theorem RS_num {op ar : Nat → Int} {c : Nat} {v : Int} (hv : 0 ≤ v ∧ v ≤ 1000) : RSg op ar (zu op c 0) (zu ar c v) c (c + 1) 1 (fun _ => some [v]) := by
  refine ⟨⟨AGR_u (Nat.le_refl _), AGR_u (Nat.le_refl _)⟩, fun j h1 h2 => ?_, ?_⟩
  · rw [show j = c from by omega, zu_eq, zu_eq]; omega
  · exact RVal_num (zu_eq _ _ _) (zu_eq _ _ _) (by omega)
theorem RS_word {op ar : Nat → Int} {c w : Nat} (hw : w < 8) : RSg op ar (zu op c ((w : Int) + 1)) (zu ar c 0) c (c + 1) 1 (fun E => some [E w]) := by
  refine ⟨⟨AGR_u (Nat.le_refl _), AGR_u (Nat.le_refl _)⟩, fun j h1 h2 => ?_, ?_⟩
  · rw [show j = c from by omega, zu_eq, zu_eq]; omega
  · exact RVal_word (zu_eq _ _ _) hw
theorem LEN_1 {f : (Nat → Int) → Int} : LEN (fun E => some [f E]) 1 := fun E l _ h => by cases h; rfl
