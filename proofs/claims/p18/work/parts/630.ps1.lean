section
/-! NUMBERS OF AN ORDER -/
theorem zi_nat {x : Int} (h : 0 ≤ x ∧ x ≤ 2147483647) : (Int32.ofInt x).toBitVec.toNat = x.toNat := by
  have hlt := (Int32.ofInt x).toBitVec.isLt
  have e1 : (Int32.ofInt x).toBitVec.toInt = x := zwi (x := x) (by omega)
  rw [BitVec.toInt_eq_toNat_cond] at e1
  split at e1 <;> omega
theorem zi_shl4 {v : Int} (hv : 0 ≤ v ∧ v ≤ 5000) : zi_shl v 4 = 16 * v := by
  have e : zi_shl v 4 = ((Int32.ofInt v).toBitVec <<< ((Int32.ofInt 4 &&& 31).toBitVec.smod 32)).toInt := rfl
  have k1 : ((Int32.ofInt 4 &&& 31).toBitVec.smod 32).toNat = 4 := by decide +kernel
  have n1 := zi_nat (x := v) (by omega)
  have n2 : ((Int32.ofInt v).toBitVec <<< ((Int32.ofInt 4 &&& 31).toBitVec.smod 32)).toNat = 16 * v.toNat := by
    rw [BitVec.shiftLeft_eq', BitVec.toNat_shiftLeft, k1, n1, Nat.shiftLeft_eq]
    omega
  rw [e, BitVec.toInt_eq_toNat_cond, n2]
  split <;> omega
theorem zor16 {v k : Int} (hv : 0 ≤ v ∧ v ≤ 5000) (hk : 0 ≤ k ∧ k < 16) : zi_or (zi_shl v 4) k = 16 * v + k := by
  rw [zi_shl4 hv]
  have e : zi_or (16 * v) k = ((Int32.ofInt (16 * v)).toBitVec ||| (Int32.ofInt k).toBitVec).toInt := rfl
  have n2 : ((Int32.ofInt (16 * v)).toBitVec ||| (Int32.ofInt k).toBitVec).toNat = 16 * v.toNat + k.toNat := by
    rw [BitVec.toNat_or, zi_nat (x := 16 * v) (by omega), zi_nat (x := k) (by omega)]
    have h := Nat.shiftLeft_add_eq_or_of_lt (b := k.toNat) (i := 4) (by omega) v.toNat
    rw [Nat.shiftLeft_eq] at h
    rw [show (16 * v).toNat = v.toNat * 2 ^ 4 from by omega, ← h]
    omega
  rw [e, BitVec.toInt_eq_toNat_cond, n2]
  split <;> omega
/-! THE TOKENS OF BOTH -/
noncomputable def LEX (T : Nat → Int) (n m : Nat) (qs rs : Nat → Nat) (tk vl : Nat → Int) : Prop :=
  zR T 0 255 ∧ n ≤ 400 ∧ m ≤ n ∧ LXS T n m qs rs ∧ (∀ i, i ≤ m → TKR (tk i) (vl i) (SO T n (qs i)) (WO T n (qs i) (rs i))) ∧ tk m = 257
theorem tk_r {c v s w : Int} (h : TKR c v s w) : (0 ≤ c ∧ c ≤ 265) ∧ (0 ≤ s ∧ s ≤ 3) ∧ (c = 258 → 0 ≤ v ∧ v ≤ 1000) ∧ (c = 259 → 0 ≤ v ∧ v ≤ 7) := by
  obtain ⟨_, h⟩ := h
  rcases h with ⟨_, ⟨k, _, g, _⟩ | ⟨k, g1, g, _⟩ | ⟨g, _⟩⟩ | ⟨_, g | g⟩ | h | h <;> omega
theorem LEX_lt {T : Nat → Int} {n m : Nat} {qs rs : Nat → Nat} {tk vl : Nat → Int} (hL : LEX T n m qs rs tk vl) {i : Nat} (hi : i ≤ m) (h : tk i ≠ 257) : i < m := by
  rcases Nat.lt_or_ge i m with q | q
  · exact q
  · have e : i = m := by omega
    subst e
    exact absurd hL.2.2.2.2.2 h
theorem p_pass {T : Nat → Int} {n m : Nat} {qs rs : Nat → Nat} {tk vl : Nat → Int} (hL : LEX T n m qs rs tk vl) {i : Nat} (hi : i ≤ m) {x : Int} (hx : 0 ≤ x ∧ x ≤ 300) (h7 : x ≠ 257) {o : Int × Int} (h : f_LawReader_pass x tk (i : Int) = some o) : (tk i = x ∧ i < m ∧ o = (1, ((i + 1 : Nat) : Int))) ∨ (tk i ≠ x ∧ o = (0, (i : Int))) := by
  have hn := hL.2.1
  have hm := hL.2.2.1
  have hr := (tk_r (hL.2.2.2.2.1 i hi)).1
  unfold f_LawReader_pass at h
  replace h := (xp_g h).2
  rw [zwi (x := (i : Int)) (by omega), Int.toNat_natCast, zwi (x := tk i) (by omega), zwi (x := x) (by omega), zwi (x := 400) (by decide)] at h
  by_cases c : tk i = x
  · rw [if_neg (fun q => q c)] at h
    have him : i < m := LEX_lt hL hi (by omega)
    rw [if_pos (by omega)] at h
    replace h := xp_n h
    cases h
    exact Or.inl ⟨c, him, by rw [show ((i : Int) + 1) = ((i + 1 : Nat) : Int) from by omega]⟩
  · rw [if_pos c] at h
    cases h
    exact Or.inr ⟨c, rfl⟩
theorem p_tok {T : Nat → Int} {n m : Nat} {qs rs : Nat → Nat} {tk vl : Nat → Int} (hL : LEX T n m qs rs tk vl) {i : Nat} (hi : i ≤ m) {β : Type} {k : Int → Option β} {o : β} (h : zg 401 tk (i : Int) k = some o) : k (tk i) = some o := by
  have hn := hL.2.1
  have hm := hL.2.2.1
  have h2 := (xp_g h).2
  rw [zwi (x := (i : Int)) (by omega), Int.toNat_natCast] at h2
  exact h2
theorem p_order {k v : Int} {s : Nat} {O : Nat → Int} {o : Int × Int × (Nat → Int)} (hs : s < 424) (hk : 0 ≤ k ∧ k < 16) (hv : 0 ≤ v ∧ v ≤ 5000) (h : f_LawReader_order k v (s : Int) O = some o) : o = ((s : Int), ((s + 1 : Nat) : Int), zu O s (16 * v + k)) := by
  unfold f_LawReader_order at h
  rw [zwi (x := (s : Int)) (by omega), zwi (x := 424) (by decide), if_pos (by omega)] at h
  replace h := xp_n (xp_n h)
  replace h := (xp_s h).2
  rw [zwi (x := (s : Int)) (by omega), Int.toNat_natCast, zor16 hv hk] at h
  replace h := xp_n (xp_n h)
  cases h
  rw [show ((s : Int) + 1 - 1) = (s : Int) from by omega, show ((s : Int) + 1) = ((s + 1 : Nat) : Int) from by omega]
theorem p_aim {s a : Nat} {O o : Nat → Int} (hs : s ≤ 424) (ha : a < s) (hO : 0 ≤ O a ∧ O a ≤ 100000) (h : f_LawReader_aimHere (a : Int) (s : Int) O = some o) : o = zu O a (16 * (s : Int) + O a % 16) := by
  unfold f_LawReader_aimHere at h
  have r16 := zemod (O a) (w := 16) (by decide)
  rw [zwi (x := (a : Int)) (by omega), zwi (x := (s : Int)) (by omega), if_neg (by omega), if_neg (by omega)] at h
  replace h := xp_n h
  replace h := (xp_g h).2
  rw [zwi (x := (a : Int)) (by omega), Int.toNat_natCast] at h
  replace h := xp_n (xp_n h)
  replace h := (xp_s h).2
  rw [zwi (x := (a : Int)) (by omega), Int.toNat_natCast, zi_and15 hO, zor16 (by omega) (by omega)] at h
  cases h
  rfl
theorem p_aim0 {s : Int} {O o : Nat → Int} (h : f_LawReader_aimHere (-1) s O = some o) : o = O := by
  unfold f_LawReader_aimHere at h
  replace h := xp_t (by decide +kernel) h
  cases h
  rfl
/-! PIECES OF CODE, on both sides -/
noncomputable def AGR (f g : Nat → Int) (k : Nat) : Prop := ∀ j, j < k → g j = f j
theorem AGR_0 {f : Nat → Int} {k : Nat} : AGR f f k := fun _ _ => rfl
theorem AGR_t {f g h : Nat → Int} {k l : Nat} (h1 : AGR f g k) (h2 : AGR g h l) (hk : k ≤ l) : AGR f h k := fun j hj => by rw [h2 j (by omega), h1 j hj]
theorem AGR_u {f : Nat → Int} {k i : Nat} {v : Int} (h : k ≤ i) : AGR f (zu f i v) k := fun j hj => zu_ne _ _ (by omega)
noncomputable def CO (O : Nat → Int) : Nat → Int := fun j => cop (O j)
noncomputable def CA (O : Nat → Int) : Nat → Int := fun j => car (O j)
noncomputable def CR (O : Nat → Int) (s s' : Nat) : Prop := ∀ j, s ≤ j → j < s' → 0 ≤ O j ∧ O j ≤ 100000
noncomputable def RG (op ar : Nat → Int) (c c' : Nat) : Prop := ∀ k, c ≤ k → k < c' → (0 ≤ op k ∧ op k < 30) ∧ (-1000000000 ≤ ar k ∧ ar k ≤ 1000000000) ∧ (28 ≤ op k → 0 ≤ ar k)
noncomputable abbrev LNu : Type := (Nat → Int) → Option (List Int)
noncomputable def CSg (O O' : Nat → Int) (s s' d : Nat) (ν : LNu) : Prop := AGR O O' s ∧ CR O' s s' ∧ RPush (CO O') (CA O') s s' d ν
noncomputable def RSg (op ar op' ar' : Nat → Int) (c c' d : Nat) (ν : LNu) : Prop := (AGR op op' c ∧ AGR ar ar' c) ∧ RG op' ar' c c' ∧ RPush op' ar' c c' d ν
noncomputable def LEN (ν : LNu) (k : Nat) : Prop := ∀ E l, EOK E → ν E = some l → l.length = k
theorem CS_0 {O : Nat → Int} {s d : Nat} : CSg O O s s d (fun _ => some []) := ⟨AGR_0, fun j h1 h2 => by omega, RPush_0⟩
theorem RS_0 {op ar : Nat → Int} {c d : Nat} : RSg op ar op ar c c d (fun _ => some []) := ⟨⟨AGR_0, AGR_0⟩, fun j h1 h2 => by omega, RPush_0⟩
theorem LEN_0 : LEN (fun _ => some []) 0 := fun E l _ h => by cases h; rfl
theorem LEN_app {ν μ : LNu} {k l : Nat} (h : LEN ν k) (g : LEN μ l) : LEN (vapp ν μ) (k + l) := fun E q hE hq => by
  unfold vapp at hq
  cases hv : ν E with
  | none => rw [hv] at hq; exact nomatch hq
  | some l1 =>
    rw [hv] at hq
    dsimp only at hq
    cases hm : μ E with
    | none => rw [hm] at hq; exact nomatch hq
    | some l2 =>
      rw [hm] at hq
      cases hq
      rw [List.length_append, h E l1 hE hv, g E l2 hE hm, Nat.add_comm]
theorem LEN_op {ν : LNu} {k : Nat} {o : Int} (h : LEN ν (k + 2)) : LEN (vop o ν) (k + 1) := fun E q hE hq => by
  unfold vop at hq
  cases hv : ν E with
  | none => rw [hv] at hq; exact nomatch hq
  | some l0 =>
    rw [hv] at hq
    have g := h E l0 hE hv
    match l0, g with
    | b :: a :: l1, g =>
      dsimp only at hq
      cases hw : wop o a b with
      | none => rw [hw] at hq; exact nomatch hq
      | some x =>
        rw [hw] at hq
        cases hq
        simp only [List.length_cons] at g ⊢
        omega
theorem CO_agr {O O' : Nat → Int} {s e : Nat} (h : ∀ j, s ≤ j → j < e → O' j = O j) : ∀ j, s ≤ j → j < e → CO O' j = CO O j ∧ CA O' j = CA O j := fun j h1 h2 => by
  unfold CO CA
  rw [h j h1 h2]
  exact ⟨rfl, rfl⟩
theorem CS_app {O O1 O2 : Nat → Int} {s s1 s2 d1 d2 d k : Nat} {ν μ : LNu} (h : CSg O O1 s s1 d1 ν) (g : CSg O1 O2 s1 s2 d2 μ) (hk : LEN ν k) (hd1 : d1 ≤ d) (hd2 : k + d2 ≤ d) : CSg O O2 s s2 d (vapp ν μ) := by
  have h12 := h.2.2.1
  refine ⟨AGR_t h.1 g.1 h12, fun j h1 h2 => ?_, ?_⟩
  · rcases Nat.lt_or_ge j s1 with q | q
    · rw [g.1 j q]; exact h.2.1 j h1 q
    · exact g.2.1 j q h2
  · exact RPush_app (RPush_x h.2.2 (Nat.le_refl _) (CO_agr (fun j h1 h2 => g.1 j h2))) g.2.2 hd1 (fun E l hE hl => by rw [hk E l hE hl]; exact hd2)
theorem RS_app {op ar op1 ar1 op2 ar2 : Nat → Int} {c c1 c2 d1 d2 d k : Nat} {ν μ : LNu} (h : RSg op ar op1 ar1 c c1 d1 ν) (g : RSg op1 ar1 op2 ar2 c1 c2 d2 μ) (hk : LEN ν k) (hd1 : d1 ≤ d) (hd2 : k + d2 ≤ d) : RSg op ar op2 ar2 c c2 d (vapp ν μ) := by
  have h12 := h.2.2.1
  refine ⟨⟨AGR_t h.1.1 g.1.1 h12, AGR_t h.1.2 g.1.2 h12⟩, fun j h1 h2 => ?_, ?_⟩
  · rcases Nat.lt_or_ge j c1 with q | q
    · rw [g.1.1 j q, g.1.2 j q]; exact h.2.1 j h1 q
    · exact g.2.1 j q h2
  · exact RPush_app (RPush_x h.2.2 (Nat.le_refl _) (fun j h1 h2 => ⟨g.1.1 j h2, g.1.2 j h2⟩)) g.2.2 hd1 (fun E l hE hl => by rw [hk E l hE hl]; exact hd2)
theorem CS_d {O O' : Nat → Int} {s s' d d' : Nat} {ν : LNu} (h : CSg O O' s s' d ν) (hd : d ≤ d') : CSg O O' s s' d' ν := ⟨h.1, h.2.1, RPush_x h.2.2 hd (fun _ _ _ => ⟨rfl, rfl⟩)⟩
theorem RS_d {op ar op' ar' : Nat → Int} {c c' d d' : Nat} {ν : LNu} (h : RSg op ar op' ar' c c' d ν) (hd : d ≤ d') : RSg op ar op' ar' c c' d' ν := ⟨h.1, h.2.1, RPush_x h.2.2 hd (fun _ _ _ => ⟨rfl, rfl⟩)⟩
theorem CS_op {O O1 : Nat → Int} {s s1 d k : Nat} {ν : LNu} {o : Int} (h : CSg O O1 s s1 d ν) (ho : 3 ≤ o ∧ o ≤ 9) (hk : LEN ν (k + 2)) (hd : k + 2 ≤ d) : CSg O (zu O1 s1 (16 * 0 + o)) s (s1 + 1) d (vop (o + 17) ν) := by
  have h12 := h.2.2.1
  refine ⟨AGR_t h.1 (AGR_u h12) (Nat.le_refl _), fun j h1 h2 => ?_, ?_⟩
  · rcases Nat.lt_or_ge j s1 with q | q
    · rw [zu_ne _ _ (by omega)]; exact h.2.1 j h1 q
    · rw [show j = s1 from by omega, zu_eq]; omega
  · refine RPush_op (RPush_x h.2.2 (Nat.le_refl _) (CO_agr (fun j h1 h2 => zu_ne _ _ (by omega)))) ?_ (by omega) (fun E l hE hl => by rw [hk E l hE hl]; omega)
    show cop (zu O1 s1 (16 * 0 + o) s1) = o + 17
    rw [zu_eq]
    unfold cop
    rw [if_neg (by omega), if_neg (by omega), if_pos (by omega)]
    omega
theorem RS_op {op ar op1 ar1 : Nat → Int} {c c1 d k : Nat} {ν : LNu} {o : Int} (h : RSg op ar op1 ar1 c c1 d ν) (ho : 20 ≤ o ∧ o < 27) (hk : LEN ν (k + 2)) (hd : k + 2 ≤ d) : RSg op ar (zu op1 c1 o) (zu ar1 c1 0) c (c1 + 1) d (vop o ν) := by
  have h12 := h.2.2.1
  refine ⟨⟨AGR_t h.1.1 (AGR_u h12) (Nat.le_refl _), AGR_t h.1.2 (AGR_u h12) (Nat.le_refl _)⟩, fun j h1 h2 => ?_, ?_⟩
  · rcases Nat.lt_or_ge j c1 with q | q
    · rw [zu_ne _ _ (by omega), zu_ne _ _ (by omega)]; exact h.2.1 j h1 q
    · rw [show j = c1 from by omega, zu_eq, zu_eq]; omega
  · exact RPush_op (RPush_x h.2.2 (Nat.le_refl _) (fun j h1 h2 => ⟨zu_ne _ _ (by omega), zu_ne _ _ (by omega)⟩)) (zu_eq _ _ _) (by omega) (fun E l hE hl => by rw [hk E l hE hl]; omega)
theorem CS_num {O : Nat → Int} {s : Nat} {v : Int} (hv : 0 ≤ v ∧ v ≤ 1000) : CSg O (zu O s (16 * v + 1)) s (s + 1) 1 (fun _ => some [v]) := by
  refine ⟨AGR_u (Nat.le_refl _), fun j h1 h2 => ?_, ?_⟩
  · rw [show j = s from by omega, zu_eq]; omega
  · refine RVal_num (op := CO (zu O s (16 * v + 1))) (ar := CA (zu O s (16 * v + 1))) (s := s) (c := v) ?_ ?_ (by omega)
    · show cop (zu O s (16 * v + 1) s) = 0
      rw [zu_eq]; unfold cop; rw [if_pos (by omega)]
    · show car (zu O s (16 * v + 1) s) = v
      rw [zu_eq]; unfold car; omega
theorem CS_word {O : Nat → Int} {s w : Nat} (hw : w < 8) : CSg O (zu O s (16 * (w : Int) + 2)) s (s + 1) 1 (fun E => some [E w]) := by
  refine ⟨AGR_u (Nat.le_refl _), fun j h1 h2 => ?_, ?_⟩
  · rw [show j = s from by omega, zu_eq]; omega
  · refine RVal_word (op := CO (zu O s (16 * (w : Int) + 2))) (ar := CA (zu O s (16 * (w : Int) + 2))) (s := s) (j := w) ?_ hw
    show cop (zu O s (16 * (w : Int) + 2) s) = (w : Int) + 1
    rw [zu_eq]; unfold cop; rw [if_neg (by omega), if_pos (by omega), if_pos (by omega)]; omega
theorem RS_num {op ar : Nat → Int} {c : Nat} {v : Int} (hv : 0 ≤ v ∧ v ≤ 1000) : RSg op ar (zu op c 0) (zu ar c v) c (c + 1) 1 (fun _ => some [v]) := by
  refine ⟨⟨AGR_u (Nat.le_refl _), AGR_u (Nat.le_refl _)⟩, fun j h1 h2 => ?_, ?_⟩
  · rw [show j = c from by omega, zu_eq, zu_eq]; omega
  · exact RVal_num (zu_eq _ _ _) (zu_eq _ _ _) (by omega)
theorem RS_word {op ar : Nat → Int} {c w : Nat} (hw : w < 8) : RSg op ar (zu op c ((w : Int) + 1)) (zu ar c 0) c (c + 1) 1 (fun E => some [E w]) := by
  refine ⟨⟨AGR_u (Nat.le_refl _), AGR_u (Nat.le_refl _)⟩, fun j h1 h2 => ?_, ?_⟩
  · rw [show j = c from by omega, zu_eq, zu_eq]; omega
  · exact RVal_word (zu_eq _ _ _) hw
theorem LEN_1 {f : (Nat → Int) → Int} : LEN (fun E => some [f E]) 1 := fun E l _ h => by cases h; rfl
end
section
/-! THE REFERENCE'S SMALL STEPS -/
noncomputable abbrev OX : Type := Int × Int × Int × Int × Int × Int × Int × Int × Int × Int × (Nat → Int) × (Nat → Int) × (Nat → Int) × (Nat → Int)
noncomputable def EX (T : Nat → Int) (n : Nat) (W : Nat → Int) (x1 : Int) (qs rs : Nat → Nat) (o : OX) (tn : Int) (i c p pd b : Nat) (op ar pl pa : Nat → Int) : Prop :=
  ∃ N, f_HM_readExpression_20 (n : Int) T W N x1 tn (qs i : Int) (rs i : Int) (SO T n (qs i)) (WO T n (qs i) (rs i)) (-1) 0 (c : Int) (p : Int) (pd : Int) (b : Int) op ar pl pa = some o
noncomputable def FL (qs : Nat → Nat) (o : OX) (i : Nat) : Prop := o.2.2.2.2.1 = (qs i : Int) ∧ o.2.2.2.2.2.1 = 1
theorem e_bad {n : Int} {T W : Nat → Int} {N : Nat} {x1 tn fr to so wo ft c p pd b : Int} {op ar pl pa : Nat → Int} {o : OX} (h : f_HM_readExpression_20 n T W N x1 tn fr to so wo ft 1 c p pd b op ar pl pa = some o) : o.2.2.2.2.1 = ft ∧ o.2.2.2.2.2.1 = 1 := by
  cases N with
  | zero => exact nomatch h
  | succ N =>
    replace h : f_HM_readExpression_20_b n T W (f_HM_readExpression_20 n T W N) x1 tn fr to so wo ft 1 c p pd b op ar pl pa = some o := h
    unfold f_HM_readExpression_20_b at h
    replace h := xp_t (by decide +kernel) h
    unfold f_HM_readExpression_76 at h
    obtain ⟨v1, v2, a3, a4, e1, h⟩ := xz_d4 h
    cases h
    exact ⟨rfl, rfl⟩
theorem x_next {T : Nat → Int} {n m : Nat} {qs rs : Nat → Nat} {tk vl : Nat → Int} (hL : LEX T n m qs rs tk vl) {i : Nat} (hi : i < m) {fr so wo : Int} {o : Int × Int × Int × Int} (h : f_HM_next (n : Int) T fr (rs i : Int) so wo = some o) : o = ((qs (i + 1) : Int), (rs (i + 1) : Int), SO T n (qs (i + 1)), WO T n (qs (i + 1)) (rs (i + 1))) := by
  have hr : rs i ≤ n := (hL.2.2.2.1.1 i hi).2.2.2.1
  have g := zok_x (l_next T hL.1 n (rs i) hL.2.1 hr fr so wo) h
  exact NXQ_i hL.2.2.2.1 (i := i + 1) (by omega) (by rw [if_neg (by omega), show i + 1 - 1 = i from by omega]; exact g)
theorem x_must1 {T : Nat → Int} {n m : Nat} {qs rs : Nat → Nat} {tk vl : Nat → Int} (hL : LEX T n m qs rs tk vl) {i : Nat} (hi : i < m) {fr so wo : Int} {o : Int × Int × Int × Int × Int × Int} (h : f_HM_must 1 (n : Int) T fr (rs i : Int) so wo (-1) 0 = some o) : o = ((qs (i + 1) : Int), (rs (i + 1) : Int), SO T n (qs (i + 1)), WO T n (qs (i + 1)) (rs (i + 1)), -1, 0) := by
  unfold f_HM_must at h
  replace h := xp_f (by decide +kernel) h
  replace h := xp_t (by decide +kernel) h
  unfold f_HM_must_24 at h
  replace h := xp_f (by decide +kernel) h
  obtain ⟨v1, v2, v3, v4, e, h⟩ := xz_d4 h
  have g := x_next hL hi e
  cases g
  cases h
  rfl
theorem x_must0 {n : Int} {T : Nat → Int} {fr to so wo : Int} {o : Int × Int × Int × Int × Int × Int} (h : f_HM_must 0 n T fr to so wo (-1) 0 = some o) : o = (fr, to, so, wo, fr, 1) := by
  unfold f_HM_must at h
  replace h := xp_f (by decide +kernel) h
  replace h := xp_f (by decide +kernel) h
  unfold f_HM_must_24 at h
  replace h := xp_t (by decide +kernel) h
  cases h
  rfl
theorem x_in {x lo hi w : Int} (hx : -1000000000000 ≤ x ∧ x ≤ 1000000000000) (hl : -1000000000000 ≤ lo ∧ lo ≤ 1000000000000) (hh : -1000000000000 ≤ hi ∧ hi ≤ 1000000000000) (h : f_HM_in x lo hi = some w) : w = if lo ≤ x ∧ x ≤ hi then 1 else 0 := by
  unfold f_HM_in at h
  rw [zwl (x := hi) (by omega), zwl (x := x) (by omega), zwl (x := lo) (by omega)] at h
  by_cases h1 : x < lo
  · rw [if_pos h1] at h; cases h; rw [if_neg (by omega)]
  · rw [if_neg h1] at h
    by_cases h2 : hi < x
    · rw [if_pos h2] at h; cases h; rw [if_neg (by omega)]
    · rw [if_neg h2] at h; cases h; rw [if_pos (by omega)]
noncomputable def INVb (pl : Nat → Int) : Nat → Int
  | 0 => -1
  | k + 1 => if 30 ≤ pl k then pl k else INVb pl k
noncomputable def CMV (pl : Nat → Int) : Nat → Int
  | 0 => 0
  | k + 1 => if 20 ≤ pl k ∧ pl k ≤ 23 then CMV pl k else if 24 ≤ pl k ∧ pl k ≤ 26 then 1 else 0
noncomputable def PLR (pl : Nat → Int) (pd : Nat) : Prop := ∀ k, k < pd → 20 ≤ pl k ∧ pl k ≤ 31
theorem INV_agr {pl pl' : Nat → Int} : ∀ k, AGR pl pl' k → INVb pl' k = INVb pl k := by
  intro k
  induction k with
  | zero => intro _; rfl
  | succ k ih =>
    intro h
    show (if 30 ≤ pl' k then pl' k else INVb pl' k) = (if 30 ≤ pl k then pl k else INVb pl k)
    rw [h k (by omega), ih (fun j hj => h j (by omega))]
theorem CMV_agr {pl pl' : Nat → Int} : ∀ k, AGR pl pl' k → CMV pl' k = CMV pl k := by
  intro k
  induction k with
  | zero => intro _; rfl
  | succ k ih =>
    intro h
    show (if 20 ≤ pl' k ∧ pl' k ≤ 23 then CMV pl' k else if 24 ≤ pl' k ∧ pl' k ≤ 26 then 1 else 0) = (if 20 ≤ pl k ∧ pl k ≤ 23 then CMV pl k else if 24 ≤ pl k ∧ pl k ≤ 26 then 1 else 0)
    rw [h k (by omega), ih (fun j hj => h j (by omega))]
theorem x_inner_4 {pl : Nat → Int} {pd : Nat} (hp : PLR pl pd) (hpd : pd ≤ 400) : ∀ (N k : Nat) (x1 o : Int), k ≤ pd → x1 = INVb pl k → f_HM_inner_4 (pd : Int) pl N x1 (k : Int) = some o → o = INVb pl pd := by
  intro N
  induction N with
  | zero => intro k x1 o _ _ h; exact nomatch h
  | succ N ih =>
    intro k x1 o hk hx h
    replace h : f_HM_inner_4_b (pd : Int) pl (f_HM_inner_4 (pd : Int) pl N) x1 (k : Int) = some o := h
    unfold f_HM_inner_4_b at h
    rw [zwi (x := (pd : Int)) (by omega), zwi (x := (k : Int)) (by omega)] at h
    by_cases c : (pd : Int) ≤ (k : Int)
    · rw [if_pos c] at h
      cases h
      rw [hx, show pd = k from by omega]
    · rw [if_neg c] at h
      replace h := (xp_g h).2
      have r := hp k (by omega)
      rw [zwi (x := (k : Int)) (by omega), Int.toNat_natCast, zwi (x := pl k) (by omega), zwi (x := 30) (by decide)] at h
      by_cases d : pl k < 30
      · rw [if_pos d] at h
        unfold f_HM_inner_33 at h
        replace h := xp_n h
        exact ih (k + 1) x1 o (by omega) (by rw [hx]; show _ = if 30 ≤ pl k then pl k else INVb pl k; rw [if_neg (by omega)]) h
      · rw [if_neg d] at h
        replace h := (xp_g h).2
        rw [zwi (x := (k : Int)) (by omega), Int.toNat_natCast] at h
        unfold f_HM_inner_33 at h
        replace h := xp_n h
        exact ih (k + 1) (pl k) o (by omega) (by show _ = if 30 ≤ pl k then pl k else INVb pl k; rw [if_pos (by omega)]) h
theorem x_inner {pl : Nat → Int} {pd : Nat} {o : Int} (hp : PLR pl pd) (hpd : pd ≤ 400) (h : f_HM_inner (pd : Int) pl = some o) : o = INVb pl pd :=
  x_inner_4 hp hpd zfu 0 (-1) o (by omega) rfl (by unfold f_HM_inner at h; exact h)
theorem x_cmp_7 {pl : Nat → Int} {pd : Nat} (hp : PLR pl pd) (hpd : pd ≤ 400) : ∀ (N k : Nat) (o : Int), k ≤ pd → f_HM_isCompared_7 (pd : Int) pl N ((k : Int) - 1) = some o → o = CMV pl k := by
  intro N
  induction N with
  | zero => intro k o _ h; exact nomatch h
  | succ N ih =>
    intro k o hk h
    replace h : f_HM_isCompared_7_b (pd : Int) pl (f_HM_isCompared_7 (pd : Int) pl N) ((k : Int) - 1) = some o := h
    unfold f_HM_isCompared_7_b at h
    rw [zwi (x := (k : Int) - 1) (by omega)] at h
    cases k with
    | zero =>
      rw [if_pos (by omega)] at h
      unfold f_HM_isCompared_36 at h
      rw [zwi (x := ((0 : Nat) : Int) - 1) (by omega), if_pos (by omega)] at h
      cases h
      rfl
    | succ k =>
      rw [if_neg (by omega)] at h
      replace h := (xp_g h).2
      have r := hp k (by omega)
      have ek : (((k + 1 : Nat) : Int) - 1) = (k : Int) := by omega
      rw [ek, zwi (x := (k : Int)) (by omega), Int.toNat_natCast] at h
      replace h := xp_n h
      obtain ⟨v3, e3, h⟩ := xz_d1 h
      rw [zwi (x := pl k) (by omega)] at e3
      have g3 := x_in (by omega) (by decide) (by decide) e3
      show o = if 20 ≤ pl k ∧ pl k ≤ 23 then CMV pl k else if 24 ≤ pl k ∧ pl k ≤ 26 then 1 else 0
      by_cases c : 20 ≤ pl k ∧ pl k ≤ 23
      · rw [if_pos c] at g3 ⊢
        subst g3
        replace h := xp_f (by decide +kernel) h
        replace h := xp_n h
        exact ih k o (by omega) (by rw [show ((k : Int) - 1) = (k : Int) + -1 from by omega]; exact h)
      · rw [if_neg c] at g3 ⊢
        subst g3
        replace h := xp_t (by decide +kernel) h
        unfold f_HM_isCompared_36 at h
        rw [zwi (x := (k : Int)) (by omega), if_neg (by omega)] at h
        replace h := (xp_g h).2
        rw [zwi (x := (k : Int)) (by omega), Int.toNat_natCast] at h
        replace h := xp_n h
        obtain ⟨v4, e4, h⟩ := xz_d1 h
        rw [zwi (x := pl k) (by omega)] at e4
        have g4 := x_in (by omega) (by decide) (by decide) e4
        by_cases d : 24 ≤ pl k ∧ pl k ≤ 26
        · rw [if_pos d] at g4 ⊢
          subst g4
          replace h := xp_f (by decide +kernel) h
          cases h
          rfl
        · rw [if_neg d] at g4 ⊢
          subst g4
          replace h := xp_t (by decide +kernel) h
          cases h
          rfl
theorem x_cmp {pl : Nat → Int} {pd : Nat} {o : Int} (hp : PLR pl pd) (hpd : pd ≤ 400) (h : f_HM_isCompared (pd : Int) pl = some o) : o = CMV pl pd := by
  unfold f_HM_isCompared at h
  replace h := xp_n h
  exact x_cmp_7 hp hpd zfu pd o (Nat.le_refl _) h
/-! settle -/
noncomputable def BDS (op : Int) : Int := if op < 30 then (if op = 29 then 1 else if op = 28 then 2 else if op = 27 then 3 else if op < 24 then (if op < 22 then 5 else 6) else 4) else 0
theorem x_binds {op r : Int} (h0 : 0 ≤ op ∧ op ≤ 31) (h : f_HM_binds op = some r) : r = BDS op := by
  unfold f_HM_binds at h
  rw [zwi (x := op) (by omega), zwi (x := 30) (by decide), zwi (x := 29) (by decide), zwi (x := 28) (by decide), zwi (x := 27) (by decide), zwi (x := 24) (by decide), zwi (x := 22) (by decide)] at h
  unfold BDS
  by_cases c1 : op < 30
  · rw [if_pos c1] at h ⊢
    by_cases c2 : op = 29
    · rw [if_neg (fun q => q c2)] at h; rw [if_pos c2]; cases h; rfl
    · rw [if_pos c2] at h; rw [if_neg c2]
      by_cases c3 : op = 28
      · rw [if_neg (fun q => q c3)] at h; rw [if_pos c3]; cases h; rfl
      · rw [if_pos c3] at h; rw [if_neg c3]
        by_cases c4 : op = 27
        · rw [if_neg (fun q => q c4)] at h; rw [if_pos c4]; cases h; rfl
        · rw [if_pos c4] at h; rw [if_neg c4]
          by_cases c5 : op < 24
          · rw [if_pos c5] at h ⊢
            by_cases c6 : op < 22
            · rw [if_pos c6] at h ⊢; cases h; rfl
            · rw [if_neg c6] at h ⊢; cases h; rfl
          · rw [if_neg c5] at h ⊢; cases h; rfl
  · rw [if_neg c1] at h ⊢; cases h; rfl
theorem x_emit {x y : Int} {c : Nat} {op ar : Nat → Int} {r : Int × (Nat → Int) × (Nat → Int)} (hc : c ≤ 1000) (h : f_HM_emit x y (c : Int) op ar = some r) : c < 400 ∧ r = (((c + 1 : Nat) : Int), zu op c x, zu ar c y) := by
  unfold f_HM_emit at h
  obtain ⟨h1, h⟩ := xp_s h
  replace h := (xp_s h).2
  replace h := xp_n h
  rw [zwi (x := (c : Int)) (by omega)] at h1 h
  rw [Int.toNat_natCast] at h
  cases h
  exact ⟨by omega, rfl⟩
theorem x_push {x y : Int} {c : Nat} {op ar : Nat → Int} {r : Int × (Nat → Int) × (Nat → Int)} (hc : c ≤ 1000) (h : f_HM_push x y (c : Int) op ar = some r) : c < 400 ∧ r = (((c + 1 : Nat) : Int), zu op c x, zu ar c y) := by
  unfold f_HM_push at h
  obtain ⟨h1, h⟩ := xp_s h
  replace h := (xp_s h).2
  replace h := xp_n h
  rw [zwi (x := (c : Int)) (by omega)] at h1 h
  rw [Int.toNat_natCast] at h
  cases h
  exact ⟨by omega, rfl⟩
noncomputable def ST (least : Int) (pl pa : Nat → Int) (c pd : Nat) (op ar : Nat → Int) (r : Int × Int × (Nat → Int) × (Nat → Int)) : Prop := ∃ N, f_HM_settle_0 pl pa N least (c : Int) (pd : Int) op ar = some r
theorem BDS_r (x : Int) : 0 ≤ BDS x ∧ BDS x ≤ 6 := by
  unfold BDS
  repeat' split
  all_goals decide
theorem ST_stop {least : Int} {pl pa : Nat → Int} {c pd : Nat} {op ar : Nat → Int} {r : Int × Int × (Nat → Int) × (Nat → Int)} (hpd : pd ≤ 400) (hl : 0 ≤ least ∧ least ≤ 10) (hp : PLR pl pd) (hs : pd = 0 ∨ BDS (pl (pd - 1)) < least) (h : ST least pl pa c pd op ar r) : r = ((c : Int), (pd : Int), op, ar) := by
  obtain ⟨N, h⟩ := h
  cases N with
  | zero => exact nomatch h
  | succ N =>
    replace h : f_HM_settle_0_b pl pa (f_HM_settle_0 pl pa N) least (c : Int) (pd : Int) op ar = some r := h
    unfold f_HM_settle_0_b at h
    rw [zwi (x := (pd : Int)) (by omega)] at h
    cases pd with
    | zero =>
      rw [if_pos (by omega)] at h
      cases h
      rfl
    | succ k =>
      have ek : (((k + 1 : Nat) : Int) - 1) = (k : Int) := by omega
      rw [if_neg (by omega), ek] at h
      replace h := xp_n h
      replace h := (xp_g h).2
      rw [zwi (x := (k : Int)) (by omega), Int.toNat_natCast] at h
      obtain ⟨v3, e3, h⟩ := xz_d1 h
      have r1 := hp k (by omega)
      have g3 := x_binds (by omega) e3
      subst g3
      rw [show k + 1 - 1 = k from by omega] at hs
      have hb := BDS_r (pl k)
      rw [zwi (x := BDS (pl k)) (by omega), zwi (x := least) (by omega), if_pos (by omega)] at h
      cases h
      rfl
theorem ST_op {least : Int} {pl pa : Nat → Int} {c k : Nat} {op ar : Nat → Int} {r : Int × Int × (Nat → Int) × (Nat → Int)} (hk : k < 400) (hl : 0 ≤ least ∧ least ≤ BDS (pl k)) (hp : 20 ≤ pl k ∧ pl k ≤ 27) (hc : c ≤ 1000) (h : ST least pl pa c (k + 1) op ar r) : c < 400 ∧ ST least pl pa (c + 1) k (zu op c (pl k)) (zu ar c 0) r := by
  obtain ⟨N, h⟩ := h
  cases N with
  | zero => exact nomatch h
  | succ N =>
    replace h : f_HM_settle_0_b pl pa (f_HM_settle_0 pl pa N) least (c : Int) ((k + 1 : Nat) : Int) op ar = some r := h
    unfold f_HM_settle_0_b at h
    have ek : (((k + 1 : Nat) : Int) - 1) = (k : Int) := by omega
    rw [zwi (x := ((k + 1 : Nat) : Int)) (by omega), if_neg (by omega), ek] at h
    replace h := xp_n h
    replace h := (xp_g h).2
    rw [zwi (x := (k : Int)) (by omega), Int.toNat_natCast] at h
    obtain ⟨v3, e3, h⟩ := xz_d1 h
    have g3 := x_binds (by omega) e3
    subst g3
    have hb := BDS_r (pl k)
    rw [zwi (x := BDS (pl k)) (by omega), zwi (x := least) (by omega), if_neg (by omega)] at h
    replace h := xp_n h
    replace h := (xp_g h).2
    rw [zwi (x := (k : Int)) (by omega), Int.toNat_natCast, zwi (x := pl k) (by omega), zwi (x := 28) (by decide), if_neg (by omega)] at h
    replace h := (xp_g h).2
    rw [zwi (x := (k : Int)) (by omega), Int.toNat_natCast, zwi (x := pl k) (by omega), zwi (x := 29) (by decide), if_pos (by omega)] at h
    replace h := (xp_g h).2
    rw [zwi (x := (k : Int)) (by omega), Int.toNat_natCast] at h
    obtain ⟨v8, a9, a10, e4, h⟩ := xz_d3 h
    have g4 := x_emit hc e4
    obtain ⟨g5, g4⟩ := g4
    cases g4
    exact ⟨g5, N, h⟩
theorem ST_jump {least : Int} {pl pa : Nat → Int} {c k a : Nat} {op ar : Nat → Int} {r : Int × Int × (Nat → Int) × (Nat → Int)} (hk : k < 400) (hl : 0 ≤ least ∧ least ≤ BDS (pl k)) (hp : pl k = 28 ∨ pl k = 29) (ha : pa k = (a : Int)) (ha2 : a ≤ 1000) (h : ST least pl pa c (k + 1) op ar r) : ST least pl pa c k op (zu ar a (c : Int)) r := by
  obtain ⟨N, h⟩ := h
  cases N with
  | zero => exact nomatch h
  | succ N =>
    replace h : f_HM_settle_0_b pl pa (f_HM_settle_0 pl pa N) least (c : Int) ((k + 1 : Nat) : Int) op ar = some r := h
    unfold f_HM_settle_0_b at h
    have ek : (((k + 1 : Nat) : Int) - 1) = (k : Int) := by omega
    rw [zwi (x := ((k + 1 : Nat) : Int)) (by omega), if_neg (by omega), ek] at h
    replace h := xp_n h
    replace h := (xp_g h).2
    rw [zwi (x := (k : Int)) (by omega), Int.toNat_natCast] at h
    obtain ⟨v3, e3, h⟩ := xz_d1 h
    have g3 := x_binds (by omega) e3
    subst g3
    have hb := BDS_r (pl k)
    rw [zwi (x := BDS (pl k)) (by omega), zwi (x := least) (by omega), if_neg (by omega)] at h
    replace h := xp_n h
    replace h := (xp_g h).2
    have fin : ∀ h2 : f_HM_settle_63 pl pa (f_HM_settle_0 pl pa N) least (c : Int) (k : Int) op ar = some r, ST least pl pa c k op (zu ar a (c : Int)) r := fun h2 => by
      unfold f_HM_settle_63 at h2
      replace h2 := (xp_g h2).2
      rw [zwi (x := (k : Int)) (by omega), Int.toNat_natCast, ha] at h2
      replace h2 := (xp_s h2).2
      rw [zwi (x := (a : Int)) (by omega), Int.toNat_natCast] at h2
      exact ⟨N, h2⟩
    rw [zwi (x := (k : Int)) (by omega), Int.toNat_natCast, zwi (x := pl k) (by omega), zwi (x := 28) (by decide)] at h
    by_cases d : pl k = 28
    · rw [if_pos d] at h
      exact fin h
    · rw [if_neg d] at h
      replace h := (xp_g h).2
      rw [zwi (x := (k : Int)) (by omega), Int.toNat_natCast, zwi (x := pl k) (by omega), zwi (x := 29) (by decide), if_neg (by omega)] at h
      exact fin h
/-! the pile's signs of a sum -/
noncomputable def PIL (pl : Nat → Int) (pd : Nat) : List Int → Prop
  | [] => True
  | a :: l => pl (pd + l.length) = a ∧ PIL pl pd l
noncomputable def VL : List Int → LNu → LNu
  | [] => fun ν => ν
  | a :: l => fun ν => VL l (vop a ν)
noncomputable def AR4 (l : List Int) : Prop := ∀ a ∈ l, 20 ≤ a ∧ a ≤ 23
theorem ST_arith {pl pa : Nat → Int} {pd : Nat} {op0 ar0 : Nat → Int} {c0 d : Nat} {least : Int} {r : Int × Int × (Nat → Int) × (Nat → Int)} (hl : 0 ≤ least ∧ least ≤ 5) : ∀ (l : List Int) (c : Nat) (op ar : Nat → Int) (ν : LNu), AR4 l → PIL pl pd l → RSg op0 ar0 op ar c0 c d ν → LEN ν (l.length + 1) → l.length + 1 ≤ d → c ≤ 400 → pd + l.length ≤ 400 → ST least pl pa c (pd + l.length) op ar r → ∃ (c' : Nat) (op' ar' : Nat → Int), c' ≤ 400 ∧ RSg op0 ar0 op' ar' c0 c' d (VL l ν) ∧ LEN (VL l ν) 1 ∧ ST least pl pa c' pd op' ar' r := by
  intro l
  induction l with
  | nil => intro c op ar ν _ _ hR hN _ hc _ h; exact ⟨c, op, ar, hc, hR, hN, h⟩
  | cons a l ih =>
    intro c op ar ν hA hP hR hN hd hc hpd h
    rw [List.length_cons] at hN hd hpd
    have ha := hA a List.mem_cons_self
    have e1 : pl (pd + l.length) = a := hP.1
    have hb : 5 ≤ BDS a := by unfold BDS; rw [if_pos (by omega), if_neg (by omega), if_neg (by omega), if_neg (by omega), if_pos (by omega)]; split <;> decide
    have g := ST_op (k := pd + l.length) (by omega) (by rw [e1]; omega) (by rw [e1]; omega) (by omega) h
    rw [e1] at g
    exact ih (c + 1) _ _ (vop a ν) (fun x hx => hA x (List.mem_cons_of_mem _ hx)) hP.2 (RS_op (k := l.length) hR (by omega) hN (by omega)) (LEN_op (k := l.length) hN) (by omega) (by omega) (by omega) g.2
end
section
theorem x_sign {T : Nat → Int} {n m : Nat} {qs rs : Nat → Nat} {tk vl : Nat → Int} (hL : LEX T n m qs rs tk vl) {i : Nat} (hi : i ≤ m) {x : Int} (hx : 0 ≤ x ∧ x ≤ 255) {v : Int} (h : f_HM_isSign x (SO T n (qs i)) (WO T n (qs i) (rs i)) = some v) : (v = 1 ∧ tk i = x) ∨ (v = 0 ∧ tk i ≠ x) := by
  have g := zok_x (t_isSign (hL.2.2.2.2.1 i hi) x hx) h
  exact g
theorem x_word {T : Nat → Int} {n m : Nat} {qs rs : Nat → Nat} {tk vl : Nat → Int} (hL : LEX T n m qs rs tk vl) {i : Nat} (hi : i ≤ m) (k : Nat) (hk : 8 ≤ k ∧ k < 14) {x : Int} (hx : x = zcd k) {v : Int} (h : f_HM_isWord x (SO T n (qs i)) (WO T n (qs i) (rs i)) = some v) : (v = 1 ∧ tk i = 252 + (k : Int)) ∨ (v = 0 ∧ tk i ≠ 252 + (k : Int)) := by
  have g := zok_x (t_isWord (hL.2.2.2.2.1 i hi) k hk x hx) h
  exact g
theorem zcd_r {k : Nat} (hk : k < 14) : 0 ≤ zcd k ∧ zcd k ≤ 700000000000 := by
  have key : ∀ w : Fin 14, 0 ≤ zcd w.val ∧ zcd w.val ≤ 700000000000 := by decide +kernel
  exact key ⟨k, hk⟩
theorem zcd_i {a b : Nat} (ha : a < 14) (hb : b < 14) (h : zcd a = zcd b) : a = b := congrArg Fin.val (zcd_inj ⟨a, ha⟩ ⟨b, hb⟩ h)
theorem t_isPart {c v s w : Int} (h : TKR c v s w) (k : Nat) (hk : k < 8) {o : Int} (e : f_HM_isWord (zcd k) s w = some o) : (o = 1 ∧ c = 259 ∧ v = (k : Int)) ∨ (o = 0 ∧ ¬ (c = 259 ∧ v = (k : Int))) := by
  have hr := tk_r h
  obtain ⟨hb, h⟩ := h
  have zr := zcd_r (k := k) (by omega)
  unfold f_HM_isWord at e
  rw [zwi (x := s) (by omega), zwi (x := 1) (by decide)] at e
  by_cases c1 : s = 1
  · rw [if_neg (fun q => q c1), zwl (x := w) (by omega), zwl (x := zcd k) (by omega)] at e
    by_cases c2 : w = zcd k
    · rw [if_neg (fun q => q c2)] at e
      cases e
      refine Or.inl ⟨rfl, ?_⟩
      rcases h with ⟨_, ⟨k', g1, g2, g3, g4⟩ | ⟨k', g1, g2, g3⟩ | ⟨g1, g2⟩⟩ | h | h | h
      · have := zcd_i (a := k') (b := k) (by omega) (by omega) (by omega)
        subst this
        exact ⟨g2, g3⟩
      · have := zcd_i (a := k') (b := k) (by omega) (by omega) (by omega)
        omega
      · exact absurd c2 (g2 k (by omega))
      · omega
      · omega
      · omega
    · rw [if_pos c2] at e
      cases e
      refine Or.inr ⟨rfl, fun q => ?_⟩
      rcases h with ⟨_, ⟨k', g1, g2, g3, g4⟩ | ⟨k', g1, g2, g3⟩ | ⟨g1, g2⟩⟩ | h | h | h
      · have : k' = k := by omega
        subst this
        exact c2 g4
      all_goals omega
  · rw [if_pos c1] at e
    cases e
    refine Or.inr ⟨rfl, fun q => ?_⟩
    rcases h with h | h | h | h <;> omega
theorem x_part_4 {c v s w : Int} {W : Nat → Int} (hk : TKR c v s w) (hW : ∀ k : Nat, k < 8 → W k = zcd k) : ∀ (N k : Nat) (x1 o : Int), k ≤ 8 → f_HM_partAt_4 s w W N x1 (k : Int) = some o → o = if c = 259 ∧ (k : Int) ≤ v then v + 1 else x1 := by
  have hr := tk_r hk
  intro N
  induction N with
  | zero => intro k x1 o _ h; exact nomatch h
  | succ N ih =>
    intro k x1 o hk8 h
    replace h : f_HM_partAt_4_b s w W (f_HM_partAt_4 s w W N) x1 (k : Int) = some o := h
    unfold f_HM_partAt_4_b at h
    rw [zwi (x := 8) (by decide), zwi (x := (k : Int)) (by omega)] at h
    by_cases d : (8 : Int) ≤ (k : Int)
    · rw [if_pos d] at h
      cases h
      rw [if_neg (by omega)]
    · rw [if_neg d] at h
      replace h := (xp_g h).2
      rw [zwi (x := (k : Int)) (by omega), Int.toNat_natCast, hW k (by omega)] at h
      obtain ⟨v2, e2, h⟩ := xz_d1 h
      rcases t_isPart hk k (by omega) e2 with ⟨g1, g2, g3⟩ | ⟨g1, g2⟩
      · subst g1
        replace h := xp_f (by decide +kernel) h
        replace h := xp_n h
        unfold f_HM_partAt_30 at h
        replace h := xp_n h
        have := ih (k + 1) ((k : Int) + 1) o (by omega) h
        rw [if_neg (by omega)] at this
        rw [if_pos (by omega)]
        omega
      · subst g1
        replace h := xp_t (by decide +kernel) h
        unfold f_HM_partAt_30 at h
        replace h := xp_n h
        have := ih (k + 1) x1 o (by omega) h
        rw [this]
        by_cases q : c = 259 ∧ ((k + 1 : Nat) : Int) ≤ v
        · rw [if_pos q, if_pos (by omega)]
        · rw [if_neg q, if_neg (by omega)]
theorem x_partAt {c v s w : Int} {W : Nat → Int} (hk : TKR c v s w) (hW : ∀ k : Nat, k < 8 → W k = zcd k) {o : Int} (h : f_HM_partAt s w W = some o) : o = if c = 259 then v + 1 else -1 := by
  have hr := tk_r hk
  unfold f_HM_partAt at h
  have g := x_part_4 hk hW zfu 0 (-1) o (by omega) h
  rw [g]
  by_cases q : c = 259
  · rw [if_pos (by omega), if_pos q]
  · rw [if_neg (fun z => q z.1), if_neg q]
theorem x_leaf1 {T : Nat → Int} {n m : Nat} {qs rs : Nat → Nat} {tk vl : Nat → Int} (hL : LEX T n m qs rs tk vl) {i : Nat} (hi : i < m) {x y : Int} {c p : Nat} {op ar : Nat → Int} {r : Int × Int × Int × Int × Int × Int × Int × Int × (Nat → Int) × (Nat → Int)} (hc : c ≤ 1000) (hp : p < 50) (h : f_HM_leaf 1 x y (n : Int) T (qs i : Int) (rs i : Int) (SO T n (qs i)) (WO T n (qs i) (rs i)) (-1) 0 (c : Int) (p : Int) op ar = some r) : c < 400 ∧ r = ((qs (i + 1) : Int), (rs (i + 1) : Int), SO T n (qs (i + 1)), WO T n (qs (i + 1)) (rs (i + 1)), -1, 0, ((c + 1 : Nat) : Int), ((p + 1 : Nat) : Int), zu op c x, zu ar c y) := by
  unfold f_HM_leaf at h
  replace h := xp_f (by decide +kernel) h
  rw [zwi (x := 50) (by decide), zwi (x := (p : Int)) (by omega), if_neg (by omega)] at h
  unfold f_HM_leaf_19 at h
  obtain ⟨v1, v2, v3, v4, v5, v6, e, h⟩ := xz_d6 h
  have g := x_must1 hL hi e
  cases g
  replace h := xp_f (by decide +kernel) h
  obtain ⟨v7, a8, a9, e2, h⟩ := xz_d3 h
  obtain ⟨g1, g2⟩ := x_emit hc e2
  cases g2
  replace h := xp_n h
  cases h
  exact ⟨g1, rfl⟩
theorem x_leaf0 {n : Int} {T : Nat → Int} {z fr to so wo : Int} {x y : Int} {c p : Nat} {op ar : Nat → Int} {r : Int × Int × Int × Int × Int × Int × Int × Int × (Nat → Int) × (Nat → Int)} (hz : z = 0 ∨ (z = 1 ∧ 50 ≤ p)) (hp : p ≤ 50) (h : f_HM_leaf z x y n T fr to so wo (-1) 0 (c : Int) (p : Int) op ar = some r) : r = (fr, to, so, wo, fr, 1, (c : Int), (p : Int), op, ar) := by
  have fin : ∀ h : f_HM_leaf_18 n T x y fr to so wo (-1) 0 (c : Int) (p : Int) op ar = some r, r = (fr, to, so, wo, fr, 1, (c : Int), (p : Int), op, ar) := fun h => by
    unfold f_HM_leaf_18 f_HM_leaf_19 at h
    obtain ⟨v1, v2, v3, v4, v5, v6, e, h⟩ := xz_d6 h
    have g := x_must0 e
    cases g
    replace h := xp_t (by decide +kernel) h
    cases h
    rfl
  unfold f_HM_leaf at h
  rcases hz with hz | ⟨hz, hz2⟩ <;> subst hz
  · exact fin (xp_t (by decide +kernel) h)
  · replace h := xp_f (by decide +kernel) h
    rw [zwi (x := 50) (by decide), zwi (x := (p : Int)) (by omega), if_pos (by omega)] at h
    exact fin h
theorem x_open1 {T : Nat → Int} {n m : Nat} {qs rs : Nat → Nat} {tk vl : Nat → Int} (hL : LEX T n m qs rs tk vl) {i : Nat} (hi : i < m) {x : Int} {pd b : Nat} {pl pa : Nat → Int} {r : Int × Int × Int × Int × Int × Int × Int × Int × (Nat → Int) × (Nat → Int)} (hpd : pd ≤ 1000) (hb : b < 8) (h : f_HM_openBracket x (n : Int) T (qs i : Int) (rs i : Int) (SO T n (qs i)) (WO T n (qs i) (rs i)) (-1) 0 (pd : Int) (b : Int) pl pa = some r) : pd < 400 ∧ r = ((qs (i + 1) : Int), (rs (i + 1) : Int), SO T n (qs (i + 1)), WO T n (qs (i + 1)) (rs (i + 1)), -1, 0, ((pd + 1 : Nat) : Int), ((b + 1 : Nat) : Int), zu pl pd x, zu pa pd 0) := by
  unfold f_HM_openBracket at h
  rw [zwi (x := 8) (by decide), zwi (x := (b : Int)) (by omega), if_neg (by omega)] at h
  unfold f_HM_openBracket_15 at h
  obtain ⟨v1, v2, v3, v4, v5, v6, e, h⟩ := xz_d6 h
  have g := x_must1 hL hi e
  cases g
  replace h := xp_n (xp_f (by decide +kernel) h)
  obtain ⟨v7, a8, a9, e2, h⟩ := xz_d3 h
  obtain ⟨g1, g2⟩ := x_push hpd e2
  cases g2
  cases h
  exact ⟨g1, rfl⟩
theorem x_open0 {n : Int} {T : Nat → Int} {x fr to so wo pd : Int} {pl pa : Nat → Int} {r : Int × Int × Int × Int × Int × Int × Int × Int × (Nat → Int) × (Nat → Int)} (h : f_HM_openBracket x n T fr to so wo (-1) 0 pd 8 pl pa = some r) : r = (fr, to, so, wo, fr, 1, pd, 8, pl, pa) := by
  unfold f_HM_openBracket at h
  replace h := xp_t (by decide +kernel) h
  unfold f_HM_openBracket_15 at h
  obtain ⟨v1, v2, v3, v4, v5, v6, e, h⟩ := xz_d6 h
  have g := x_must0 e
  cases g
  replace h := xp_t (by decide +kernel) h
  cases h
  rfl
theorem r_part {T : Nat → Int} {n m : Nat} {qs rs : Nat → Nat} {tk vl W : Nat → Int} {x1 : Int} {o : OX} (hL : LEX T n m qs rs tk vl) (hW : ∀ k : Nat, k < 8 → W k = zcd k) {i c p pd b : Nat} {op ar pl pa : Nat → Int} {t a1 a2 a3 a4 a5 a6 a7 a8 a9 a10 : Int} {f1 f2 f3 f4 : Nat → Int} (hi : i ≤ m) (hc : c ≤ 1000) (hp : p ≤ 50) (hpd : pd ≤ 1000) (hb : b ≤ 8)
    (h : f_HM_readPart (n : Int) T W (qs i : Int) (rs i : Int) (SO T n (qs i)) (WO T n (qs i) (rs i)) (-1) 0 (c : Int) (p : Int) (pd : Int) (b : Int) op ar pl pa = some (t, a1, a2, a3, a4, a5, a6, a7, a8, a9, a10, f1, f2, f3, f4))
    (g : ∃ N, f_HM_readExpression_20 (n : Int) T W N x1 t a1 a2 a3 a4 a5 a6 a7 a8 a9 a10 f1 f2 f3 f4 = some o) :
    (tk i = 91 ∧ b < 8 ∧ i < m ∧ pd < 400 ∧ EX T n W x1 qs rs o 1 (i + 1) c p (pd + 1) (b + 1) op ar (zu pl pd 31) (zu pa pd 0)) ∨
    (tk i = 258 ∧ i < m ∧ p < 50 ∧ c < 400 ∧ (0 ≤ vl i ∧ vl i ≤ 1000) ∧ EX T n W x1 qs rs o 3 (i + 1) (c + 1) (p + 1) pd b (zu op c 0) (zu ar c (vl i)) pl pa) ∨
    (∃ w : Nat, w < 8 ∧ tk i = 259 ∧ vl i = (w : Int) ∧ i < m ∧ p < 50 ∧ c < 400 ∧ EX T n W x1 qs rs o 3 (i + 1) (c + 1) (p + 1) pd b (zu op c ((w : Int) + 1)) (zu ar c 0) pl pa) ∨
    (((tk i = 91 ∧ b = 8) ∨ (tk i ≠ 91 ∧ (p = 50 ∨ (tk i ≠ 258 ∧ tk i ≠ 259)))) ∧ FL qs o i) := by
  have hk := hL.2.2.2.2.1 i hi
  have hr := tk_r hk
  unfold f_HM_readPart at h
  obtain ⟨v1, e1, h⟩ := xz_d1 h
  rcases x_sign hL hi (by decide) e1 with ⟨q1, q2⟩ | ⟨q1, q2⟩
  · subst q1
    replace h := xp_f (by decide +kernel) h
    obtain ⟨v3, v4, v5, v6, v7, v8, v9, v10, a11, a12, e2, h⟩ := xz_d10 h
    cases h
    rcases Nat.lt_or_ge b 8 with hb8 | hb8
    · have him := LEX_lt hL hi (by omega)
      obtain ⟨g1, g2⟩ := x_open1 hL him hpd hb8 e2
      cases g2
      exact Or.inl ⟨q2, hb8, him, g1, g⟩
    · have eb : b = 8 := by omega
      subst eb
      have g2 := x_open0 e2
      cases g2
      obtain ⟨N, g⟩ := g
      exact Or.inr (Or.inr (Or.inr ⟨Or.inl ⟨q2, rfl⟩, e_bad g⟩))
  · subst q1
    replace h := xp_t (by decide +kernel) h
    obtain ⟨v2, e2, h⟩ := xz_d1 h
    have g2 := x_partAt hk hW e2
    by_cases c9 : tk i = 259
    · rw [if_pos c9] at g2
      subst g2
      have hv := hr.2.2.2 c9
      have hs : SO T n (qs i) = 1 := by
        obtain ⟨_, hk⟩ := hk
        rcases hk with hk | hk | hk | hk <;> omega
      have h45 : f_HM_readPart_45 (n : Int) T W (vl i + 1) (qs i : Int) (rs i : Int) (SO T n (qs i)) (WO T n (qs i) (rs i)) (-1) 0 (c : Int) (p : Int) (pd : Int) (b : Int) op ar pl pa = some (t, a1, a2, a3, a4, a5, a6, a7, a8, a9, a10, f1, f2, f3, f4) := by
        rw [hs] at h ⊢
        exact xp_t (by decide +kernel) h
      unfold f_HM_readPart_45 f_HM_readPart_46 at h45
      rw [zwi (x := vl i + 1) (by omega), zwi (x := -1) (by decide), if_pos (by omega)] at h45
      unfold f_HM_readPart_57 f_HM_readPart_62 at h45
      rw [zwi (x := vl i + 1) (by omega), zwi (x := -1) (by decide), if_pos (by omega)] at h45
      unfold f_HM_readPart_72 at h45
      replace h45 := xp_t (by decide +kernel) h45
      unfold f_HM_readPart_85 at h45
      obtain ⟨u1, u2, u3, u4, u5, u6, u7, u8, b9, b10, e3, h45⟩ := xz_d10 h45
      cases h45
      rcases Nat.lt_or_ge p 50 with hp5 | hp5
      · have him := LEX_lt hL hi (by omega)
        obtain ⟨g1, g2⟩ := x_leaf1 hL him hc hp5 e3
        cases g2
        refine Or.inr (Or.inr (Or.inl ⟨(vl i).toNat, by omega, c9, by omega, him, hp5, g1, ?_⟩))
        rw [show (((vl i).toNat : Nat) : Int) = vl i from by omega]
        exact g
      · have g2 := x_leaf0 (Or.inr ⟨rfl, hp5⟩) hp e3
        cases g2
        obtain ⟨N, g⟩ := g
        exact Or.inr (Or.inr (Or.inr ⟨Or.inr ⟨q2, Or.inl (by omega)⟩, e_bad g⟩))
    · rw [if_neg c9] at g2
      subst g2
      by_cases c8 : tk i = 258
      · have hv := hr.2.2.1 c8
        have hs : SO T n (qs i) = 2 ∧ WO T n (qs i) (rs i) = vl i := by
          obtain ⟨_, hk⟩ := hk
          rcases hk with ⟨_, ⟨k', g1, g2, g3, g4⟩ | ⟨k', g1, g2, g3⟩ | ⟨g1, g2⟩⟩ | hk | hk | hk <;> omega
        have h46 : f_HM_readPart_46 (n : Int) T W (-1) 1 (qs i : Int) (rs i : Int) (SO T n (qs i)) (WO T n (qs i) (rs i)) (-1) 0 (c : Int) (p : Int) (pd : Int) (b : Int) op ar pl pa = some (t, a1, a2, a3, a4, a5, a6, a7, a8, a9, a10, f1, f2, f3, f4) := by
          rw [hs.1, hs.2] at h ⊢
          replace h := xp_f (by decide +kernel) h
          rw [zwl (x := 1000) (by decide), zwl (x := vl i) (by omega), if_neg (by omega)] at h
          exact h
        unfold f_HM_readPart_46 at h46
        replace h46 := xp_f (by decide +kernel) (xp_f (by decide +kernel) h46)
        unfold f_HM_readPart_57 f_HM_readPart_62 at h46
        replace h46 := xp_f (by decide +kernel) h46
        unfold f_HM_readPart_72 at h46
        replace h46 := xp_f (by decide +kernel) h46
        unfold f_HM_readPart_85 at h46
        obtain ⟨u1, u2, u3, u4, u5, u6, u7, u8, b9, b10, e3, h46⟩ := xz_d10 h46
        cases h46
        rcases Nat.lt_or_ge p 50 with hp5 | hp5
        · have him := LEX_lt hL hi (by omega)
          obtain ⟨g1, g2⟩ := x_leaf1 hL him hc hp5 e3
          cases g2
          refine Or.inr (Or.inl ⟨c8, him, hp5, g1, hv, ?_⟩)
          rw [← hs.2]
          exact g
        · have g2 := x_leaf0 (Or.inr ⟨rfl, hp5⟩) hp e3
          cases g2
          obtain ⟨N, g⟩ := g
          exact Or.inr (Or.inr (Or.inr ⟨Or.inr ⟨q2, Or.inl (by omega)⟩, e_bad g⟩))
      · have h45 : f_HM_readPart_45 (n : Int) T W (-1) (qs i : Int) (rs i : Int) (SO T n (qs i)) (WO T n (qs i) (rs i)) (-1) 0 (c : Int) (p : Int) (pd : Int) (b : Int) op ar pl pa = some (t, a1, a2, a3, a4, a5, a6, a7, a8, a9, a10, f1, f2, f3, f4) := by
          by_cases s2 : SO T n (qs i) = 2
          · have hw : 1000 < WO T n (qs i) (rs i) ∧ WO T n (qs i) (rs i) ≤ 2000000000000000 := by
              obtain ⟨hb2, hk⟩ := hk
              rcases hk with hk | hk | hk | hk <;> omega
            rw [zwi (x := SO T n (qs i)) (by omega), zwi (x := 2) (by decide), if_neg (fun z => z s2), zwl (x := 1000) (by decide), zwl (x := WO T n (qs i) (rs i)) (by omega), if_pos (by omega)] at h
            exact h
          · rw [zwi (x := SO T n (qs i)) (by omega), zwi (x := 2) (by decide), if_pos s2] at h
            exact h
        unfold f_HM_readPart_45 f_HM_readPart_46 at h45
        replace h45 := xp_t (by decide +kernel) (xp_f (by decide +kernel) h45)
        unfold f_HM_readPart_62 at h45
        replace h45 := xp_f (by decide +kernel) h45
        unfold f_HM_readPart_72 at h45
        replace h45 := xp_t (by decide +kernel) h45
        unfold f_HM_readPart_85 at h45
        obtain ⟨u1, u2, u3, u4, u5, u6, u7, u8, b9, b10, e3, h45⟩ := xz_d10 h45
        cases h45
        have g2 := x_leaf0 (Or.inl rfl) hp e3
        cases g2
        obtain ⟨N, g⟩ := g
        exact Or.inr (Or.inr (Or.inr ⟨Or.inr ⟨q2, Or.inr ⟨c8, c9⟩⟩, e_bad g⟩))
theorem e_part {T : Nat → Int} {n m : Nat} {qs rs : Nat → Nat} {tk vl W : Nat → Int} {x1 : Int} {o : OX} (hL : LEX T n m qs rs tk vl) (hW : ∀ k : Nat, k < 8 → W k = zcd k) {i c p pd b : Nat} {op ar pl pa : Nat → Int} (hi : i ≤ m) (hc : c ≤ 1000) (hp : p ≤ 50) (hpd : pd ≤ 400) (hb : b ≤ 8) (h : EX T n W x1 qs rs o 1 i c p pd b op ar pl pa) :
    (tk i = 91 ∧ b < 8 ∧ i < m ∧ pd < 400 ∧ EX T n W x1 qs rs o 1 (i + 1) c p (pd + 1) (b + 1) op ar (zu pl pd 31) (zu pa pd 0)) ∨
    (tk i = 258 ∧ i < m ∧ p < 50 ∧ c < 400 ∧ (0 ≤ vl i ∧ vl i ≤ 1000) ∧ EX T n W x1 qs rs o 3 (i + 1) (c + 1) (p + 1) pd b (zu op c 0) (zu ar c (vl i)) pl pa) ∨
    (∃ w : Nat, w < 8 ∧ tk i = 259 ∧ vl i = (w : Int) ∧ i < m ∧ p < 50 ∧ c < 400 ∧ EX T n W x1 qs rs o 3 (i + 1) (c + 1) (p + 1) pd b (zu op c ((w : Int) + 1)) (zu ar c 0) pl pa) ∨
    (((tk i = 91 ∧ b = 8) ∨ (tk i ≠ 91 ∧ (p = 50 ∨ (tk i ≠ 258 ∧ tk i ≠ 259)))) ∧ FL qs o i) := by
  obtain ⟨N, h⟩ := h
  cases N with
  | zero => exact nomatch h
  | succ N =>
    replace h : f_HM_readExpression_20_b (n : Int) T W (f_HM_readExpression_20 (n : Int) T W N) x1 1 (qs i : Int) (rs i : Int) (SO T n (qs i)) (WO T n (qs i) (rs i)) (-1) 0 (c : Int) (p : Int) (pd : Int) (b : Int) op ar pl pa = some o := h
    unfold f_HM_readExpression_20_b at h
    replace h := xp_f (by decide +kernel) (xp_f (by decide +kernel) h)
    replace h := xp_f (by decide +kernel) (xp_t (by decide +kernel) h)
    obtain ⟨t, a1, a2, a3, a4, a5, a6, a7, a8, a9, a10, f1, f2, f3, f4, e1, h⟩ := xz_d15 h
    unfold f_HM_readExpression_72 at h
    exact r_part hL hW hi hc hp (by omega) hb e1 ⟨N, h⟩
theorem e_plain {T : Nat → Int} {n m : Nat} {qs rs : Nat → Nat} {tk vl W : Nat → Int} {x1 : Int} {o : OX} (hL : LEX T n m qs rs tk vl) (hW : ∀ k : Nat, k < 8 → W k = zcd k) {i c p pd b : Nat} {op ar pl pa : Nat → Int} (hi : i ≤ m) (hc : c ≤ 1000) (hp : p ≤ 50) (hpd : pd ≤ 400) (hb : b ≤ 8) (h : EX T n W x1 qs rs o 0 i c p pd b op ar pl pa) :
    (tk i = 265 ∧ i < m ∧ pd < 400 ∧ EX T n W x1 qs rs o 0 (i + 1) c p (pd + 1) b op ar (zu pl pd 27) (zu pa pd 0)) ∨
    (tk i = 40 ∧ b < 8 ∧ i < m ∧ pd < 400 ∧ EX T n W x1 qs rs o 0 (i + 1) c p (pd + 1) (b + 1) op ar (zu pl pd 30) (zu pa pd 0)) ∨
    (tk i = 40 ∧ b = 8 ∧ FL qs o i) ∨
    ((tk i ≠ 265 ∧ tk i ≠ 40) ∧ EX T n W x1 qs rs o 1 i c p pd b op ar pl pa) := by
  obtain ⟨N, h⟩ := h
  cases N with
  | zero => exact nomatch h
  | succ N =>
    replace h : f_HM_readExpression_20_b (n : Int) T W (f_HM_readExpression_20 (n : Int) T W N) x1 0 (qs i : Int) (rs i : Int) (SO T n (qs i)) (WO T n (qs i) (rs i)) (-1) 0 (c : Int) (p : Int) (pd : Int) (b : Int) op ar pl pa = some o := h
    unfold f_HM_readExpression_20_b at h
    replace h := xp_f (by decide +kernel) (xp_f (by decide +kernel) h)
    replace h := xp_f (by decide +kernel) h
    obtain ⟨t, a1, a2, a3, a4, a5, a6, a7, a8, a9, a10, f1, f2, f3, f4, e1, h⟩ := xz_d15 h
    unfold f_HM_readExpression_72 at h
    unfold f_HM_readPlain at e1
    obtain ⟨v1, e2, e1⟩ := xz_d1 e1
    rcases x_word hL hi 13 (by decide) (by rfl) e2 with ⟨q1, q2⟩ | ⟨q1, q2⟩
    · subst q1
      replace e1 := xp_f (by decide +kernel) e1
      obtain ⟨u1, w2, w3, e3, e1⟩ := xz_d3 e1
      obtain ⟨g1, g2⟩ := x_push (by omega) e3
      cases g2
      obtain ⟨u31, u32, u33, u34, e4, e1⟩ := xz_d4 e1
      have q3 : tk i = 265 := by omega
      have him := LEX_lt hL hi (by omega)
      have g3 := x_next hL him e4
      cases g3
      cases e1
      exact Or.inl ⟨q3, him, g1, N, h⟩
    · subst q1
      replace e1 := xp_t (by decide +kernel) e1
      obtain ⟨v2, e3, e1⟩ := xz_d1 e1
      rcases x_sign hL hi (by decide) e3 with ⟨q3, q4⟩ | ⟨q3, q4⟩
      · subst q3
        replace e1 := xp_f (by decide +kernel) e1
        obtain ⟨v3, v4, v5, v6, v7, v8, v9, v10, a11, a12, e4, e1⟩ := xz_d10 e1
        cases e1
        rcases Nat.lt_or_ge b 8 with hb8 | hb8
        · have him := LEX_lt hL hi (by omega)
          obtain ⟨g1, g2⟩ := x_open1 hL him (by omega) hb8 e4
          cases g2
          exact Or.inr (Or.inl ⟨q4, hb8, him, g1, N, h⟩)
        · have eb : b = 8 := by omega
          subst eb
          have g2 := x_open0 e4
          cases g2
          exact Or.inr (Or.inr (Or.inl ⟨q4, rfl, e_bad h⟩))
      · subst q3
        replace e1 := xp_t (by decide +kernel) e1
        obtain ⟨u1, u2, u3, u4, u5, u6, u7, u8, u9, u10, u11, w1, w2, w3, w4, e4, e1⟩ := xz_d15 e1
        cases e1
        refine Or.inr (Or.inr (Or.inr ⟨⟨by omega, q4⟩, N + 1, ?_⟩))
        show f_HM_readExpression_20_b (n : Int) T W (f_HM_readExpression_20 (n : Int) T W N) x1 1 (qs i : Int) (rs i : Int) (SO T n (qs i)) (WO T n (qs i) (rs i)) (-1) 0 (c : Int) (p : Int) (pd : Int) (b : Int) op ar pl pa = some o
        unfold f_HM_readExpression_20_b
        rw [if_neg (by decide +kernel), if_neg (by decide +kernel), if_pos (by decide +kernel), if_neg (by decide +kernel), e4]
        exact h
noncomputable def TKO (c q : Int) : Prop := (c = 43 ∧ q = 20) ∨ (c = 45 ∧ q = 21) ∨ (c = 42 ∧ q = 22) ∨ (c = 47 ∧ q = 23)
noncomputable def NOP (c : Int) : Prop := c ≠ 43 ∧ c ≠ 45 ∧ c ≠ 42 ∧ c ≠ 47
noncomputable def TKC (c q : Int) : Prop := (c = 60 ∧ q = 24) ∨ (c = 62 ∧ q = 25) ∨ (c = 61 ∧ q = 26)
theorem r_cmp1 {T : Nat → Int} {n m : Nat} {qs rs : Nat → Nat} {tk vl W : Nat → Int} {x1 : Int} {o : OX} (hL : LEX T n m qs rs tk vl) {i c p pd b : Nat} {op ar pl pa : Nat → Int} {t a1 a2 a3 a4 a5 a6 a7 a9 a10 : Int} {f1 f2 f3 f4 : Nat → Int} (hi : i ≤ m) (hc : c ≤ 1000) (hp : p ≤ 50) (hpd : pd ≤ 400) (hb : b ≤ 8) (hx : x1 = 0 ∨ x1 = 1) (hP : PLR pl pd) {q : Int} (him : i < m)
    (h : f_HM_behindSum_210 (n : Int) T q 1 (qs i : Int) (rs i : Int) (SO T n (qs i)) (WO T n (qs i) (rs i)) (-1) 0 (c : Int) (pd : Int) (b : Int) op ar pl pa = some (t, a1, a2, a3, a4, a5, a6, a7, a9, a10, f1, f2, f3, f4)) (g : ∃ N, f_HM_readExpression_20 (n : Int) T W N x1 t a1 a2 a3 a4 a5 a6 a7 (p : Int) a9 a10 f1 f2 f3 f4 = some o) : ∃ r, ST 5 pl pa c pd op ar r ∧ ∀ (c' pd' : Nat) (op' ar' : Nat → Int), r = ((c' : Int), (pd' : Int), op', ar') → pd' ≤ 1000 → pd' < 400 ∧ EX T n W x1 qs rs o 1 (i + 1) c' p (pd' + 1) b op' ar' (zu pl pd' q) (zu pa pd' 0) := by
  unfold f_HM_behindSum_210 at h
  obtain ⟨v1, v2, v3, v4, v5, v6, e, h⟩ := xz_d6 h
  have g1 := x_must1 hL him e
  cases g1
  replace h := xp_f (by decide +kernel) h
  obtain ⟨v7, v8, w9, w10, e2, h⟩ := xz_d4 h
  obtain ⟨v11, w12, w13, e3, h⟩ := xz_d3 h
  refine ⟨(v7, v8, w9, w10), ⟨zfu, by unfold f_HM_settle at e2; exact e2⟩, fun c' pd' op' ar' er h1 => ?_⟩
  cases er
  obtain ⟨g2, g3⟩ := x_push h1 e3
  cases g3
  cases h
  exact ⟨g2, g⟩
theorem r_cmp0 {T : Nat → Int} {n m : Nat} {qs rs : Nat → Nat} {tk vl W : Nat → Int} {x1 : Int} {o : OX} (hL : LEX T n m qs rs tk vl) {i c p pd b : Nat} {op ar pl pa : Nat → Int} {t a1 a2 a3 a4 a5 a6 a7 a9 a10 : Int} {f1 f2 f3 f4 : Nat → Int} (hi : i ≤ m) (hc : c ≤ 1000) (hp : p ≤ 50) (hpd : pd ≤ 400) (hb : b ≤ 8) (hx : x1 = 0 ∨ x1 = 1) (hP : PLR pl pd) {q : Int}
    (h : f_HM_behindSum_210 (n : Int) T q 0 (qs i : Int) (rs i : Int) (SO T n (qs i)) (WO T n (qs i) (rs i)) (-1) 0 (c : Int) (pd : Int) (b : Int) op ar pl pa = some (t, a1, a2, a3, a4, a5, a6, a7, a9, a10, f1, f2, f3, f4)) (g : ∃ N, f_HM_readExpression_20 (n : Int) T W N x1 t a1 a2 a3 a4 a5 a6 a7 (p : Int) a9 a10 f1 f2 f3 f4 = some o) : FL qs o i := by
  unfold f_HM_behindSum_210 at h
  obtain ⟨v1, v2, v3, v4, v5, v6, e, h⟩ := xz_d6 h
  have g1 := x_must0 e
  cases g1
  replace h := xp_t (by decide +kernel) h
  cases h
  obtain ⟨N, g⟩ := g
  exact e_bad g
theorem CMV_r (pl : Nat → Int) : ∀ k, CMV pl k = 0 ∨ CMV pl k = 1 := by
  intro k
  induction k with
  | zero => exact Or.inl rfl
  | succ k ih =>
    show (if 20 ≤ pl k ∧ pl k ≤ 23 then CMV pl k else if 24 ≤ pl k ∧ pl k ≤ 26 then 1 else 0) = 0 ∨ (if 20 ≤ pl k ∧ pl k ≤ 23 then CMV pl k else if 24 ≤ pl k ∧ pl k ≤ 26 then 1 else 0) = 1
    split
    · exact ih
    · split
      · exact Or.inr rfl
      · exact Or.inl rfl
theorem r_test {T : Nat → Int} {n m : Nat} {qs rs : Nat → Nat} {tk vl W : Nat → Int} {x1 : Int} {o : OX} (hL : LEX T n m qs rs tk vl) {i c p pd b : Nat} {op ar pl pa : Nat → Int} {t a1 a2 a3 a4 a5 a6 a7 a9 a10 : Int} {f1 f2 f3 f4 : Nat → Int} (hi : i ≤ m) (hc : c ≤ 1000) (hp : p ≤ 50) (hpd : pd ≤ 400) (hb : b ≤ 8) (hx : x1 = 0 ∨ x1 = 1) (hP : PLR pl pd)
    (h : f_HM_behindSum_149 (n : Int) T (qs i : Int) (rs i : Int) (SO T n (qs i)) (WO T n (qs i) (rs i)) (-1) 0 (c : Int) (pd : Int) (b : Int) op ar pl pa = some (t, a1, a2, a3, a4, a5, a6, a7, a9, a10, f1, f2, f3, f4)) (g : ∃ N, f_HM_readExpression_20 (n : Int) T W N x1 t a1 a2 a3 a4 a5 a6 a7 (p : Int) a9 a10 f1 f2 f3 f4 = some o) : (CMV pl pd = 1 ∧ EX T n W x1 qs rs o 2 i c p pd b op ar pl pa) ∨ (CMV pl pd = 0 ∧ (∀ q, ¬ TKC (tk i) q) ∧ FL qs o i) ∨
       (CMV pl pd = 0 ∧ ∃ q r, TKC (tk i) q ∧ i < m ∧ ST 5 pl pa c pd op ar r ∧ ∀ (c' pd' : Nat) (op' ar' : Nat → Int), r = ((c' : Int), (pd' : Int), op', ar') → pd' ≤ 1000 → pd' < 400 ∧ EX T n W x1 qs rs o 1 (i + 1) c' p (pd' + 1) b op' ar' (zu pl pd' q) (zu pa pd' 0)) := by
  have tr := (tk_r (hL.2.2.2.2.1 i hi)).1
  unfold f_HM_behindSum_149 at h
  obtain ⟨v1, e1, h⟩ := xz_d1 h
  have g1 := x_cmp hP hpd e1
  rcases CMV_r pl pd with hz | hz
  · rw [hz] at g1
    subst g1
    refine Or.inr ?_
    replace h := xp_t (by decide +kernel) h
    obtain ⟨v2, e2, h⟩ := xz_d1 h
    rcases x_sign hL hi (by decide) e2 with ⟨q1, q2⟩ | ⟨q1, q2⟩
    · subst q1
      replace h := xp_f (by decide +kernel) h
      have him := LEX_lt hL hi (by omega)
      unfold f_HM_behindSum_188 at h
      replace h := xp_t (by decide +kernel) h
      unfold f_HM_behindSum_205 at h
      obtain ⟨r, g2, g3⟩ := r_cmp1 hL hi hc hp hpd hb hx hP him h g
      exact Or.inr ⟨hz, 24, r, Or.inl ⟨q2, rfl⟩, him, g2, g3⟩
    · subst q1
      replace h := xp_t (by decide +kernel) h
      obtain ⟨v3, e3, h⟩ := xz_d1 h
      rcases x_sign hL hi (by decide) e3 with ⟨q3, q4⟩ | ⟨q3, q4⟩
      · subst q3
        replace h := xp_f (by decide +kernel) h
        have him := LEX_lt hL hi (by omega)
        unfold f_HM_behindSum_188 at h
        replace h := xp_t (by decide +kernel) h
        unfold f_HM_behindSum_205 at h
        obtain ⟨r, g2, g3⟩ := r_cmp1 hL hi hc hp hpd hb hx hP him h g
        exact Or.inr ⟨hz, 25, r, Or.inr (Or.inl ⟨q4, rfl⟩), him, g2, g3⟩
      · subst q3
        replace h := xp_t (by decide +kernel) h
        unfold f_HM_behindSum_188 at h
        replace h := xp_f (by decide +kernel) h
        obtain ⟨v4, e4, h⟩ := xz_d1 h
        rcases x_sign hL hi (by decide) e4 with ⟨q5, q6⟩ | ⟨q5, q6⟩
        · subst q5
          replace h := xp_f (by decide +kernel) h
          have him := LEX_lt hL hi (by omega)
          unfold f_HM_behindSum_205 at h
          obtain ⟨r, g2, g3⟩ := r_cmp1 hL hi hc hp hpd hb hx hP him h g
          exact Or.inr ⟨hz, 26, r, Or.inr (Or.inr ⟨q6, rfl⟩), him, g2, g3⟩
        · subst q5
          replace h := xp_t (by decide +kernel) h
          refine Or.inl ⟨hz, fun q z => ?_, r_cmp0 hL hi hc hp hpd hb hx hP h g⟩
          unfold TKC at z
          omega
  · rw [hz] at g1
    subst g1
    replace h := xp_f (by decide +kernel) h
    cases h
    exact Or.inl ⟨hz, g⟩
theorem INV_r {pl : Nat → Int} : ∀ k, PLR pl k → INVb pl k = -1 ∨ INVb pl k = 30 ∨ INVb pl k = 31 := by
  intro k
  induction k with
  | zero => intro _; exact Or.inl rfl
  | succ k ih =>
    intro h
    have r := h k (by omega)
    show (if 30 ≤ pl k then pl k else INVb pl k) = -1 ∨ (if 30 ≤ pl k then pl k else INVb pl k) = 30 ∨ (if 30 ≤ pl k then pl k else INVb pl k) = 31
    by_cases c : 30 ≤ pl k
    · rw [if_pos c]; omega
    · rw [if_neg c]; exact ih (fun j hj => h j (by omega))
theorem r_sum57 {T : Nat → Int} {n m : Nat} {qs rs : Nat → Nat} {tk vl W : Nat → Int} {x1 : Int} {o : OX} (hL : LEX T n m qs rs tk vl) {i c p pd b : Nat} {op ar pl pa : Nat → Int} {t a1 a2 a3 a4 a5 a6 a7 a9 a10 : Int} {f1 f2 f3 f4 : Nat → Int} (hi : i ≤ m) (hc : c ≤ 1000) (hp : p ≤ 50) (hpd : pd ≤ 400) (hb : b ≤ 8) (hx : x1 = 0 ∨ x1 = 1) (hP : PLR pl pd)
    (h : f_HM_behindSum_57 (n : Int) T x1 (-1) (qs i : Int) (rs i : Int) (SO T n (qs i)) (WO T n (qs i) (rs i)) (-1) 0 (c : Int) (pd : Int) (b : Int) op ar pl pa = some (t, a1, a2, a3, a4, a5, a6, a7, a9, a10, f1, f2, f3, f4)) (g : ∃ N, f_HM_readExpression_20 (n : Int) T W N x1 t a1 a2 a3 a4 a5 a6 a7 (p : Int) a9 a10 f1 f2 f3 f4 = some o) : ((INVb pl pd = 31 ∧ tk i ≠ 93 ∧ FL qs o i) ∨
       (INVb pl pd = 31 ∧ tk i = 93 ∧ i < m ∧ ∃ r, ST 5 pl pa c pd op ar r ∧ ∀ (c' pd' b' : Nat) (op' ar' : Nat → Int), r = ((c' : Int), ((pd' + 1 : Nat) : Int), op', ar') → b = b' + 1 → EX T n W x1 qs rs o 3 (i + 1) c' p pd' b' op' ar' pl pa) ∨
       (INVb pl pd = -1 ∧ x1 = 0 ∧ EX T n W x1 qs rs o 4 i c p pd b op ar pl pa) ∨
       (INVb pl pd ≠ 31 ∧ (INVb pl pd ≠ -1 ∨ x1 ≠ 0) ∧ CMV pl pd = 1 ∧ EX T n W x1 qs rs o 2 i c p pd b op ar pl pa) ∨
       (INVb pl pd ≠ 31 ∧ (INVb pl pd ≠ -1 ∨ x1 ≠ 0) ∧ CMV pl pd = 0 ∧ (∀ q, ¬ TKC (tk i) q) ∧ FL qs o i) ∨
       (INVb pl pd ≠ 31 ∧ (INVb pl pd ≠ -1 ∨ x1 ≠ 0) ∧ CMV pl pd = 0 ∧ ∃ q r, TKC (tk i) q ∧ i < m ∧ ST 5 pl pa c pd op ar r ∧ ∀ (c' pd' : Nat) (op' ar' : Nat → Int), r = ((c' : Int), (pd' : Int), op', ar') → pd' ≤ 1000 → pd' < 400 ∧ EX T n W x1 qs rs o 1 (i + 1) c' p (pd' + 1) b op' ar' (zu pl pd' q) (zu pa pd' 0))) := by
  unfold f_HM_behindSum_57 at h
  replace h := xp_t (by decide +kernel) h
  obtain ⟨v1, e1, h⟩ := xz_d1 h
  have g1 := x_inner hP hpd e1
  have ir := INV_r pd hP
  by_cases c1 : INVb pl pd = 31
  · rw [c1] at g1
    subst g1
    replace h := xp_f (by decide +kernel) h
    obtain ⟨v2, e2, h⟩ := xz_d1 h
    obtain ⟨v3, v4, v5, v6, v7, v8, e3, h⟩ := xz_d6 h
    rcases x_sign hL hi (by decide) e2 with ⟨q1, q2⟩ | ⟨q1, q2⟩
    · subst q1
      have him := LEX_lt hL hi (by omega)
      have g2 := x_must1 hL him e3
      cases g2
      replace h := xp_f (by decide +kernel) h
      obtain ⟨v9, v10, w11, w12, e4, h⟩ := xz_d4 h
      replace h := xp_n (xp_n h)
      refine Or.inr (Or.inl ⟨c1, q2, him, (v9, v10, w11, w12), ⟨zfu, by unfold f_HM_settle at e4; exact e4⟩, fun c' pd' b' op' ar' er eb => ?_⟩)
      cases er
      subst eb
      rw [show ((pd' + 1 : Nat) : Int) - 1 = (pd' : Int) from by omega, show ((b' + 1 : Nat) : Int) - 1 = (b' : Int) from by omega] at h
      cases h
      exact g
    · subst q1
      have g2 := x_must0 e3
      cases g2
      replace h := xp_t (by decide +kernel) h
      cases h
      obtain ⟨N, g⟩ := g
      exact Or.inl ⟨c1, q2, e_bad g⟩
  · subst g1
    rw [zwi (x := INVb pl pd) (by omega), zwi (x := 31) (by decide), zwi (x := -1) (by decide), if_pos c1] at h
    have fin : (INVb pl pd ≠ -1 ∨ x1 ≠ 0) → f_HM_behindSum_149 (n : Int) T (qs i : Int) (rs i : Int) (SO T n (qs i)) (WO T n (qs i) (rs i)) (-1) 0 (c : Int) (pd : Int) (b : Int) op ar pl pa = some (t, a1, a2, a3, a4, a5, a6, a7, a9, a10, f1, f2, f3, f4) → ((INVb pl pd = 31 ∧ tk i ≠ 93 ∧ FL qs o i) ∨
       (INVb pl pd = 31 ∧ tk i = 93 ∧ i < m ∧ ∃ r, ST 5 pl pa c pd op ar r ∧ ∀ (c' pd' b' : Nat) (op' ar' : Nat → Int), r = ((c' : Int), ((pd' + 1 : Nat) : Int), op', ar') → b = b' + 1 → EX T n W x1 qs rs o 3 (i + 1) c' p pd' b' op' ar' pl pa) ∨
       (INVb pl pd = -1 ∧ x1 = 0 ∧ EX T n W x1 qs rs o 4 i c p pd b op ar pl pa) ∨
       (INVb pl pd ≠ 31 ∧ (INVb pl pd ≠ -1 ∨ x1 ≠ 0) ∧ CMV pl pd = 1 ∧ EX T n W x1 qs rs o 2 i c p pd b op ar pl pa) ∨
       (INVb pl pd ≠ 31 ∧ (INVb pl pd ≠ -1 ∨ x1 ≠ 0) ∧ CMV pl pd = 0 ∧ (∀ q, ¬ TKC (tk i) q) ∧ FL qs o i) ∨
       (INVb pl pd ≠ 31 ∧ (INVb pl pd ≠ -1 ∨ x1 ≠ 0) ∧ CMV pl pd = 0 ∧ ∃ q r, TKC (tk i) q ∧ i < m ∧ ST 5 pl pa c pd op ar r ∧ ∀ (c' pd' : Nat) (op' ar' : Nat → Int), r = ((c' : Int), (pd' : Int), op', ar') → pd' ≤ 1000 → pd' < 400 ∧ EX T n W x1 qs rs o 1 (i + 1) c' p (pd' + 1) b op' ar' (zu pl pd' q) (zu pa pd' 0))) := fun hne hh => by
      rcases r_test hL hi hc hp hpd hb hx hP hh g with z | z | z
      · exact Or.inr (Or.inr (Or.inr (Or.inl ⟨c1, hne, z⟩)))
      · exact Or.inr (Or.inr (Or.inr (Or.inr (Or.inl ⟨c1, hne, z⟩))))
      · exact Or.inr (Or.inr (Or.inr (Or.inr (Or.inr ⟨c1, hne, z⟩))))
    by_cases c2 : INVb pl pd = -1
    · rw [if_neg (fun z => z c2)] at h
      rcases hx with hx0 | hx0
      · subst hx0
        replace h := xp_f (by decide +kernel) h
        cases h
        exact Or.inr (Or.inr (Or.inl ⟨c2, rfl, g⟩))
      · subst hx0
        replace h := xp_t (by decide +kernel) h
        exact fin (Or.inr (by decide)) h
    · rw [if_pos c2] at h
      exact fin (Or.inl c2) h
theorem r_sumop {T : Nat → Int} {n m : Nat} {qs rs : Nat → Nat} {tk vl W : Nat → Int} {x1 : Int} {o : OX} (hL : LEX T n m qs rs tk vl) {i c p pd b : Nat} {op ar pl pa : Nat → Int} {t a1 a2 a3 a4 a5 a6 a7 a9 a10 : Int} {f1 f2 f3 f4 : Nat → Int} (hi : i ≤ m) (hc : c ≤ 1000) (hp : p ≤ 50) (hpd : pd ≤ 400) (hb : b ≤ 8) {q : Int} (hq : 20 ≤ q ∧ q ≤ 23) (him : i < m)
    (h : f_HM_behindSum_57 (n : Int) T x1 q (qs i : Int) (rs i : Int) (SO T n (qs i)) (WO T n (qs i) (rs i)) (-1) 0 (c : Int) (pd : Int) (b : Int) op ar pl pa = some (t, a1, a2, a3, a4, a5, a6, a7, a9, a10, f1, f2, f3, f4)) (g : ∃ N, f_HM_readExpression_20 (n : Int) T W N x1 t a1 a2 a3 a4 a5 a6 a7 (p : Int) a9 a10 f1 f2 f3 f4 = some o) : ∃ r, ST (BDS q) pl pa c pd op ar r ∧ ∀ (c' pd' : Nat) (op' ar' : Nat → Int), r = ((c' : Int), (pd' : Int), op', ar') → pd' ≤ 1000 → pd' < 400 ∧ EX T n W x1 qs rs o 1 (i + 1) c' p (pd' + 1) b op' ar' (zu pl pd' q) (zu pa pd' 0) := by
  unfold f_HM_behindSum_57 at h
  rw [zwi (x := q) (by omega), zwi (x := -1) (by decide), if_neg (by omega)] at h
  obtain ⟨v15, e1, h⟩ := xz_d1 h
  have g1 := x_binds (by omega) e1
  subst g1
  obtain ⟨v16, v17, w18, w19, e2, h⟩ := xz_d4 h
  obtain ⟨v20, w21, w22, e3, h⟩ := xz_d3 h
  obtain ⟨v23, v24, v25, v26, e4, h⟩ := xz_d4 h
  have g2 := x_next hL him e4
  cases g2
  refine ⟨(v16, v17, w18, w19), ⟨zfu, by unfold f_HM_settle at e2; exact e2⟩, fun c' pd' op' ar' er h1 => ?_⟩
  cases er
  obtain ⟨g2, g3⟩ := x_push h1 e3
  cases g3
  cases h
  exact ⟨g2, g⟩
theorem e_sum {T : Nat → Int} {n m : Nat} {qs rs : Nat → Nat} {tk vl W : Nat → Int} {x1 : Int} {o : OX} (hL : LEX T n m qs rs tk vl) {i c p pd b : Nat} {op ar pl pa : Nat → Int} (hi : i ≤ m) (hc : c ≤ 1000) (hp : p ≤ 50) (hpd : pd ≤ 400) (hb : b ≤ 8) (hx : x1 = 0 ∨ x1 = 1) (hP : PLR pl pd) (h : EX T n W x1 qs rs o 3 i c p pd b op ar pl pa) :
    (∃ q r, TKO (tk i) q ∧ i < m ∧ ST (BDS q) pl pa c pd op ar r ∧ ∀ (c' pd' : Nat) (op' ar' : Nat → Int), r = ((c' : Int), (pd' : Int), op', ar') → pd' ≤ 1000 → pd' < 400 ∧ EX T n W x1 qs rs o 1 (i + 1) c' p (pd' + 1) b op' ar' (zu pl pd' q) (zu pa pd' 0)) ∨
    (NOP (tk i) ∧
      ((INVb pl pd = 31 ∧ tk i ≠ 93 ∧ FL qs o i) ∨
       (INVb pl pd = 31 ∧ tk i = 93 ∧ i < m ∧ ∃ r, ST 5 pl pa c pd op ar r ∧ ∀ (c' pd' b' : Nat) (op' ar' : Nat → Int), r = ((c' : Int), ((pd' + 1 : Nat) : Int), op', ar') → b = b' + 1 → EX T n W x1 qs rs o 3 (i + 1) c' p pd' b' op' ar' pl pa) ∨
       (INVb pl pd = -1 ∧ x1 = 0 ∧ EX T n W x1 qs rs o 4 i c p pd b op ar pl pa) ∨
       (INVb pl pd ≠ 31 ∧ (INVb pl pd ≠ -1 ∨ x1 ≠ 0) ∧ CMV pl pd = 1 ∧ EX T n W x1 qs rs o 2 i c p pd b op ar pl pa) ∨
       (INVb pl pd ≠ 31 ∧ (INVb pl pd ≠ -1 ∨ x1 ≠ 0) ∧ CMV pl pd = 0 ∧ (∀ q, ¬ TKC (tk i) q) ∧ FL qs o i) ∨
       (INVb pl pd ≠ 31 ∧ (INVb pl pd ≠ -1 ∨ x1 ≠ 0) ∧ CMV pl pd = 0 ∧ ∃ q r, TKC (tk i) q ∧ i < m ∧ ST 5 pl pa c pd op ar r ∧ ∀ (c' pd' : Nat) (op' ar' : Nat → Int), r = ((c' : Int), (pd' : Int), op', ar') → pd' ≤ 1000 → pd' < 400 ∧ EX T n W x1 qs rs o 1 (i + 1) c' p (pd' + 1) b op' ar' (zu pl pd' q) (zu pa pd' 0)))) := by
  obtain ⟨N, h⟩ := h
  cases N with
  | zero => exact nomatch h
  | succ N =>
    replace h : f_HM_readExpression_20_b (n : Int) T W (f_HM_readExpression_20 (n : Int) T W N) x1 3 (qs i : Int) (rs i : Int) (SO T n (qs i)) (WO T n (qs i) (rs i)) (-1) 0 (c : Int) (p : Int) (pd : Int) (b : Int) op ar pl pa = some o := h
    unfold f_HM_readExpression_20_b at h
    replace h := xp_f (by decide +kernel) (xp_f (by decide +kernel) h)
    replace h := xp_f (by decide +kernel) (xp_t (by decide +kernel) (xp_t (by decide +kernel) h))
    obtain ⟨t, a1, a2, a3, a4, a5, a6, a7, a9, a10, f1, f2, f3, f4, e1, h⟩ := xz_d14 h
    unfold f_HM_readExpression_72 at h
    unfold f_HM_behindSum at e1
    obtain ⟨u0, d0, e1⟩ := xz_d1 e1
    rcases x_sign hL hi (by decide) d0 with ⟨q1, z0⟩ | ⟨q1, z0⟩
    · subst q1
      replace e1 := xp_f (by decide +kernel) e1
      have him := LEX_lt hL hi (by omega)
      obtain ⟨r, g2, g3⟩ := r_sumop hL hi hc hp hpd hb (by decide) him e1 ⟨N, h⟩
      exact Or.inl ⟨20, r, by unfold TKO; omega, him, g2, g3⟩
    · subst q1
      replace e1 := xp_t (by decide +kernel) e1
      obtain ⟨u1, d1, e1⟩ := xz_d1 e1
      rcases x_sign hL hi (by decide) d1 with ⟨q1, z1⟩ | ⟨q1, z1⟩
      · subst q1
        replace e1 := xp_f (by decide +kernel) e1
        have him := LEX_lt hL hi (by omega)
        obtain ⟨r, g2, g3⟩ := r_sumop hL hi hc hp hpd hb (by decide) him e1 ⟨N, h⟩
        exact Or.inl ⟨21, r, by unfold TKO; omega, him, g2, g3⟩
      · subst q1
        replace e1 := xp_t (by decide +kernel) e1
        obtain ⟨u2, d2, e1⟩ := xz_d1 e1
        rcases x_sign hL hi (by decide) d2 with ⟨q1, z2⟩ | ⟨q1, z2⟩
        · subst q1
          replace e1 := xp_f (by decide +kernel) e1
          have him := LEX_lt hL hi (by omega)
          obtain ⟨r, g2, g3⟩ := r_sumop hL hi hc hp hpd hb (by decide) him e1 ⟨N, h⟩
          exact Or.inl ⟨22, r, by unfold TKO; omega, him, g2, g3⟩
        · subst q1
          replace e1 := xp_t (by decide +kernel) e1
          obtain ⟨u3, d3, e1⟩ := xz_d1 e1
          rcases x_sign hL hi (by decide) d3 with ⟨q1, z3⟩ | ⟨q1, z3⟩
          · subst q1
            replace e1 := xp_f (by decide +kernel) e1
            have him := LEX_lt hL hi (by omega)
            obtain ⟨r, g2, g3⟩ := r_sumop hL hi hc hp hpd hb (by decide) him e1 ⟨N, h⟩
            exact Or.inl ⟨23, r, by unfold TKO; omega, him, g2, g3⟩
          · subst q1
            replace e1 := xp_t (by decide +kernel) e1
            exact Or.inr ⟨⟨z0, z1, z2, z3⟩, r_sum57 hL hi hc hp hpd hb hx hP e1 ⟨N, h⟩⟩
end
section
theorem r_and {T : Nat → Int} {n m : Nat} {qs rs : Nat → Nat} {tk vl W : Nat → Int} {x1 : Int} {o : OX} (hL : LEX T n m qs rs tk vl) {i c p pd b : Nat} {op ar pl pa : Nat → Int} {t a1 a2 a3 a4 a5 a6 a7 a9 a10 : Int} {f1 f2 f3 f4 : Nat → Int} (hi : i ≤ m) (hc : c ≤ 1000) (hp : p ≤ 50) (hpd : pd ≤ 400) (hb : b ≤ 8) (him : i < m) (h : f_HM_behindTest_22 (n : Int) T 1 (qs i : Int) (rs i : Int) (SO T n (qs i)) (WO T n (qs i) (rs i)) (-1) 0 (c : Int) (pd : Int) (b : Int) op ar pl pa = some (t, a1, a2, a3, a4, a5, a6, a7, a9, a10, f1, f2, f3, f4)) (g : ∃ N, f_HM_readExpression_20 (n : Int) T W N x1 t a1 a2 a3 a4 a5 a6 a7 (p : Int) a9 a10 f1 f2 f3 f4 = some o) : ∃ r, ST 2 pl pa c pd op ar r ∧ ∀ (c' pd' : Nat) (op' ar' : Nat → Int), r = ((c' : Int), (pd' : Int), op', ar') → c' ≤ 1000 → pd' ≤ 1000 → c' < 400 ∧ pd' < 400 ∧ EX T n W x1 qs rs o 0 (i + 1) (c' + 1) p (pd' + 1) b (zu op' c' 28) (zu ar' c' 0) (zu pl pd' 28) (zu pa pd' (c' : Int)) := by
  unfold f_HM_behindTest_22 at h
  replace h := xp_f (by decide +kernel) h
  unfold f_HM_behindTest_32 at h
  obtain ⟨v1, v2, w3, w4, e1, h⟩ := xz_d4 h
  replace h := xp_f (by decide +kernel) h
  unfold f_HM_behindTest_47 at h
  obtain ⟨v5, w6, w7, e2, h⟩ := xz_d3 h
  replace h := xp_f (by decide +kernel) h
  unfold f_HM_behindTest_66 at h
  obtain ⟨v8, w9, w10, e3, h⟩ := xz_d3 h
  obtain ⟨v11, v12, v13, v14, e4, h⟩ := xz_d4 h
  have g2 := x_next hL him e4
  cases g2
  refine ⟨(v1, v2, w3, w4), ⟨zfu, by unfold f_HM_settle at e1; exact e1⟩, fun c' pd' op' ar' er h1 h2 => ?_⟩
  cases er
  obtain ⟨g3, g4⟩ := x_push h2 e2
  cases g4
  obtain ⟨g5, g6⟩ := x_emit h1 e3
  cases g6
  cases h
  exact ⟨g5, g3, g⟩
theorem r_or {T : Nat → Int} {n m : Nat} {qs rs : Nat → Nat} {tk vl W : Nat → Int} {x1 : Int} {o : OX} (hL : LEX T n m qs rs tk vl) {i c p pd b : Nat} {op ar pl pa : Nat → Int} {t a1 a2 a3 a4 a5 a6 a7 a9 a10 : Int} {f1 f2 f3 f4 : Nat → Int} (hi : i ≤ m) (hc : c ≤ 1000) (hp : p ≤ 50) (hpd : pd ≤ 400) (hb : b ≤ 8) (him : i < m) (h : f_HM_behindTest_22 (n : Int) T 0 (qs i : Int) (rs i : Int) (SO T n (qs i)) (WO T n (qs i) (rs i)) (-1) 0 (c : Int) (pd : Int) (b : Int) op ar pl pa = some (t, a1, a2, a3, a4, a5, a6, a7, a9, a10, f1, f2, f3, f4)) (g : ∃ N, f_HM_readExpression_20 (n : Int) T W N x1 t a1 a2 a3 a4 a5 a6 a7 (p : Int) a9 a10 f1 f2 f3 f4 = some o) : ∃ r, ST 1 pl pa c pd op ar r ∧ ∀ (c' pd' : Nat) (op' ar' : Nat → Int), r = ((c' : Int), (pd' : Int), op', ar') → c' ≤ 1000 → pd' ≤ 1000 → c' < 400 ∧ pd' < 400 ∧ EX T n W x1 qs rs o 0 (i + 1) (c' + 1) p (pd' + 1) b (zu op' c' 29) (zu ar' c' 0) (zu pl pd' 29) (zu pa pd' (c' : Int)) := by
  unfold f_HM_behindTest_22 at h
  replace h := xp_t (by decide +kernel) h
  unfold f_HM_behindTest_32 at h
  obtain ⟨v1, v2, w3, w4, e1, h⟩ := xz_d4 h
  replace h := xp_t (by decide +kernel) h
  unfold f_HM_behindTest_47 at h
  obtain ⟨v5, w6, w7, e2, h⟩ := xz_d3 h
  replace h := xp_t (by decide +kernel) h
  unfold f_HM_behindTest_66 at h
  obtain ⟨v8, w9, w10, e3, h⟩ := xz_d3 h
  obtain ⟨v11, v12, v13, v14, e4, h⟩ := xz_d4 h
  have g2 := x_next hL him e4
  cases g2
  refine ⟨(v1, v2, w3, w4), ⟨zfu, by unfold f_HM_settle at e1; exact e1⟩, fun c' pd' op' ar' er h1 h2 => ?_⟩
  cases er
  obtain ⟨g3, g4⟩ := x_push h2 e2
  cases g4
  obtain ⟨g5, g6⟩ := x_emit h1 e3
  cases g6
  cases h
  exact ⟨g5, g3, g⟩
theorem e_test {T : Nat → Int} {n m : Nat} {qs rs : Nat → Nat} {tk vl W : Nat → Int} {x1 : Int} {o : OX} (hL : LEX T n m qs rs tk vl) {i c p pd b : Nat} {op ar pl pa : Nat → Int} (hi : i ≤ m) (hc : c ≤ 1000) (hp : p ≤ 50) (hpd : pd ≤ 400) (hb : b ≤ 8) (hP : PLR pl pd) (h : EX T n W x1 qs rs o 2 i c p pd b op ar pl pa) :
    (tk i = 264 ∧ i < m ∧ ∃ r, ST 2 pl pa c pd op ar r ∧ ∀ (c' pd' : Nat) (op' ar' : Nat → Int), r = ((c' : Int), (pd' : Int), op', ar') → c' ≤ 1000 → pd' ≤ 1000 → c' < 400 ∧ pd' < 400 ∧ EX T n W x1 qs rs o 0 (i + 1) (c' + 1) p (pd' + 1) b (zu op' c' 28) (zu ar' c' 0) (zu pl pd' 28) (zu pa pd' (c' : Int))) ∨
    (tk i = 263 ∧ i < m ∧ ∃ r, ST 1 pl pa c pd op ar r ∧ ∀ (c' pd' : Nat) (op' ar' : Nat → Int), r = ((c' : Int), (pd' : Int), op', ar') → c' ≤ 1000 → pd' ≤ 1000 → c' < 400 ∧ pd' < 400 ∧ EX T n W x1 qs rs o 0 (i + 1) (c' + 1) p (pd' + 1) b (zu op' c' 29) (zu ar' c' 0) (zu pl pd' 29) (zu pa pd' (c' : Int))) ∨
    ((tk i ≠ 264 ∧ tk i ≠ 263) ∧ ((INVb pl pd = -1 ∧ EX T n W x1 qs rs o 4 i c p pd b op ar pl pa) ∨ (INVb pl pd ≠ -1 ∧ tk i ≠ 41 ∧ FL qs o i) ∨
      (INVb pl pd ≠ -1 ∧ tk i = 41 ∧ i < m ∧ ∃ r, ST 1 pl pa c pd op ar r ∧ ∀ (c' pd' b' : Nat) (op' ar' : Nat → Int), r = ((c' : Int), ((pd' + 1 : Nat) : Int), op', ar') → b = b' + 1 → EX T n W x1 qs rs o 2 (i + 1) c' p pd' b' op' ar' pl pa))) := by
  obtain ⟨N, h⟩ := h
  cases N with
  | zero => exact nomatch h
  | succ N =>
    replace h : f_HM_readExpression_20_b (n : Int) T W (f_HM_readExpression_20 (n : Int) T W N) x1 2 (qs i : Int) (rs i : Int) (SO T n (qs i)) (WO T n (qs i) (rs i)) (-1) 0 (c : Int) (p : Int) (pd : Int) (b : Int) op ar pl pa = some o := h
    unfold f_HM_readExpression_20_b at h
    replace h := xp_f (by decide +kernel) (xp_f (by decide +kernel) h)
    replace h := xp_t (by decide +kernel) (xp_t (by decide +kernel) (xp_t (by decide +kernel) h))
    obtain ⟨t, a1, a2, a3, a4, a5, a6, a7, a9, a10, f1, f2, f3, f4, e1, h⟩ := xz_d14 h
    unfold f_HM_readExpression_72 at h
    unfold f_HM_behindTest at e1
    obtain ⟨v1, e2, e1⟩ := xz_d1 e1
    rcases x_word hL hi 12 (by decide) (by rfl) e2 with ⟨q1, q2⟩ | ⟨q1, q2⟩
    · subst q1
      replace e1 := xp_t (by decide +kernel) e1
      have him := LEX_lt hL hi (by omega)
      exact Or.inl ⟨by omega, him, r_and hL hi hc hp hpd hb him e1 ⟨N, h⟩⟩
    · subst q1
      replace e1 := xp_f (by decide +kernel) e1
      obtain ⟨v2, e3, e1⟩ := xz_d1 e1
      rcases x_word hL hi 11 (by decide) (by rfl) e3 with ⟨q3, q4⟩ | ⟨q3, q4⟩
      · subst q3
        replace e1 := xp_f (by decide +kernel) e1
        have him := LEX_lt hL hi (by omega)
        exact Or.inr (Or.inl ⟨by omega, him, r_or hL hi hc hp hpd hb him e1 ⟨N, h⟩⟩)
      · subst q3
        replace e1 := xp_t (by decide +kernel) e1
        refine Or.inr (Or.inr ⟨⟨by omega, by omega⟩, ?_⟩)
        obtain ⟨v3, e4, e1⟩ := xz_d1 e1
        have g1 := x_inner hP hpd e4
        have ir := INV_r pd hP
        subst g1
        rw [zwi (x := INVb pl pd) (by omega), zwi (x := -1) (by decide)] at e1
        by_cases c2 : INVb pl pd = -1
        · rw [if_neg (fun z => z c2)] at e1
          cases e1
          exact Or.inl ⟨c2, N, h⟩
        · rw [if_pos c2] at e1
          obtain ⟨v4, e5, e1⟩ := xz_d1 e1
          obtain ⟨u5, u6, u7, u8, u9, u10, e6, e1⟩ := xz_d6 e1
          rcases x_sign hL hi (by decide) e5 with ⟨q5, q6⟩ | ⟨q5, q6⟩
          · subst q5
            have him := LEX_lt hL hi (by omega)
            have g2 := x_must1 hL him e6
            cases g2
            replace e1 := xp_f (by decide +kernel) e1
            obtain ⟨u11, u12, w13, w14, e7, e1⟩ := xz_d4 e1
            replace e1 := xp_n (xp_n e1)
            refine Or.inr (Or.inr ⟨c2, q6, him, (u11, u12, w13, w14), ⟨zfu, by unfold f_HM_settle at e7; exact e7⟩, fun c' pd' b' op' ar' er eb => ?_⟩)
            cases er
            subst eb
            rw [show ((pd' + 1 : Nat) : Int) - 1 = (pd' : Int) from by omega, show ((b' + 1 : Nat) : Int) - 1 = (b' : Int) from by omega] at e1
            cases e1
            exact ⟨N, h⟩
          · subst q5
            have g2 := x_must0 e6
            cases g2
            replace e1 := xp_t (by decide +kernel) e1
            cases e1
            exact Or.inr (Or.inl ⟨c2, q6, e_bad h⟩)
theorem e_over {T : Nat → Int} {n : Nat} {qs rs : Nat → Nat} {W : Nat → Int} {x1 : Int} {o : OX} {i c p pd b : Nat} {op ar pl pa : Nat → Int} (h : EX T n W x1 qs rs o 4 i c p pd b op ar pl pa) : ∃ (r1 r2 : Int) (r3 r4 : Nat → Int), ST 1 pl pa c pd op ar (r1, r2, r3, r4) ∧ o = ((qs i : Int), (rs i : Int), SO T n (qs i), WO T n (qs i) (rs i), -1, 0, r1, (p : Int), r2, (b : Int), r3, r4, pl, pa) := by
  obtain ⟨N, h⟩ := h
  cases N with
  | zero => exact nomatch h
  | succ N =>
    replace h : f_HM_readExpression_20_b (n : Int) T W (f_HM_readExpression_20 (n : Int) T W N) x1 4 (qs i : Int) (rs i : Int) (SO T n (qs i)) (WO T n (qs i) (rs i)) (-1) 0 (c : Int) (p : Int) (pd : Int) (b : Int) op ar pl pa = some o := h
    unfold f_HM_readExpression_20_b at h
    replace h := xp_t (by decide +kernel) (xp_f (by decide +kernel) h)
    unfold f_HM_readExpression_76 at h
    obtain ⟨v1, v2, w3, w4, e1, h⟩ := xz_d4 h
    cases h
    exact ⟨v1, v2, w3, w4, ⟨zfu, by unfold f_HM_settle at e1; exact e1⟩, rfl⟩
/-! the pile above a context -/
theorem PIL_agr {pl pl' : Nat → Int} {pd : Nat} : ∀ l : List Int, AGR pl pl' (pd + l.length) → PIL pl pd l → PIL pl' pd l := by
  intro l
  induction l with
  | nil => intro _ _; trivial
  | cons a l ih =>
    intro h g
    rw [List.length_cons] at h
    exact ⟨by rw [h (pd + l.length) (by omega)]; exact g.1, ih (fun j hj => h j (by omega)) g.2⟩
theorem INV_pend {pl : Nat → Int} {pd : Nat} : ∀ l : List Int, AR4 l → PIL pl pd l → INVb pl (pd + l.length) = INVb pl pd := by
  intro l
  induction l with
  | nil => intro _ _; rfl
  | cons a l ih =>
    intro h g
    have ha := h a List.mem_cons_self
    have e := ih (fun x hx => h x (List.mem_cons_of_mem _ hx)) g.2
    show (if 30 ≤ pl (pd + l.length) then pl (pd + l.length) else INVb pl (pd + l.length)) = INVb pl pd
    rw [g.1, if_neg (by omega), e]
theorem CMV_pend {pl : Nat → Int} {pd : Nat} : ∀ l : List Int, AR4 l → PIL pl pd l → CMV pl (pd + l.length) = CMV pl pd := by
  intro l
  induction l with
  | nil => intro _ _; rfl
  | cons a l ih =>
    intro h g
    have ha := h a List.mem_cons_self
    have e := ih (fun x hx => h x (List.mem_cons_of_mem _ hx)) g.2
    show (if 20 ≤ pl (pd + l.length) ∧ pl (pd + l.length) ≤ 23 then CMV pl (pd + l.length) else if 24 ≤ pl (pd + l.length) ∧ pl (pd + l.length) ≤ 26 then 1 else 0) = CMV pl pd
    rw [g.1, if_pos ha, e]
theorem PLR_pend {pl : Nat → Int} {pd : Nat} (hP : PLR pl pd) : ∀ l : List Int, AR4 l → PIL pl pd l → PLR pl (pd + l.length) := by
  intro l
  induction l with
  | nil => intro _ _; exact hP
  | cons a l ih =>
    intro h g k hk
    have ha := h a List.mem_cons_self
    have e := ih (fun x hx => h x (List.mem_cons_of_mem _ hx)) g.2
    rw [List.length_cons] at hk
    rcases Nat.lt_or_ge k (pd + l.length) with q | q
    · exact e k q
    · rw [show k = pd + l.length from by omega, g.1]; omega
theorem PLR_agr {pl pl' : Nat → Int} {pd : Nat} (h : PLR pl pd) (g : AGR pl pl' pd) : PLR pl' pd := fun k hk => by rw [g k hk]; exact h k hk
theorem PLR_u {pl : Nat → Int} {pd : Nat} {x : Int} (h : PLR pl pd) (hx : 20 ≤ x ∧ x ≤ 31) : PLR (zu pl pd x) (pd + 1) := fun k hk => by
  rcases Nat.lt_or_ge k pd with q | q
  · rw [zu_ne _ _ (by omega)]; exact h k q
  · rw [show k = pd from by omega, zu_eq]; exact hx
theorem AGR_w {f g : Nat → Int} {k l : Nat} (h : AGR f g l) (hk : k ≤ l) : AGR f g k := fun j hj => h j (by omega)
noncomputable def PPart (T : Nat → Int) (n m : Nat) (qs rs : Nat → Nat) (tk vl W : Nat → Int) (x1 : Int) (o : OX) (f : Int → (Nat → Int) → (Nat → Int) → Int → Int → Int → (Nat → Int) → Option (Int × Int × Int × Int × (Nat → Int))) : Prop :=
  ∀ (b s i p : Nat) (O : Nat → Int) (v : Int × Int × Int × Int × (Nat → Int)), b ≤ 8 → 1 ≤ i → i ≤ m → s ≤ i + 23 → p ≤ 50 → f (b : Int) tk vl (s : Int) (i : Int) (p : Int) O = some v →
  ∀ (c pd : Nat) (op ar pl pa : Nat → Int), c ≤ 400 → pd ≤ 400 → PLR pl pd → EX T n W x1 qs rs o 1 i c p pd b op ar pl pa →
    (v.1 = 0 ∧ ∃ i' : Nat, i' ≤ m ∧ v.2.2.1 = (i' : Int) ∧ FL qs o i') ∨
    ∃ (s' i' p' c' : Nat) (O' op' ar' pl' pa' : Nat → Int) (ν : LNu), v = (1, (s' : Int), (i' : Int), (p' : Int), O') ∧ (i < i' ∧ i' ≤ m ∧ p' ≤ 50 ∧ s' + i ≤ s + i' ∧ c' ≤ 400) ∧ LEN ν 1 ∧ CSg O O' s s' (17 - 2 * b) ν ∧ RSg op ar op' ar' c c' (17 - 2 * b) ν ∧ AGR pl pl' pd ∧ AGR pa pa' pd ∧ EX T n W x1 qs rs o 3 i' c' p' pd b op' ar' pl' pa'
noncomputable def PSum (T : Nat → Int) (n m : Nat) (qs rs : Nat → Nat) (tk vl W : Nat → Int) (x1 : Int) (o : OX) (f : Int → (Nat → Int) → (Nat → Int) → Int → Int → Int → (Nat → Int) → Option (Int × Int × Int × Int × (Nat → Int))) : Prop :=
  ∀ (b s i p : Nat) (O : Nat → Int) (v : Int × Int × Int × Int × (Nat → Int)), b ≤ 8 → 1 ≤ i → i ≤ m → s ≤ i + 23 → p ≤ 50 → f (b : Int) tk vl (s : Int) (i : Int) (p : Int) O = some v →
  ∀ (c pd : Nat) (op ar pl pa : Nat → Int), c ≤ 400 → pd ≤ 400 → PLR pl pd → (pd = 0 ∨ 24 ≤ pl (pd - 1)) → EX T n W x1 qs rs o 1 i c p pd b op ar pl pa →
    (v.1 = 0 ∧ ∃ i' : Nat, i' ≤ m ∧ v.2.2.1 = (i' : Int) ∧ FL qs o i') ∨
    ∃ (s' i' p' c' : Nat) (O' op' ar' pl' pa' : Nat → Int) (ν : LNu) (l : List Int), v = (1, (s' : Int), (i' : Int), (p' : Int), O') ∧ (i < i' ∧ i' ≤ m ∧ p' ≤ 50 ∧ s' + i ≤ s + i' ∧ c' ≤ 400 ∧ l.length ≤ 2 ∧ pd + l.length ≤ 400) ∧ AR4 l ∧ PIL pl' pd l ∧ LEN ν (l.length + 1) ∧ CSg O O' s s' (19 - 2 * b) (VL l ν) ∧ RSg op ar op' ar' c c' (19 - 2 * b) ν ∧ AGR pl pl' pd ∧ AGR pa pa' pd ∧ NOP (tk i') ∧ EX T n W x1 qs rs o 3 i' c' p' (pd + l.length) b op' ar' pl' pa'
theorem BDS_hi {x : Int} (h : 24 ≤ x) : BDS x ≤ 4 := by
  unfold BDS
  split
  · split
    · decide
    · split
      · decide
      · split
        · decide
        · rw [if_neg (by omega)]; decide
  · decide
theorem p_125 {T : Nat → Int} {n m : Nat} {qs rs : Nat → Nat} {tk vl : Nat → Int} (hL : LEX T n m qs rs tk vl) {i : Nat} (hi : i < m) {k : Int} {s p : Nat} {O : Nat → Int} {v : Int × Int × Int × Int × (Nat → Int)} {f1 f2 : Int → (Nat → Int) → (Nat → Int) → Int → Int → Int → (Nat → Int) → Option (Int × Int × Int × Int × (Nat → Int))} (hs : s < 424) (hk : 0 ≤ k ∧ k < 16) (hv : 0 ≤ vl i ∧ vl i ≤ 5000) (h7 : tk i ≠ 257) (h : f_LawReader_readPart_125 f1 f2 tk vl k (s : Int) (i : Int) (p : Int) O = some v) : v = (1, ((s + 1 : Nat) : Int), ((i + 1 : Nat) : Int), (p : Int), zu O s (16 * vl i + k)) := by
  have hn := hL.2.1
  have hm := hL.2.2.1
  have hr := (tk_r (hL.2.2.2.2.1 i (by omega))).1
  unfold f_LawReader_readPart_125 at h
  replace h := (xp_g h).2
  rw [zwi (x := (i : Int)) (by omega), Int.toNat_natCast] at h
  obtain ⟨v2, v3, a4, e1, h⟩ := xz_d3 h
  have g1 := p_order hs hk hv e1
  cases g1
  replace h := p_tok hL (by omega) h
  obtain ⟨v6, v7, e2, h⟩ := xz_d2 h
  rcases p_pass hL (by omega) (by omega) h7 e2 with ⟨_, _, q⟩ | ⟨q, _⟩
  · cases q
    replace h := xp_f (by decide +kernel) h
    cases h
    rfl
  · exact absurd rfl q
theorem s_part {T : Nat → Int} {n m : Nat} {qs rs : Nat → Nat} {tk vl W : Nat → Int} {x1 : Int} {o : OX} (hL : LEX T n m qs rs tk vl) (hW : ∀ k : Nat, k < 8 → W k = zcd k) (hx : x1 = 0 ∨ x1 = 1) {fS fP : Int → (Nat → Int) → (Nat → Int) → Int → Int → Int → (Nat → Int) → Option (Int × Int × Int × Int × (Nat → Int))} (hS : PSum T n m qs rs tk vl W x1 o fS) : PPart T n m qs rs tk vl W x1 o (fb_LawReader_readPart fS fP) := by
  intro b s i p O v hb h1i hi hs hp h c pd op ar pl pa hc hpd hP hE
  have hn := hL.2.1
  have hm := hL.2.2.1
  have hr := tk_r (hL.2.2.2.2.1 i hi)
  have e := e_part hL hW hi (by omega) hp hpd hb hE
  unfold fb_LawReader_readPart at h
  replace h := p_tok hL hi h
  rw [zwi (x := tk i) (by omega), zwi (x := 91) (by decide)] at h
  by_cases c91 : tk i = 91
  · rw [if_neg (fun z => z c91), zwi (x := 8) (by decide), zwi (x := (b : Int)) (by omega)] at h
    rcases Nat.lt_or_ge b 8 with hb8 | hb8
    · rw [if_neg (by omega)] at h
      obtain ⟨v3, v4, e3, h⟩ := xz_d2 h
      rcases p_pass hL hi (by decide) (by decide) e3 with ⟨_, him, q2⟩ | ⟨q1, _⟩
      · cases q2
        replace h := xp_n (xp_f (by decide +kernel) h)
        obtain ⟨v6, v7, v8, v9, a10, e4, h⟩ := xz_d5 h
        have E1 : pd < 400 ∧ EX T n W x1 qs rs o 1 (i + 1) c p (pd + 1) (b + 1) op ar (zu pl pd 31) (zu pa pd 0) := by
          rcases e with e | e | ⟨w, _, e, _⟩ | ⟨e, _⟩
          · exact e.2.2.2
          · omega
          · omega
          · omega
        rcases hS (b + 1) s (i + 1) p O _ (by omega) (by omega) (by omega) (by omega) hp e4 c (pd + 1) op ar (zu pl pd 31) (zu pa pd 0) hc (by omega) (PLR_u hP (by decide)) (Or.inr (by rw [show pd + 1 - 1 = pd from by omega, zu_eq]; decide)) E1.2 with ⟨g1, i', g2, g3, g4⟩ | ⟨s', i', p', c', O', op', ar', pl', pa', ν, l, gv, gn, gA, gP, gL, gC, gR, ga, gb, gN, gE⟩
        · replace g1 : v6 = 0 := g1
          replace g3 : v8 = (i' : Int) := g3
          subst g1
          replace h := xp_t (by decide +kernel) h
          cases h
          exact Or.inl ⟨rfl, i', g2, g3, g4⟩
        · cases gv
          replace h := xp_f (by decide +kernel) h
          obtain ⟨v11, v12, e5, h⟩ := xz_d2 h
          have P1 : PLR pl' (pd + 1) := PLR_agr (PLR_u hP (by decide)) ga
          have I1 : INVb pl' (pd + 1) = 31 := by
            show (if 30 ≤ pl' pd then pl' pd else INVb pl' pd) = 31
            rw [ga pd (by omega), zu_eq, if_pos (by decide)]
          have I2 := INV_pend l gA gP
          rw [I1] at I2
          have eS := e_sum hL gn.2.1 (by omega) gn.2.2.1 (by omega) (by omega) hx (PLR_pend P1 l gA gP) gE
          rcases eS with ⟨q, r, q1, _⟩ | ⟨_, eS⟩
          · exfalso; unfold TKO at q1; unfold NOP at gN; omega
          · rcases eS with ⟨_, z1, z2⟩ | ⟨_, z1, z2, r, z3, z4⟩ | z | z | z | z
            · rcases p_pass hL gn.2.1 (by decide) (by decide) e5 with ⟨y, _⟩ | ⟨_, y⟩
              · exact absurd y z1
              · cases y
                replace h := xp_t (by decide +kernel) h
                cases h
                exact Or.inl ⟨rfl, i', gn.2.1, rfl, z2⟩
            · rcases p_pass hL gn.2.1 (by decide) (by decide) e5 with ⟨_, _, y⟩ | ⟨y, _⟩
              · cases y
                replace h := xp_f (by decide +kernel) h
                cases h
                obtain ⟨c2, op2, ar2, w1, w2, w3, w4⟩ := ST_arith (by decide) l c' op' ar' ν gA gP gR gL (by omega) (by omega) (by omega) z3
                have w5 := ST_stop (by omega) (by decide) P1 (Or.inr (by rw [show pd + 1 - 1 = pd from by omega, ga pd (by omega), zu_eq]; decide)) w4
                have w6 := z4 c2 pd b op2 ar2 w5 rfl
                refine Or.inr ⟨s', i' + 1, p', c2, _, op2, ar2, pl', pa', VL l ν, rfl, ⟨by omega, by omega, by omega, by omega, w1⟩, w3, CS_d gC (by omega), RS_d w2 (by omega), fun j hj => ?_, fun j hj => ?_, w6⟩
                · rw [ga j (by omega), zu_ne _ _ (by omega)]
                · rw [gb j (by omega), zu_ne _ _ (by omega)]
              · exact absurd z1 y
            · omega
            · omega
            · omega
            · omega
      · exact absurd c91 q1
    · rw [if_pos (by omega)] at h
      cases h
      rcases e with e | e | ⟨w, _, e, _⟩ | ⟨_, e⟩
      · omega
      · omega
      · omega
      · exact Or.inl ⟨rfl, i, hi, rfl, e⟩
  · rw [if_pos c91] at h
    replace h := p_tok hL hi h
    rw [zwi (x := tk i) (by omega), zwi (x := 258) (by decide)] at h
    by_cases c8 : tk i = 258
    · rw [if_neg (fun z => z c8)] at h
      unfold f_LawReader_readPart_74 at h
      replace h := xp_t (by decide +kernel) h
      unfold f_LawReader_readPart_94 at h
      rw [zwi (x := (p : Int)) (by omega), zwi (x := 50) (by decide)] at h
      rcases Nat.lt_or_ge p 50 with hp5 | hp5
      · rw [if_pos (by omega)] at h
        replace h := xp_f (by decide +kernel) (xp_n h)
        have him := LEX_lt hL hi (by omega)
        have g1 := p_125 (p := p + 1) hL him (by omega) (by decide) (by have := hr.2.2.1 c8; omega) (by omega) h
        rcases e with e | ⟨_, _, _, e1, e2, e3⟩ | ⟨w, _, e, _⟩ | ⟨e, _⟩
        · omega
        · exact Or.inr ⟨s + 1, i + 1, p + 1, c + 1, _, _, _, pl, pa, _, g1, ⟨by omega, by omega, by omega, by omega, by omega⟩, LEN_1, CS_d (CS_num e2) (by omega), RS_d (RS_num e2) (by omega), AGR_0, AGR_0, e3⟩
        · omega
        · omega
      · rw [if_neg (by omega)] at h
        cases h
        rcases e with e | e | ⟨w, _, e⟩ | ⟨_, e⟩
        · omega
        · omega
        · omega
        · exact Or.inl ⟨rfl, i, hi, rfl, e⟩
    · rw [if_pos c8] at h
      unfold f_LawReader_readPart_74 at h
      replace h := xp_f (by decide +kernel) h
      replace h := p_tok hL hi h
      rw [zwi (x := tk i) (by omega), zwi (x := 259) (by decide)] at h
      by_cases c9 : tk i = 259
      · rw [if_neg (fun z => z c9)] at h
        unfold f_LawReader_readPart_94 at h
        rw [zwi (x := (p : Int)) (by omega), zwi (x := 50) (by decide)] at h
        rcases Nat.lt_or_ge p 50 with hp5 | hp5
        · rw [if_pos (by omega)] at h
          replace h := xp_t (by decide +kernel) (xp_n h)
          have him := LEX_lt hL hi (by omega)
          have g1 := p_125 (p := p + 1) hL him (by omega) (by decide) (by have := hr.2.2.2 c9; omega) (by omega) h
          rcases e with e | e | ⟨w, e0, _, e1, _, _, e2, e3⟩ | ⟨e, _⟩
          · omega
          · omega
          · rw [e1] at g1
            exact Or.inr ⟨s + 1, i + 1, p + 1, c + 1, _, _, _, pl, pa, _, g1, ⟨by omega, by omega, by omega, by omega, by omega⟩, LEN_1 (f := fun E => E w), CS_d (CS_word e0) (by omega), RS_d (RS_word e0) (by omega), AGR_0, AGR_0, e3⟩
          · omega
        · rw [if_neg (by omega)] at h
          cases h
          rcases e with e | e | ⟨w, _, e⟩ | ⟨_, e⟩
          · omega
          · omega
          · omega
          · exact Or.inl ⟨rfl, i, hi, rfl, e⟩
      · rw [if_pos c9] at h
        cases h
        rcases e with e | e | ⟨w, _, e⟩ | ⟨_, e⟩
        · omega
        · omega
        · omega
        · exact Or.inl ⟨rfl, i, hi, rfl, e⟩
end
section
/-! A SUM's loop -/
noncomputable def SOut (T : Nat → Int) (n m : Nat) (qs rs : Nat → Nat) (tk vl W : Nat → Int) (x1 : Int) (o : OX) (b s0 i0 c0 pd : Nat) (O0 op0 ar0 pl0 pa0 : Nat → Int) (v : Int × Int × Int × Int × (Nat → Int)) : Prop :=
    (v.1 = 0 ∧ ∃ i' : Nat, i' ≤ m ∧ v.2.2.1 = (i' : Int) ∧ FL qs o i') ∨
    ∃ (s' i' p' c' : Nat) (O' op' ar' pl' pa' : Nat → Int) (ν : LNu) (l : List Int), v = (1, (s' : Int), (i' : Int), (p' : Int), O') ∧ (i0 < i' ∧ i' ≤ m ∧ p' ≤ 50 ∧ s' + i0 ≤ s0 + i' ∧ c' ≤ 400 ∧ l.length ≤ 2 ∧ pd + l.length ≤ 400) ∧ AR4 l ∧ PIL pl' pd l ∧ LEN ν (l.length + 1) ∧ CSg O0 O' s0 s' (19 - 2 * b) (VL l ν) ∧ RSg op0 ar0 op' ar' c0 c' (19 - 2 * b) ν ∧ AGR pl0 pl' pd ∧ AGR pa0 pa' pd ∧ NOP (tk i') ∧ EX T n W x1 qs rs o 3 i' c' p' (pd + l.length) b op' ar' pl' pa'
noncomputable def LFG (g : Int) (l : List Int) : Prop := (g = -1 ∧ l = []) ∨ ((g = 3 ∨ g = 4) ∧ l = [g + 17])
noncomputable def SLoop (T : Nat → Int) (n m : Nat) (qs rs : Nat → Nat) (tk vl W : Nat → Int) (x1 : Int) (o : OX) (b s0 i0 c0 pd : Nat) (O0 op0 ar0 pl0 pa0 : Nat → Int) (f g : Int) (x4 s i p c : Nat) (O op ar pl pa : Nat → Int) : Prop :=
  ∃ (l' l : List Int) (ν : LNu), LFG g l' ∧ ((f = -1 ∧ l = l') ∨ ((f = 5 ∨ f = 6) ∧ l = (f + 17) :: l')) ∧ (x4 + 1 ≤ i ∧ i ≤ m ∧ p ≤ 50 ∧ s + l.length + i0 ≤ s0 + i ∧ i0 ≤ i ∧ c ≤ 400 ∧ pd + l.length ≤ 400) ∧ LEN ν l.length ∧ CSg O0 O s0 s (19 - 2 * b) ν ∧ RSg op0 ar0 op ar c0 c (19 - 2 * b) ν ∧ PIL pl pd l ∧ AGR pl0 pl pd ∧ AGR pa0 pa pd ∧ EX T n W x1 qs rs o 1 i c p (pd + l.length) b op ar pl pa
theorem LFG_l {g : Int} {l : List Int} (h : LFG g l) : AR4 l ∧ l.length ≤ 1 ∧ (l = [] ∨ ∃ a, (a = 20 ∨ a = 21) ∧ l = [a]) := by
  rcases h with ⟨_, e⟩ | ⟨hg, e⟩
  · subst e
    exact ⟨fun a ha => absurd ha List.not_mem_nil, by decide, Or.inl rfl⟩
  · subst e
    refine ⟨fun a ha => ?_, by simp, Or.inr ⟨g + 17, by omega, rfl⟩⟩
    have := List.mem_singleton.mp ha
    omega
theorem AR4_c {a : Int} {l : List Int} (ha : 20 ≤ a ∧ a ≤ 23) (h : AR4 l) : AR4 (a :: l) := fun x hx => by
  rcases List.mem_cons.mp hx with e | e
  · rw [e]; exact ha
  · exact h x e
theorem PIL_u {pl : Nat → Int} {pd k : Nat} {x : Int} : ∀ l : List Int, pd + l.length ≤ k → PIL pl pd l → PIL (zu pl k x) pd l := fun l hk h => PIL_agr l (AGR_u hk) h
theorem s_sum35 {T : Nat → Int} {n m : Nat} {qs rs : Nat → Nat} {tk vl W : Nat → Int} {x1 : Int} {o : OX} (hL : LEX T n m qs rs tk vl) (hW : ∀ k : Nat, k < 8 → W k = zcd k) (hx : x1 = 0 ∨ x1 = 1) {fS fP : Int → (Nat → Int) → (Nat → Int) → Int → Int → Int → (Nat → Int) → Option (Int × Int × Int × Int × (Nat → Int))} {kk : Int → Int → Int → Int → Int → Int → Int → (Nat → Int) → Option (Int × Int × Int × Int × (Nat → Int))} {b s0 i0 c0 pd : Nat} {O0 op0 ar0 pl0 pa0 : Nat → Int} {v : Int × Int × Int × Int × (Nat → Int)} (hb : b ≤ 8) (hs0 : s0 ≤ i0 + 23) (hi0 : 1 ≤ i0) (hP0 : PLR pl0 pd) (hc0 : pd = 0 ∨ 24 ≤ pl0 (pd - 1))
    (hK : ∀ (f g : Int) (x4 s i p c : Nat) (O op ar pl pa : Nat → Int), SLoop T n m qs rs tk vl W x1 o b s0 i0 c0 pd O0 op0 ar0 pl0 pa0 f g x4 s i p c O op ar pl pa → kk (b : Int) f g (x4 : Int) (s : Int) (i : Int) (p : Int) O = some v → SOut T n m qs rs tk vl W x1 o b s0 i0 c0 pd O0 op0 ar0 pl0 pa0 v)
    {g : Int} {x4 s i p c : Nat} {O op ar pl pa : Nat → Int} {l' l : List Int} {ν ν2 : LNu}
    (hg : LFG g l') (hl : (l = l' ∧ ν2 = ν) ∨ (∃ a, (a = 22 ∨ a = 23) ∧ l = a :: l' ∧ ν2 = vop a ν))
    (hn : x4 + 1 ≤ i ∧ i ≤ m ∧ p ≤ 50 ∧ s + l'.length + i0 ≤ s0 + i ∧ i0 < i ∧ c ≤ 400 ∧ pd + l.length ≤ 400)
    (hN : LEN ν (l.length + 1)) (hN2 : LEN ν2 (l'.length + 1)) (hC : CSg O0 O s0 s (19 - 2 * b) ν2) (hR : RSg op0 ar0 op ar c0 c (19 - 2 * b) ν) (hPi : PIL pl pd l) (hA1 : AGR pl0 pl pd) (hA2 : AGR pa0 pa pd) (hE : EX T n W x1 qs rs o 3 i c p (pd + l.length) b op ar pl pa)
    (h : f_LawReader_readSum_35 fS fP tk vl kk (b : Int) g (x4 : Int) (s : Int) (i : Int) (p : Int) O = some v) : SOut T n m qs rs tk vl W x1 o b s0 i0 c0 pd O0 op0 ar0 pl0 pa0 v := by
  have hnm := hL.2.1
  have hm := hL.2.2.1
  have hgl := LFG_l hg
  have hAl : AR4 l ∧ l.length ≤ l'.length + 1 := by
    rcases hl with ⟨e, _⟩ | ⟨a, ha, e, _⟩ <;> subst e
    · exact ⟨hgl.1, by omega⟩
    · exact ⟨AR4_c (by omega) hgl.1, by simp⟩
  have hPd : PLR pl pd := PLR_agr hP0 hA1
  have hctx : pd = 0 ∨ BDS (pl (pd - 1)) < 5 := by
    rcases hc0 with e | e
    · exact Or.inl e
    · rcases Nat.eq_zero_or_pos pd with z | z
      · exact Or.inl z
      · right
        rw [hA1 (pd - 1) (by omega)]
        have := BDS_hi e
        omega
  have eS := e_sum hL hn.2.1 (by omega) hn.2.2.1 hn.2.2.2.2.2.2 hb hx (PLR_pend hPd l hAl.1 hPi) hE
  -- what settles above the sum's own sign
  have six : ∀ r, ST 6 pl pa c (pd + l.length) op ar r → ∃ (c2 : Nat) (op2 ar2 : Nat → Int), c2 ≤ 400 ∧ RSg op0 ar0 op2 ar2 c0 c2 (19 - 2 * b) ν2 ∧ r = ((c2 : Int), ((pd + l'.length : Nat) : Int), op2, ar2) := fun r hr => by
    have top : ∀ pl : Nat → Int, PIL pl pd l' → AGR pl0 pl pd → (pd + l'.length = 0 ∨ BDS (pl (pd + l'.length - 1)) < 6) := fun pl hp ha => by
      rcases hgl.2.2 with e | ⟨a, h20, e⟩ <;> subst e
      · rcases Nat.eq_zero_or_pos pd with z | z
        · exact Or.inl z
        · right
          show BDS (pl (pd + 0 - 1)) < 6
          rw [ha (pd + 0 - 1) (by omega)]
          rcases hc0 with e | e
          · omega
          · have := BDS_hi e
            show BDS (pl0 (pd - 1)) < 6
            omega
      · right
        show BDS (pl (pd + 0)) < 6
        have e2 : pl (pd + 0) = a := hp.1
        rw [e2]
        rcases h20 with z | z <;> subst z <;> decide
    rcases hl with ⟨e, e2⟩ | ⟨a, ha, e, e2⟩ <;> subst e <;> subst e2
    · have w := ST_stop (by omega) (by decide) (PLR_pend hPd l hAl.1 hPi) (top pl hPi hA1) hr
      exact ⟨c, op, ar, hn.2.2.2.2.2.1, hR, w⟩
    · have ea : pl (pd + l'.length) = a := hPi.1
      have hpl := hn.2.2.2.2.2.2
      rw [List.length_cons] at hpl hN
      have hba : BDS a = 6 := by rcases ha with z | z <;> subst z <;> decide
      have w := ST_op (k := pd + l'.length) (by omega) (by rw [ea, hba]; decide) (by rw [ea]; omega) (by omega) hr
      rw [ea] at w
      have w2 := ST_stop (by omega) (by decide) (PLR_pend hPd l' hgl.1 hPi.2) (top pl hPi.2 hA1) w.2
      exact ⟨c + 1, _, _, by omega, RS_op (k := l'.length) hR (by omega) hN (by omega), w2⟩
  have five : ∀ r, ST 5 pl pa c (pd + l.length) op ar r → ∃ (c2 : Nat) (op2 ar2 : Nat → Int), c2 ≤ 400 ∧ RSg op0 ar0 op2 ar2 c0 c2 (19 - 2 * b) (VL l ν) ∧ r = ((c2 : Int), (pd : Int), op2, ar2) := fun r hr => by
    obtain ⟨c2, op2, ar2, w1, w2, w3, w4⟩ := ST_arith (by decide) l c op ar ν hAl.1 hPi hR hN (by omega) hn.2.2.2.2.2.1 hn.2.2.2.2.2.2 hr
    exact ⟨c2, op2, ar2, w1, w2, ST_stop (by omega) (by decide) hPd hctx w4⟩
  have hV : VL l ν = VL l' ν2 := by
    rcases hl with ⟨e, e2⟩ | ⟨a, ha, e, e2⟩ <;> subst e <;> subst e2 <;> rfl
  have mul : ∀ f : Int, (f = 5 ∨ f = 6) → TKO (tk i) (f + 17) → i < m → f_LawReader_readSum_63 fS fP tk vl kk (b : Int) g (x4 : Int) f (s : Int) ((i + 1 : Nat) : Int) (p : Int) O = some v → SOut T n m qs rs tk vl W x1 o b s0 i0 c0 pd O0 op0 ar0 pl0 pa0 v := fun f hf ht him h => by
    unfold f_LawReader_readSum_63 at h
    rw [zwi (x := f) (by omega), zwi (x := -1) (by decide), if_neg (by omega)] at h
    unfold f_LawReader_readSum_119 at h
    replace h := xp_n h
    rcases eS with ⟨q, r, q1, _, q2, q3⟩ | ⟨q1, _⟩
    · have eq : q = f + 17 := by unfold TKO at q1 ht; omega
      have hbq : BDS q = 6 := by rw [eq]; rcases hf with z | z <;> subst z <;> decide
      rw [hbq] at q2
      obtain ⟨c2, op2, ar2, w1, w2, w3⟩ := six r q2
      have hpl := hn.2.2.2.2.2.2
      have hll : l'.length ≤ l.length := by
        rcases hl with ⟨e, _⟩ | ⟨a, _, e, _⟩ <;> subst e <;> simp
      obtain ⟨w4, w5⟩ := q3 c2 (pd + l'.length) op2 ar2 w3 (by omega)
      refine hK f g (x4 + 1) s (i + 1) p c2 O op2 ar2 _ _ ⟨l', q :: l', ν2, hg, Or.inr ⟨hf, by rw [eq]⟩, ⟨by omega, by omega, by omega, by rw [List.length_cons]; omega, by omega, w1, by rw [List.length_cons]; omega⟩, hN2, hC, w2, ⟨zu_eq _ _ _, PIL_u l' (Nat.le_refl _) ?_⟩, AGR_t hA1 (AGR_u (by omega)) (Nat.le_refl _), AGR_t hA2 (AGR_u (by omega)) (Nat.le_refl _), w5⟩ h
      rcases hl with ⟨e, _⟩ | ⟨a, _, e, _⟩ <;> subst e
      · exact hPi
      · exact hPi.2
    · exfalso; unfold TKO at ht; unfold NOP at q1; omega
  have tail : ∀ (s3 : Nat) (O3 : Nat → Int), tk i ≠ 42 → tk i ≠ 47 → CSg O0 O3 s0 s3 (19 - 2 * b) (VL l ν) → s3 + i0 ≤ s0 + i → f_LawReader_readSum_84 fS fP tk vl kk (b : Int) (-1) (x4 : Int) (s3 : Int) (i : Int) (p : Int) O3 = some v → SOut T n m qs rs tk vl W x1 o b s0 i0 c0 pd O0 op0 ar0 pl0 pa0 v := fun s3 O3 h42 h47 hC3 hs3 h => by
    have add : ∀ g : Int, (g = 3 ∨ g = 4) → TKO (tk i) (g + 17) → i < m → f_LawReader_readSum_111 fS fP tk vl kk (b : Int) (-1) (x4 : Int) g (s3 : Int) ((i + 1 : Nat) : Int) (p : Int) O3 = some v → SOut T n m qs rs tk vl W x1 o b s0 i0 c0 pd O0 op0 ar0 pl0 pa0 v := fun g hg ht him h => by
      unfold f_LawReader_readSum_111 at h
      rw [zwi (x := g) (by omega), zwi (x := -1) (by decide), if_pos (by omega)] at h
      unfold f_LawReader_readSum_119 at h
      replace h := xp_n h
      rcases eS with ⟨q, r, q1, _, q2, q3⟩ | ⟨q1, _⟩
      · have eq : q = g + 17 := by unfold TKO at q1 ht; omega
        have hbq : BDS q = 5 := by rw [eq]; rcases hg with z | z <;> subst z <;> decide
        rw [hbq] at q2
        obtain ⟨c2, op2, ar2, w1, w2, w3⟩ := five r q2
        obtain ⟨w4, w5⟩ := q3 c2 pd op2 ar2 w3 (by omega)
        have hN3 : LEN (VL l ν) 1 := by
          rw [hV]
          rcases hgl.2.2 with e | ⟨a, h20, e⟩ <;> subst e
          · exact hN2
          · exact LEN_op (k := 0) hN2
        exact hK (-1) g (x4 + 1) s3 (i + 1) p c2 O3 op2 ar2 _ _ ⟨[g + 17], [g + 17], VL l ν, Or.inr ⟨hg, rfl⟩, Or.inl ⟨rfl, rfl⟩, ⟨by omega, by omega, by omega, by show s3 + 1 + i0 ≤ s0 + (i + 1); omega, by omega, w1, by show pd + 1 ≤ 400; omega⟩, hN3, hC3, w2, ⟨by rw [← eq]; exact zu_eq _ _ _, trivial⟩, AGR_t hA1 (AGR_u (by omega)) (Nat.le_refl _), AGR_t hA2 (AGR_u (by omega)) (Nat.le_refl _), w5⟩ h
      · exfalso; unfold TKO at ht; unfold NOP at q1; omega
    unfold f_LawReader_readSum_84 at h
    obtain ⟨v1, v2, e1, h⟩ := xz_d2 h
    rcases p_pass hL hn.2.1 (by decide) (by decide) e1 with ⟨q1, him, y⟩ | ⟨q1, y⟩ <;> cases y
    · replace h := xp_f (by decide +kernel) h
      exact add 3 (Or.inl rfl) (Or.inl ⟨q1, rfl⟩) him h
    · replace h := xp_t (by decide +kernel) h
      obtain ⟨v3, v4, e2, h⟩ := xz_d2 h
      rcases p_pass hL hn.2.1 (by decide) (by decide) e2 with ⟨q2, him, y⟩ | ⟨q2, y⟩ <;> cases y
      · replace h := xp_f (by decide +kernel) h
        exact add 4 (Or.inr rfl) (Or.inr (Or.inl ⟨q2, rfl⟩)) him h
      · replace h := xp_t (by decide +kernel) h
        unfold f_LawReader_readSum_111 at h
        replace h := xp_f (by decide +kernel) h
        cases h
        exact Or.inr ⟨s3, i, p, c, O3, op, ar, pl, pa, ν, l, rfl, ⟨by omega, by omega, by omega, by omega, by omega, by omega, by omega⟩, hAl.1, hPi, hN, hC3, hR, hA1, hA2, ⟨q1, q2, h42, h47⟩, hE⟩
  unfold f_LawReader_readSum_35 at h
  obtain ⟨v1, v2, e1, h⟩ := xz_d2 h
  rcases p_pass hL hn.2.1 (by decide) (by decide) e1 with ⟨q1, him, y⟩ | ⟨q1, y⟩ <;> cases y
  · replace h := xp_f (by decide +kernel) h
    exact mul 5 (Or.inl rfl) (Or.inr (Or.inr (Or.inl ⟨q1, rfl⟩))) him h
  · replace h := xp_t (by decide +kernel) h
    obtain ⟨v3, v4, e2, h⟩ := xz_d2 h
    rcases p_pass hL hn.2.1 (by decide) (by decide) e2 with ⟨q2, him, y⟩ | ⟨q2, y⟩ <;> cases y
    · replace h := xp_f (by decide +kernel) h
      exact mul 6 (Or.inr rfl) (Or.inr (Or.inr (Or.inr ⟨q2, rfl⟩))) him h
    · replace h := xp_t (by decide +kernel) h
      unfold f_LawReader_readSum_63 at h
      replace h := xp_t (by decide +kernel) h
      rcases hg with ⟨eg, el⟩ | ⟨eg, el⟩
      · subst eg
        subst el
        replace h := xp_t (by decide +kernel) h
        exact tail s O q1 q2 (by rw [hV]; exact hC) (by have := hn.2.2.2.1; simp only [List.length_nil] at this; omega) h
      · subst el
        have hnn := hn.2.2.2.1
        simp only [List.length_cons, List.length_nil] at hnn
        rw [zwi (x := g) (by omega), zwi (x := -1) (by decide), if_neg (by omega)] at h
        obtain ⟨u1, u2, u3, e3, h⟩ := xz_d3 h
        have g1 := p_order (by omega) (by omega) (by decide) e3
        cases g1
        exact tail (s + 1) _ q1 q2 (by rw [hV]; exact CS_op (k := 0) hC (by omega) hN2 (by omega)) (by omega) h
theorem s_sum7 {T : Nat → Int} {n m : Nat} {qs rs : Nat → Nat} {tk vl W : Nat → Int} {x1 : Int} {o : OX} (hL : LEX T n m qs rs tk vl) (hW : ∀ k : Nat, k < 8 → W k = zcd k) (hx : x1 = 0 ∨ x1 = 1) {fS fP : Int → (Nat → Int) → (Nat → Int) → Int → Int → Int → (Nat → Int) → Option (Int × Int × Int × Int × (Nat → Int))} (hPP : PPart T n m qs rs tk vl W x1 o fP) {b s0 i0 c0 pd : Nat} {O0 op0 ar0 pl0 pa0 : Nat → Int} {v : Int × Int × Int × Int × (Nat → Int)} (hb : b ≤ 8) (hs0 : s0 ≤ i0 + 23) (hi0 : 1 ≤ i0) (hP0 : PLR pl0 pd) (hc0 : pd = 0 ∨ 24 ≤ pl0 (pd - 1)) : ∀ (N : Nat) (f g : Int) (x4 s i p c : Nat) (O op ar pl pa : Nat → Int), SLoop T n m qs rs tk vl W x1 o b s0 i0 c0 pd O0 op0 ar0 pl0 pa0 f g x4 s i p c O op ar pl pa → f_LawReader_readSum_7 fS fP tk vl N (b : Int) f g (x4 : Int) (s : Int) (i : Int) (p : Int) O = some v → SOut T n m qs rs tk vl W x1 o b s0 i0 c0 pd O0 op0 ar0 pl0 pa0 v := by
  have hnm := hL.2.1
  have hm := hL.2.2.1
  intro N
  induction N with
  | zero => intro f g x4 s i p c O op ar pl pa _ h; exact nomatch h
  | succ N ih =>
    intro f g x4 s i p c O op ar pl pa hS h
    obtain ⟨l', l, ν, hg, hf, hn, hN, hC, hR, hPi, hA1, hA2, hE⟩ := hS
    have hgl := LFG_l hg
    have hAl : AR4 l ∧ l.length ≤ 2 := by
      rcases hf with ⟨_, e⟩ | ⟨ef, e⟩ <;> subst e
      · exact ⟨hgl.1, by omega⟩
      · exact ⟨AR4_c (by omega) hgl.1, by rw [List.length_cons]; omega⟩
    have hPd : PLR pl pd := PLR_agr hP0 hA1
    replace h : f_LawReader_readSum_7_b fS fP tk vl (f_LawReader_readSum_7 fS fP tk vl N) (b : Int) f g (x4 : Int) (s : Int) (i : Int) (p : Int) O = some v := h
    unfold f_LawReader_readSum_7_b at h
    rw [zwi (x := 400) (by decide), zwi (x := (x4 : Int)) (by omega), if_neg (by omega)] at h
    obtain ⟨v1, v2, v3, v4, a5, e1, h⟩ := xz_d5 h
    rcases hPP b s i p O _ hb (by omega) hn.2.1 (by omega) hn.2.2.1 e1 c (pd + l.length) op ar pl pa hn.2.2.2.2.2.1 hn.2.2.2.2.2.2 (PLR_pend hPd l hAl.1 hPi) hE with ⟨g1, i', g2, g3, g4⟩ | ⟨s1, i1, p1, c1, O1, op1, ar1, pl1, pa1, νp, gv, gn, gL, gC, gR, ga, gb, gE⟩
    · replace g1 : v1 = 0 := g1
      replace g3 : v3 = (i' : Int) := g3
      subst g1
      replace h := xp_t (by decide +kernel) h
      cases h
      exact Or.inl ⟨rfl, i', g2, g3, g4⟩
    · cases gv
      replace h := xp_f (by decide +kernel) h
      have C1 := CS_app (d := 19 - 2 * b) hC gC hN (Nat.le_refl _) (by omega)
      have R1 := RS_app (d := 19 - 2 * b) hR gR hN (Nat.le_refl _) (by omega)
      have N1 := LEN_app hN gL
      have P1 := PIL_agr l ga hPi
      have A1 := AGR_t hA1 (AGR_w ga (by omega : pd ≤ pd + l.length)) (Nat.le_refl _)
      have A2 := AGR_t hA2 (AGR_w gb (by omega : pd ≤ pd + l.length)) (Nat.le_refl _)
      rcases hf with ⟨ef, e⟩ | ⟨ef, e⟩
      · subst ef
        subst e
        replace h := xp_t (by decide +kernel) h
        exact s_sum35 hL hW hx hb hs0 hi0 hP0 hc0 ih hg (Or.inl ⟨rfl, rfl⟩) ⟨by omega, by omega, by omega, by omega, by omega, by omega, by omega⟩ N1 N1 C1 R1 P1 A1 A2 gE h
      · subst e
        simp only [List.length_cons] at hn hN N1 hAl
        rw [zwi (x := f) (by omega), zwi (x := -1) (by decide), if_neg (by omega)] at h
        obtain ⟨u1, u2, u3, e3, h⟩ := xz_d3 h
        have g1 := p_order (by omega) (by omega) (by decide) e3
        cases g1
        exact s_sum35 hL hW hx hb hs0 hi0 hP0 hc0 ih (l := (f + 17) :: l') hg (Or.inr ⟨f + 17, by omega, rfl, rfl⟩) ⟨by omega, by omega, by omega, by omega, by omega, by omega, by rw [List.length_cons]; omega⟩ N1 (LEN_op (k := l'.length) N1) (CS_op (k := l'.length) C1 (by omega) N1 (by omega)) R1 P1 A1 A2 gE h
theorem s_sum {T : Nat → Int} {n m : Nat} {qs rs : Nat → Nat} {tk vl W : Nat → Int} {x1 : Int} {o : OX} (hL : LEX T n m qs rs tk vl) (hW : ∀ k : Nat, k < 8 → W k = zcd k) (hx : x1 = 0 ∨ x1 = 1) {fS fP : Int → (Nat → Int) → (Nat → Int) → Int → Int → Int → (Nat → Int) → Option (Int × Int × Int × Int × (Nat → Int))} (hPP : PPart T n m qs rs tk vl W x1 o fP) : PSum T n m qs rs tk vl W x1 o (fb_LawReader_readSum fS fP) := by
  intro b s i p O v hb h1i hi hs hp h c pd op ar pl pa hc hpd hP hc0 hE
  unfold fb_LawReader_readSum at h
  exact s_sum7 hL hW hx hPP hb hs h1i hP hc0 zfu (-1) (-1) 0 s i p c O op ar pl pa ⟨[], [], _, Or.inl ⟨rfl, rfl⟩, Or.inl ⟨rfl, rfl⟩, ⟨by omega, hi, hp, by simp only [List.length_nil]; omega, by omega, hc, hpd⟩, LEN_0, CS_0, RS_0, trivial, AGR_0, AGR_0, hE⟩ h
theorem s_both {T : Nat → Int} {n m : Nat} {qs rs : Nat → Nat} {tk vl W : Nat → Int} {x1 : Int} {o : OX} (hL : LEX T n m qs rs tk vl) (hW : ∀ k : Nat, k < 8 → W k = zcd k) (hx : x1 = 0 ∨ x1 = 1) : ∀ D : Nat, PSum T n m qs rs tk vl W x1 o (g_LawReader_readSum D).1 ∧ PPart T n m qs rs tk vl W x1 o (g_LawReader_readSum D).2 := by
  intro D
  induction D with
  | zero => exact ⟨(fun b s i p O v _ _ _ _ _ h => nomatch h), (fun b s i p O v _ _ _ _ _ h => nomatch h)⟩
  | succ D ih => exact ⟨s_sum hL hW hx ih.2, s_part hL hW hx ih.1⟩
theorem S_sum {T : Nat → Int} {n m : Nat} {qs rs : Nat → Nat} {tk vl W : Nat → Int} {x1 : Int} {o : OX} (hL : LEX T n m qs rs tk vl) (hW : ∀ k : Nat, k < 8 → W k = zcd k) (hx : x1 = 0 ∨ x1 = 1) : PSum T n m qs rs tk vl W x1 o f_LawReader_readSum := fun b s i p O v h1 h2 h3 h4 h5 h => (s_both hL hW hx zdp).1 b s i p O v h1 h2 h3 h4 h5 (by unfold f_LawReader_readSum at h; exact h)
end
section
/-! conditions as numbers -/
noncomputable abbrev BNu : Type := (Nat → Int) → Option Bool
noncomputable def BL (β : BNu) : LNu := fun E => ((β E).map bv).map (fun x => [x])
noncomputable def NOTB (β : BNu) : BNu := fun E => (β E).map (fun b => !b)
noncomputable def NTK : Nat → BNu → BNu
  | 0 => fun β => β
  | k + 1 => fun β => NTK k (NOTB β)
theorem NOTB_2 (β : BNu) : NOTB (NOTB β) = β := by
  funext E
  unfold NOTB
  cases β E with
  | none => rfl
  | some b => cases b <;> rfl
theorem NTK_is : ∀ (k : Nat) (β : BNu), NTK k β = if k % 2 = 1 then NOTB β else β := by
  intro k
  induction k with
  | zero => intro β; rfl
  | succ k ih =>
    intro β
    show NTK k (NOTB β) = _
    rw [ih]
    by_cases h : k % 2 = 1
    · rw [if_pos h, if_neg (by omega), NOTB_2]
    · rw [if_neg h, if_pos (by omega)]
theorem BL_len (β : BNu) : LEN (BL β) 1 := fun E l _ h => by
  unfold BL at h
  cases hb : β E with
  | none => rw [hb] at h; exact nomatch h
  | some b => rw [hb] at h; cases h; rfl
theorem RPush_c {op ar : Nat → Int} {s e d : Nat} {ν μ : LNu} (h : ∀ E, EOK E → ν E = μ E) (g : RPush op ar s e d ν) : RPush op ar s e d μ := by
  refine ⟨g.1, fun E hE => ?_⟩
  have q := g.2 E hE
  rw [h E hE] at q
  exact q
theorem CS_c {O O' : Nat → Int} {s s' d : Nat} {ν μ : LNu} (h : ∀ E, EOK E → ν E = μ E) (g : CSg O O' s s' d ν) : CSg O O' s s' d μ := ⟨g.1, g.2.1, RPush_c h g.2.2⟩
theorem RS_c {op ar op' ar' : Nat → Int} {c c' d : Nat} {ν μ : LNu} (h : ∀ E, EOK E → ν E = μ E) (g : RSg op ar op' ar' c c' d ν) : RSg op ar op' ar' c c' d μ := ⟨g.1, g.2.1, RPush_c h g.2.2⟩
noncomputable def BOF (ν : LNu) : BNu := fun E => (ν E).map (fun l => decide (l.head? = some 1))
theorem wop_01 {o a b x : Int} (ho : 24 ≤ o ∧ o < 27) (h : wop o a b = some x) : x = 0 ∨ x = 1 := by
  unfold wop at h
  by_cases g : -1000000000 ≤ wopv o a b ∧ wopv o a b ≤ 1000000000
  · rw [if_pos g] at h
    cases h
    unfold wopv
    rw [if_neg (by omega), if_neg (by omega), if_neg (by omega), if_neg (by omega)]
    split
    · split
      · exact Or.inr rfl
      · exact Or.inl rfl
    · split
      · split
        · exact Or.inr rfl
        · exact Or.inl rfl
      · split
        · exact Or.inr rfl
        · exact Or.inl rfl
  · rw [if_neg g] at h; exact nomatch h
theorem BOF_is {μ : LNu} {o : Int} (ho : 24 ≤ o ∧ o < 27) (hN : LEN μ 2) : ∀ E, EOK E → vop o μ E = BL (BOF (vop o μ)) E := fun E hE => by
  cases hv : vop o μ E with
  | none => unfold BL BOF; rw [hv]; rfl
  | some l =>
    have h1 := LEN_op (k := 0) (o := o) hN E l hE hv
    unfold vop at hv
    cases hm : μ E with
    | none => rw [hm] at hv; exact nomatch hv
    | some l0 =>
      rw [hm] at hv
      have g := hN E l0 hE hm
      match l0, g with
      | b :: a :: [], g =>
        dsimp only at hv
        cases hw : wop o a b with
        | none => rw [hw] at hv; exact nomatch hv
        | some x =>
          rw [hw] at hv
          dsimp only at hv
          have hv2 : vop o μ E = some [x] := by unfold vop; rw [hm]; dsimp only; rw [hw]
          cases hv
          unfold BL BOF
          rw [hv2]
          rcases wop_01 ho hw with z | z <;> subst z <;> rfl
theorem CS_not {O O1 : Nat → Int} {s s1 d : Nat} {β : BNu} (h : CSg O O1 s s1 d (BL β)) (hd : 1 ≤ d) : CSg O (zu O1 s1 (16 * 0 + 10)) s (s1 + 1) d (BL (NOTB β)) := by
  have h12 := h.2.2.1
  refine ⟨AGR_t h.1 (AGR_u h12) (Nat.le_refl _), fun j h1 h2 => ?_, ?_⟩
  · rcases Nat.lt_or_ge j s1 with q | q
    · rw [zu_ne _ _ (by omega)]; exact h.2.1 j h1 q
    · rw [show j = s1 from by omega, zu_eq]; omega
  · refine BVal_not (β := β) (RPush_x h.2.2 (Nat.le_refl _) (CO_agr (fun j h1 h2 => zu_ne _ _ (by omega)))) ?_ hd
    show cop (zu O1 s1 (16 * 0 + 10) s1) = 27
    rw [zu_eq]; decide
theorem RS_not {op ar op1 ar1 : Nat → Int} {c c1 d : Nat} {β : BNu} (h : RSg op ar op1 ar1 c c1 d (BL β)) (hd : 1 ≤ d) : RSg op ar (zu op1 c1 27) (zu ar1 c1 0) c (c1 + 1) d (BL (NOTB β)) := by
  have h12 := h.2.2.1
  refine ⟨⟨AGR_t h.1.1 (AGR_u h12) (Nat.le_refl _), AGR_t h.1.2 (AGR_u h12) (Nat.le_refl _)⟩, fun j h1 h2 => ?_, ?_⟩
  · rcases Nat.lt_or_ge j c1 with q | q
    · rw [zu_ne _ _ (by omega), zu_ne _ _ (by omega)]; exact h.2.1 j h1 q
    · rw [show j = c1 from by omega, zu_eq, zu_eq]; omega
  · exact BVal_not (β := β) (RPush_x h.2.2 (Nat.le_refl _) (fun j h1 h2 => ⟨zu_ne _ _ (by omega), zu_ne _ _ (by omega)⟩)) (zu_eq _ _ _) hd
theorem ST_nots {pl pa : Nat → Int} {pd : Nat} {op0 ar0 : Nat → Int} {c0 d : Nat} {least : Int} {r : Int × Int × (Nat → Int) × (Nat → Int)} (hl : 0 ≤ least ∧ least ≤ 3) (hd : 1 ≤ d) : ∀ (k c : Nat) (op ar : Nat → Int) (β : BNu), (∀ j, j < k → pl (pd + j) = 27) → RSg op0 ar0 op ar c0 c d (BL β) → c ≤ 400 → pd + k ≤ 400 → ST least pl pa c (pd + k) op ar r → ∃ (c' : Nat) (op' ar' : Nat → Int), c' ≤ 400 ∧ RSg op0 ar0 op' ar' c0 c' d (BL (NTK k β)) ∧ ST least pl pa c' pd op' ar' r := by
  intro k
  induction k with
  | zero => intro c op ar β _ hR hc _ h; exact ⟨c, op, ar, hc, hR, h⟩
  | succ k ih =>
    intro c op ar β hp hR hc hpd h
    have ek := hp k (by omega)
    have g := ST_op (k := pd + k) (by omega) (by rw [ek, (by decide : BDS 27 = 3)]; exact hl) (by rw [ek]; decide) (by omega) h
    rw [ek] at g
    exact ih (c + 1) _ _ (NOTB β) (fun j hj => hp j (by omega)) (RS_not hR hd) (by omega) (by omega) g.2
theorem VL_len : ∀ (l : List Int) (ν : LNu), LEN ν (l.length + 1) → LEN (VL l ν) 1 := by
  intro l
  induction l with
  | nil => intro ν h; exact h
  | cons a l ih => intro ν h; exact ih (vop a ν) (LEN_op (k := l.length) h)
noncomputable def QOut (T : Nat → Int) (n m : Nat) (qs rs : Nat → Nat) (tk vl W : Nat → Int) (x1 : Int) (o : OX) (b s0 i0 c0 pd : Nat) (O0 op0 ar0 pl0 pa0 : Nat → Int) (v : Int × Int × Int × Int × (Nat → Int)) : Prop :=
    (v.1 = 0 ∧ ∃ i' : Nat, i' ≤ m ∧ v.2.2.1 = (i' : Int) ∧ FL qs o i') ∨
    ∃ (s' i' p' c' pd' : Nat) (O' op' ar' pl' pa' : Nat → Int) (β : BNu), v = (1, (s' : Int), (i' : Int), (p' : Int), O') ∧ (i0 < i' ∧ i' ≤ m ∧ p' ≤ 50 ∧ s' + i0 ≤ s0 + i' ∧ c' ≤ 400 ∧ pd ≤ pd' ∧ pd' ≤ 400) ∧ CSg O0 O' s0 s' (20 - 2 * b) (BL β) ∧ AGR pl0 pl' pd ∧ AGR pa0 pa' pd ∧ PLR pl' pd' ∧ INVb pl' pd' = INVb pl0 pd ∧ (∀ (least : Int) r, 0 ≤ least ∧ least ≤ 2 → ST least pl' pa' c' pd' op' ar' r → ∃ (c2 : Nat) (op2 ar2 : Nat → Int), c2 ≤ 400 ∧ RSg op0 ar0 op2 ar2 c0 c2 (20 - 2 * b) (BL β) ∧ ST least pl' pa' c2 pd op2 ar2 r) ∧ EX T n W x1 qs rs o 2 i' c' p' pd' b op' ar' pl' pa'
noncomputable def TOut (T : Nat → Int) (n m : Nat) (qs rs : Nat → Nat) (tk vl W : Nat → Int) (x1 : Int) (o : OX) (b s0 i0 c0 pd : Nat) (O0 op0 ar0 pl0 pa0 : Nat → Int) (v : Int × Int × Int × Int × (Nat → Int)) : Prop :=
    (v.1 = 0 ∧ ∃ i' : Nat, i' ≤ m ∧ v.2.2.1 = (i' : Int) ∧ FL qs o i') ∨
    ∃ (s' i' p' c' pd' : Nat) (O' op' ar' pl' pa' : Nat → Int) (β : BNu), v = (1, (s' : Int), (i' : Int), (p' : Int), O') ∧ (i0 < i' ∧ i' ≤ m ∧ p' ≤ 50 ∧ s' + i0 ≤ s0 + i' ∧ c' ≤ 400 ∧ pd ≤ pd' ∧ pd' ≤ 400) ∧ CSg O0 O' s0 s' (20 - 2 * b) (BL β) ∧ AGR pl0 pl' pd ∧ AGR pa0 pa' pd ∧ PLR pl' pd' ∧ INVb pl' pd' = INVb pl0 pd ∧ (∀ (least : Int) r, 1 ≤ least ∧ least ≤ 1 → ST least pl' pa' c' pd' op' ar' r → ∃ (c2 : Nat) (op2 ar2 : Nat → Int), c2 ≤ 400 ∧ RSg op0 ar0 op2 ar2 c0 c2 (20 - 2 * b) (BL β) ∧ ST least pl' pa' c2 pd op2 ar2 r) ∧ (tk i' ≠ 264 ∧ tk i' ≠ 263) ∧ EX T n W x1 qs rs o 2 i' c' p' pd' b op' ar' pl' pa'
noncomputable def PPlain (T : Nat → Int) (n m : Nat) (qs rs : Nat → Nat) (tk vl W : Nat → Int) (x1 : Int) (o : OX) (f : Int → (Nat → Int) → (Nat → Int) → Int → Int → Int → (Nat → Int) → Option (Int × Int × Int × Int × (Nat → Int))) : Prop :=
  ∀ (b s i p : Nat) (O : Nat → Int) (v : Int × Int × Int × Int × (Nat → Int)), b ≤ 8 → 1 ≤ i → i ≤ m → s ≤ i + 23 → p ≤ 50 → f (b : Int) tk vl (s : Int) (i : Int) (p : Int) O = some v →
  ∀ (c pd : Nat) (op ar pl pa : Nat → Int), c ≤ 400 → pd ≤ 400 → PLR pl pd → (pd = 0 ∨ 27 ≤ pl (pd - 1)) ∧ (INVb pl pd = 30 ∨ (INVb pl pd = -1 ∧ x1 = 1)) → EX T n W x1 qs rs o 0 i c p pd b op ar pl pa → QOut T n m qs rs tk vl W x1 o b s i c pd O op ar pl pa v
noncomputable def PTest (T : Nat → Int) (n m : Nat) (qs rs : Nat → Nat) (tk vl W : Nat → Int) (x1 : Int) (o : OX) (f : Int → (Nat → Int) → (Nat → Int) → Int → Int → Int → (Nat → Int) → Option (Int × Int × Int × Int × (Nat → Int))) : Prop :=
  ∀ (b s i p : Nat) (O : Nat → Int) (v : Int × Int × Int × Int × (Nat → Int)), b ≤ 8 → 1 ≤ i → i ≤ m → s ≤ i + 23 → p ≤ 50 → f (b : Int) tk vl (s : Int) (i : Int) (p : Int) O = some v →
  ∀ (c pd : Nat) (op ar pl pa : Nat → Int), c ≤ 400 → pd ≤ 400 → PLR pl pd → (pd = 0 ∧ x1 = 1) ∨ (1 ≤ pd ∧ pl (pd - 1) = 30) → EX T n W x1 qs rs o 0 i c p pd b op ar pl pa → TOut T n m qs rs tk vl W x1 o b s i c pd O op ar pl pa v
theorem p_148 {fT fQ : Int → (Nat → Int) → (Nat → Int) → Int → Int → Int → (Nat → Int) → Option (Int × Int × Int × Int × (Nat → Int))} {tk vl O : Nat → Int} {t : Int} {s : Nat} {i p : Int} {v : Int × Int × Int × Int × (Nat → Int)} (hs : s < 424) (ht : t = 0 ∨ t = 1) (h : f_LawReader_readPlain_148 fT fQ tk vl t (s : Int) i p O = some v) : (t = 0 ∧ v = (1, (s : Int), i, p, O)) ∨ (t = 1 ∧ v = (1, ((s + 1 : Nat) : Int), i, p, zu O s (16 * 0 + 10))) := by
  unfold f_LawReader_readPlain_148 at h
  rcases ht with z | z <;> subst z
  · replace h := xp_t (by decide +kernel) h
    cases h
    exact Or.inl ⟨rfl, rfl⟩
  · replace h := xp_f (by decide +kernel) h
    obtain ⟨u1, u2, u3, e, h⟩ := xz_d3 h
    have g := p_order hs (by decide) (by decide) e
    cases g
    cases h
    exact Or.inr ⟨rfl, rfl⟩
theorem q_end {T : Nat → Int} {n m : Nat} {qs rs : Nat → Nat} {tk vl W : Nat → Int} {x1 : Int} {o : OX} (hL : LEX T n m qs rs tk vl) (hW : ∀ k : Nat, k < 8 → W k = zcd k) (hx : x1 = 0 ∨ x1 = 1) {fT fQ : Int → (Nat → Int) → (Nat → Int) → Int → Int → Int → (Nat → Int) → Option (Int × Int × Int × Int × (Nat → Int))} {b s0 i0 c0 pd : Nat} {O0 op0 ar0 pl0 pa0 : Nat → Int} {v : Int × Int × Int × Int × (Nat → Int)} (hb : b ≤ 8) (hs0 : s0 ≤ i0 + 23) (hi0 : 1 ≤ i0) (hP0 : PLR pl0 pd) (hpd : pd ≤ 400) {k : Nat} {t : Int} {s i p c pd' : Nat} {O op ar pl pa : Nat → Int} {β : BNu} (ht : t = ((k % 2 : Nat) : Int))
    (hn : i0 < i ∧ i ≤ m ∧ p ≤ 50 ∧ s + (k % 2) + i0 ≤ s0 + i ∧ c ≤ 400 ∧ pd + k ≤ pd' ∧ pd' ≤ 400) (hC : CSg O0 O s0 s (20 - 2 * b) (BL β)) (ha : AGR pl0 pl pd) (hA : AGR pa0 pa pd) (hk : ∀ j, j < k → pl (pd + j) = 27) (hP : PLR pl pd') (hI : INVb pl pd' = INVb pl0 pd)
    (hS : ∀ (least : Int) r, 0 ≤ least ∧ least ≤ 2 → ST least pl pa c pd' op ar r → ∃ (c2 : Nat) (op2 ar2 : Nat → Int), c2 ≤ 400 ∧ RSg op0 ar0 op2 ar2 c0 c2 (20 - 2 * b) (BL β) ∧ ST least pl pa c2 (pd + k) op2 ar2 r)
    (hE : EX T n W x1 qs rs o 2 i c p pd' b op ar pl pa) (h : f_LawReader_readPlain_148 fT fQ tk vl t (s : Int) (i : Int) (p : Int) O = some v) : QOut T n m qs rs tk vl W x1 o b s0 i0 c0 pd O0 op0 ar0 pl0 pa0 v := by
  have hnm := hL.2.1
  have hm := hL.2.2.1
  have fin : ∀ (least : Int) r, 0 ≤ least ∧ least ≤ 2 → ST least pl pa c pd' op ar r → ∃ (c2 : Nat) (op2 ar2 : Nat → Int), c2 ≤ 400 ∧ RSg op0 ar0 op2 ar2 c0 c2 (20 - 2 * b) (BL (NTK k β)) ∧ ST least pl pa c2 pd op2 ar2 r := fun least r hl hr => by
    obtain ⟨c2, op2, ar2, w1, w2, w3⟩ := hS least r hl hr
    exact ST_nots (by omega) (by omega) k c2 op2 ar2 β hk w2 w1 (by omega) w3
  rw [NTK_is] at fin
  rcases p_148 (by omega) (by omega) h with ⟨z, e⟩ | ⟨z, e⟩
  · rw [if_neg (by omega)] at fin
    exact Or.inr ⟨s, i, p, c, pd', O, op, ar, pl, pa, β, e, ⟨by omega, by omega, by omega, by omega, by omega, by omega, by omega⟩, hC, ha, hA, hP, hI, fin, hE⟩
  · rw [if_pos (by omega)] at fin
    exact Or.inr ⟨s + 1, i, p, c, pd', _, op, ar, pl, pa, NOTB β, e, ⟨by omega, by omega, by omega, by omega, by omega, by omega, by omega⟩, CS_not hC (by omega), ha, hA, hP, hI, fin, hE⟩
theorem CMV_top {pl : Nat → Int} {pd : Nat} (h : pd = 0 ∨ 27 ≤ pl (pd - 1)) : CMV pl pd = 0 := by
  cases pd with
  | zero => rfl
  | succ k =>
    have h1 : 27 ≤ pl k := by
      rcases h with h | h
      · omega
      · exact h
    show (if 20 ≤ pl k ∧ pl k ≤ 23 then CMV pl k else if 24 ≤ pl k ∧ pl k ≤ 26 then 1 else 0) = 0
    rw [if_neg (by omega), if_neg (by omega)]
theorem INV_1 {pl : Nat → Int} {pd : Nat} (h : pl pd < 30) : INVb pl (pd + 1) = INVb pl pd := by
  show (if 30 ≤ pl pd then pl pd else INVb pl pd) = INVb pl pd
  rw [if_neg (by omega)]
theorem INV_nots {pl : Nat → Int} {pd : Nat} : ∀ k, (∀ j, j < k → pl (pd + j) = 27) → INVb pl (pd + k) = INVb pl pd := by
  intro k
  induction k with
  | zero => intro _; rfl
  | succ k ih =>
    intro h
    have e := h k (by omega)
    exact (INV_1 (pd := pd + k) (by omega)).trans (ih (fun j hj => h j (by omega)))
theorem p_cmp {x w : Int} (hx : 0 ≤ x ∧ x ≤ 300) (h : f_LawReader_comparisonOf x = some w) : (∃ q, TKC x q ∧ w = q - 17) ∨ ((∀ q, ¬ TKC x q) ∧ w = -1) := by
  unfold f_LawReader_comparisonOf at h
  rw [zwi (x := x) (by omega)] at h
  by_cases c1 : x = 60
  · rw [if_pos c1] at h; cases h; exact Or.inl ⟨24, Or.inl ⟨c1, rfl⟩, rfl⟩
  · rw [if_neg c1] at h
    by_cases c2 : x = 61
    · rw [if_pos c2] at h; cases h; exact Or.inl ⟨26, Or.inr (Or.inr ⟨c2, rfl⟩), rfl⟩
    · rw [if_neg c2] at h
      by_cases c3 : x = 62
      · rw [if_pos c3] at h; cases h; exact Or.inl ⟨25, Or.inr (Or.inl ⟨c3, rfl⟩), rfl⟩
      · rw [if_neg c3] at h; cases h
        exact Or.inr ⟨fun q z => by unfold TKC at z; omega, rfl⟩
theorem q_37 {T : Nat → Int} {n m : Nat} {qs rs : Nat → Nat} {tk vl W : Nat → Int} {x1 : Int} {o : OX} (hL : LEX T n m qs rs tk vl) (hW : ∀ k : Nat, k < 8 → W k = zcd k) (hx : x1 = 0 ∨ x1 = 1) {fT fQ : Int → (Nat → Int) → (Nat → Int) → Int → Int → Int → (Nat → Int) → Option (Int × Int × Int × Int × (Nat → Int))} (hT : PTest T n m qs rs tk vl W x1 o fT) {b s0 i0 c0 pd : Nat} {O0 op0 ar0 pl0 pa0 : Nat → Int} {v : Int × Int × Int × Int × (Nat → Int)} (hb : b ≤ 8) (hs0 : s0 ≤ i0 + 23) (hi0 : 1 ≤ i0) (hP0 : PLR pl0 pd) (hpd : pd ≤ 400) (hI0 : INVb pl0 pd = 30 ∨ (INVb pl0 pd = -1 ∧ x1 = 1)) {k : Nat} {t : Int} {i p : Nat} {pl pa : Nat → Int} (hcx : pd + k = 0 ∨ 27 ≤ pl (pd + k - 1)) (ht : t = ((k % 2 : Nat) : Int)) (hc : c0 ≤ 400)
    (hn : i0 + k ≤ i ∧ i ≤ m ∧ p ≤ 50 ∧ pd + k ≤ 400) (ha : AGR pl0 pl pd) (hA : AGR pa0 pa pd) (hk : ∀ j, j < k → pl (pd + j) = 27) (hP : PLR pl (pd + k)) (hno : tk i ≠ 265)
    (hE : EX T n W x1 qs rs o 0 i c0 p (pd + k) b op0 ar0 pl pa) (h : f_LawReader_readPlain_37 fT fQ tk vl (b : Int) t (s0 : Int) (i : Int) (p : Int) O0 = some v) : QOut T n m qs rs tk vl W x1 o b s0 i0 c0 pd O0 op0 ar0 pl0 pa0 v := by
  have hnm := hL.2.1
  have hm := hL.2.2.1
  have hr := (tk_r (hL.2.2.2.2.1 i hn.2.1)).1
  have e := e_plain hL hW hn.2.1 (by omega) hn.2.2.1 hn.2.2.2 hb hE
  have I1 : INVb pl (pd + k) = INVb pl0 pd := (INV_nots k hk).trans (INV_agr pd ha)
  unfold f_LawReader_readPlain_37 at h
  replace h := p_tok hL hn.2.1 h
  rw [zwi (x := tk i) (by omega), zwi (x := 40) (by decide)] at h
  by_cases c40 : tk i = 40
  · rw [if_neg (fun z => z c40), zwi (x := 8) (by decide), zwi (x := (b : Int)) (by omega)] at h
    rcases Nat.lt_or_ge b 8 with hb8 | hb8
    · rw [if_neg (by omega)] at h
      obtain ⟨v20, v21, e3, h⟩ := xz_d2 h
      rcases p_pass hL hn.2.1 (by decide) (by decide) e3 with ⟨_, him, q2⟩ | ⟨q1, _⟩
      · cases q2
        replace h := xp_n (xp_f (by decide +kernel) h)
        obtain ⟨v6, v7, v8, v9, a10, e4, h⟩ := xz_d5 h
        have E1 : pd + k < 400 ∧ EX T n W x1 qs rs o 0 (i + 1) c0 p (pd + k + 1) (b + 1) op0 ar0 (zu pl (pd + k) 30) (zu pa (pd + k) 0) := by
          rcases e with e | e | e | e
          · omega
          · exact e.2.2.2
          · omega
          · omega
        rcases hT (b + 1) s0 (i + 1) p O0 _ (by omega) (by omega) (by omega) (by omega) hn.2.2.1 e4 c0 (pd + k + 1) op0 ar0 (zu pl (pd + k) 30) (zu pa (pd + k) 0) hc (by omega) (PLR_u hP (by decide)) (Or.inr ⟨by omega, by rw [show pd + k + 1 - 1 = pd + k from by omega, zu_eq]⟩) E1.2 with ⟨g1, i', g2, g3, g4⟩ | ⟨s', i', p', c', pd', O', op', ar', pl', pa', β, gv, gn, gC, ga, gb, gP, gI, gS, gt, gE⟩
        · replace g1 : v6 = 0 := g1
          replace g3 : v8 = (i' : Int) := g3
          subst g1
          replace h := xp_t (by decide +kernel) h
          cases h
          exact Or.inl ⟨rfl, i', g2, g3, g4⟩
        · cases gv
          replace h := xp_f (by decide +kernel) h
          obtain ⟨v28, v29, e5, h⟩ := xz_d2 h
          have etop : pl' (pd + k) = 30 := by rw [ga (pd + k) (by omega), zu_eq]
          have I2 : INVb pl' pd' = 30 := by
            rw [gI]
            show (if 30 ≤ zu pl (pd + k) 30 (pd + k) then zu pl (pd + k) 30 (pd + k) else INVb (zu pl (pd + k) 30) (pd + k)) = 30
            rw [zu_eq, if_pos (by decide)]
          rcases e_test hL gn.2.1 (by omega) gn.2.2.1 gn.2.2.2.2.2.2 (by omega) gP gE with z | z | ⟨_, z | ⟨_, z1, z2⟩ | ⟨_, z1, him2, r, z2, z3⟩⟩
          · omega
          · omega
          · omega
          · rcases p_pass hL gn.2.1 (by decide) (by decide) e5 with ⟨y, _⟩ | ⟨_, y⟩
            · exact absurd y z1
            · cases y
              replace h := xp_f (by decide +kernel) h
              cases h
              exact Or.inl ⟨rfl, i', gn.2.1, rfl, z2⟩
          · rcases p_pass hL gn.2.1 (by decide) (by decide) e5 with ⟨_, _, y⟩ | ⟨y, _⟩
            · cases y
              replace h := xp_t (by decide +kernel) h
              obtain ⟨c2, op2, ar2, w1, w2, w3⟩ := gS 1 r (by decide) z2
              have P2 : PLR pl' (pd + k + 1) := fun j hj => gP j (by omega)
              have w5 := ST_stop (by omega) (by decide) P2 (Or.inr (by rw [show pd + k + 1 - 1 = pd + k from by omega, etop]; decide)) w3
              have w6 := z3 c2 (pd + k) b op2 ar2 w5 rfl
              have ga2 : AGR pl pl' (pd + k) := fun j hj => by rw [ga j (by omega), zu_ne _ _ (by omega)]
              have gb2 : AGR pa pa' (pd + k) := fun j hj => by rw [gb j (by omega), zu_ne _ _ (by omega)]
              refine q_end hL hW hx hb hs0 hi0 hP0 hpd (k := k) (c := c2) (op := op2) (ar := ar2) (pd' := pd + k) ht ⟨by omega, by omega, by omega, by omega, by omega, by omega, by omega⟩ (CS_d gC (by omega)) (AGR_t ha (AGR_w ga2 (by omega : pd ≤ pd + k)) (Nat.le_refl _)) (AGR_t hA (AGR_w gb2 (by omega : pd ≤ pd + k)) (Nat.le_refl _)) (fun j hj => by rw [ga2 _ (by omega)]; exact hk j hj) (PLR_agr hP ga2) ((INV_agr _ ga2).trans I1) (fun least r hl hr => ⟨c2, op2, ar2, w1, RS_d w2 (by omega), hr⟩) w6 h
            · exact absurd z1 y
      · exact absurd c40 q1
    · rw [if_pos (by omega)] at h
      cases h
      rcases e with e | e | ⟨_, _, e⟩ | e
      · omega
      · omega
      · exact Or.inl ⟨rfl, i, hn.2.1, rfl, e⟩
      · omega
  · rw [if_pos c40] at h
    have E1 : EX T n W x1 qs rs o 1 i c0 p (pd + k) b op0 ar0 pl pa := by
      rcases e with e | e | e | e
      · omega
      · omega
      · omega
      · exact e.2
    obtain ⟨v2, v3, v4, v5, a6, e4, h⟩ := xz_d5 h
    rcases S_sum hL hW hx b s0 i p O0 _ hb (by omega) hn.2.1 (by omega) hn.2.2.1 e4 c0 (pd + k) op0 ar0 pl pa hc hn.2.2.2 hP (by rcases hcx with z | z; exact Or.inl z; exact Or.inr (by omega)) E1 with ⟨g1, i', g2, g3, g4⟩ | ⟨s1, i1, p1, c1, O1, op1, ar1, pl1, pa1, ν1, l1, gv, gn, gA, gP, gL, gC, gR, ga, gb, gN, gE⟩
    · replace g1 : v2 = 0 := g1
      replace g3 : v4 = (i' : Int) := g3
      subst g1
      replace h := xp_f (by decide +kernel) h
      cases h
      exact Or.inl ⟨rfl, i', g2, g3, g4⟩
    · cases gv
      replace h := xp_t (by decide +kernel) h
      replace h := p_tok hL gn.2.1 h
      obtain ⟨v8, e5, h⟩ := xz_d1 h
      have hr1 := (tk_r (hL.2.2.2.2.1 i1 gn.2.1)).1
      have P1 : PLR pl1 (pd + k) := PLR_agr hP ga
      have J1 : INVb pl1 (pd + k + l1.length) = INVb pl0 pd := (INV_pend l1 gA gP).trans ((INV_agr _ ga).trans I1)
      have M1 : CMV pl1 (pd + k + l1.length) = 0 := (CMV_pend l1 gA gP).trans ((CMV_agr _ ga).trans (CMV_top hcx))
      rcases e_sum hL gn.2.1 (by omega) gn.2.2.1 gn.2.2.2.2.2.2 hb hx (PLR_pend P1 l1 gA gP) gE with ⟨q, r, q1, _⟩ | ⟨_, z | z | z | z | ⟨_, _, _, z1, z2⟩ | ⟨_, _, _, q, r, z1, him1, z2, z3⟩⟩
      · exfalso; unfold TKO at q1; unfold NOP at gN; omega
      · omega
      · omega
      · omega
      · omega
      · rcases p_cmp (by omega) e5 with ⟨q, y, _⟩ | ⟨_, y⟩
        · exact absurd y (z1 q)
        · subst y
          replace h := xp_t (by decide +kernel) h
          cases h
          exact Or.inl ⟨rfl, i1, gn.2.1, rfl, z2⟩
      · rcases p_cmp (by omega) e5 with ⟨q', y, ey⟩ | ⟨y, _⟩
        · have eq : q' = q := by unfold TKC at y z1; omega
          subst eq
          have hq : 24 ≤ q' ∧ q' < 27 := by unfold TKC at y; omega
          subst ey
          rw [zwi (x := q' - 17) (by omega), zwi (x := -1) (by decide), if_neg (by omega)] at h
          replace h := p_tok hL gn.2.1 h
          obtain ⟨v10, v11, e6, h⟩ := xz_d2 h
          rcases p_pass hL gn.2.1 (by omega) (by unfold TKC at y; omega) e6 with ⟨_, _, y2⟩ | ⟨y2, _⟩
          · cases y2
            replace h := xp_f (by decide +kernel) h
            obtain ⟨v12, v13, v14, v15, a16, e7, h⟩ := xz_d5 h
            obtain ⟨c2, op2, ar2, w1, w2, w3, w4⟩ := ST_arith (by decide) l1 c1 op1 ar1 ν1 gA gP gR gL (by omega) (by omega) (by omega) z2
            have hst : pd + k = 0 ∨ BDS (pl1 (pd + k - 1)) < 5 := by
              rcases hcx with z | z
              · exact Or.inl z
              · rcases Nat.eq_zero_or_pos (pd + k) with z5 | z5
                · exact Or.inl z5
                · right
                  rw [ga _ (by omega)]
                  have := BDS_hi (x := pl (pd + k - 1)) (by omega)
                  omega
            have w5 := ST_stop (by omega) (by decide) P1 hst w4
            obtain ⟨w6, w7⟩ := z3 c2 (pd + k) op2 ar2 w5 (by omega)
            have PQ : PLR (zu pl1 (pd + k) q') (pd + k + 1) := PLR_u P1 (by omega)
            rcases S_sum hL hW hx b s1 (i1 + 1) p1 _ _ hb (by omega) (by omega) (by omega) gn.2.2.1 e7 c2 (pd + k + 1) op2 ar2 _ _ w1 (by omega) PQ (Or.inr (by rw [show pd + k + 1 - 1 = pd + k from by omega, zu_eq]; omega)) w7 with ⟨g1, i', g2, g3, g4⟩ | ⟨s3, i3, p3, c3, O3, op3, ar3, pl3, pa3, ν3, l3, hv, hn3, hA3, hP3, hL3, hC3, hR3, ha3, hb3, hN3, hE3⟩
            · replace g1 : v12 = 0 := g1
              replace g3 : v14 = (i' : Int) := g3
              subst g1
              replace h := xp_f (by decide +kernel) h
              cases h
              exact Or.inl ⟨rfl, i', g2, g3, g4⟩
            · cases hv
              replace h := xp_t (by decide +kernel) h
              obtain ⟨v17, v18, a19, e8, h⟩ := xz_d3 h
              have g1 := p_order (by omega) (by omega) (by decide) e8
              cases g1
              have e3q : pl3 (pd + k) = q' := by rw [ha3 _ (by omega), zu_eq]
              have a13 : AGR pl1 pl3 (pd + k) := fun j hj => by rw [ha3 j (by omega), zu_ne _ _ (by omega)]
              have b13 : AGR pa1 pa3 (pd + k) := fun j hj => by rw [hb3 j (by omega), zu_ne _ _ (by omega)]
              have a03 : AGR pl pl3 (pd + k) := AGR_t ga a13 (Nat.le_refl _)
              have b03 : AGR pa pa3 (pd + k) := AGR_t gb b13 (Nat.le_refl _)
              have P3 : PLR pl3 (pd + k + 1) := PLR_agr PQ ha3
              have J2 : INVb pl3 (pd + k + 1 + l3.length) = INVb pl0 pd := (INV_pend l3 hA3 hP3).trans ((INV_1 (pd := pd + k) (by omega)).trans ((INV_agr _ a03).trans I1))
              have M2 : CMV pl3 (pd + k + 1 + l3.length) = 1 := by
                rw [CMV_pend l3 hA3 hP3]
                show (if 20 ≤ pl3 (pd + k) ∧ pl3 (pd + k) ≤ 23 then CMV pl3 (pd + k) else if 24 ≤ pl3 (pd + k) ∧ pl3 (pd + k) ≤ 26 then 1 else 0) = 1
                rw [e3q, if_neg (by omega), if_pos (by omega)]
              have PP3 := PLR_pend P3 l3 hA3 hP3
              have hCC := CS_app (d := 20 - 2 * b) gC hC3 w3 (by omega) (by omega)
              rcases e_sum hL hn3.2.1 (by omega) hn3.2.2.1 hn3.2.2.2.2.2.2 hb hx PP3 hE3 with ⟨q, r, q1, _⟩ | ⟨_, z | z | z | ⟨_, _, _, z⟩ | z | z⟩
              · exfalso; unfold TKO at q1; unfold NOP at hN3; omega
              · omega
              · omega
              · omega
              · have hdd : 2 ≤ 20 - 2 * b := by omega
                have L3 : LEN (VL l3 ν3) 1 := VL_len l3 ν3 hL3
                have LL : LEN (vapp (VL l1 ν1) (VL l3 ν3)) 2 := LEN_app w3 L3
                have hCe : 16 * 0 + (q' - 17) = 16 * 0 + (q' - 17) := rfl
                have hC4 := CS_op (k := 0) (o := q' - 17) hCC (by omega) LL (by omega)
                rw [show q' - 17 + 17 = q' from by omega] at hC4
                have hC5 := CS_c (BOF_is hq LL) hC4
                refine q_end hL hW hx hb hs0 hi0 hP0 hpd (k := k) ht ⟨by omega, hn3.2.1, hn3.2.2.1, by omega, hn3.2.2.2.2.1, by omega, hn3.2.2.2.2.2.2⟩ hC5 (AGR_t ha (AGR_w a03 (by omega : pd ≤ pd + k)) (Nat.le_refl _)) (AGR_t hA (AGR_w b03 (by omega : pd ≤ pd + k)) (Nat.le_refl _)) (fun j hj => by rw [a03 _ (by omega)]; exact hk j hj) PP3 J2 (fun least r hl hr => ?_) z h
                obtain ⟨c4, op4, ar4, y1, y2, y3, y4⟩ := ST_arith (by omega) l3 c3 op3 ar3 ν3 hA3 hP3 hR3 hL3 (by omega) hn3.2.2.2.2.1 hn3.2.2.2.2.2.2 hr
                have bq : BDS q' = 4 := by
                  have : q' = 24 ∨ q' = 25 ∨ q' = 26 := by omega
                  rcases this with z | z | z <;> rw [z] <;> decide
                have y5 := ST_op (k := pd + k) (by omega) (by rw [e3q, bq]; omega) (by rw [e3q]; omega) (by omega) y4
                rw [e3q] at y5
                have hRR := RS_app (d := 20 - 2 * b) w2 y2 w3 (by omega) (by omega)
                exact ⟨c4 + 1, _, _, by omega, RS_c (BOF_is hq LL) (RS_op (k := 0) hRR (by omega) LL (by omega)), y5.2⟩
              · omega
              · omega
          · exact absurd rfl y2
        · exact absurd z1 (y q)
end
section
/-! the nots -/
theorem q_4 {T : Nat → Int} {n m : Nat} {qs rs : Nat → Nat} {tk vl W : Nat → Int} {x1 : Int} {o : OX} (hL : LEX T n m qs rs tk vl) (hW : ∀ k : Nat, k < 8 → W k = zcd k) (hx : x1 = 0 ∨ x1 = 1) {fT fQ : Int → (Nat → Int) → (Nat → Int) → Int → Int → Int → (Nat → Int) → Option (Int × Int × Int × Int × (Nat → Int))} (hT : PTest T n m qs rs tk vl W x1 o fT) {b s0 i0 c0 pd : Nat} {O0 op0 ar0 pl0 pa0 : Nat → Int} {v : Int × Int × Int × Int × (Nat → Int)} (hb : b ≤ 8) (hs0 : s0 ≤ i0 + 23) (hi0 : 1 ≤ i0) (hP0 : PLR pl0 pd) (hpd : pd ≤ 400) (hI0 : INVb pl0 pd = 30 ∨ (INVb pl0 pd = -1 ∧ x1 = 1)) (hc1 : pd = 0 ∨ 27 ≤ pl0 (pd - 1)) (hc : c0 ≤ 400) : ∀ (N k : Nat) (t : Int) (i p : Nat) (pl pa : Nat → Int), t = ((k % 2 : Nat) : Int) → (i = i0 + k ∧ i ≤ m ∧ p ≤ 50 ∧ pd + k ≤ 400) → AGR pl0 pl pd → AGR pa0 pa pd → (∀ j, j < k → pl (pd + j) = 27) → PLR pl (pd + k) → EX T n W x1 qs rs o 0 i c0 p (pd + k) b op0 ar0 pl pa → f_LawReader_readPlain_4 fT fQ tk vl N (b : Int) t (k : Int) (s0 : Int) (i : Int) (p : Int) O0 = some v → QOut T n m qs rs tk vl W x1 o b s0 i0 c0 pd O0 op0 ar0 pl0 pa0 v := by
  have hnm := hL.2.1
  have hm := hL.2.2.1
  intro N
  induction N with
  | zero => intro k t i p pl pa _ _ _ _ _ _ _ h; exact nomatch h
  | succ N ih =>
    intro k t i p pl pa ht hn ha hA hk hP hE h
    replace h : f_LawReader_readPlain_4_b fT fQ tk vl (f_LawReader_readPlain_4 fT fQ tk vl N) (b : Int) t (k : Int) (s0 : Int) (i : Int) (p : Int) O0 = some v := h
    unfold f_LawReader_readPlain_4_b at h
    rw [zwi (x := 400) (by decide), zwi (x := (k : Int)) (by omega), if_neg (by omega)] at h
    obtain ⟨v1, v2, e1, h⟩ := xz_d2 h
    rcases p_pass hL hn.2.1 (by decide) (by decide) e1 with ⟨q1, him, y⟩ | ⟨q1, y⟩ <;> cases y
    · replace h := xp_f (by decide +kernel) h
      have E1 : pd + k < 400 ∧ EX T n W x1 qs rs o 0 (i + 1) c0 p (pd + k + 1) b op0 ar0 (zu pl (pd + k) 27) (zu pa (pd + k) 0) := by
        rcases e_plain hL hW hn.2.1 (by omega) hn.2.2.1 hn.2.2.2 hb hE with e | e | e | e
        · exact e.2.2
        · omega
        · omega
        · omega
      have go : ∀ t' : Int, t' = (((k + 1) % 2 : Nat) : Int) → f_LawReader_readPlain_30 fT fQ tk vl (f_LawReader_readPlain_4 fT fQ tk vl N) (b : Int) (k : Int) t' (s0 : Int) ((i + 1 : Nat) : Int) (p : Int) O0 = some v → QOut T n m qs rs tk vl W x1 o b s0 i0 c0 pd O0 op0 ar0 pl0 pa0 v := fun t' ht' h => by
        unfold f_LawReader_readPlain_30 at h
        replace h := xp_n h
        refine ih (k + 1) t' (i + 1) p (zu pl (pd + k) 27) (zu pa (pd + k) 0) ht' ⟨by omega, by omega, by omega, by omega⟩ (AGR_t ha (AGR_u (by omega)) (Nat.le_refl _)) (AGR_t hA (AGR_u (by omega)) (Nat.le_refl _)) (fun j hj => ?_) (PLR_u hP (by decide)) E1.2 h
        rcases Nat.lt_or_ge j k with z | z
        · rw [zu_ne _ _ (by omega)]; exact hk j z
        · rw [show j = k from by omega, zu_eq]
      have ht2 : t = 0 ∨ t = 1 := by omega
      rcases ht2 with z | z
      · subst z
        replace h := xp_f (by decide +kernel) h
        exact go 1 (by omega) h
      · subst z
        replace h := xp_t (by decide +kernel) h
        exact go 0 (by omega) h
    · replace h := xp_t (by decide +kernel) h
      refine q_37 hL hW hx hT hb hs0 hi0 hP0 hpd hI0 ?_ ht hc ⟨by omega, by omega, by omega, by omega⟩ ha hA hk hP q1 hE h
      rcases Nat.eq_zero_or_pos k with z | z
      · subst z
        rcases hc1 with y | y
        · exact Or.inl y
        · rcases Nat.eq_zero_or_pos pd with w | w
          · exact Or.inl w
          · right
            rw [show pd + 0 - 1 = pd - 1 from rfl, ha (pd - 1) (by omega)]
            exact y
      · right
        have := hk (k - 1) (by omega)
        rw [show pd + k - 1 = pd + (k - 1) from by omega, this]
        decide
theorem s_plain {T : Nat → Int} {n m : Nat} {qs rs : Nat → Nat} {tk vl W : Nat → Int} {x1 : Int} {o : OX} (hL : LEX T n m qs rs tk vl) (hW : ∀ k : Nat, k < 8 → W k = zcd k) (hx : x1 = 0 ∨ x1 = 1) {fT fQ : Int → (Nat → Int) → (Nat → Int) → Int → Int → Int → (Nat → Int) → Option (Int × Int × Int × Int × (Nat → Int))} (hT : PTest T n m qs rs tk vl W x1 o fT) : PPlain T n m qs rs tk vl W x1 o (fb_LawReader_readPlain fT fQ) := by
  intro b s i p O v hb h1i hi hs hp h c pd op ar pl pa hc hpd hP hcx hE
  unfold fb_LawReader_readPlain at h
  exact q_4 hL hW hx hT hb hs h1i hP hpd hcx.2 hcx.1 hc zfu 0 0 i p pl pa rfl ⟨by omega, hi, hp, by omega⟩ AGR_0 AGR_0 (fun j hj => by omega) hP hE h
/-! the ands, the ors -/
noncomputable def OI (a : Option Nat) : Int := match a with | none => -1 | some k => (k : Int)
noncomputable def ON (a : Option Nat) : Nat := match a with | none => 0 | some _ => 1
noncomputable def PAT (O : Nat → Int) (a : Option Nat) (s : Nat) : Nat → Int := match a with | none => O | some k => zu O k (16 * (s : Int) + O k % 16)
noncomputable def PBT (ar : Nat → Int) (a : Option Nat) (c : Nat) : Nat → Int := match a with | none => ar | some k => zu ar k (c : Int)
theorem ON_1 (a : Option Nat) : ON a ≤ 1 := by cases a with
  | none => exact Nat.zero_le _
  | some k => exact Nat.le_refl _
theorem PAT_ne {O : Nat → Int} {a : Option Nat} {s j : Nat} (h : a ≠ some j) : PAT O a s j = O j := by
  cases a with
  | none => rfl
  | some k => exact zu_ne _ _ (fun e => h (by rw [e]))
theorem PAT_eq {O : Nat → Int} {a : Option Nat} {s j : Nat} (h : a = some j) : PAT O a s j = 16 * (s : Int) + O j % 16 := by subst h; exact zu_eq _ _ _
theorem PBT_ne {O : Nat → Int} {a : Option Nat} {s j : Nat} (h : a ≠ some j) : PBT O a s j = O j := by
  cases a with
  | none => rfl
  | some k => exact zu_ne _ _ (fun e => h (by rw [e]))
theorem PBT_eq {O : Nat → Int} {a : Option Nat} {s j : Nat} (h : a = some j) : PBT O a s j = (s : Int) := by subst h; exact zu_eq _ _ _
theorem p_aimO {a : Option Nat} {s : Nat} {O o : Nat → Int} (hs : s ≤ 424) (ha : ∀ k, a = some k → k < s ∧ 0 ≤ O k ∧ O k ≤ 100000) (h : f_LawReader_aimHere (OI a) (s : Int) O = some o) : o = PAT O a s := by
  cases a with
  | none => exact p_aim0 h
  | some k =>
    have := ha k rfl
    exact p_aim hs this.1 this.2 h
theorem cop_m {v x : Int} (h : v % 16 = 11 ∨ v % 16 = 12) : cop (16 * x + v % 16) = cop v := by
  unfold cop
  rw [if_neg (by omega), if_neg (by omega), if_pos (by omega), if_neg (by omega), if_neg (by omega), if_pos (by omega)]
  omega
noncomputable def PIJ (pl pa : Nat → Int) (pd : Nat) (ro ra : Option Nat) : Prop := (∀ k, ro = some k → pl pd = 29 ∧ pa pd = (k : Int)) ∧ (∀ k, ra = some k → pl (pd + ON ro) = 28 ∧ pa (pd + ON ro) = (k : Int))
theorem PIJ_agr {pl pa pl' pa' : Nat → Int} {pd : Nat} {ro ra : Option Nat} (h : PIJ pl pa pd ro ra) (g1 : AGR pl pl' (pd + ON ro + ON ra)) (g2 : AGR pa pa' (pd + ON ro + ON ra)) : PIJ pl' pa' pd ro ra := by
  refine ⟨fun k hk => ?_, fun k hk => ?_⟩
  · have e := h.1 k hk
    have z : ON ro = 1 := by rw [hk]; rfl
    rw [g1 pd (by omega), g2 pd (by omega)]
    exact e
  · have e := h.2 k hk
    have z : ON ra = 1 := by rw [hk]; rfl
    rw [g1 _ (by omega), g2 _ (by omega)]
    exact e
theorem ST_two {pl pa : Nat → Int} {pd c : Nat} {op ar : Nat → Int} {ro ra : Option Nat} {r : Int × Int × (Nat → Int) × (Nat → Int)} (hJ : PIJ pl pa pd ro ra) (hP : PLR pl (pd + ON ro + ON ra)) (hpd : pd + ON ro + ON ra ≤ 400) (hcx : pd = 0 ∨ pl (pd - 1) = 30) (hra : ∀ k, ra = some k → k ≤ 1000) (h : ST 2 pl pa c (pd + ON ro + ON ra) op ar r) : r = ((c : Int), ((pd + ON ro : Nat) : Int), op, PBT ar ra c) := by
  have fin : ∀ ar', ST 2 pl pa c (pd + ON ro) op ar' r → r = ((c : Int), ((pd + ON ro : Nat) : Int), op, ar') := fun ar' h => by
    refine ST_stop (by omega) (by decide) (fun j hj => hP j (by omega)) ?_ h
    cases ro with
    | none =>
      rcases hcx with z | z
      · exact Or.inl z
      · right
        show BDS (pl (pd + 0 - 1)) < 2
        rw [show pd + 0 - 1 = pd - 1 from rfl, z]
        decide
    | some k =>
      right
      have := (hJ.1 k rfl).1
      show BDS (pl (pd + 1 - 1)) < 2
      rw [show pd + 1 - 1 = pd from by omega, this]
      decide
  cases ra with
  | none => exact fin ar h
  | some k =>
    have e := hJ.2 k rfl
    have hpd' : pd + ON ro + 1 ≤ 400 := hpd
    exact fin _ (ST_jump (by omega) (by rw [e.1]; decide) (Or.inl e.1) e.2 (hra k rfl) h)
theorem ST_one {pl pa : Nat → Int} {pd c : Nat} {op ar : Nat → Int} {ro ra : Option Nat} {r : Int × Int × (Nat → Int) × (Nat → Int)} (hJ : PIJ pl pa pd ro ra) (hpd : pd + ON ro + ON ra ≤ 400) (hra : ∀ k, ra = some k → k ≤ 1000) (hro : ∀ k, ro = some k → k ≤ 1000) (h : ST 1 pl pa c (pd + ON ro + ON ra) op ar r) : ST 1 pl pa c pd op (PBT (PBT ar ra c) ro c) r := by
  have h1 : ST 1 pl pa c (pd + ON ro) op (PBT ar ra c) r := by
    cases ra with
    | none => exact h
    | some k =>
      have e := hJ.2 k rfl
      have hpd' : pd + ON ro + 1 ≤ 400 := hpd
      exact ST_jump (by omega) (by rw [e.1]; decide) (Or.inl e.1) e.2 (hra k rfl) h
  cases ro with
  | none => exact h1
  | some k =>
    have e := hJ.1 k rfl
    have hpd' : pd + 1 + ON ra ≤ 400 := hpd
    exact ST_jump (by omega) (by rw [e.1]; decide) (Or.inr e.1) e.2 (hro k rfl) h1
/-! conditions so far: both codes' halves -/
theorem G_and {op ar op1 ar1 op3 ar3 : Nat → Int} {s k m d : Nat} {a o : Option Nat} {ψ : (Nat → Int) → Option Nat} {β : BNu} (h : PRE op ar s k d a o ψ) (h1 : ∀ j, s ≤ j → j < k → op3 j = op j) (h2 : ∀ j, s ≤ j → j < k → a ≠ some j → o ≠ some j → ar3 j = ar j) (hb : RPush op1 ar1 k m d (BL β)) (h3 : ∀ j, k ≤ j → j < m → op3 j = op1 j ∧ ar3 j = ar1 j) (ho : op3 m = 28) (ha : ∀ i, a = some i → ar3 i = (m : Int)) (hao : ∀ i, a = some i → o ≠ some i) (hd : 1 ≤ d) : PRE op3 ar3 s (m + 1) d (some m) o (ψand ψ β) :=
  PRE_and (ar0 := ar) (d0 := d) (PRE_x h (Nat.le_refl _) (fun j j1 j2 => ⟨h1 j j1 j2, fun _ _ => rfl⟩)) (RPush_x hb (Nat.le_refl _) h3) (Nat.le_refl _) hd ho h2 ha hao
theorem G_or {op ar op1 ar1 op3 ar3 : Nat → Int} {s k m d : Nat} {a o : Option Nat} {ψ : (Nat → Int) → Option Nat} {β : BNu} (h : PRE op ar s k d a o ψ) (h1 : ∀ j, s ≤ j → j < k → op3 j = op j) (h2 : ∀ j, s ≤ j → j < k → a ≠ some j → o ≠ some j → ar3 j = ar j) (hb : RPush op1 ar1 k m d (BL β)) (h3 : ∀ j, k ≤ j → j < m → op3 j = op1 j ∧ ar3 j = ar1 j) (ho : op3 m = 29) (ha : ∀ i, a = some i → ar3 i = (m : Int)) (hoo : ∀ i, o = some i → ar3 i = (m : Int)) (hd : 1 ≤ d) : PRE op3 ar3 s (m + 1) d none (some m) (ψor ψ β) :=
  PRE_or (ar0 := ar) (d0 := d) (PRE_x h (Nat.le_refl _) (fun j j1 j2 => ⟨h1 j j1 j2, fun _ _ => rfl⟩)) (RPush_x hb (Nat.le_refl _) h3) (Nat.le_refl _) hd ho h2 ha hoo
theorem G_end {op ar op1 ar1 op3 ar3 : Nat → Int} {s k m d : Nat} {a o : Option Nat} {ψ : (Nat → Int) → Option Nat} {β : BNu} (h : PRE op ar s k d a o ψ) (h1 : ∀ j, s ≤ j → j < k → op3 j = op j) (h2 : ∀ j, s ≤ j → j < k → a ≠ some j → o ≠ some j → ar3 j = ar j) (hb : RPush op1 ar1 k m d (BL β)) (h3 : ∀ j, k ≤ j → j < m → op3 j = op1 j ∧ ar3 j = ar1 j) (ha : ∀ i, a = some i → ar3 i = (m : Int)) (hoo : ∀ i, o = some i → ar3 i = (m : Int)) (hd : 1 ≤ d) : RPush op3 ar3 s m d (BL (ψend ψ β)) :=
  PRE_end (ar0 := ar) (d0 := d) (PRE_x h (Nat.le_refl _) (fun j j1 j2 => ⟨h1 j j1 j2, fun _ _ => rfl⟩)) (RPush_x hb (Nat.le_refl _) h3) (Nat.le_refl _) hd h2 ha hoo
/-- a half: the code so far, its open jumps -/
noncomputable def HC (O0 O : Nat → Int) (s0 s d : Nat) (a o : Option Nat) (ψ : (Nat → Int) → Option Nat) : Prop :=
  PRE (CO O) (CA O) s0 s d a o ψ ∧ CR O s0 s ∧ AGR O0 O s0 ∧ (∀ k, a = some k → O k % 16 = 11) ∧ (∀ k, o = some k → O k % 16 = 12)
noncomputable def HRR (op0 ar0 op ar : Nat → Int) (c0 c d : Nat) (a o : Option Nat) (ψ : (Nat → Int) → Option Nat) : Prop :=
  PRE op ar c0 c d a o ψ ∧ RG op ar c0 c ∧ (AGR op0 op c0 ∧ AGR ar0 ar c0) ∧ (∀ k, a = some k → op k = 28) ∧ (∀ k, o = some k → op k = 29)
theorem HC_o {O0 O : Nat → Int} {s0 s d : Nat} {a o : Option Nat} {ψ : (Nat → Int) → Option Nat} (h : HC O0 O s0 s d a o ψ) : s0 ≤ s ∧ (∀ k, a = some k → (s0 ≤ k ∧ k < s) ∧ o ≠ some k) ∧ (∀ k, o = some k → (s0 ≤ k ∧ k < s) ∧ a ≠ some k) := by
  refine ⟨h.1.1, fun k hk => ⟨h.1.2.1 k hk, fun e => ?_⟩, fun k hk => ⟨h.1.2.2.1 k hk, fun e => ?_⟩⟩
  · have := h.2.2.2.1 k hk; have := h.2.2.2.2 k e; omega
  · have := h.2.2.2.1 k e; have := h.2.2.2.2 k hk; omega
theorem HRR_o {op0 ar0 op ar : Nat → Int} {s0 s d : Nat} {a o : Option Nat} {ψ : (Nat → Int) → Option Nat} (h : HRR op0 ar0 op ar s0 s d a o ψ) : s0 ≤ s ∧ (∀ k, a = some k → (s0 ≤ k ∧ k < s) ∧ o ≠ some k) ∧ (∀ k, o = some k → (s0 ≤ k ∧ k < s) ∧ a ≠ some k) := by
  refine ⟨h.1.1, fun k hk => ⟨h.1.2.1 k hk, fun e => ?_⟩, fun k hk => ⟨h.1.2.2.1 k hk, fun e => ?_⟩⟩
  · have := h.2.2.2.1 k hk; have := h.2.2.2.2 k e; omega
  · have := h.2.2.2.1 k e; have := h.2.2.2.2 k hk; omega
/-- the class's patched code: what it is at each place -/
theorem PAT_v {O0 O O1 : Nat → Int} {s0 s s1 d : Nat} {a o : Option Nat} {ψ : (Nat → Int) → Option Nat} (h : HC O0 O s0 s d a o ψ) (g : AGR O O1 s) (b2 : Option Nat) (hb : b2 = none ∨ b2 = o) :
    (∀ j, j < s → a ≠ some j → b2 ≠ some j → PAT (PAT O1 a s1) b2 s1 j = O j) ∧ (∀ j, s ≤ j → PAT (PAT O1 a s1) b2 s1 j = O1 j) ∧ (∀ j, a = some j → PAT (PAT O1 a s1) b2 s1 j = 16 * (s1 : Int) + O j % 16) ∧ (∀ j, b2 = some j → PAT (PAT O1 a s1) b2 s1 j = 16 * (s1 : Int) + O j % 16) := by
  have q := HC_o h
  have bo : ∀ j, b2 = some j → o = some j := fun j hj => by
    rcases hb with e | e
    · rw [e] at hj; exact nomatch hj
    · rw [← e]; exact hj
  refine ⟨fun j h1 h2 h3 => ?_, fun j h1 => ?_, fun j h1 => ?_, fun j h1 => ?_⟩
  · rw [PAT_ne h3, PAT_ne h2, g j h1]
  · rw [PAT_ne (fun e => by have := (q.2.2 j (bo j e)).1; omega), PAT_ne (fun e => by have := (q.2.1 j e).1; omega)]
  · rw [PAT_ne (fun e => (q.2.1 j h1).2 (bo j e)), PAT_eq h1, g j (q.2.1 j h1).1.2]
  · have := q.2.2 j (bo j h1)
    rw [PAT_eq h1, PAT_ne this.2, g j this.1.2]
theorem HC_all {O0 O O1 : Nat → Int} {s0 s s1 d : Nat} {a o : Option Nat} {ψ : (Nat → Int) → Option Nat} {β : BNu} (h : HC O0 O s0 s d a o ψ) (g : CSg O O1 s s1 d (BL β)) (b2 : Option Nat) (hb : b2 = none ∨ b2 = o) (hs1 : s1 ≤ 424) (P : Nat → Int) (hP : ∀ j, j < s1 → P j = PAT (PAT O1 a s1) b2 s1 j) :
    (∀ j, s0 ≤ j → j < s → CO P j = CO O j) ∧ (∀ j, s0 ≤ j → j < s → a ≠ some j → b2 ≠ some j → CA P j = CA O j) ∧ (∀ j, s ≤ j → j < s1 → CO P j = CO O1 j ∧ CA P j = CA O1 j) ∧ (∀ i, a = some i → CA P i = (s1 : Int)) ∧ (∀ i, b2 = some i → CA P i = (s1 : Int)) ∧ CR P s0 s1 ∧ AGR O0 P s0 ∧ (∀ k, o = some k → P k % 16 = 12) := by
  have q := HC_o h
  have hs := g.2.2.1
  obtain ⟨v1, v2, v3, v4⟩ := PAT_v (s1 := s1) h g.1 b2 hb
  have bo : ∀ j, b2 = some j → o = some j := fun j hj => by
    rcases hb with e | e
    · rw [e] at hj; exact nomatch hj
    · rw [← e]; exact hj
  have ja : ∀ j, a = some j → P j = 16 * (s1 : Int) + O j % 16 ∧ O j % 16 = 11 := fun j hj => ⟨by rw [hP j (by have := (q.2.1 j hj).1; omega)]; exact v3 j hj, h.2.2.2.1 j hj⟩
  have jb : ∀ j, b2 = some j → P j = 16 * (s1 : Int) + O j % 16 ∧ O j % 16 = 12 := fun j hj => ⟨by rw [hP j (by have := (q.2.2 j (bo j hj)).1; omega)]; exact v4 j hj, h.2.2.2.2 j (bo j hj)⟩
  have jn : ∀ j, j < s → a ≠ some j → b2 ≠ some j → P j = O j := fun j h1 h2 h3 => by rw [hP j (by omega)]; exact v1 j h1 h2 h3
  have je : ∀ j, s ≤ j → j < s1 → P j = O1 j := fun j h1 h2 => by rw [hP j h2]; exact v2 j h1
  refine ⟨fun j h1 h2 => ?_, fun j h1 h2 h3 h4 => ?_, fun j h1 h2 => ?_, fun i hi => ?_, fun i hi => ?_, fun j h1 h2 => ?_, fun j h1 => ?_, fun k hk => ?_⟩
  · unfold CO
    by_cases e : a = some j
    · rw [(ja j e).1, cop_m (Or.inl (ja j e).2)]
    · by_cases e2 : b2 = some j
      · rw [(jb j e2).1, cop_m (Or.inr (jb j e2).2)]
      · rw [jn j h2 e e2]
  · unfold CA
    rw [jn j h2 h3 h4]
  · unfold CO CA
    rw [je j h1 h2]
    exact ⟨rfl, rfl⟩
  · have := ja i hi
    unfold CA car
    omega
  · have := jb i hi
    unfold CA car
    omega
  · rcases Nat.lt_or_ge j s with z | z
    · by_cases e : a = some j
      · have := ja j e; omega
      · by_cases e2 : b2 = some j
        · have := jb j e2; omega
        · rw [jn j z e e2]; exact h.2.1 j h1 z
    · rw [je j z h2]; exact g.2.1 j z h2
  · rw [jn j (by omega) (fun e => by have := (q.2.1 j e).1; omega) (fun e => by have := (q.2.2 j (bo j e)).1; omega)]
    exact h.2.2.1 j h1
  · by_cases e2 : b2 = some k
    · have := jb k e2; omega
    · have := q.2.2 k hk
      rw [jn k this.1.2 this.2 e2]
      exact h.2.2.2.2 k hk
theorem HC_and {O0 O O1 : Nat → Int} {s0 s s1 d : Nat} {a o : Option Nat} {ψ : (Nat → Int) → Option Nat} {β : BNu} (h : HC O0 O s0 s d a o ψ) (g : CSg O O1 s s1 d (BL β)) (hs1 : s1 ≤ 424) (hd : 1 ≤ d) : HC O0 (zu (PAT O1 a s1) s1 (16 * 0 + 11)) s0 (s1 + 1) d (some s1) o (ψand ψ β) := by
  have q := HC_o h
  have hs := g.2.2.1
  obtain ⟨w1, w2, w3, w4, w5, w6, w7, w8⟩ := HC_all h g none (Or.inl rfl) hs1 (zu (PAT O1 a s1) s1 (16 * 0 + 11)) (fun j hj => zu_ne _ _ (by omega))
  refine ⟨G_and h.1 w1 (fun j j1 j2 j3 j4 => w2 j j1 j2 j3 (fun e => nomatch e)) g.2.2 w3 ?_ w4 (fun i hi => (q.2.1 i hi).2) hd, fun j h1 h2 => ?_, w7, fun k hk => ?_, w8⟩
  · show cop (zu (PAT O1 a s1) s1 (16 * 0 + 11) s1) = 28
    rw [zu_eq]; decide
  · rcases Nat.lt_or_ge j s1 with z | z
    · exact w6 j h1 z
    · rw [show j = s1 from by omega, zu_eq]; decide
  · cases hk
    rw [zu_eq]; decide
theorem HC_or {O0 O O1 : Nat → Int} {s0 s s1 d : Nat} {a o : Option Nat} {ψ : (Nat → Int) → Option Nat} {β : BNu} (h : HC O0 O s0 s d a o ψ) (g : CSg O O1 s s1 d (BL β)) (hs1 : s1 ≤ 424) (hd : 1 ≤ d) : HC O0 (zu (PAT (PAT O1 a s1) o s1) s1 (16 * 0 + 12)) s0 (s1 + 1) d none (some s1) (ψor ψ β) := by
  have q := HC_o h
  have hs := g.2.2.1
  obtain ⟨w1, w2, w3, w4, w5, w6, w7, w8⟩ := HC_all h g o (Or.inr rfl) hs1 (zu (PAT (PAT O1 a s1) o s1) s1 (16 * 0 + 12)) (fun j hj => zu_ne _ _ (by omega))
  refine ⟨G_or h.1 w1 w2 g.2.2 w3 ?_ w4 w5 hd, fun j h1 h2 => ?_, w7, (fun k hk => nomatch hk), fun k hk => ?_⟩
  · show cop (zu (PAT (PAT O1 a s1) o s1) s1 (16 * 0 + 12) s1) = 29
    rw [zu_eq]; decide
  · rcases Nat.lt_or_ge j s1 with z | z
    · exact w6 j h1 z
    · rw [show j = s1 from by omega, zu_eq]; decide
  · cases hk
    rw [zu_eq]; decide
theorem HC_end {O0 O O1 : Nat → Int} {s0 s s1 d : Nat} {a o : Option Nat} {ψ : (Nat → Int) → Option Nat} {β : BNu} (h : HC O0 O s0 s d a o ψ) (g : CSg O O1 s s1 d (BL β)) (hs1 : s1 ≤ 424) (hd : 1 ≤ d) : CSg O0 (PAT (PAT O1 a s1) o s1) s0 s1 d (BL (ψend ψ β)) := by
  obtain ⟨w1, w2, w3, w4, w5, w6, w7, w8⟩ := HC_all h g o (Or.inr rfl) hs1 (PAT (PAT O1 a s1) o s1) (fun j hj => rfl)
  exact ⟨w7, w6, G_end h.1 w1 w2 g.2.2 w3 w4 w5 hd⟩
/-- the reference's patched code -/
theorem HRR_all {op0 ar0 op ar op1 ar1 : Nat → Int} {c0 c c1 d : Nat} {a o : Option Nat} {ψ : (Nat → Int) → Option Nat} {β : BNu} (h : HRR op0 ar0 op ar c0 c d a o ψ) (g : RSg op ar op1 ar1 c c1 d (BL β)) (b2 : Option Nat) (hb : b2 = none ∨ b2 = o) (hc1 : c1 ≤ 1000) (P Q : Nat → Int) (hQ : ∀ j, j < c1 → Q j = op1 j) (hP : ∀ j, j < c1 → P j = PBT (PBT ar1 a c1) b2 c1 j) :
    (∀ j, c0 ≤ j → j < c → Q j = op j) ∧ (∀ j, c0 ≤ j → j < c → a ≠ some j → b2 ≠ some j → P j = ar j) ∧ (∀ j, c ≤ j → j < c1 → Q j = op1 j ∧ P j = ar1 j) ∧ (∀ i, a = some i → P i = (c1 : Int)) ∧ (∀ i, b2 = some i → P i = (c1 : Int)) ∧ RG Q P c0 c1 ∧ (AGR op0 Q c0 ∧ AGR ar0 P c0) ∧ (∀ k, o = some k → Q k = 29) := by
  have q := HRR_o h
  have hs := g.2.2.1
  have bo : ∀ j, b2 = some j → o = some j := fun j hj => by
    rcases hb with e | e
    · rw [e] at hj; exact nomatch hj
    · rw [← e]; exact hj
  have jq : ∀ j, j < c → Q j = op j := fun j h1 => by rw [hQ j (by omega), g.1.1 j h1]
  have jn : ∀ j, j < c → a ≠ some j → b2 ≠ some j → P j = ar j := fun j h1 h2 h3 => by rw [hP j (by omega), PBT_ne h3, PBT_ne h2, g.1.2 j h1]
  have je : ∀ j, c ≤ j → j < c1 → P j = ar1 j := fun j h1 h2 => by rw [hP j h2, PBT_ne (fun e => by have := (q.2.2 j (bo j e)).1; omega), PBT_ne (fun e => by have := (q.2.1 j e).1; omega)]
  have ja : ∀ j, a = some j → P j = (c1 : Int) := fun j hj => by
    have := q.2.1 j hj
    rw [hP j (by omega), PBT_ne (fun e => this.2 (bo j e)), PBT_eq hj]
  have jb : ∀ j, b2 = some j → P j = (c1 : Int) := fun j hj => by
    have := q.2.2 j (bo j hj)
    rw [hP j (by omega), PBT_eq hj]
  refine ⟨fun j h1 h2 => jq j h2, fun j h1 h2 h3 h4 => jn j h2 h3 h4, fun j h1 h2 => ⟨hQ j h2, je j h1 h2⟩, ja, jb, fun j h1 h2 => ?_, ⟨fun j h1 => ?_, fun j h1 => ?_⟩, fun k hk => ?_⟩
  · rcases Nat.lt_or_ge j c with z | z
    · rw [jq j z]
      have := h.2.1 j h1 z
      by_cases e : a = some j
      · rw [ja j e]; omega
      · by_cases e2 : b2 = some j
        · rw [jb j e2]; omega
        · rw [jn j z e e2]; exact this
    · rw [hQ j h2, je j z h2]; exact g.2.1 j z h2
  · rw [jq j (by omega)]; exact h.2.2.1.1 j h1
  · rw [jn j (by omega) (fun e => by have := (q.2.1 j e).1; omega) (fun e => by have := (q.2.2 j (bo j e)).1; omega)]
    exact h.2.2.1.2 j h1
  · have := q.2.2 k hk
    rw [jq k this.1.2]
    exact h.2.2.2.2 k hk
theorem HRR_and {op0 ar0 op ar op1 ar1 : Nat → Int} {c0 c c1 d : Nat} {a o : Option Nat} {ψ : (Nat → Int) → Option Nat} {β : BNu} (h : HRR op0 ar0 op ar c0 c d a o ψ) (g : RSg op ar op1 ar1 c c1 d (BL β)) (hc1 : c1 ≤ 1000) (hd : 1 ≤ d) : HRR op0 ar0 (zu op1 c1 28) (zu (PBT ar1 a c1) c1 0) c0 (c1 + 1) d (some c1) o (ψand ψ β) := by
  have q := HRR_o h
  have hs := g.2.2.1
  obtain ⟨w1, w2, w3, w4, w5, w6, w7, w8⟩ := HRR_all h g none (Or.inl rfl) hc1 (zu (PBT ar1 a c1) c1 0) (zu op1 c1 28) (fun j hj => zu_ne _ _ (by omega)) (fun j hj => zu_ne _ _ (by omega))
  refine ⟨G_and h.1 w1 (fun j j1 j2 j3 j4 => w2 j j1 j2 j3 (fun e => nomatch e)) g.2.2 w3 (zu_eq _ _ _) w4 (fun i hi => (q.2.1 i hi).2) hd, fun j h1 h2 => ?_, w7, fun k hk => ?_, w8⟩
  · rcases Nat.lt_or_ge j c1 with z | z
    · exact w6 j h1 z
    · rw [show j = c1 from by omega, zu_eq, zu_eq]; decide
  · cases hk
    exact zu_eq _ _ _
theorem HRR_or {op0 ar0 op ar op1 ar1 : Nat → Int} {c0 c c1 d : Nat} {a o : Option Nat} {ψ : (Nat → Int) → Option Nat} {β : BNu} (h : HRR op0 ar0 op ar c0 c d a o ψ) (g : RSg op ar op1 ar1 c c1 d (BL β)) (hc1 : c1 ≤ 1000) (hd : 1 ≤ d) : HRR op0 ar0 (zu op1 c1 29) (zu (PBT (PBT ar1 a c1) o c1) c1 0) c0 (c1 + 1) d none (some c1) (ψor ψ β) := by
  have q := HRR_o h
  have hs := g.2.2.1
  obtain ⟨w1, w2, w3, w4, w5, w6, w7, w8⟩ := HRR_all h g o (Or.inr rfl) hc1 (zu (PBT (PBT ar1 a c1) o c1) c1 0) (zu op1 c1 29) (fun j hj => zu_ne _ _ (by omega)) (fun j hj => zu_ne _ _ (by omega))
  refine ⟨G_or h.1 w1 w2 g.2.2 w3 (zu_eq _ _ _) w4 w5 hd, fun j h1 h2 => ?_, w7, (fun k hk => nomatch hk), fun k hk => ?_⟩
  · rcases Nat.lt_or_ge j c1 with z | z
    · exact w6 j h1 z
    · rw [show j = c1 from by omega, zu_eq, zu_eq]; decide
  · cases hk
    exact zu_eq _ _ _
theorem HRR_end {op0 ar0 op ar op1 ar1 : Nat → Int} {c0 c c1 d : Nat} {a o : Option Nat} {ψ : (Nat → Int) → Option Nat} {β : BNu} (h : HRR op0 ar0 op ar c0 c d a o ψ) (g : RSg op ar op1 ar1 c c1 d (BL β)) (hc1 : c1 ≤ 1000) (hd : 1 ≤ d) : RSg op0 ar0 op1 (PBT (PBT ar1 a c1) o c1) c0 c1 d (BL (ψend ψ β)) := by
  obtain ⟨w1, w2, w3, w4, w5, w6, w7, w8⟩ := HRR_all h g o (Or.inr rfl) hc1 (PBT (PBT ar1 a c1) o c1) op1 (fun j hj => rfl) (fun j hj => rfl)
  exact ⟨w7, w6, G_end h.1 w1 w2 g.2.2 w3 w4 w5 hd⟩
/-! a TEST's loop -/
noncomputable def TLoop (T : Nat → Int) (n m : Nat) (qs rs : Nat → Nat) (tk vl W : Nat → Int) (x1 : Int) (o : OX) (b s0 i0 c0 pd : Nat) (O0 op0 ar0 pl0 pa0 : Nat → Int) (x2 x3 : Int) (x4 s i p c : Nat) (O op ar pl pa : Nat → Int) : Prop :=
  ∃ (ca co ra ro : Option Nat) (ψ : (Nat → Int) → Option Nat), (x2 = OI ca ∧ x3 = OI co) ∧ (x4 + 1 ≤ i ∧ i ≤ m ∧ p ≤ 50 ∧ s + i0 ≤ s0 + i ∧ i0 ≤ i ∧ c ≤ 400 ∧ (pd + ON ro + ON ra) ≤ 400) ∧ HC O0 O s0 s (20 - 2 * b) ca co ψ ∧ HRR op0 ar0 op ar c0 c (20 - 2 * b) ra ro ψ ∧ PIJ pl pa pd ro ra ∧ AGR pl0 pl pd ∧ AGR pa0 pa pd ∧ PLR pl (pd + ON ro + ON ra) ∧ INVb pl (pd + ON ro + ON ra) = INVb pl0 pd ∧ EX T n W x1 qs rs o 0 i c p (pd + ON ro + ON ra) b op ar pl pa
theorem t_7 {T : Nat → Int} {n m : Nat} {qs rs : Nat → Nat} {tk vl W : Nat → Int} {x1 : Int} {o : OX} (hL : LEX T n m qs rs tk vl) (hW : ∀ k : Nat, k < 8 → W k = zcd k) (hx : x1 = 0 ∨ x1 = 1) {fT fQ : Int → (Nat → Int) → (Nat → Int) → Int → Int → Int → (Nat → Int) → Option (Int × Int × Int × Int × (Nat → Int))} (hQ : PPlain T n m qs rs tk vl W x1 o fQ) {b s0 i0 c0 pd : Nat} {O0 op0 ar0 pl0 pa0 : Nat → Int} {v : Int × Int × Int × Int × (Nat → Int)} (hb : b ≤ 8) (hs0 : s0 ≤ i0 + 23) (hi0 : 1 ≤ i0) (hP0 : PLR pl0 pd) (hcx : (pd = 0 ∧ x1 = 1) ∨ (1 ≤ pd ∧ pl0 (pd - 1) = 30)) : ∀ (N : Nat) (x2 x3 : Int) (x4 s i p c : Nat) (O op ar pl pa : Nat → Int), TLoop T n m qs rs tk vl W x1 o b s0 i0 c0 pd O0 op0 ar0 pl0 pa0 x2 x3 x4 s i p c O op ar pl pa → f_LawReader_readTest_7 fT fQ tk vl N (b : Int) x2 x3 (x4 : Int) (s : Int) (i : Int) (p : Int) O = some v → TOut T n m qs rs tk vl W x1 o b s0 i0 c0 pd O0 op0 ar0 pl0 pa0 v := by
  have hnm := hL.2.1
  have hm := hL.2.2.1
  have hI0 : INVb pl0 pd = 30 ∨ (INVb pl0 pd = -1 ∧ x1 = 1) := by
    rcases hcx with ⟨z1, z2⟩ | ⟨z1, z2⟩
    · subst z1
      exact Or.inr ⟨rfl, z2⟩
    · left
      cases pd with
      | zero => omega
      | succ k =>
        have z3 : pl0 k = 30 := z2
        show (if 30 ≤ pl0 k then pl0 k else INVb pl0 k) = 30
        rw [z3, if_pos (by decide)]
  intro N
  induction N with
  | zero => intro x2 x3 x4 s i p c O op ar pl pa _ h; exact nomatch h
  | succ N ih =>
    intro x2 x3 x4 s i p c O op ar pl pa hS h
    obtain ⟨ca, co, ra, ro, ψ, ⟨e2, e3⟩, hn, hC, hR, hJ, hA1, hA2, hP, hI, hE⟩ := hS
    subst e2
    subst e3
    have o1 := ON_1 ro
    have o2 := ON_1 ra
    have cb := HC_o hC
    have rb := HRR_o hR
    replace h : f_LawReader_readTest_7_b fT fQ tk vl (f_LawReader_readTest_7 fT fQ tk vl N) (b : Int) (OI ca) (OI co) (x4 : Int) (s : Int) (i : Int) (p : Int) O = some v := h
    unfold f_LawReader_readTest_7_b at h
    rw [zwi (x := 400) (by decide), zwi (x := (x4 : Int)) (by omega), if_neg (by omega)] at h
    obtain ⟨v1, v2, v3, v4, a5, e1, h⟩ := xz_d5 h
    have htop : (pd + ON ro + ON ra) = 0 ∨ 27 ≤ pl ((pd + ON ro + ON ra) - 1) := by
      cases ra with
      | some k =>
        right
        have := (hJ.2 k rfl).1
        show 27 ≤ pl (pd + ON ro + 1 - 1)
        rw [show pd + ON ro + 1 - 1 = pd + ON ro from by omega, this]; decide
      | none =>
        cases ro with
        | some k =>
          right
          have := (hJ.1 k rfl).1
          show 27 ≤ pl (pd + 1 + 0 - 1)
          rw [show pd + 1 + 0 - 1 = pd from by omega, this]; decide
        | none =>
          rcases hcx with ⟨z1, _⟩ | ⟨z1, z2⟩
          · exact Or.inl z1
          · right
            show 27 ≤ pl (pd + 0 + 0 - 1)
            rw [show pd + 0 + 0 - 1 = pd - 1 from rfl, hA1 (pd - 1) (by omega), z2]; decide
    rcases hQ b s i p O _ hb (by omega) hn.2.1 (by omega) hn.2.2.1 e1 c (pd + ON ro + ON ra) op ar pl pa hn.2.2.2.2.2.1 hn.2.2.2.2.2.2 hP ⟨htop, by rw [hI]; exact hI0⟩ hE with ⟨g1, i', g2, g3, g4⟩ | ⟨s1, i1, p1, c1, pd1, O1, op1, ar1, pl1, pa1, β, gv, gn, gC, ga, gb, gP, gI, gS, gE⟩
    · replace g1 : v1 = 0 := g1
      replace g3 : v3 = (i' : Int) := g3
      subst g1
      replace h := xp_t (by decide +kernel) h
      cases h
      exact Or.inl ⟨rfl, i', g2, g3, g4⟩
    · cases gv
      replace h := xp_f (by decide +kernel) h
      have hss := gC.2.2.1
      have J1 := PIJ_agr hJ ga gb
      have A1 : AGR pl0 pl1 pd := AGR_t hA1 (AGR_w ga (by omega : pd ≤ (pd + ON ro + ON ra))) (Nat.le_refl _)
      have A2 : AGR pa0 pa1 pd := AGR_t hA2 (AGR_w gb (by omega : pd ≤ (pd + ON ro + ON ra))) (Nat.le_refl _)
      have PJ : PLR pl1 (pd + ON ro + ON ra) := PLR_agr hP ga
      have cx1 : pd = 0 ∨ pl1 (pd - 1) = 30 := by
        rcases hcx with ⟨z1, _⟩ | ⟨z1, z2⟩
        · exact Or.inl z1
        · right; rw [A1 (pd - 1) (by omega)]; exact z2
      have hra : ∀ k, ra = some k → k ≤ 1000 := fun k hk => by have := (rb.2.1 k hk).1; omega
      have hro : ∀ k, ro = some k → k ≤ 1000 := fun k hk => by have := (rb.2.2 k hk).1; omega
      have II : INVb pl1 pd1 = INVb pl0 pd := gI.trans hI
      have IB : INVb pl1 pd = INVb pl0 pd := INV_agr pd A1
      obtain ⟨a6, e6, h⟩ := xz_d1 h
      have g6 := p_aimO (a := ca) (by omega) (fun k hk => by
        have z := (cb.2.1 k hk).1
        rw [gC.1 k (by omega)]
        exact ⟨by omega, hC.2.1 k z.1 z.2⟩) e6
      subst g6
      obtain ⟨v7, v8, e7, h⟩ := xz_d2 h
      have eT := e_test hL gn.2.1 (by omega) gn.2.2.1 gn.2.2.2.2.2.2 hb gP gE
      rcases p_pass hL gn.2.1 (by decide) (by decide) e7 with ⟨q1, him, y⟩ | ⟨q1, y⟩ <;> cases y
      · replace h := xp_f (by decide +kernel) h
        obtain ⟨v15, v16, a17, e8, h⟩ := xz_d3 h
        have g8 := p_order (by omega) (by decide) (by decide) e8
        cases g8
        unfold f_LawReader_readTest_76 at h
        replace h := xp_n h
        rcases eT with ⟨_, _, r, z1, z2⟩ | z | z
        · obtain ⟨c2, op2, ar2, w1, w2, w3⟩ := gS 2 r (by decide) z1
          have w4 := ST_two J1 PJ hn.2.2.2.2.2.2 cx1 hra w3
          obtain ⟨w5, w6, w7⟩ := z2 c2 (pd + ON ro) op2 _ w4 (by omega) (by omega)
          refine ih (OI (some s1)) (OI co) (x4 + 1) (s1 + 1) (i1 + 1) p1 (c2 + 1) _ _ _ _ _ ⟨some s1, co, some c2, ro, ψand ψ β, ⟨rfl, rfl⟩, ⟨by omega, by omega, by omega, by omega, by omega, by omega, by show pd + ON ro + 1 ≤ 400; omega⟩, HC_and hC gC (by omega) (by omega), HRR_and hR w2 (by omega) (by omega), ⟨fun k hk => ?_, fun k hk => ?_⟩, AGR_t A1 (AGR_u (by omega)) (Nat.le_refl _), AGR_t A2 (AGR_u (by omega)) (Nat.le_refl _), PLR_u (fun j hj => PJ j (by omega)) (by decide), ?_, w7⟩ h
          · have z : ON ro = 1 := by rw [hk]; rfl
            rw [zu_ne _ _ (by omega), zu_ne _ _ (by omega)]
            exact J1.1 k hk
          · cases hk
            exact ⟨zu_eq _ _ _, zu_eq _ _ _⟩
          · show INVb (zu pl1 (pd + ON ro) 28) (pd + ON ro + 1) = INVb pl0 pd
            rw [INV_1 (by rw [zu_eq]; decide), INV_agr _ (AGR_u (Nat.le_refl _))]
            cases ro with
            | none => exact IB
            | some k => exact (INV_1 (pd := pd) (by rw [(J1.1 k rfl).1]; decide)).trans IB
        · omega
        · omega
      · replace h := xp_t (by decide +kernel) h
        obtain ⟨a9, e9, h⟩ := xz_d1 h
        have g9 := p_aimO (a := co) (by omega) (fun k hk => by
          have z := cb.2.2 k hk
          rw [PAT_ne z.2, gC.1 k (by omega)]
          exact ⟨by omega, hC.2.1 k z.1.1 z.1.2⟩) e9
        subst g9
        obtain ⟨v10, v11, e10, h⟩ := xz_d2 h
        rcases p_pass hL gn.2.1 (by decide) (by decide) e10 with ⟨q2, him, y⟩ | ⟨q2, y⟩ <;> cases y
        · replace h := xp_t (by decide +kernel) h
          obtain ⟨v12, v13, a14, e8, h⟩ := xz_d3 h
          have g8 := p_order (by omega) (by decide) (by decide) e8
          cases g8
          unfold f_LawReader_readTest_76 at h
          replace h := xp_n h
          rcases eT with z | ⟨_, _, r, z1, z2⟩ | z
          · omega
          · obtain ⟨c2, op2, ar2, w1, w2, w3⟩ := gS 1 r (by decide) z1
            have w4 := ST_stop (by omega) (by decide) (fun j hj => PJ j (by omega)) (by
              rcases cx1 with z | z
              · exact Or.inl z
              · right; rw [z]; decide) (ST_one J1 hn.2.2.2.2.2.2 hra hro w3)
            obtain ⟨w5, w6, w7⟩ := z2 c2 pd op2 _ w4 (by omega) (by omega)
            refine ih (OI none) (OI (some s1)) (x4 + 1) (s1 + 1) (i1 + 1) p1 (c2 + 1) _ _ _ _ _ ⟨none, some s1, none, some c2, ψor ψ β, ⟨rfl, rfl⟩, ⟨by omega, by omega, by omega, by omega, by omega, by omega, by show pd + 1 + 0 ≤ 400; omega⟩, HC_or hC gC (by omega) (by omega), HRR_or hR w2 (by omega) (by omega), ⟨fun k hk => ?_, (fun k hk => nomatch hk)⟩, AGR_t A1 (AGR_u (by omega)) (Nat.le_refl _), AGR_t A2 (AGR_u (by omega)) (Nat.le_refl _), PLR_u (fun j hj => PJ j (by omega)) (by decide), ?_, w7⟩ h
            · cases hk
              exact ⟨zu_eq _ _ _, zu_eq _ _ _⟩
            · show INVb (zu pl1 pd 29) (pd + 1) = INVb pl0 pd
              rw [INV_1 (by rw [zu_eq]; decide), INV_agr _ (AGR_u (Nat.le_refl _))]
              exact IB
          · omega
        · replace h := xp_f (by decide +kernel) h
          cases h
          refine Or.inr ⟨s1, i1, p1, c1, pd1, _, op1, ar1, pl1, pa1, ψend ψ β, rfl, ⟨by omega, by omega, by omega, by omega, by omega, by omega, by omega⟩, HC_end hC gC (by omega) (by omega), A1, A2, gP, II, fun least r hl hr => ?_, ⟨q1, q2⟩, gE⟩
          have hz : least = 1 := by omega
          subst hz
          obtain ⟨c2, op2, ar2, w1, w2, w3⟩ := gS 1 r (by decide) hr
          exact ⟨c2, op2, _, w1, HRR_end hR w2 (by omega) (by omega), ST_one J1 hn.2.2.2.2.2.2 hra hro w3⟩
theorem s_test {T : Nat → Int} {n m : Nat} {qs rs : Nat → Nat} {tk vl W : Nat → Int} {x1 : Int} {o : OX} (hL : LEX T n m qs rs tk vl) (hW : ∀ k : Nat, k < 8 → W k = zcd k) (hx : x1 = 0 ∨ x1 = 1) {fT fQ : Int → (Nat → Int) → (Nat → Int) → Int → Int → Int → (Nat → Int) → Option (Int × Int × Int × Int × (Nat → Int))} (hQ : PPlain T n m qs rs tk vl W x1 o fQ) : PTest T n m qs rs tk vl W x1 o (fb_LawReader_readTest fT fQ) := by
  intro b s i p O v hb h1i hi hs hp h c pd op ar pl pa hc hpd hP hcx hE
  unfold fb_LawReader_readTest at h
  exact t_7 hL hW hx hQ hb hs h1i hP hcx zfu (-1) (-1) 0 s i p c O op ar pl pa ⟨none, none, none, none, _, ⟨rfl, rfl⟩, ⟨by omega, hi, hp, by omega, by omega, hc, hpd⟩, ⟨PRE_0, (fun j h1 h2 => by omega), AGR_0, (fun k hk => nomatch hk), (fun k hk => nomatch hk)⟩, ⟨PRE_0, (fun j h1 h2 => by omega), ⟨AGR_0, AGR_0⟩, (fun k hk => nomatch hk), (fun k hk => nomatch hk)⟩, ⟨(fun k hk => nomatch hk), (fun k hk => nomatch hk)⟩, AGR_0, AGR_0, hP, rfl, hE⟩ h
theorem t_both {T : Nat → Int} {n m : Nat} {qs rs : Nat → Nat} {tk vl W : Nat → Int} {x1 : Int} {o : OX} (hL : LEX T n m qs rs tk vl) (hW : ∀ k : Nat, k < 8 → W k = zcd k) (hx : x1 = 0 ∨ x1 = 1) : ∀ D : Nat, PTest T n m qs rs tk vl W x1 o (g_LawReader_readTest D).1 ∧ PPlain T n m qs rs tk vl W x1 o (g_LawReader_readTest D).2 := by
  intro D
  induction D with
  | zero => exact ⟨(fun b s i p O v _ _ _ _ _ h => nomatch h), (fun b s i p O v _ _ _ _ _ h => nomatch h)⟩
  | succ D ih => exact ⟨s_test hL hW hx ih.2, s_plain hL hW hx ih.1⟩
theorem S_test {T : Nat → Int} {n m : Nat} {qs rs : Nat → Nat} {tk vl W : Nat → Int} {x1 : Int} {o : OX} (hL : LEX T n m qs rs tk vl) (hW : ∀ k : Nat, k < 8 → W k = zcd k) (hx : x1 = 0 ∨ x1 = 1) : PTest T n m qs rs tk vl W x1 o f_LawReader_readTest := fun b s i p O v h1 h2 h3 h4 h5 h => (t_both hL hW hx zdp).1 b s i p O v h1 h2 h3 h4 h5 (by unfold f_LawReader_readTest at h; exact h)
end
section
/-! EXPRESSIONS, whole -/
theorem X_sum {T : Nat → Int} {n m : Nat} {qs rs : Nat → Nat} {tk vl W : Nat → Int} (hL : LEX T n m qs rs tk vl) (hW : ∀ k : Nat, k < 8 → W k = zcd k) {s i p c : Nat} {O op ar pl pa : Nat → Int} {pd0 b0 : Int} {v : Int × Int × Int × Int × (Nat → Int)} {o : OX} (h1 : 1 ≤ i) (hi : i ≤ m) (hs : s ≤ i + 23) (hp : p ≤ 50) (hc : c ≤ 400) (h : f_LawReader_readSum 0 tk vl (s : Int) (i : Int) (p : Int) O = some v)
    (g : f_HM_readExpression 0 (n : Int) T W (qs i : Int) (rs i : Int) (SO T n (qs i)) (WO T n (qs i) (rs i)) (-1) 0 (c : Int) (p : Int) pd0 b0 op ar pl pa = some o) :
    (v.1 = 0 ∧ ∃ i' : Nat, i' ≤ m ∧ v.2.2.1 = (i' : Int) ∧ FL qs o i') ∨ ∃ (s' i' p' c' : Nat) (O' op' ar' pl' pa' : Nat → Int) (ν : LNu), v = (1, (s' : Int), (i' : Int), (p' : Int), O') ∧ o = ((qs i' : Int), (rs i' : Int), SO T n (qs i'), WO T n (qs i') (rs i'), -1, 0, (c' : Int), (p' : Int), 0, 0, op', ar', pl', pa') ∧ (i < i' ∧ i' ≤ m ∧ p' ≤ 50 ∧ s' + i ≤ s + i' ∧ c' ≤ 400) ∧ LEN ν 1 ∧ CSg O O' s s' 19 ν ∧ RSg op ar op' ar' c c' 19 ν := by
  have hnm := hL.2.1
  have hm := hL.2.2.1
  unfold f_HM_readExpression at g
  replace g := xp_t (by decide +kernel) g
  unfold f_HM_readExpression_19 at g
  have hP0 : PLR pl 0 := fun k hk => by omega
  have hx : (0 : Int) = 0 ∨ (0 : Int) = 1 := Or.inl rfl
  rcases S_sum (x1 := 0) (o := o) hL hW hx 0 s i p O v (by decide) h1 hi hs hp h c 0 op ar pl pa hc (by decide) hP0 (Or.inl rfl) ⟨zfu, g⟩ with z | ⟨s', i', p', c', O', op', ar', pl', pa', ν, l, gv, gn, gA, gP, gL, gC, gR, ga, gb, gN, gE⟩
  · exact Or.inl z
  · have P1 : PLR pl' 0 := fun k hk => by omega
    have I1 := INV_pend (pl := pl') (pd := 0) l gA gP
    have i0 : INVb pl' 0 = -1 := rfl
    rw [i0] at I1
    rcases e_sum hL gn.2.1 (by omega) gn.2.2.1 gn.2.2.2.2.2.2 (by decide) hx (PLR_pend P1 l gA gP) gE with ⟨q, r, q1, _⟩ | ⟨_, z | z | ⟨_, _, z⟩ | z | z | z⟩
    · exfalso; unfold TKO at q1; unfold NOP at gN; omega
    · omega
    · omega
    · obtain ⟨r1, r2, r3, r4, z1, z2⟩ := e_over z
      obtain ⟨c2, op2, ar2, w1, w2, w3, w4⟩ := ST_arith (by decide) l c' op' ar' ν gA gP gR gL (by omega) (by omega) (by omega) z1
      have w5 := ST_stop (by omega) (by decide) P1 (Or.inl rfl) w4
      cases w5
      exact Or.inr ⟨s', i', p', c2, O', _, _, pl', pa', VL l ν, gv, z2, ⟨by omega, by omega, by omega, by omega, w1⟩, w3, gC, w2⟩
    · omega
    · omega
    · omega
theorem X_test {T : Nat → Int} {n m : Nat} {qs rs : Nat → Nat} {tk vl W : Nat → Int} (hL : LEX T n m qs rs tk vl) (hW : ∀ k : Nat, k < 8 → W k = zcd k) {s i p c : Nat} {O op ar pl pa : Nat → Int} {pd0 b0 : Int} {v : Int × Int × Int × Int × (Nat → Int)} {o : OX} (h1 : 1 ≤ i) (hi : i ≤ m) (hs : s ≤ i + 23) (hp : p ≤ 50) (hc : c ≤ 400) (h : f_LawReader_readTest 0 tk vl (s : Int) (i : Int) (p : Int) O = some v)
    (g : f_HM_readExpression 1 (n : Int) T W (qs i : Int) (rs i : Int) (SO T n (qs i)) (WO T n (qs i) (rs i)) (-1) 0 (c : Int) (p : Int) pd0 b0 op ar pl pa = some o) :
    (v.1 = 0 ∧ ∃ i' : Nat, i' ≤ m ∧ v.2.2.1 = (i' : Int) ∧ FL qs o i') ∨ ∃ (s' i' p' c' : Nat) (O' op' ar' pl' pa' : Nat → Int) (β : BNu), v = (1, (s' : Int), (i' : Int), (p' : Int), O') ∧ o = ((qs i' : Int), (rs i' : Int), SO T n (qs i'), WO T n (qs i') (rs i'), -1, 0, (c' : Int), (p' : Int), 0, 0, op', ar', pl', pa') ∧ (i < i' ∧ i' ≤ m ∧ p' ≤ 50 ∧ s' + i ≤ s + i' ∧ c' ≤ 400) ∧ CSg O O' s s' 20 (BL β) ∧ RSg op ar op' ar' c c' 20 (BL β) := by
  have hnm := hL.2.1
  have hm := hL.2.2.1
  unfold f_HM_readExpression at g
  replace g := xp_f (by decide +kernel) g
  unfold f_HM_readExpression_19 at g
  have hP0 : PLR pl 0 := fun k hk => by omega
  have hx : (1 : Int) = 0 ∨ (1 : Int) = 1 := Or.inr rfl
  rcases S_test (x1 := 1) (o := o) hL hW hx 0 s i p O v (by decide) h1 hi hs hp h c 0 op ar pl pa hc (by decide) hP0 (Or.inl ⟨rfl, rfl⟩) ⟨zfu, g⟩ with z | ⟨s', i', p', c', pd', O', op', ar', pl', pa', β, gv, gn, gC, ga, gb, gP, gI, gS, gt, gE⟩
  · exact Or.inl z
  · have P1 : PLR pl' 0 := fun k hk => by omega
    have i0 : INVb pl 0 = -1 := rfl
    rw [i0] at gI
    rcases e_test hL gn.2.1 (by omega) gn.2.2.1 gn.2.2.2.2.2.2 (by decide) gP gE with z | z | ⟨_, ⟨_, z⟩ | z | z⟩
    · omega
    · omega
    · obtain ⟨r1, r2, r3, r4, z1, z2⟩ := e_over z
      obtain ⟨c2, op2, ar2, w1, w2, w4⟩ := gS 1 _ (by decide) z1
      have w5 := ST_stop (by omega) (by decide) P1 (Or.inl rfl) w4
      cases w5
      exact Or.inr ⟨s', i', p', c2, O', _, _, pl', pa', β, gv, z2, ⟨by omega, by omega, by omega, by omega, w1⟩, gC, w2⟩
    · omega
    · omega
/-! A CLAUSE of both -/
theorem RPush_pos {op ar : Nat → Int} {s e d : Nat} {ν : LNu} (h : RPush op ar s e d ν) (hN : LEN ν 1) : s < e := by
  rcases Nat.lt_or_ge s e with q | q
  · exact q
  · exfalso
    have e1 : e = s := by have := h.1; omega
    subst e1
    have hE : EOK (fun _ => 0) := fun j _ => by show (0 : Int) ≤ 0 ∧ (0 : Int) ≤ 100; decide
    obtain ⟨k, hk⟩ := (h.2 _ hE).2 [] BND_nil
    cases k with
    | zero =>
      cases hv : ν (fun _ => 0) with
      | none => rw [hv] at hk; exact nomatch hk
      | some l =>
        rw [hv] at hk
        have hk' : some (e, l ++ []) = some (e, []) := hk
        have hl := hN _ l hE hv
        have := congrArg (fun x => (x.map (fun y => y.2.length)).getD 0) hk'
        simp at this
        subst this
        simp at hl
    | succ k => have := hk.1; omega
theorem RVal_of {op ar : Nat → Int} {s e d : Nat} {ν : LNu} (h : RPush op ar s e d ν) (hN : LEN ν 1) : RVal op ar s e d (fun E => (ν E).bind List.head?) := by
  refine RPush_c (fun E hE => ?_) h
  show ν E = ((ν E).bind List.head?).map (fun x => [x])
  cases hv : ν E with
  | none => rfl
  | some l =>
    have hl := hN E l hE hv
    match l, hl with
    | x :: [], _ => rfl
/-- what a clause is in the reference's rows of clauses and of code -/
noncomputable def RCN (nC op ar : Nat → Int) (c q : Nat) (bars : Bool) (β : BNu) (ν : (Nat → Int) → Option Int) : Prop :=
  nC q = (if bars then 1 else 0) ∧
  (∃ s e : Nat, nC (q + 5) = (s : Int) ∧ nC (q + 6) = (e : Int) ∧ s ≤ c ∧ e ≤ c ∧ ((e ≤ s ∧ ∀ E, β E = some true) ∨ (s < e ∧ RG op ar s e ∧ ∃ d, d ≤ 100 ∧ BVal op ar s e d β))) ∧
  (bars = false → ∃ s e : Nat, nC (q + 3) = (s : Int) ∧ nC (q + 4) = (e : Int) ∧ s ≤ c ∧ e ≤ c ∧ RG op ar s e ∧ ∃ d, d ≤ 100 ∧ RVal op ar s e d ν)
theorem RG_x {op ar op' ar' : Nat → Int} {s e : Nat} (h : RG op ar s e) (hx : ∀ j, s ≤ j → j < e → op' j = op j ∧ ar' j = ar j) : RG op' ar' s e := fun j h1 h2 => by
  have := hx j h1 h2
  rw [this.1, this.2]
  exact h j h1 h2
theorem RCN_x {nC op ar nC' op' ar' : Nat → Int} {c c' q : Nat} {bars : Bool} {β : BNu} {ν : (Nat → Int) → Option Int} (h : RCN nC op ar c q bars β ν) (hc : c ≤ c') (h1 : ∀ k, k < 8 → nC' (q + k) = nC (q + k)) (h2 : ∀ j, j < c → op' j = op j ∧ ar' j = ar j) : RCN nC' op' ar' c' q bars β ν := by
  obtain ⟨g1, ⟨s, e, g2, g3, g4, g5, g6⟩, g7⟩ := h
  refine ⟨by rw [← g1]; exact h1 0 (by decide), ⟨s, e, by rw [← g2]; exact h1 5 (by decide), by rw [← g3]; exact h1 6 (by decide), by omega, by omega, ?_⟩, fun hb => ?_⟩
  · rcases g6 with g6 | ⟨a1, a2, d, a3, a4⟩
    · exact Or.inl g6
    · exact Or.inr ⟨a1, RG_x a2 (fun j _ j2 => h2 j (by omega)), d, a3, RVal_x a4 (Nat.le_refl _) (fun j _ j2 => h2 j (by omega))⟩
  · obtain ⟨s, e, b1, b2, b3, b4, b5, d, b6, b7⟩ := g7 hb
    exact ⟨s, e, by rw [← b1]; exact h1 3 (by decide), by rw [← b2]; exact h1 4 (by decide), by omega, by omega, RG_x b5 (fun j _ j2 => h2 j (by omega)), d, b6, RVal_x b7 (Nat.le_refl _) (fun j _ j2 => h2 j (by omega))⟩
theorem CLC_x {ord ord' : Nat → Int} {base base' p t : Nat} {bars : Bool} {β : BNu} {ν : (Nat → Int) → Option Int} (h : CLC ord base p t bars β ν) (hx : ∀ j, p ≤ j → j ≤ t → ord' (base' + j) = ord (base + j)) : CLC ord' base' p t bars β ν := by
  obtain ⟨h1, h2, h3, h4⟩ := h
  have hco : ∀ a b : Nat, p ≤ a → b ≤ t → ∀ j, a ≤ j → j < b → COP ord' base' j = COP ord base j ∧ CAR ord' base' j = CAR ord base j := fun a b ha hb j j1 j2 => by
    unfold COP CAR
    rw [hx j (by omega) (by omega)]
    exact ⟨rfl, rfl⟩
  refine ⟨by rw [hx p (Nat.le_refl _) (by omega)]; exact h1, h2, fun j j1 j2 => by rw [hx j j1 j2]; exact h3 j j1 j2, ?_⟩
  rcases h4 with ⟨a1, a2, d, a3, a4⟩ | ⟨a1, a2, m, d, a3, a4, a5⟩
  · exact Or.inl ⟨a1, by rw [hx t (by omega) (Nat.le_refl _)]; exact a2, d, a3, RVal_x a4 (Nat.le_refl _) (hco (p + 1) t (by omega) (Nat.le_refl _))⟩
  · have m1 := a4.1
    have m2 := a5.1
    exact Or.inr ⟨a1, by rw [hx t (by omega) (Nat.le_refl _)]; exact a2, m, d, a3, RVal_x a4 (Nat.le_refl _) (hco (p + 1) m (by omega) m2), RVal_x a5 (Nat.le_refl _) (hco m t (by omega) (Nat.le_refl _))⟩
theorem p_84 {tk vl O : Nat → Int} {s h0 : Nat} {k i p : Int} {v : Int × Int × Int × Int × (Nat → Int)} (hs : s < 424) (hh : h0 < s) (hk : 0 ≤ k ∧ k < 16) (hO : 0 ≤ O h0 ∧ O h0 ≤ 100000) (h : f_LawReader_readClause_84 tk vl (h0 : Int) k (s : Int) i p O = some v) : v = (1, ((s + 1 : Nat) : Int), i, p, zu (zu O s (16 * 0 + k)) h0 (16 * ((s + 1 : Nat) : Int) + O h0 % 16)) := by
  unfold f_LawReader_readClause_84 at h
  obtain ⟨u1, u2, u3, e, h⟩ := xz_d3 h
  have g := p_order hs hk (by decide) e
  cases g
  obtain ⟨u4, e2, h⟩ := xz_d1 h
  have g2 := p_aim (by omega) (by omega) (by rw [zu_ne _ _ (by omega)]; exact hO) e2
  subst g2
  cases h
  rw [zu_ne _ _ (by omega)]
/-- behind a clause's head and its sum: the class's orders from s on, the reference's code from c on -/
noncomputable def CEnd (T : Nat → Int) (n m : Nat) (qs rs : Nat → Nat) (s i c j : Nat) (O nC op ar : Nat → Int) (v : Int × Int × Int × Int × (Nat → Int)) (r : Int × Int × Int × Int × Int × Int × Int × Int × Int × Int × Int × (Nat → Int) × (Nat → Int) × (Nat → Int) × (Nat → Int) × (Nat → Int)) : Prop :=
  (v.1 = 0 ∧ ∃ i' : Nat, i' ≤ m ∧ v.2.2.1 = (i' : Int) ∧ r.2.2.2.2.1 = (qs i' : Int) ∧ r.2.2.2.2.2.1 = 1) ∨
  ∃ (s' i' p' c' : Nat) (O' nC' op' ar' pl' pa' : Nat → Int) (pd' b' : Int) (bars : Bool) (β : BNu) (ν : (Nat → Int) → Option Int), v = (1, (s' : Int), (i' : Int), (p' : Int), O') ∧ r = ((qs i' : Int), (rs i' : Int), SO T n (qs i'), WO T n (qs i') (rs i'), -1, 0, ((j + 1 : Nat) : Int), (c' : Int), (p' : Int), pd', b', nC', op', ar', pl', pa') ∧ (i < i' ∧ i' ≤ m ∧ p' ≤ 50 ∧ c' ≤ 400 ∧ s' ≤ i' + 2 * (j + 1) ∧ c ≤ c') ∧ AGR O O' s ∧ (∃ t, s' = t + 1 ∧ CLC O' 0 s t bars β ν) ∧ AGR nC nC' (8 * j) ∧ AGR op op' c ∧ AGR ar ar' c ∧ RCN nC' op' ar' c' (8 * j) bars β ν
theorem CLC_mk {O2 O4 : Nat → Int} {s s2 d : Nat} {k : Int} {β : BNu} {ν : (Nat → Int) → Option Int} {bars : Bool} (hs2 : s2 ≤ 424) (h0 : O2 s = 0) (hlt : s < s2) (hR : CR O2 (s + 1) s2) (hk : k = if bars then 14 else 13) (hd : d ≤ 31)
    (h4 : O4 = zu (zu O2 s2 (16 * 0 + k)) s (16 * ((s2 + 1 : Nat) : Int) + O2 s % 16))
    (hB : (bars = true ∧ RPush (CO O2) (CA O2) (s + 1) s2 d (BL β)) ∨ (bars = false ∧ ∃ m, RVal (CO O2) (CA O2) (s + 1) m d ν ∧ RPush (CO O2) (CA O2) m s2 d (BL β))) : CLC O4 0 s s2 bars β ν ∧ ∀ j, j < s2 → j ≠ s → O4 j = O2 j := by
  have v1 : ∀ j, j < s2 → j ≠ s → O4 j = O2 j := fun j h1 h2 => by rw [h4, zu_ne _ _ h2, zu_ne _ _ (by omega)]
  have v2 : O4 s = 16 * ((s2 + 1 : Nat) : Int) := by rw [h4, zu_eq, h0]; omega
  have v3 : O4 s2 = 16 * 0 + k := by rw [h4, zu_ne _ _ (by omega), zu_eq]
  have hk2 : 0 ≤ k ∧ k < 16 := by rw [hk]; split <;> decide
  have hco : ∀ a b : Nat, s + 1 ≤ a → b ≤ s2 → ∀ j, a ≤ j → j < b → COP O4 0 j = CO O2 j ∧ CAR O4 0 j = CA O2 j := fun a b ha hb j j1 j2 => by
    unfold COP CAR CO CA
    rw [Nat.zero_add, v1 j (by omega) (by omega)]
    exact ⟨rfl, rfl⟩
  refine ⟨⟨by rw [Nat.zero_add]; exact v2, hlt, fun j j1 j2 => ?_, ?_⟩, v1⟩
  · rw [Nat.zero_add]
    by_cases e : j = s
    · rw [e, v2]; omega
    · by_cases e2 : j = s2
      · rw [e2, v3]; omega
      · rw [v1 j (by omega) e]; exact hR j (by omega) (by omega)
  · rw [Nat.zero_add, v3]
    rcases hB with ⟨b1, b2⟩ | ⟨b1, m, b2, b3⟩ <;> subst b1
    · exact Or.inl ⟨rfl, by rw [hk]; rfl, d, hd, RPush_x b2 (Nat.le_refl _) (hco (s + 1) s2 (Nat.le_refl _) (Nat.le_refl _))⟩
    · have m1 := b2.1
      have m2 := b3.1
      exact Or.inr ⟨rfl, by rw [hk]; rfl, m, d, hd, RVal_x b2 (Nat.le_refl _) (hco (s + 1) m (Nat.le_refl _) m2), RPush_x b3 (Nat.le_refl _) (hco m s2 m1 (Nat.le_refl _))⟩
theorem c_42 {T : Nat → Int} {n m : Nat} {qs rs : Nat → Nat} {tk vl W : Nat → Int} (hL : LEX T n m qs rs tk vl) (hW : ∀ k : Nat, k < 8 → W k = zcd k) {s0 i0 s i p c0 c j : Nat} {O0 O nC0 nC op0 ar0 op ar pl pa : Nat → Int} {pd0 b0 : Int} {v : Int × Int × Int × Int × (Nat → Int)} {r : Int × Int × Int × Int × Int × Int × Int × Int × Int × Int × Int × (Nat → Int) × (Nat → Int) × (Nat → Int) × (Nat → Int) × (Nat → Int)} {x2 : Int} {bars : Bool} {ν : (Nat → Int) → Option Int} (hx2 : x2 = if bars then 0 else 1)
    (hn : i0 < i ∧ i ≤ m ∧ p ≤ 50 ∧ c ≤ 400 ∧ s ≤ i + 2 * j ∧ j < 12 ∧ s0 < s ∧ c0 ≤ c) (hO0 : AGR O0 O s0) (hOs : O s0 = 0) (hR : CR O (s0 + 1) s)
    (hC : (bars = true ∧ s = s0 + 1) ∨ (bars = false ∧ RVal (CO O) (CA O) (s0 + 1) s 19 ν))
    (hnC : AGR nC0 nC (8 * j)) (hn0 : nC (8 * j) = if bars then 1 else 0) (hn3 : nC (8 * j + 3) = (c0 : Int)) (hop : AGR op0 op c0) (har : AGR ar0 ar c0) (hRR : bars = false → RG op ar c0 c ∧ RVal op ar c0 c 19 ν)
    (h : f_LawReader_readClause_42 tk vl (s0 : Int) x2 (s : Int) (i : Int) (p : Int) O = some v)
    (g : f_HM_readClause_130 (n : Int) T W ((8 * j : Nat) : Int) (qs i : Int) (rs i : Int) (SO T n (qs i)) (WO T n (qs i) (rs i)) (-1) 0 ((j + 1 : Nat) : Int) (c : Int) (p : Int) pd0 b0 nC op ar pl pa = some r) : CEnd T n m qs rs s0 i0 c0 j O0 nC0 op0 ar0 v r := by
  have hnm := hL.2.1
  have hm := hL.2.2.1
  -- the reference, as far as the 'if'
  unfold f_HM_readClause_130 at g
  have e4 : (zi_w (((8 * j : Nat) : Int) + 4)).toNat = 8 * j + 4 := by rw [zwi (by omega)]; omega
  have e5 : (zi_w (((8 * j : Nat) : Int) + 5)).toNat = 8 * j + 5 := by rw [zwi (by omega)]; omega
  have e6 : (zi_w (((8 * j : Nat) : Int) + 6)).toNat = 8 * j + 6 := by rw [zwi (by omega)]; omega
  replace g := (xp_s (xp_n (xp_s (xp_n g)).2)).2
  rw [e4, e5] at g
  replace g := xp_f (by decide +kernel) g
  obtain ⟨v5, e7, g⟩ := xz_d1 g
  -- the class, as far as the 'if'
  unfold f_LawReader_readClause_42 at h
  obtain ⟨w1, w2, e8, h⟩ := xz_d2 h
  have kk : (if bars then (14 : Int) else 13) = if bars then 14 else 13 := rfl
  -- the class's last order
  have last : ∀ (s2 : Nat) (i2 p2 : Int) (O2 : Nat → Int), s2 < 424 → s0 < s2 → (0 ≤ O2 s0 ∧ O2 s0 ≤ 100000) → f_LawReader_readClause_72 tk vl (s0 : Int) x2 (s2 : Int) i2 p2 O2 = some v → v = (1, ((s2 + 1 : Nat) : Int), i2, p2, zu (zu O2 s2 (16 * 0 + (if bars then 14 else 13))) s0 (16 * ((s2 + 1 : Nat) : Int) + O2 s0 % 16)) := fun s2 i2 p2 O2 a1 a2 a3 hh => by
    unfold f_LawReader_readClause_72 at hh
    cases bars with
    | true =>
      have ex : x2 = 0 := hx2
      rw [ex] at hh
      exact p_84 a1 a2 (by decide) a3 (xp_t (by decide +kernel) hh)
    | false =>
      have ex : x2 = 1 := hx2
      rw [ex] at hh
      exact p_84 a1 a2 (by decide) a3 (xp_f (by decide +kernel) hh)
  have c456 : ∀ q : Int, zu (zu (zu nC (8 * j + 4) (c : Int)) (8 * j + 5) (c : Int)) (8 * j + 6) q (8 * j) = nC (8 * j) ∧ zu (zu (zu nC (8 * j + 4) (c : Int)) (8 * j + 5) (c : Int)) (8 * j + 6) q (8 * j + 3) = nC (8 * j + 3) ∧ zu (zu (zu nC (8 * j + 4) (c : Int)) (8 * j + 5) (c : Int)) (8 * j + 6) q (8 * j + 4) = (c : Int) ∧ zu (zu (zu nC (8 * j + 4) (c : Int)) (8 * j + 5) (c : Int)) (8 * j + 6) q (8 * j + 5) = (c : Int) ∧ zu (zu (zu nC (8 * j + 4) (c : Int)) (8 * j + 5) (c : Int)) (8 * j + 6) q (8 * j + 6) = q ∧ AGR nC0 (zu (zu (zu nC (8 * j + 4) (c : Int)) (8 * j + 5) (c : Int)) (8 * j + 6) q) (8 * j) := fun q => by
    refine ⟨?_, ?_, ?_, ?_, zu_eq _ _ _, fun k hk => ?_⟩
    · rw [zu_ne _ _ (by omega), zu_ne _ _ (by omega), zu_ne _ _ (by omega)]
    · rw [zu_ne _ _ (by omega), zu_ne _ _ (by omega), zu_ne _ _ (by omega)]
    · rw [zu_ne _ _ (by omega), zu_ne _ _ (by omega), zu_eq]
    · rw [zu_ne _ _ (by omega), zu_eq]
    · rw [zu_ne _ _ (by omega), zu_ne _ _ (by omega), zu_ne _ _ (by omega)]; exact hnC k hk
  have r180 : ∀ {fr to so wo ft bd : Int} {c2 p2 : Int} {pd2 b2 : Int} {op2 ar2 pl2 pa2 : Nat → Int}, f_HM_readClause_180 (n : Int) T W ((8 * j : Nat) : Int) fr to so wo ft bd ((j + 1 : Nat) : Int) c2 p2 pd2 b2 (zu (zu nC (8 * j + 4) (c : Int)) (8 * j + 5) (c : Int)) op2 ar2 pl2 pa2 = some r → r = (fr, to, so, wo, ft, bd, ((j + 1 : Nat) : Int), c2, p2, pd2, b2, zu (zu (zu nC (8 * j + 4) (c : Int)) (8 * j + 5) (c : Int)) (8 * j + 6) c2, op2, ar2, pl2, pa2) := fun hh => by
    unfold f_HM_readClause_180 at hh
    replace hh := (xp_s (xp_n hh)).2
    rw [e6] at hh
    cases hh
    rfl
  rcases p_pass hL hn.2.1 (by decide) (by decide) e8 with ⟨q1, him, y⟩ | ⟨q1, y⟩ <;> cases y
  · -- with an 'if'
    replace h := xp_t (by decide +kernel) h
    obtain ⟨w3, w4, w5, w6, w7, e9, h⟩ := xz_d5 h
    rcases x_word hL hn.2.1 10 (by decide) (by rfl) e7 with ⟨q2, _⟩ | ⟨_, q3⟩
    · subst q2
      replace g := xp_f (by decide +kernel) g
      obtain ⟨u6, u7, u8, u9, e10, g⟩ := xz_d4 g
      have g2 := x_next hL him e10
      cases g2
      obtain ⟨t1, t2, t3, t4, t5, t6, t7, t8, t9, t10, f1, f2, f3, f4, e11, g⟩ := xz_d14 g
      have g3 := r180 g
      subst g3
      rcases X_test hL hW (by omega) (by omega) (by omega) hn.2.2.1 hn.2.2.2.1 e9 e11 with ⟨y1, i', y2, y3, y4, y5⟩ | ⟨s', i', p', c', O', op', ar', pl', pa', β, hv, ho, hb, hCC, hRs⟩
      · replace y1 : w3 = 0 := y1
        replace y3 : w5 = (i' : Int) := y3
        subst y1
        replace h := xp_f (by decide +kernel) h
        cases h
        exact Or.inl ⟨rfl, i', y2, y3, y4, y5⟩
      · cases hv
        cases ho
        replace h := xp_t (by decide +kernel) h
        have hss := hCC.2.2.1
        have hcc := hRs.2.2.1
        have a0 : w7 s0 = O s0 := hCC.1 s0 (by omega)
        have hv2 := last s' _ _ _ (by omega) (by omega) (by rw [a0, hOs]; decide) h
        have mk := CLC_mk (d := 20) (k := if bars then 14 else 13) (β := β) (ν := ν) (bars := bars) (by omega : s' ≤ 424) (a0.trans hOs) (by omega) (fun k k1 k2 => by
          rcases Nat.lt_or_ge k s with z | z
          · rw [hCC.1 k z]; exact hR k k1 z
          · exact hCC.2.1 k z k2) rfl (by decide) rfl (by
          rcases hC with ⟨b1, b2⟩ | ⟨b1, b2⟩
          · refine Or.inl ⟨b1, ?_⟩
            rw [← b2]
            exact hCC.2.2
          · exact Or.inr ⟨b1, s, RVal_x b2 (by decide) (CO_agr (fun k k1 k2 => hCC.1 k k2)), hCC.2.2⟩)
        obtain ⟨n1, n2, n3, n4, n5, n6⟩ := c456 (c' : Int)
        refine Or.inr ⟨s' + 1, i', p', c', _, _, _, _, _, _, _, _, bars, β, ν, hv2, rfl, ⟨by omega, by omega, by omega, by omega, by omega, by omega⟩, fun k hk => ?_, ⟨s', rfl, mk.1⟩, n6, AGR_t hop hRs.1.1 hn.2.2.2.2.2.2.2, AGR_t har hRs.1.2 hn.2.2.2.2.2.2.2, ?_⟩
        · rw [mk.2 k (by omega) (by omega), hCC.1 k (by omega)]; exact hO0 k hk
        · refine ⟨by rw [n1]; exact hn0, ⟨c, c', n4, n5, hcc, Nat.le_refl _, Or.inr ⟨RPush_pos hRs.2.2 (BL_len β), hRs.2.1, 20, by decide, hRs.2.2⟩⟩, fun hb => ?_⟩
          have := hRR hb
          exact ⟨c0, c, by rw [n2]; exact hn3, n3, by omega, hcc, RG_x this.1 (fun k _ k2 => ⟨hRs.1.1 k k2, hRs.1.2 k k2⟩), 19, by decide, RVal_x this.2 (Nat.le_refl _) (fun k _ k2 => ⟨hRs.1.1 k k2, hRs.1.2 k k2⟩)⟩
    · exact absurd q1 q3
  · -- without
    replace h := xp_f (by decide +kernel) h
    obtain ⟨w3, w4, w5, e9, h⟩ := xz_d3 h
    have g1 := p_order (by omega) (by decide) (by decide) e9
    cases g1
    rcases x_word hL hn.2.1 10 (by decide) (by rfl) e7 with ⟨_, q3⟩ | ⟨q2, _⟩
    · exact absurd q3 q1
    · subst q2
      replace g := xp_t (by decide +kernel) g
      have g3 := r180 g
      subst g3
      have a0 : zu O s (16 * 1 + 1) s0 = O s0 := zu_ne _ _ (by omega)
      have hv2 := last (s + 1) _ _ _ (by omega) (by omega) (by rw [a0, hOs]; decide) h
      have hN : RPush (CO (zu O s (16 * 1 + 1))) (CA (zu O s (16 * 1 + 1))) s (s + 1) 20 (BL (fun _ => some true)) := (CS_d (CS_num (O := O) (s := s) (v := 1) (by decide)) (by decide : 1 ≤ 20)).2.2
      have mk := CLC_mk (d := 20) (k := if bars then 14 else 13) (β := fun _ => some true) (ν := ν) (bars := bars) (by omega : s + 1 ≤ 424) (a0.trans hOs) (by omega) (fun k k1 k2 => by
        rcases Nat.lt_or_ge k s with z | z
        · rw [zu_ne _ _ (by omega)]; exact hR k k1 z
        · rw [show k = s from by omega, zu_eq]; decide) rfl (by decide) rfl (by
        rcases hC with ⟨b1, b2⟩ | ⟨b1, b2⟩
        · refine Or.inl ⟨b1, ?_⟩
          rw [← b2]
          exact hN
        · exact Or.inr ⟨b1, s, RVal_x b2 (by decide) (CO_agr (fun k k1 k2 => zu_ne _ _ (by omega))), hN⟩)
      obtain ⟨n1, n2, n3, n4, n5, n6⟩ := c456 (c : Int)
      refine Or.inr ⟨s + 1 + 1, i, p, c, _, _, _, _, _, _, _, _, bars, (fun _ => some true), ν, hv2, rfl, ⟨by omega, by omega, by omega, by omega, by omega, by omega⟩, fun k hk => ?_, ⟨s + 1, rfl, mk.1⟩, n6, hop, har, ?_⟩
      · rw [mk.2 k (by omega) (by omega), zu_ne _ _ (by omega)]; exact hO0 k hk
      · refine ⟨by rw [n1]; exact hn0, ⟨c, c, n4, n5, Nat.le_refl _, Nat.le_refl _, Or.inl ⟨Nat.le_refl _, fun _ => rfl⟩⟩, fun hb => ?_⟩
        have := hRR hb
        exact ⟨c0, c, by rw [n2]; exact hn3, n3, by omega, Nat.le_refl _, this.1, 19, by decide, this.2⟩
end
section
/-! a clause's head -/
theorem r_71 {n : Int} {T W : Nat → Int} {j : Nat} (hj : j < 12) {nC0 : Nat → Int} {hd ncl : Int} {fr to so wo ft bd c p pd b : Int} {op ar pl pa : Nat → Int} {r : Int × Int × Int × Int × Int × Int × Int × Int × Int × Int × Int × (Nat → Int) × (Nat → Int) × (Nat → Int) × (Nat → Int) × (Nat → Int)} : ∀ (N k : Nat) (nC : Nat → Int), k ≤ 8 → AGR nC0 nC (8 * j) → f_HM_readClause_71 n T W N hd ((8 * j : Nat) : Int) (k : Int) fr to so wo ft bd ncl c p pd b nC op ar pl pa = some r → ∃ (nC2 : Nat → Int) (N2 : Nat), AGR nC0 nC2 (8 * j) ∧ f_HM_readClause_71_b n T W (f_HM_readClause_71 n T W N2) hd ((8 * j : Nat) : Int) 8 fr to so wo ft bd ncl c p pd b nC2 op ar pl pa = some r := by
  intro N
  induction N with
  | zero => intro k nC _ _ h; exact nomatch h
  | succ N ih =>
    intro k nC hk hA h
    replace h : f_HM_readClause_71_b n T W (f_HM_readClause_71 n T W N) hd ((8 * j : Nat) : Int) (k : Int) fr to so wo ft bd ncl c p pd b nC op ar pl pa = some r := h
    by_cases e : k = 8
    · subst e
      exact ⟨nC, N, hA, h⟩
    · unfold f_HM_readClause_71_b at h
      rw [zwi (x := 8) (by decide), zwi (x := (k : Int)) (by omega), if_neg (by omega)] at h
      replace h := xp_n (xp_s (xp_n h)).2
      have e1 : (zi_w (((8 * j : Nat) : Int) + (k : Int))).toNat = 8 * j + k := by rw [zwi (by omega)]; omega
      rw [e1] at h
      exact ih (k + 1) _ (by omega) (AGR_t hA (AGR_u (by omega)) (Nat.le_refl _)) h
theorem r_130f {n : Int} {T W : Nat → Int} {j : Nat} {ncl fr to so wo ft c p pd b : Int} {nC op ar pl pa : Nat → Int} {x : Int} {r : Int × Int × Int × Int × Int × Int × Int × Int × Int × Int × Int × (Nat → Int) × (Nat → Int) × (Nat → Int) × (Nat → Int) × (Nat → Int)} (h : f_HM_readClause_130 n T W x fr to so wo ft 1 ncl c p pd b nC op ar pl pa = some r) : r.2.2.2.2.1 = ft ∧ r.2.2.2.2.2.1 = 1 := by
  unfold f_HM_readClause_130 at h
  replace h := (xp_s (xp_n (xp_s (xp_n h)).2)).2
  replace h := xp_t (by decide +kernel) h
  unfold f_HM_readClause_180 at h
  replace h := (xp_s (xp_n h)).2
  cases h
  exact ⟨rfl, rfl⟩
theorem r_50f {n : Int} {T W : Nat → Int} {ncl fr to so wo c p pd b hd : Int} {nC op ar pl pa : Nat → Int} {r : Int × Int × Int × Int × Int × Int × Int × Int × Int × Int × Int × (Nat → Int) × (Nat → Int) × (Nat → Int) × (Nat → Int) × (Nat → Int)} (h : f_HM_readClause_50 n T W hd 0 fr to so wo (-1) 0 ncl c p pd b nC op ar pl pa = some r) : r.2.2.2.2.1 = fr ∧ r.2.2.2.2.2.1 = 1 := by
  unfold f_HM_readClause_50 at h
  obtain ⟨v1, v2, v3, v4, v5, v6, e, h⟩ := xz_d6 h
  have g := x_must0 e
  cases g
  replace h := xp_f (by decide +kernel) h
  cases h
  exact ⟨rfl, rfl⟩
theorem r_29f {n : Int} {T W : Nat → Int} {fr to so wo c p pd b hd : Int} {nC op ar pl pa : Nat → Int} {r : Int × Int × Int × Int × Int × Int × Int × Int × Int × Int × Int × (Nat → Int) × (Nat → Int) × (Nat → Int) × (Nat → Int) × (Nat → Int)} (hh : hd = -1 ∨ hd = 0 ∨ hd = 1) (h : f_HM_readClause_29 n T W hd fr to so wo (-1) 0 12 c p pd b nC op ar pl pa = some r) : r.2.2.2.2.1 = fr ∧ r.2.2.2.2.2.1 = 1 := by
  have f49 : f_HM_readClause_49 n T W hd fr to so wo (-1) 0 12 c p pd b nC op ar pl pa = some r := by
    unfold f_HM_readClause_29 at h
    rcases hh with e | e | e <;> subst e
    · exact xp_t (by decide +kernel) h
    · exact xp_t (by decide +kernel) (xp_f (by decide +kernel) h)
    · exact xp_t (by decide +kernel) (xp_f (by decide +kernel) h)
  unfold f_HM_readClause_49 at f49
  exact r_50f f49
theorem r_cl12 {n : Int} {T W : Nat → Int} {fr to so wo c p pd b : Int} {nC op ar pl pa : Nat → Int} {r : Int × Int × Int × Int × Int × Int × Int × Int × Int × Int × Int × (Nat → Int) × (Nat → Int) × (Nat → Int) × (Nat → Int) × (Nat → Int)} (h : f_HM_readClause n T W fr to so wo (-1) 0 12 c p pd b nC op ar pl pa = some r) : r.2.2.2.2.1 = fr ∧ r.2.2.2.2.2.1 = 1 := by
  unfold f_HM_readClause at h
  obtain ⟨v1, e1, h⟩ := xz_d1 h
  rcases xp_if h with ⟨_, h⟩ | ⟨_, h⟩
  · obtain ⟨v2, e2, h⟩ := xz_d1 h
    rcases xp_if h with ⟨_, h⟩ | ⟨_, h⟩
    · exact r_29f (Or.inl rfl) h
    · exact r_29f (Or.inr (Or.inr rfl)) h
  · exact r_29f (Or.inr (Or.inl rfl)) h
theorem c_clause {T : Nat → Int} {n m : Nat} {qs rs : Nat → Nat} {tk vl W : Nat → Int} (hL : LEX T n m qs rs tk vl) (hW : ∀ k : Nat, k < 8 → W k = zcd k) {s i p c j : Nat} {O nC op ar pl pa : Nat → Int} {pd0 b0 : Int} {v : Int × Int × Int × Int × (Nat → Int)} {r : Int × Int × Int × Int × Int × Int × Int × Int × Int × Int × Int × (Nat → Int) × (Nat → Int) × (Nat → Int) × (Nat → Int) × (Nat → Int)} (hn : i ≤ m ∧ p ≤ 50 ∧ c ≤ 400 ∧ s ≤ i + 2 * j ∧ j < 12)
    (h : f_LawReader_readClause tk vl (s : Int) (i : Int) (p : Int) O = some v) (g : f_HM_readClause (n : Int) T W (qs i : Int) (rs i : Int) (SO T n (qs i)) (WO T n (qs i) (rs i)) (-1) 0 (j : Int) (c : Int) (p : Int) pd0 b0 nC op ar pl pa = some r) : CEnd T n m qs rs s i c j O nC op ar v r := by
  have hnm := hL.2.1
  have hm := hL.2.2.1
  unfold f_LawReader_readClause at h
  obtain ⟨w1, w2, w3, e1, h⟩ := xz_d3 h
  have g1 := p_order (by omega) (by decide) (by decide) e1
  cases g1
  obtain ⟨w4, w5, e2, h⟩ := xz_d2 h
  unfold f_HM_readClause at g
  obtain ⟨u1, e3, g⟩ := xz_d1 g
  have hO1 : zu O s (16 * 0 + 0) s = 0 := by rw [zu_eq]; rfl
  have hCR : CR (zu O s (16 * 0 + 0)) (s + 1) (s + 1) := fun k k1 k2 => by omega
  rcases p_pass hL hn.1 (by decide) (by decide) e2 with ⟨q1, him, y⟩ | ⟨q1, y⟩ <;> cases y
  · -- tires
    replace h := xp_f (by decide +kernel) h
    rcases x_word hL hn.1 8 (by decide) (by rfl) e3 with ⟨q2, _⟩ | ⟨_, q3⟩
    · subst q2
      replace g := xp_f (by decide +kernel) g
      unfold f_HM_readClause_29 at g
      replace g := xp_f (by decide +kernel) g
      rw [zwi (x := 12) (by decide), zwi (x := (j : Int)) (by omega), if_neg (by omega)] at g
      unfold f_HM_readClause_50 at g
      obtain ⟨u2, u3, u4, u5, u6, u7, e4, g⟩ := xz_d6 g
      have g2 := x_must1 hL him e4
      cases g2
      replace g := xp_n (xp_t (by decide +kernel) g)
      obtain ⟨nC2, N2, hA, g⟩ := r_71 (nC0 := nC) (j := j) hn.2.2.2.2 zfu 0 nC (by decide) AGR_0 g
      unfold f_HM_readClause_71_b at g
      replace g := xp_t (by decide +kernel) g
      replace g := (xp_s (xp_n (xp_n (xp_s g).2))).2
      have e5 : (zi_w ((8 * j : Nat) : Int)).toNat = 8 * j := by rw [zwi (by omega)]; omega
      have e6 : (zi_w (((8 * j : Nat) : Int) + 3)).toNat = 8 * j + 3 := by rw [zwi (by omega)]; omega
      rw [e5, e6] at g
      replace g := xp_f (by decide +kernel) g
      obtain ⟨t1, t2, t3, t4, t5, t6, t7, t8, t9, t10, f1, f2, f3, f4, e7, g⟩ := xz_d14 g
      obtain ⟨w8, w9, w10, w11, w12, e8, h⟩ := xz_d5 h
      rcases X_sum hL hW (by omega) (by omega) (by omega) hn.2.1 hn.2.2.1 e8 e7 with ⟨y1, i', y2, y3, y4, y5⟩ | ⟨s', i', p', c', O', op', ar', pl', pa', ν, hv, ho, hb, hN, hCC, hRs⟩
      · replace y1 : w8 = 0 := y1
        replace y3 : w10 = (i' : Int) := y3
        replace y5 : t6 = 1 := y5
        subst y1
        subst y5
        replace h := xp_f (by decide +kernel) h
        cases h
        have g3 := r_130f (j := j) g
        exact Or.inl ⟨rfl, i', y2, y3, g3.1.trans y4, g3.2⟩
      · cases hv
        cases ho
        replace h := xp_t (by decide +kernel) h
        have hss := hCC.2.2.1
        have hcc := hRs.2.2.1
        exact c_42 hL hW (bars := false) (nC0 := nC) (op0 := op) (ar0 := ar) (O0 := O) (i0 := i) (ν := fun E => (ν E).bind List.head?) rfl ⟨by omega, by omega, by omega, by omega, by omega, hn.2.2.2.2, by omega, by omega⟩ (AGR_t (AGR_u (Nat.le_refl _)) hCC.1 (by omega)) ((hCC.1 s (by omega)).trans hO1) hCC.2.1 (Or.inr ⟨rfl, RVal_of hCC.2.2 hN⟩) (AGR_t hA (AGR_t (AGR_u (Nat.le_refl _)) (AGR_u (by omega)) (Nat.le_refl _)) (Nat.le_refl _)) (by rw [zu_ne _ _ (by omega), zu_eq]; rfl) (zu_eq _ _ _) hRs.1.1 hRs.1.2 (fun _ => ⟨hRs.2.1, RVal_of hRs.2.2 hN⟩) h g
    · exact absurd q1 q3
  · replace h := xp_t (by decide +kernel) h
    rcases x_word hL hn.1 8 (by decide) (by rfl) e3 with ⟨_, q3⟩ | ⟨q2, _⟩
    · exact absurd q3 q1
    subst q2
    replace g := xp_t (by decide +kernel) g
    obtain ⟨u2, e4, g⟩ := xz_d1 g
    obtain ⟨w6, w7, e5, h⟩ := xz_d2 h
    rcases p_pass hL hn.1 (by decide) (by decide) e5 with ⟨q4, him, y⟩ | ⟨q4, y⟩ <;> cases y
    · -- bars
      replace h := xp_t (by decide +kernel) h
      rcases x_word hL hn.1 9 (by decide) (by rfl) e4 with ⟨q2, _⟩ | ⟨_, q3⟩
      · subst q2
        replace g := xp_f (by decide +kernel) g
        unfold f_HM_readClause_29 at g
        replace g := xp_f (by decide +kernel) g
        rw [zwi (x := 12) (by decide), zwi (x := (j : Int)) (by omega), if_neg (by omega)] at g
        unfold f_HM_readClause_50 at g
        obtain ⟨u2, u3, u4, u5, u6, u7, e6, g⟩ := xz_d6 g
        have g2 := x_must1 hL him e6
        cases g2
        replace g := xp_n (xp_t (by decide +kernel) g)
        obtain ⟨nC2, N2, hA, g⟩ := r_71 (nC0 := nC) (j := j) hn.2.2.2.2 zfu 0 nC (by decide) AGR_0 g
        unfold f_HM_readClause_71_b at g
        replace g := xp_t (by decide +kernel) g
        replace g := (xp_s (xp_n (xp_n (xp_s g).2))).2
        have e7 : (zi_w ((8 * j : Nat) : Int)).toNat = 8 * j := by rw [zwi (by omega)]; omega
        have e8 : (zi_w (((8 * j : Nat) : Int) + 3)).toNat = 8 * j + 3 := by rw [zwi (by omega)]; omega
        rw [e7, e8] at g
        replace g := xp_t (by decide +kernel) g
        exact c_42 hL hW (bars := true) (nC0 := nC) (op0 := op) (ar0 := ar) (O0 := O) (i0 := i) (ν := fun _ => none) rfl ⟨by omega, by omega, hn.2.1, hn.2.2.1, by omega, hn.2.2.2.2, by omega, Nat.le_refl _⟩ (AGR_u (Nat.le_refl _)) hO1 hCR (Or.inl ⟨rfl, rfl⟩) (AGR_t hA (AGR_t (AGR_u (Nat.le_refl _)) (AGR_u (by omega)) (Nat.le_refl _)) (Nat.le_refl _)) (by rw [zu_ne _ _ (by omega), zu_eq]; rfl) (zu_eq _ _ _) AGR_0 AGR_0 (fun hb => nomatch hb) h g
      · exact absurd q4 q3
    · replace h := xp_f (by decide +kernel) h
      rcases x_word hL hn.1 9 (by decide) (by rfl) e4 with ⟨_, q3⟩ | ⟨q2, _⟩
      · exact absurd q3 q4
      subst q2
      replace g := xp_t (by decide +kernel) g
      unfold f_HM_readClause_29 at g
      replace g := xp_t (by decide +kernel) g
      unfold f_HM_readClause_49 at g
      have g3 := r_50f g
      cases h
      exact Or.inl ⟨rfl, i, hn.1, rfl, g3.1, g3.2⟩
/-! the clauses so far -/
noncomputable def RLN (nC op ar : Nat → Int) (c : Nat) : List CSE → Nat → Prop
  | [] => fun _ => True
  | x :: l => fun i => RCN nC op ar c (8 * i) x.1 x.2.1 x.2.2 ∧ RLN nC op ar c l (i + 1)
theorem RLN_x {nC op ar nC' op' ar' : Nat → Int} {c c' : Nat} (hc : c ≤ c') (h2 : ∀ j, j < c → op' j = op j ∧ ar' j = ar j) : ∀ (l : List CSE) (i : Nat), AGR nC nC' (8 * (i + l.length)) → RLN nC op ar c l i → RLN nC' op' ar' c' l i := by
  intro l
  induction l with
  | nil => intro i _ _; trivial
  | cons x l ih =>
    intro i hA h
    rw [List.length_cons] at hA
    exact ⟨RCN_x h.1 hc (fun k hk => hA _ (by omega)) h2, ih (i + 1) (fun k hk => hA k (by omega)) h.2⟩
theorem RLN_app {nC op ar : Nat → Int} {c : Nat} {x : CSE} : ∀ (l : List CSE) (i : Nat), RLN nC op ar c l i → RCN nC op ar c (8 * (i + l.length)) x.1 x.2.1 x.2.2 → RLN nC op ar c (l ++ [x]) i := by
  intro l
  induction l with
  | nil => intro i _ h; exact ⟨h, trivial⟩
  | cons y l ih =>
    intro i h g
    rw [List.length_cons] at g
    exact ⟨h.1, ih (i + 1) h.2 (by rw [show i + 1 + l.length = i + (l.length + 1) from by omega]; exact g)⟩
theorem CLL_app {ord : Nat → Int} {base n t : Nat} {x : CSE} : ∀ (l : List CSE) (p : Nat), CLL ord base n l p → CLC ord base n t x.1 x.2.1 x.2.2 → CLL ord base (t + 1) (l ++ [x]) p := by
  intro l
  induction l with
  | nil =>
    intro p h g
    have e : p = n := h
    subst e
    exact ⟨t, g, rfl⟩
  | cons y l ih =>
    intro p h g
    obtain ⟨t1, h1, h2⟩ := h
    exact ⟨t1, h1, ih (t1 + 1) h2 g⟩
theorem CLL_x {ord ord' : Nat → Int} {base base' n : Nat} : ∀ (l : List CSE) (p : Nat), CLL ord base n l p → (∀ j, p ≤ j → j < n → ord' (base' + j) = ord (base + j)) → CLL ord' base' n l p := by
  intro l
  induction l with
  | nil => intro p h _; exact h
  | cons y l ih =>
    intro p h g
    obtain ⟨t1, h1, h2⟩ := h
    have h3 := CLL_le l _ h2
    have h4 := h1.2.1
    exact ⟨t1, CLC_x h1 (fun j j1 j2 => g j j1 (by omega)), ih (t1 + 1) h2 (fun j j1 j2 => g j (by omega) j2)⟩
theorem RLL_of {nC op ar row : Nat → Int} {c law : Nat} (hc : c ≤ 400) (h2 : ∀ k, k < c → row (law + 98 + 2 * k) = op k ∧ row (law + 99 + 2 * k) = ar k) : ∀ (l : List CSE) (i : Nat), (∀ k, k < 8 * (i + l.length) → row (law + 2 + k) = nC k) → RLN nC op ar c l i → RLL row law l i := by
  intro l
  induction l with
  | nil => intro i _ _; trivial
  | cons x l ih =>
    intro i hA h
    rw [List.length_cons] at hA
    obtain ⟨h1, hr⟩ := h
    refine ⟨?_, ih (i + 1) (fun k hk => hA k (by omega)) hr⟩
    obtain ⟨g1, ⟨s, e, g2, g3, g4, g5, g6⟩, g7⟩ := h1
    have at8 : ∀ k, k < 8 → row (law + 2 + 8 * i + k) = nC (8 * i + k) := fun k hk => by
      rw [show law + 2 + 8 * i + k = law + 2 + (8 * i + k) from by omega]
      exact hA _ (by omega)
    have hx : ∀ a b : Nat, b ≤ c → ∀ j, a ≤ j → j < b → rop row law j = op j ∧ rar row law j = ar j := fun a b hb j _ j2 => h2 j (by omega)
    refine ⟨by rw [← g1]; exact at8 0 (by decide), ⟨s, e, by rw [← g2]; exact at8 5 (by decide), by rw [← g3]; exact at8 6 (by decide), by omega, by omega, ?_⟩, fun hb => ?_⟩
    · rcases g6 with g6 | ⟨a1, a2, d, a3, a4⟩
      · exact Or.inl g6
      · exact Or.inr ⟨a1, RG_x a2 (hx s e g5), d, a3, RVal_x a4 (Nat.le_refl _) (hx s e g5)⟩
    · obtain ⟨s, e, b1, b2, b3, b4, b5, d, b6, b7⟩ := g7 hb
      exact ⟨s, e, by rw [← b1]; exact at8 3 (by decide), by rw [← b2]; exact at8 4 (by decide), by omega, by omega, RG_x b5 (hx s e b4), d, b6, RVal_x b7 (Nat.le_refl _) (hx s e b4)⟩
/-! A LAW's clauses -/
noncomputable def mkC (bars : Bool) (β : BNu) (ν : (Nat → Int) → Option Int) : CSE := (bars, β, ν)
/-- how both readings end -/
noncomputable def LEnd (T W : Nat → Int) (n m : Nat) (qs rs : Nat → Nat) (th st tp : Int) (rf row : Nat → Int) (v : Int × Int × Int × Int × (Nat → Int) × (Nat → Int) × (Nat → Int) × (Nat → Int)) (R : Int × Int × Int × Int × Int × Int × Int × Int × Int × Int × Int × Int × Int × Int × Int × (Nat → Int) × (Nat → Int) × (Nat → Int) × (Nat → Int) × (Nat → Int) × (Nat → Int) × (Nat → Int)) : Prop :=
  (∃ (i' : Nat) (fr to so wo a1 a2 a3 a4 a5 : Int) (f1 f2 f3 f4 f5 : Nat → Int), i' ≤ m ∧ v.1 = (qs i' : Int) ∧ f_HM_law_97 T W th st tp fr to so wo (qs i' : Int) 1 a1 a2 a3 a4 a5 rf row f1 f2 f3 f4 f5 = some R) ∨
  (v.1 = -1 ∧ ∃ (l : List CSE) (s' c' : Nat) (fr to so wo a3 a4 a5 : Int) (nC op ar f4 f5 : Nat → Int), l.length ≤ 12 ∧ s' ≤ 424 ∧ c' ≤ 400 ∧ v.2.1 = (s' : Int) ∧ CLL v.2.2.2.2.1 0 s' l 0 ∧ RLN nC op ar c' l 0 ∧ f_HM_law_97 T W th st tp fr to so wo (-1) 0 (l.length : Int) (c' : Int) a3 a4 a5 rf row nC op ar f4 f5 = some R)
theorem l_78b {T W : Nat → Int} {th st tp fr to so wo ft a1 a2 a3 a4 a5 : Int} {rf row f1 f2 f3 f4 f5 : Nat → Int} {N : Nat} {R : Int × Int × Int × Int × Int × Int × Int × Int × Int × Int × Int × Int × Int × Int × Int × (Nat → Int) × (Nat → Int) × (Nat → Int) × (Nat → Int) × (Nat → Int) × (Nat → Int) × (Nat → Int)} (h : f_HM_law_51 T W N th st tp fr to so wo ft 1 a1 a2 a3 a4 a5 rf row f1 f2 f3 f4 f5 = some R) : f_HM_law_97 T W th st tp fr to so wo ft 1 a1 a2 a3 a4 a5 rf row f1 f2 f3 f4 f5 = some R := by
  cases N with
  | zero => exact nomatch h
  | succ N =>
    replace h : f_HM_law_51_b T W (f_HM_law_51 T W N) th st tp fr to so wo ft 1 a1 a2 a3 a4 a5 rf row f1 f2 f3 f4 f5 = some R := h
    unfold f_HM_law_51_b at h
    replace h := xp_t (by decide +kernel) h
    unfold f_HM_law_78 at h
    exact xp_t (by decide +kernel) h
theorem l_loop {T : Nat → Int} {n m : Nat} {qs rs : Nat → Nat} {tk vl W : Nat → Int} (hL : LEX T n m qs rs tk vl) (hW : ∀ k : Nat, k < 8 → W k = zcd k) {th st : Int} {rf row tpx plc : Nat → Int} {v : Int × Int × Int × Int × (Nat → Int) × (Nat → Int) × (Nat → Int) × (Nat → Int)} {R : Int × Int × Int × Int × Int × Int × Int × Int × Int × Int × Int × Int × Int × Int × Int × (Nat → Int) × (Nat → Int) × (Nat → Int) × (Nat → Int) × (Nat → Int) × (Nat → Int) × (Nat → Int)} (hpl : ∀ i, i ≤ m → plc i = (qs i : Int)) : ∀ (N j s i p c : Nat) (O nC op ar pl pa : Nat → Int) (pd0 b0 : Int) (l : List CSE), (i ≤ m ∧ p ≤ 50 ∧ c ≤ 400 ∧ s ≤ i + 2 * j ∧ j ≤ 12) → l.length = j → CLL O 0 s l 0 → RLN nC op ar c l 0 → f_LawReader_read_38 tpx N (j : Int) (s : Int) (i : Int) (p : Int) O tk plc vl = some v →
    (∃ (r : Int × Int × Int × Int × Int × Int × Int × Int × Int × Int × Int × (Nat → Int) × (Nat → Int) × (Nat → Int) × (Nat → Int) × (Nat → Int)) (N2 : Nat), f_HM_readClause (n : Int) T W (qs i : Int) (rs i : Int) (SO T n (qs i)) (WO T n (qs i) (rs i)) (-1) 0 (j : Int) (c : Int) (p : Int) pd0 b0 nC op ar pl pa = some r ∧ f_HM_law_51 T W N2 th st (n : Int) r.1 r.2.1 r.2.2.1 r.2.2.2.1 r.2.2.2.2.1 r.2.2.2.2.2.1 r.2.2.2.2.2.2.1 r.2.2.2.2.2.2.2.1 r.2.2.2.2.2.2.2.2.1 r.2.2.2.2.2.2.2.2.2.1 r.2.2.2.2.2.2.2.2.2.2.1 rf row r.2.2.2.2.2.2.2.2.2.2.2.1 r.2.2.2.2.2.2.2.2.2.2.2.2.1 r.2.2.2.2.2.2.2.2.2.2.2.2.2.1 r.2.2.2.2.2.2.2.2.2.2.2.2.2.2.1 r.2.2.2.2.2.2.2.2.2.2.2.2.2.2.2 = some R) → LEnd T W n m qs rs th st (n : Int) rf row v R := by
  have hnm := hL.2.1
  have hm := hL.2.2.1
  intro N
  induction N with
  | zero => intro j s i p c O nC op ar pl pa pd0 b0 l _ _ _ _ h; exact nomatch h
  | succ N ih =>
    intro j s i p c O nC op ar pl pa pd0 b0 l hn hj hC hR h g
    obtain ⟨⟨r1, r2, r3, r4, r5, r6, r7, r8, r9, r10, r11, f1, f2, f3, f4, f5⟩, N2, g1, g2⟩ := g
    dsimp only at g2
    replace h : f_LawReader_read_38_b tpx (f_LawReader_read_38 tpx N) (j : Int) (s : Int) (i : Int) (p : Int) O tk plc vl = some v := h
    unfold f_LawReader_read_38_b at h
    rw [zwi (x := 12) (by decide), zwi (x := (j : Int)) (by omega)] at h
    by_cases c12 : j = 12
    · rw [if_pos (by omega)] at h
      replace h := (xp_g h).2
      rw [zwi (x := (i : Int)) (by omega), Int.toNat_natCast, hpl i hn.1] at h
      cases h
      rw [c12] at g1
      have q := r_cl12 g1
      replace q : r5 = (qs i : Int) ∧ r6 = 1 := q
      obtain ⟨q1, q2⟩ := q
      subst q1
      subst q2
      exact Or.inl ⟨i, _, _, _, _, _, _, _, _, _, _, _, _, _, _, hn.1, rfl, l_78b g2⟩
    · rw [if_neg (by omega)] at h
      obtain ⟨w2, w3, w4, w5, w6, e1, h⟩ := xz_d5 h
      rcases c_clause hL hW ⟨hn.1, hn.2.1, hn.2.2.1, hn.2.2.2.1, by omega⟩ e1 g1 with ⟨y1, i', y2, y3, y4, y5⟩ | ⟨s', i', p', c', O', nC', op', ar', pl', pa', pd', b', bars, β, ν, hv, hr, hb, hO, ⟨t, ht, hCl⟩, hA1, hA2, hA3, hRC⟩
      · replace y1 : w2 = 0 := y1
        replace y3 : w4 = (i' : Int) := y3
        replace y4 : r5 = (qs i' : Int) := y4
        replace y5 : r6 = 1 := y5
        subst y1
        subst y3
        subst y4
        subst y5
        replace h := xp_t (by decide +kernel) h
        replace h := (xp_g h).2
        rw [zwi (x := (i' : Int)) (by omega), Int.toNat_natCast, hpl i' y2] at h
        cases h
        exact Or.inl ⟨i', _, _, _, _, _, _, _, _, _, _, _, _, _, _, y2, rfl, l_78b g2⟩
      · cases hv
        cases hr
        replace h := xp_f (by decide +kernel) h
        replace h := p_tok hL hb.2.1 h
        have hrg := (tk_r (hL.2.2.2.2.1 i' hb.2.1)).1
        rw [zwi (x := tk i') (by omega), zwi (x := 257) (by decide)] at h
        subst ht
        -- the clauses, one more
        have hC2 : CLL w6 0 (t + 1) (l ++ [mkC bars β ν]) 0 := CLL_app (x := mkC bars β ν) l 0 (CLL_x l 0 hC (fun k _ k2 => by rw [Nat.zero_add]; exact hO k k2)) hCl
        have hR2 : RLN f1 f2 f3 c' (l ++ [mkC bars β ν]) 0 := RLN_app (x := mkC bars β ν) l 0 (RLN_x hb.2.2.2.2.2 (fun k hk => ⟨hA2 k hk, hA3 k hk⟩) l 0 (by rw [Nat.zero_add, hj]; exact hA1) hR) (by rw [Nat.zero_add, hj]; exact hRC)
        have hl2 : (l ++ [mkC bars β ν]).length = j + 1 := by rw [List.length_append, hj]; rfl
        cases N2 with
        | zero => exact nomatch g2
        | succ N2 =>
          replace g2 : f_HM_law_51_b T W (f_HM_law_51 T W N2) th st (n : Int) (qs i' : Int) (rs i' : Int) (SO T n (qs i')) (WO T n (qs i') (rs i')) (-1) 0 ((j + 1 : Nat) : Int) (c' : Int) (p' : Int) r10 r11 rf row f1 f2 f3 f4 f5 = some R := g2
          unfold f_HM_law_51_b at g2
          replace g2 := xp_f (by decide +kernel) g2
          obtain ⟨u1, e2, g2⟩ := xz_d1 g2
          have g97 : f_HM_law_97 T W th st (n : Int) (qs i' : Int) (rs i' : Int) (SO T n (qs i')) (WO T n (qs i') (rs i')) (-1) 0 ((l ++ [mkC bars β ν]).length : Int) (c' : Int) (p' : Int) r10 r11 rf row f1 f2 f3 f4 f5 = some R → v.1 = -1 → v.2.1 = ((t + 1 : Nat) : Int) → v.2.2.2.2.1 = w6 → LEnd T W n m qs rs th st (n : Int) rf row v R := fun g97 z1 z2 z3 => Or.inr ⟨z1, l ++ [mkC bars β ν], t + 1, c', _, _, _, _, _, _, _, f1, f2, f3, _, _, by rw [hl2]; omega, by omega, hb.2.2.2.1, z2, by rw [z3]; exact hC2, hR2, g97⟩
          by_cases c7 : tk i' = 257
          · rw [if_neg (fun z => z c7)] at h
            cases h
            rcases x_sign hL hb.2.1 (by decide) e2 with ⟨_, q2⟩ | ⟨q1, _⟩
            · omega
            · subst q1
              replace g2 := xp_t (by decide +kernel) g2
              unfold f_HM_law_78 at g2
              replace g2 := xp_f (by decide +kernel) g2
              have em : i' = m := by
                rcases Nat.lt_or_ge i' m with z | z
                · exfalso
                  have hkk := hL.2.2.2.2.1 i' hb.2.1
                  have hTT := hL.2.2.2.1.1 i' z
                  obtain ⟨_, hk⟩ := hkk
                  have hs0 : SO T n (qs i') ≠ 0 := by
                    unfold SO
                    rw [if_neg (by omega)]
                    split
                    · decide
                    · split
                      · decide
                      · decide
                  rcases hk with ⟨_, ⟨k', a1, a2, a3, a4⟩ | ⟨k', a1, a2, a3⟩ | ⟨a1, a2⟩⟩ | hk | hk | hk <;> omega
                · omega
              have hs : SO T n (qs i') = 0 := by
                unfold SO
                rw [em, hL.2.2.2.1.2.1.1, if_pos rfl]
              have g3 : f_HM_law_97 T W th st (n : Int) (qs i' : Int) (rs i' : Int) (SO T n (qs i')) (WO T n (qs i') (rs i')) (-1) 0 ((j + 1 : Nat) : Int) (c' : Int) (p' : Int) r10 r11 rf row f1 f2 f3 f4 f5 = some R := by
                rw [hs] at g2 ⊢
                exact xp_t (by decide +kernel) g2
              exact g97 (by rw [hl2]; exact g3) rfl rfl rfl
          · rw [if_pos c7] at h
            obtain ⟨w9, w10, e3, h⟩ := xz_d2 h
            have him := LEX_lt hL hb.2.1 c7
            rcases p_pass hL hb.2.1 (by decide) (by decide) e3 with ⟨q1, _, y⟩ | ⟨q1, y⟩ <;> cases y
            · replace h := xp_n (xp_t (by decide +kernel) h)
              rcases x_sign hL hb.2.1 (by decide) e2 with ⟨q2, _⟩ | ⟨_, q3⟩
              · subst q2
                replace g2 := xp_f (by decide +kernel) g2
                obtain ⟨u2, u3, u4, u5, e4, g2⟩ := xz_d4 g2
                have g3 := x_next hL him e4
                cases g3
                obtain ⟨r1, r2, r3, r4, r5, r6, r7, r8, r9, r10, r11, k1, k2, k3, k4, k5, e5, g2⟩ := xz_d16 g2
                exact ih (j + 1) (t + 1) (i' + 1) p' c' w6 f1 f2 f3 f4 f5 _ _ (l ++ [mkC bars β ν]) ⟨by omega, hb.2.2.1, hb.2.2.2.1, by omega, by omega⟩ hl2 hC2 hR2 h ⟨(r1, r2, r3, r4, r5, r6, r7, r8, r9, r10, r11, k1, k2, k3, k4, k5), N2, e5, g2⟩
              · exact absurd q1 q3
            · replace h := xp_f (by decide +kernel) h
              replace h := (xp_g h).2
              rw [zwi (x := (i' : Int)) (by omega), Int.toNat_natCast, hpl i' hb.2.1] at h
              cases h
              rcases x_sign hL hb.2.1 (by decide) e2 with ⟨_, q3⟩ | ⟨q2, _⟩
              · exact absurd q3 q1
              · subst q2
                replace g2 := xp_t (by decide +kernel) g2
                unfold f_HM_law_78 at g2
                replace g2 := xp_f (by decide +kernel) g2
                have hs : SO T n (qs i') ≠ 0 := by
                  have hq := (hL.2.2.2.1.1 i' him).1
                  unfold SO
                  rw [if_neg (by omega)]
                  split
                  · decide
                  · split
                    · decide
                    · decide
                have hsr := (tk_r (hL.2.2.2.2.1 i' hb.2.1)).2.1
                rw [zwi (x := SO T n (qs i')) (by omega), if_neg hs] at g2
                obtain ⟨u2, u3, u4, u5, u6, u7, e4, g2⟩ := xz_d6 g2
                have g3 := x_must0 e4
                cases g3
                exact Or.inl ⟨i', _, _, _, _, _, _, _, _, _, _, _, _, _, _, hb.2.1, rfl, g2⟩
end
section
/-! THE LAW'S END -/
theorem x_tell {x st : Int} {rf : Nat → Int} {r : Int × Int × (Nat → Int)} (hx : -7 < x ∧ x ≤ 100000) (h : f_HM_tell x st rf = some r) : (0 ≤ x ∧ r = (x, 0, rf)) ∨ (x < 0 ∧ r = (x, x, zu rf (-x).toNat (rf (-x).toNat + 1))) := by
  unfold f_HM_tell at h
  rw [zwi (x := x) (by omega)] at h
  by_cases c : 0 ≤ x
  · rw [if_pos c] at h
    unfold f_HM_tell_10 at h
    rw [zwi (x := x) (by omega), if_pos c] at h
    cases h
    exact Or.inl ⟨c, rfl⟩
  · rw [if_neg c] at h
    unfold f_HM_tell_10 at h
    rw [zwi (x := x) (by omega), if_neg c] at h
    replace h := xp_n h
    replace h := xp_n (xp_g h).2
    replace h := (xp_s h).2
    rw [zwi (x := -x) (by omega)] at h
    cases h
    exact Or.inr ⟨by omega, rfl⟩
theorem k_refuse {x st : Int} {rf : Nat → Int} {r : Int × Int × (Nat → Int)} (hx : -7 < x ∧ x < 0) (h : f_HS_refuse x st rf = some r) : r = (x, x, zu rf (-x).toNat (rf (-x).toNat + 1)) := by
  unfold f_HS_refuse at h
  replace h := xp_n h
  replace h := xp_n (xp_g h).2
  replace h := (xp_s h).2
  rw [zwi (x := -x) (by omega)] at h
  cases h
  rfl
theorem k_accept {x st ch : Int} {r : Int × Int × Int} (h : f_HS_accept x st ch = some r) : r = (x, 0, ch + 1) := by
  unfold f_HS_accept at h
  replace h := xp_n h
  cases h
  rfl
theorem zu_agr {f g : Nat → Int} {n i : Nat} (h : ∀ k, k < n → f k = g k) : ∀ k, k < n → zu f i (f i + 1) k = zu g i (g i + 1) k := fun k hk => by
  by_cases e : k = i
  · subst e
    rw [zu_eq, zu_eq, h k hk]
  · rw [zu_ne _ _ e, zu_ne _ _ e, h k hk]
/-- a law lies in other rows, too -/
theorem RLL_x {row row' : Nat → Int} {law law' : Nat} (hx : ∀ k, k < 900 → row' (law' + k) = row (law + k)) : ∀ (l : List CSE) (i : Nat), i + l.length ≤ 12 → RLL row law l i → RLL row' law' l i := by
  intro l
  induction l with
  | nil => intro i _ _; trivial
  | cons x l ih =>
    intro i hi h
    rw [List.length_cons] at hi
    refine ⟨?_, ih (i + 1) (by omega) h.2⟩
    obtain ⟨g1, ⟨s, e, g2, g3, g4, g5, g6⟩, g7⟩ := h.1
    have at8 : ∀ k, k < 8 → row' (law' + 2 + 8 * i + k) = row (law + 2 + 8 * i + k) := fun k hk => by
      have := hx (2 + 8 * i + k) (by omega)
      rw [show law' + 2 + 8 * i + k = law' + (2 + 8 * i + k) from by omega, show law + 2 + 8 * i + k = law + (2 + 8 * i + k) from by omega]
      exact this
    have hc : ∀ a b : Nat, b ≤ 400 → ∀ j, a ≤ j → j < b → rop row' law' j = rop row law j ∧ rar row' law' j = rar row law j := fun a b hb j _ j2 => by
      have h1 := hx (98 + 2 * j) (by omega)
      have h2 := hx (99 + 2 * j) (by omega)
      unfold rop rar
      rw [show law' + 98 + 2 * j = law' + (98 + 2 * j) from by omega, show law' + 99 + 2 * j = law' + (99 + 2 * j) from by omega, h1, h2, show law + 98 + 2 * j = law + (98 + 2 * j) from by omega, show law + 99 + 2 * j = law + (99 + 2 * j) from by omega]
      exact ⟨rfl, rfl⟩
    refine ⟨by rw [← g1]; exact at8 0 (by decide), ⟨s, e, by rw [← g2]; exact at8 5 (by decide), by rw [← g3]; exact at8 6 (by decide), g4, g5, ?_⟩, fun hb => ?_⟩
    · rcases g6 with g6 | ⟨a1, a2, d, a3, a4⟩
      · exact Or.inl g6
      · exact Or.inr ⟨a1, RG_x a2 (hc s e g5), d, a3, RVal_x a4 (Nat.le_refl _) (hc s e g5)⟩
    · obtain ⟨s, e, b1, b2, b3, b4, b5, d, b6, b7⟩ := g7 hb
      exact ⟨s, e, by rw [← b1]; exact at8 3 (by decide), by rw [← b2]; exact at8 4 (by decide), b3, b4, RG_x b5 (hc s e b4), d, b6, RVal_x b7 (Nat.le_refl _) (hc s e b4)⟩
theorem LW2_x {ord ord' od od' row row' : Nat → Int} {k : Nat} (h : LW2 ord od row k) (h1 : ∀ j, j < 424 → ord' (424 * k + j) = ord (424 * k + j)) (h2 : od' k = od k) (h3 : ∀ j, j < 900 → row' (180 + 900 * k + j) = row (180 + 900 * k + j)) : LW2 ord' od' row' k := by
  obtain ⟨l, a1, a2, a3, a4, a5⟩ := h
  refine ⟨l, a1, by rw [h2]; exact a2, by rw [h2]; exact CLL_x l 0 a3 (fun j _ j2 => h1 j (by omega)), ?_, RLL_x h3 l 0 (by omega) a5⟩
  rw [show 181 + 900 * k = 180 + 900 * k + 1 from by omega, h3 1 (by decide)]
  rw [show 180 + 900 * k + 1 = 181 + 900 * k from by omega]
  exact a4
theorem c_180 {T W : Nat → Int} {lw c L : Nat} (hlw : 4 ≤ lw ∧ lw ≤ 4680) (hc : c ≤ 400) (hL6 : L ≤ 100) {th st tp fr to so wo ft bd q a3 a4 a5 : Int} {rf nC op ar f4 f5 : Nat → Int} {R : Int × Int × Int × Int × Int × Int × Int × Int × Int × Int × Int × Int × Int × Int × Int × (Nat → Int) × (Nat → Int) × (Nat → Int) × (Nat → Int) × (Nat → Int) × (Nat → Int) × (Nat → Int)} : ∀ (N k : Nat) (row : Nat → Int), k ≤ c → row 3 = (L : Int) → f_HM_law_180 T W N (lw : Int) (k : Int) th st tp fr to so wo ft bd q (c : Int) a3 a4 a5 rf row nC op ar f4 f5 = some R → ∃ row2 : Nat → Int, (∀ t, k ≤ t → t < c → row2 (lw + 98 + 2 * t) = op t ∧ row2 (lw + 99 + 2 * t) = ar t) ∧ (∀ y, y ≠ 3 → (y < lw + 98 + 2 * k ∨ lw + 98 + 2 * c ≤ y) → row2 y = row y) ∧ row2 3 = ((L + 1 : Nat) : Int) ∧ R = ((L : Int), th, 0, tp, fr, to, so, wo, ft, bd, q, (c : Int), a3, a4, a5, rf, row2, nC, op, ar, f4, f5) := by
  intro N
  induction N with
  | zero => intro k row _ _ h; exact nomatch h
  | succ N ih =>
    intro k row hk h3 h
    replace h : f_HM_law_180_b T W (f_HM_law_180 T W N) (lw : Int) (k : Int) th st tp fr to so wo ft bd q (c : Int) a3 a4 a5 rf row nC op ar f4 f5 = some R := h
    unfold f_HM_law_180_b at h
    rw [zwi (x := (c : Int)) (by omega), zwi (x := (k : Int)) (by omega)] at h
    by_cases e : (c : Int) ≤ (k : Int)
    · rw [if_pos e] at h
      replace h := xp_n (xp_g h).2
      replace h := (xp_s h).2
      replace h := xp_n (xp_g h).2
      obtain ⟨u1, u2, u3, e1, h⟩ := xz_d3 h
      have e3 : row (zi_w 3).toNat = (L : Int) := h3
      have e4 : zu row (zi_w 3).toNat (row (zi_w 3).toNat + 1) (zi_w 3).toNat = (L : Int) + 1 := by rw [zu_eq, e3]
      rw [e4, show (L : Int) + 1 - 1 = (L : Int) from by omega] at e1
      rw [e3] at h
      rcases x_tell (by omega) e1 with ⟨_, g⟩ | ⟨g, _⟩
      · cases g
        cases h
        refine ⟨zu row 3 ((L : Int) + 1), fun t t1 t2 => by omega, fun y y1 _ => zu_ne _ _ y1, ?_, rfl⟩
        rw [zu_eq]; omega
      · omega
    · rw [if_neg e] at h
      replace h := xp_n (xp_n (xp_n h))
      replace h := (xp_g h).2
      replace h := (xp_s h).2
      replace h := xp_n (xp_n (xp_n (xp_n h)))
      replace h := (xp_g h).2
      replace h := xp_n (xp_s h).2
      have e1 : (zi_w ((lw : Int) + 98 + 2 * (k : Int))).toNat = lw + 98 + 2 * k := by rw [zwi (by omega)]; omega
      have e2 : (zi_w ((lw : Int) + 98 + 2 * (k : Int) + 1)).toNat = lw + 99 + 2 * k := by rw [zwi (by omega)]; omega
      rw [e1, e2, zwi (x := (k : Int)) (by omega), Int.toNat_natCast] at h
      obtain ⟨row2, r1, r2, r3, r4⟩ := ih (k + 1) _ (by omega) (by rw [zu_ne _ _ (by omega), zu_ne _ _ (by omega)]; exact h3) h
      refine ⟨row2, fun t t1 t2 => ?_, fun y y1 y2 => ?_, r3, r4⟩
      · by_cases et : t = k
        · subst et
          rw [r2 (lw + 98 + 2 * t) (by omega) (by omega), r2 (lw + 99 + 2 * t) (by omega) (by omega), zu_ne _ _ (by omega), zu_eq, zu_eq]
          exact ⟨rfl, rfl⟩
        · exact r1 t (by omega) t2
      · rw [r2 y y1 (by omega), zu_ne _ _ (by omega), zu_ne _ _ (by omega)]
theorem c_145 {T W : Nat → Int} {lw q c : Nat} (hlw : 4 ≤ lw ∧ lw ≤ 4680) (hq : q ≤ 12) {th st tp fr to so wo ft bd a3 a4 a5 : Int} {rf nC op ar f4 f5 : Nat → Int} {R : Int × Int × Int × Int × Int × Int × Int × Int × Int × Int × Int × Int × Int × Int × Int × (Nat → Int) × (Nat → Int) × (Nat → Int) × (Nat → Int) × (Nat → Int) × (Nat → Int) × (Nat → Int)} : ∀ (N k : Nat) (row : Nat → Int), k ≤ 8 * q → f_HM_law_145 T W N (lw : Int) (k : Int) th st tp fr to so wo ft bd (q : Int) (c : Int) a3 a4 a5 rf row nC op ar f4 f5 = some R → ∃ (row2 : Nat → Int) (N2 : Nat), (∀ t, k ≤ t → t < 8 * q → row2 (lw + 2 + t) = nC t) ∧ (∀ y, (y < lw + 2 + k ∨ lw + 2 + 8 * q ≤ y) → row2 y = row y) ∧ f_HM_law_180 T W N2 (lw : Int) 0 th st tp fr to so wo ft bd (q : Int) (c : Int) a3 a4 a5 rf row2 nC op ar f4 f5 = some R := by
  intro N
  induction N with
  | zero => intro k row _ h; exact nomatch h
  | succ N ih =>
    intro k row hk h
    replace h : f_HM_law_145_b T W (f_HM_law_145 T W N) (lw : Int) (k : Int) th st tp fr to so wo ft bd (q : Int) (c : Int) a3 a4 a5 rf row nC op ar f4 f5 = some R := h
    unfold f_HM_law_145_b at h
    replace h := xp_n h
    rw [zwi (x := 8 * (q : Int)) (by omega), zwi (x := (k : Int)) (by omega)] at h
    by_cases e : 8 * (q : Int) ≤ (k : Int)
    · rw [if_pos e] at h
      exact ⟨row, zfu, fun t t1 t2 => by omega, fun y _ => rfl, h⟩
    · rw [if_neg e] at h
      replace h := xp_n (xp_n h)
      replace h := (xp_g h).2
      replace h := xp_n (xp_s h).2
      have e1 : (zi_w ((lw : Int) + 2 + (k : Int))).toNat = lw + 2 + k := by rw [zwi (by omega)]; omega
      rw [e1, zwi (x := (k : Int)) (by omega), Int.toNat_natCast] at h
      obtain ⟨row2, N2, r1, r2, r3⟩ := ih (k + 1) _ (by omega) h
      refine ⟨row2, N2, fun t t1 t2 => ?_, fun y y1 => ?_, r3⟩
      · by_cases et : t = k
        · subst et
          rw [r2 (lw + 2 + t) (by omega), zu_eq]
        · exact r1 t (by omega) t2
      · rw [r2 y (by omega), zu_ne _ _ (by omega)]
theorem c_97 {T W : Nat → Int} {L q c : Nat} (hL6 : L < 6) (hq : q ≤ 12) (hc : c ≤ 400) {th st tp fr to so wo ft a3 a4 a5 : Int} {rf row nC op ar f4 f5 : Nat → Int} {R : Int × Int × Int × Int × Int × Int × Int × Int × Int × Int × Int × Int × Int × Int × Int × (Nat → Int) × (Nat → Int) × (Nat → Int) × (Nat → Int) × (Nat → Int) × (Nat → Int) × (Nat → Int)} (h3 : row 3 = (L : Int)) (h : f_HM_law_97 T W th st tp fr to so wo ft 0 (q : Int) (c : Int) a3 a4 a5 rf row nC op ar f4 f5 = some R) :
    ∃ row2 : Nat → Int, (∀ t, t < 8 * q → row2 (180 + 900 * L + 2 + t) = nC t) ∧ (∀ t, t < c → row2 (180 + 900 * L + 98 + 2 * t) = op t ∧ row2 (180 + 900 * L + 99 + 2 * t) = ar t) ∧ row2 (181 + 900 * L) = (q : Int) ∧ row2 3 = ((L + 1 : Nat) : Int) ∧ (∀ y, y ≠ 3 → (y < 180 + 900 * L ∨ 180 + 900 * L + 900 ≤ y) → row2 y = row y) ∧ R = ((L : Int), th, 0, 0, fr, to, so, wo, ft, 0, (q : Int), (c : Int), a3, a4, a5, rf, row2, nC, op, ar, f4, f5) := by
  unfold f_HM_law_97 at h
  replace h := xp_t (by decide +kernel) h
  replace h := xp_n (xp_n (xp_n (xp_g h).2))
  replace h := (xp_s h).2
  have e3 : row (zi_w 3).toNat = (L : Int) := h3
  rw [e3] at h
  have e4 : (zi_w (180 + 900 * (L : Int) + 1)).toNat = 181 + 900 * L := by rw [zwi (by omega)]; omega
  have e5 : 180 + 900 * (L : Int) = ((180 + 900 * L : Nat) : Int) := by omega
  rw [e4, e5] at h
  obtain ⟨row1, N2, r1, r2, r3⟩ := c_145 (lw := 180 + 900 * L) (q := q) (c := c) (by omega) hq zfu 0 _ (by omega) h
  obtain ⟨row2, s1, s2, s3, s4⟩ := c_180 (lw := 180 + 900 * L) (c := c) (L := L) (by omega) hc (by omega) N2 0 row1 (by omega) (by rw [r2 3 (by omega), zu_ne _ _ (by omega)]; exact h3) r3
  refine ⟨row2, fun t ht => ?_, fun t ht => s1 t (by omega) ht, ?_, s3, fun y y1 y2 => ?_, s4⟩
  · rw [s2 _ (by omega) (by omega)]; exact r1 t (by omega) ht
  · rw [s2 _ (by omega) (by omega), r2 _ (by omega), zu_eq]
  · rw [s2 y y1 (by omega), r2 y (by omega), zu_ne _ _ (by omega)]
theorem c_97b {T W : Nat → Int} {th st tp fr to so wo ft a1 a2 a3 a4 a5 : Int} {rf row f1 f2 f3 f4 f5 : Nat → Int} {R : Int × Int × Int × Int × Int × Int × Int × Int × Int × Int × Int × Int × Int × Int × Int × (Nat → Int) × (Nat → Int) × (Nat → Int) × (Nat → Int) × (Nat → Int) × (Nat → Int) × (Nat → Int)} (h : f_HM_law_97 T W th st tp fr to so wo ft 1 a1 a2 a3 a4 a5 rf row f1 f2 f3 f4 f5 = some R) : R = (-6, th, -6, 0, fr, to, so, wo, ft, 1, a1, a2, a3, a4, a5, zu rf 6 (rf 6 + 1), row, f1, f2, f3, f4, f5) := by
  unfold f_HM_law_97 at h
  replace h := xp_f (by decide +kernel) h
  obtain ⟨v6, v7, a8, e, h⟩ := xz_d3 h
  rcases x_tell (by decide) e with ⟨g, _⟩ | ⟨_, g⟩
  · omega
  · cases g
    cases h
    rfl
/-- the law of both -/
theorem law_eq {T W rfc hor hod rord rtok rpl rval rfr row nC op ar pl pa : Nat → Int} {tpd lf ls hl ch ro ra rp th st fr to so wo bd a1 a2 a3 a4 a5 : Int} {v : Int × Int × Int × Int × Int × Int × (Nat → Int) × Int × Int × Int × (Nat → Int) × (Nat → Int) × (Nat → Int) × (Nat → Int) × (Nat → Int) × (Nat → Int)} {R : Int × Int × Int × Int × Int × Int × Int × Int × Int × Int × Int × Int × Int × Int × Int × (Nat → Int) × (Nat → Int) × (Nat → Int) × (Nat → Int) × (Nat → Int) × (Nat → Int) × (Nat → Int)} (hT : zR T 0 255) (hW : ∀ k : Nat, k < 8 → W k = zcd k) (htp : 0 ≤ tpd ∧ tpd ≤ 400) (hl6 : 0 ≤ hl ∧ hl ≤ 6) (hl3 : hl = row 3) (hLW : ∀ k : Nat, (k : Int) < hl → LW2 hor hod row k)
    (h : f_HS_law T tpd lf ls hl ch rfc ro ra rp hor hod rord rtok rpl rval = some v) (g : f_HM_law T W th st tpd fr to so wo lf bd a1 a2 a3 a4 a5 rfr row nC op ar pl pa = some R) :
    v.1 = R.1 ∧ v.2.2.1 = R.2.2.2.2.2.2.2.2.1 ∧ v.2.2.2.1 = R.2.2.1 ∧ ((∀ k, k < 7 → rfc k = rfr k) → ∀ k, k < 7 → v.2.2.2.2.2.2.1 k = R.2.2.2.2.2.2.2.2.2.2.2.2.2.2.2.1 k) ∧ v.2.2.2.2.1 = R.2.2.2.2.2.2.2.2.2.2.2.2.2.2.2.2.1 3 ∧ (∀ j, j < 177 → j ≠ 3 → R.2.2.2.2.2.2.2.2.2.2.2.2.2.2.2.2.1 j = row j) ∧ (∀ k : Nat, (k : Int) < v.2.2.2.2.1 → LW2 v.2.2.2.2.2.2.2.2.2.2.1 v.2.2.2.2.2.2.2.2.2.2.2.1 R.2.2.2.2.2.2.2.2.2.2.2.2.2.2.2.2.1 k) := by
  obtain ⟨n, en⟩ : ∃ n : Nat, tpd = (n : Int) := ⟨tpd.toNat, by omega⟩
  subst en
  obtain ⟨L, eL⟩ : ∃ L : Nat, hl = (L : Int) := ⟨hl.toNat, by omega⟩
  subst eL
  have hn400 : n ≤ 400 := by omega
  unfold f_HS_law at h
  unfold f_HM_law at g
  replace g := (xp_g g).2
  have e3 : row (zi_w 3).toNat = (L : Int) := hl3.symm
  rw [e3, zwi (x := (L : Int)) (by omega), zwi (x := 6) (by decide)] at g
  rw [zwi (x := (L : Int)) (by omega), zwi (x := 6) (by decide)] at h
  by_cases c6 : (L : Int) = 6
  · rw [if_neg (by omega)] at h
    rw [if_neg (fun z => z c6)] at g
    obtain ⟨u1, u2, u3, e1, h⟩ := xz_d3 h
    obtain ⟨w1, w2, w3, e2, g⟩ := xz_d3 g
    have k1 := k_refuse (by decide) e1
    rcases x_tell (by decide) e2 with ⟨k2, _⟩ | ⟨_, k2⟩
    · omega
    · cases k1
      cases k2
      cases h
      cases g
      exact ⟨rfl, rfl, rfl, fun hrf => zu_agr hrf, hl3, fun j _ _ => rfl, hLW⟩
  · rw [if_pos (by omega)] at h
    rw [if_pos c6] at g
    obtain ⟨v1, v2, v3, v4, a5', a6, a7, a8, e1, h⟩ := xz_d8 h
    unfold f_LawReader_read at e1
    replace e1 := xp_n (xp_n (xp_n e1))
    obtain ⟨tk, plc, vl, e2, eL1⟩ := xz_d3 e1
    clear e1
    have m1 := zi_min_f 400 (by decide) 400 (by decide)
    have m1' : zi_min 400 400 = 400 := by omega
    have m2 := zi_min_f (n : Int) (by omega) 400 (by decide)
    have m2' : zi_min (n : Int) 400 = (n : Int) := by omega
    have m3 := zi_max_f 0 (by decide) (n : Int) (by omega)
    have m3' : zi_max 0 (n : Int) = (n : Int) := by omega
    rw [m1', m2', m3'] at e2
    obtain ⟨m, z, s1, s2, s3, s4, s5⟩ := zok_x (l_split T hT n hn400 rtok rpl rval) e2
    dsimp only at s1 s4 s5
    obtain ⟨qs, rs, x1, x2, x3, x4⟩ := LXS_of s1 s2 s3 s5
    have hL : LEX T n m qs rs tk vl := by
      refine ⟨hT, hn400, x4, x1, fun i hi => ?_, s4⟩
      rcases Nat.lt_or_ge i m with q | q
      · have t1 := x1.1 i q
        exact TKR_of hT t1.1 t1.2.2 (x3 i q)
      · have e : i = m := by omega
        subst e
        rw [s4, x1.2.1.1, x1.2.1.2]
        exact TKR_end
    obtain ⟨b2, b3, b4, b5, b6, b7, e4, g⟩ := xz_d6 g
    unfold f_HM_begin at e4
    obtain ⟨y1, y2, y3, y4, e5, e4⟩ := xz_d4 e4
    have gx : (y1, y2, y3, y4) = ((qs 0 : Int), (rs 0 : Int), SO T n (qs 0), WO T n (qs 0) (rs 0)) := NXQ_i x1 (i := 0) (by omega) (zok_x (l_next T hT n 0 hn400 (by omega) fr so wo) e5)
    cases gx
    cases e4
    obtain ⟨r1, r2, r3, r4, r5, r6, r7, r8, r9, r10, r11, k1, k2, k3, k4, k5, e6, g⟩ := xz_d16 g
    rcases l_loop hL hW x2 zfu 0 0 0 0 0 rord nC op ar pl pa _ _ [] ⟨by omega, by omega, by omega, by omega, by omega⟩ rfl rfl trivial eL1 ⟨(r1, r2, r3, r4, r5, r6, r7, r8, r9, r10, r11, k1, k2, k3, k4, k5), zfu, e6, g⟩ with ⟨i', fr', to', so', wo', c1, c2, c3, c4, c5, f1, f2, f3, f4, f5, hi', hv, h97⟩ | ⟨hv, l, s', c', fr', to', so', wo', c3, c4, c5, nC', op', ar', f4, f5, hl12, hs', hc', hvs, hCL, hRL, h97⟩
    · have hR := c_97b h97
      replace hv : v1 = (qs i' : Int) := hv
      have hq : qs i' ≤ n := by
        rcases Nat.lt_or_ge i' m with q | q
        · exact Nat.le_of_lt (x1.1 i' q).1
        · have e : i' = m := by omega
          rw [e, x1.2.1.1]
          exact Nat.le_refl _
      rw [hv, zwi (x := (qs i' : Int)) (by omega), zwi (x := -1) (by decide), if_neg (by omega)] at h
      obtain ⟨u1, u2, u3, e7, h⟩ := xz_d3 h
      have kr := k_refuse (by decide) e7
      cases kr
      subst hR
      cases h
      exact ⟨rfl, rfl, rfl, fun hrf => zu_agr hrf, hl3, fun j _ _ => rfl, hLW⟩
    · replace hv : v1 = -1 := hv
      replace hvs : v2 = (s' : Int) := hvs
      replace hCL : CLL a5' 0 s' l 0 := hCL
      subst hv
      subst hvs
      replace h := xp_t (by decide +kernel) h
      obtain ⟨v9, v10, a11, a12, e7, h⟩ := xz_d4 h
      obtain ⟨v13, v14, v15, e8, h⟩ := xz_d3 h
      have ka := k_accept e8
      cases ka
      have hL6 : L < 6 := by omega
      obtain ⟨row2, w1, w2, w3, w4, w5, w6⟩ := c_97 (L := L) hL6 hl12 hc' hl3.symm h97
      unfold f_Hill_enact at e7
      rw [zwi (x := (L : Int)) (by omega), zwi (x := 6) (by decide), if_pos (by omega)] at e7
      replace e7 := xp_cp (xp_n e7)
      replace e7 := xp_n (xp_s e7).2
      have q1 : (zi_w ((L : Int) * 424)).toNat = 424 * L := by rw [zwi (by omega)]; omega
      have q2 : (zi_w ((s' : Nat) : Int)).toNat = s' := by rw [zwi (by omega)]; omega
      rw [q1, q2, zwi (x := (L : Int)) (by omega), Int.toNat_natCast] at e7
      cases e7
      subst w6
      cases h
      refine ⟨rfl, rfl, rfl, fun hrf => hrf, ?_, fun j j1 j2 => w5 j j2 (by omega), fun k hk => ?_⟩
      · show (L : Int) + 1 = row2 3
        rw [w4]; omega
      · replace hk : (k : Int) < (L : Int) + 1 := hk
        show LW2 (va_cpy a5' hor (zi_w 0).toNat (424 * L) s') (zu hod L (s' : Int)) row2 k
        have e0 : (zi_w 0).toNat = 0 := rfl
        rw [e0]
        by_cases ek : k = L
        · subst ek
          refine ⟨l, hl12, by rw [zu_eq]; omega, ?_, w3, RLL_of (nC := nC') (op := op') (ar := ar') (c := c') hc' (fun t ht => w2 t ht) l 0 (fun t ht => w1 t (by omega)) hRL⟩
          rw [zu_eq, Int.toNat_natCast]
          refine CLL_x l 0 hCL (fun j _ j2 => ?_)
          unfold va_cpy
          rw [if_pos (by omega)]
          congr 1
          omega
        · have hk2 : k < L := by omega
          refine LW2_x (hLW k (by omega)) (fun j hj => ?_) (zu_ne _ _ ek) (fun j hj => w5 _ (by omega) (by omega))
          unfold va_cpy
          rw [if_neg (by omega)]
end
