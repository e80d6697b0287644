/-! ONE MACHINE: numbers, words, sums, comparisons, not, and, or -/
def wopv (op a b : Int) : Int := if op = 20 then a + b else if op = 21 then a - b else if op = 22 then a * b else if op = 23 then (if b = 0 then 2000000000 else a.tdiv b) else if op = 24 then (if a < b then 1 else 0) else if op = 25 then (if b < a then 1 else 0) else (if a = b then 1 else 0)
def wop (op a b : Int) : Option Int := if -1000000000 ≤ wopv op a b ∧ wopv op a b ≤ 1000000000 then some (wopv op a b) else none
theorem wop_r {op a b x : Int} (h : wop op a b = some x) : -1000000000 ≤ x ∧ x ≤ 1000000000 := by
  unfold wop at h
  by_cases g : -1000000000 ≤ wopv op a b ∧ wopv op a b ≤ 1000000000
  · rw [if_pos g] at h; cases h; exact g
  · rw [if_neg g] at h; exact nomatch h
/-- one instruction: none, where it can't be; some none, where it breaks -/
def stpv (op ar : Int) (E : Nat → Int) (k : Nat) (st : List Int) : Option (Option (Nat × List Int)) :=
  if op = 0 then some (some (k + 1, ar :: st))
  else if 0 < op ∧ op < 9 then some (some (k + 1, E (op - 1).toNat :: st))
  else if 20 ≤ op ∧ op < 27 then (match st with
    | b :: a :: l => (match wop (op) a b with
      | none => some none
      | some x => some (some (k + 1, x :: l)))
    | _ => none)
  else if op = 27 then (match st with
    | a :: l => some (some (k + 1, (1 - a) :: l))
    | _ => none)
  else if op = 28 ∨ op = 29 then (match st with
    | a :: l => if a = (if op = 28 then 0 else 1) then some (some ((ar).toNat, a :: l)) else some (some (k + 1, l))
    | _ => none)
  else none
def stp (op ar : Nat → Int) (E : Nat → Int) (k : Nat) (st : List Int) : Option (Option (Nat × List Int)) := stpv (op k) (ar k) E k st
def BND (st : List Int) : Prop := ∀ x ∈ st, -1000000000 ≤ x ∧ x ≤ 1000000000
theorem BND_nil : BND [] := fun x h => absurd h List.not_mem_nil
theorem BND_c {a : Int} {l : List Int} (h : -1000000000 ≤ a ∧ a ≤ 1000000000) (g : BND l) : BND (a :: l) := fun x hx => by
  rcases List.mem_cons.mp hx with e | e
  · rw [e]; exact h
  · exact g x e
theorem BND_a {l m : List Int} (h : BND l) (g : BND m) : BND (l ++ m) := fun x hx => by
  rcases List.mem_append.mp hx with e | e
  · exact h x e
  · exact g x e
theorem BND_t {a : Int} {l : List Int} (h : BND (a :: l)) : (-1000000000 ≤ a ∧ a ≤ 1000000000) ∧ BND l := ⟨h a List.mem_cons_self, fun x hx => h x (List.mem_cons_of_mem _ hx)⟩
def MS (op ar : Nat → Int) (E : Nat → Int) (s e lim : Nat) : Nat → Nat → List Int → Option (Nat × List Int) → Prop
  | 0 => fun k st r => r = some (k, st)
  | n + 1 => fun k st r => (s ≤ k ∧ k < e) ∧ ((stp op ar E k st = some none ∧ r = none) ∨ ∃ k1 st1, stp op ar E k st = some (some (k1, st1)) ∧ (st1.length ≤ lim ∧ BND st1 ∧ k < k1) ∧ MS op ar E s e lim n k1 st1 r)
theorem MS_w {op ar op' ar' E : Nat → Int} {s e s' e' lim lim' : Nat} (hs : s' ≤ s) (he : e ≤ e') (hl : lim ≤ lim') (hx : ∀ j, s ≤ j → j < e → op' j = op j ∧ ar' j = ar j) : ∀ (n k : Nat) (st : List Int) (r : Option (Nat × List Int)), MS op ar E s e lim n k st r → MS op' ar' E s' e' lim' n k st r := by
  intro n
  induction n with
  | zero => intro k st r h; exact h
  | succ n ih =>
    intro k st r h
    obtain ⟨h1, h2⟩ := h
    have hx1 := hx k h1.1 h1.2
    have e1 : stp op' ar' E k st = stp op ar E k st := by unfold stp; rw [hx1.1, hx1.2]
    refine ⟨⟨by omega, by omega⟩, ?_⟩
    rw [e1]
    rcases h2 with h2 | ⟨k1, st1, g1, g2, g3⟩
    · exact Or.inl h2
    · exact Or.inr ⟨k1, st1, g1, ⟨by omega, g2.2⟩, ih k1 st1 r g3⟩
theorem MS_t {op ar E : Nat → Int} {s e lim : Nat} : ∀ (n m k : Nat) (st : List Int) (k1 : Nat) (st1 : List Int) (r : Option (Nat × List Int)), MS op ar E s e lim n k st (some (k1, st1)) → MS op ar E s e lim m k1 st1 r → MS op ar E s e lim (n + m) k st r := by
  intro n
  induction n with
  | zero =>
    intro m k st k1 st1 r h g
    have h' : some (k1, st1) = some (k, st) := h
    cases h'
    rw [Nat.zero_add]; exact g
  | succ n ih =>
    intro m k st k1 st1 r h g
    obtain ⟨h1, h2⟩ := h
    rw [show n + 1 + m = (n + m) + 1 from by omega]
    refine ⟨h1, ?_⟩
    rcases h2 with ⟨_, h2⟩ | ⟨k2, st2, g1, g2, g3⟩
    · exact nomatch h2
    · exact Or.inr ⟨k2, st2, g1, g2, ih m k2 st2 k1 st1 r g3 g⟩
theorem MS_1 {op ar E : Nat → Int} {s e lim k k1 : Nat} {st st1 : List Int} (h1 : s ≤ k) (h2 : k < e) (h : stp op ar E k st = some (some (k1, st1))) (hl : st1.length ≤ lim) (hB : BND st1) (hk : k < k1 := by omega) : MS op ar E s e lim 1 k st (some (k1, st1)) :=
  ⟨⟨h1, h2⟩, Or.inr ⟨k1, st1, h, ⟨hl, hB, hk⟩, rfl⟩⟩
theorem MS_b {op ar E : Nat → Int} {s e lim k : Nat} {st : List Int} (h1 : s ≤ k) (h2 : k < e) (h : stp op ar E k st = some none) : MS op ar E s e lim 1 k st none :=
  ⟨⟨h1, h2⟩, Or.inl ⟨h, rfl⟩⟩
/-- the words' values -/
def EOK (E : Nat → Int) : Prop := ∀ j, j < 8 → 0 ≤ E j ∧ E j ≤ 100
/-- from s to e: so many numbers come on the pile, the latest first; d: how many more lie there at most meanwhile -/
def RPush (op ar : Nat → Int) (s e d : Nat) (ν : (Nat → Int) → Option (List Int)) : Prop :=
  s ≤ e ∧ ∀ E, EOK E → (∀ l, ν E = some l → BND l) ∧ ∀ st : List Int, BND st → ∃ n, MS op ar E s e (st.length + d) n s st (match ν E with | some l => some (e, l ++ st) | none => none)
def RVal (op ar : Nat → Int) (s e d : Nat) (ν : (Nat → Int) → Option Int) : Prop := RPush op ar s e d (fun E => (ν E).map (fun x => [x]))
def NB (ν : (Nat → Int) → Option Int) : Prop := ∀ E, EOK E → ∀ x, ν E = some x → -1000000000 ≤ x ∧ x ≤ 1000000000
theorem RPush_x {op ar op' ar' : Nat → Int} {s e d d' : Nat} {ν : (Nat → Int) → Option (List Int)} (h : RPush op ar s e d ν) (hd : d ≤ d') (hx : ∀ j, s ≤ j → j < e → op' j = op j ∧ ar' j = ar j) : RPush op' ar' s e d' ν := by
  refine ⟨h.1, fun E hE => ⟨(h.2 E hE).1, fun st hst => ?_⟩⟩
  obtain ⟨n, hn⟩ := (h.2 E hE).2 st hst
  exact ⟨n, MS_w (Nat.le_refl _) (Nat.le_refl _) (by omega) hx n _ _ _ hn⟩
theorem RPush_0 {op ar : Nat → Int} {s d : Nat} : RPush op ar s s d (fun _ => some []) :=
  ⟨Nat.le_refl _, fun E hE => ⟨fun l hl => by cases hl; exact BND_nil, fun st _ => ⟨0, rfl⟩⟩⟩
def vapp (ν μ : (Nat → Int) → Option (List Int)) : (Nat → Int) → Option (List Int) := fun E => match ν E with | none => none | some l => (match μ E with | none => none | some l2 => some (l2 ++ l))
theorem RPush_app {op ar : Nat → Int} {s m e d1 d2 d : Nat} {ν μ : (Nat → Int) → Option (List Int)} (h1 : RPush op ar s m d1 ν) (h2 : RPush op ar m e d2 μ) (hd1 : d1 ≤ d) (hd2 : ∀ E l, EOK E → ν E = some l → l.length + d2 ≤ d) : RPush op ar s e d (vapp ν μ) := by
  refine ⟨Nat.le_trans h1.1 h2.1, fun E hE => ⟨fun l hl => ?_, fun st hst => ?_⟩⟩
  · unfold vapp at hl
    cases hv : ν E with
    | none => rw [hv] at hl; exact nomatch hl
    | some l1 =>
      rw [hv] at hl
      cases hm : μ E with
      | none => rw [hm] at hl; exact nomatch hl
      | some l2 =>
        rw [hm] at hl
        cases hl
        exact BND_a ((h2.2 E hE).1 l2 hm) ((h1.2 E hE).1 l1 hv)
  obtain ⟨n, hn⟩ := (h1.2 E hE).2 st hst
  have hn2 := MS_w (s' := s) (e' := e) (Nat.le_refl _) h2.1 (show st.length + d1 ≤ st.length + d by omega) (fun j _ _ => ⟨rfl, rfl⟩) n _ _ _ hn
  unfold vapp
  cases hv : ν E with
  | none => rw [hv] at hn2; exact ⟨n, hn2⟩
  | some l =>
    rw [hv] at hn2
    obtain ⟨k, hk⟩ := (h2.2 E hE).2 (l ++ st) (BND_a ((h1.2 E hE).1 l hv) hst)
    have hl := hd2 E l hE hv
    have hk2 := MS_w (s' := s) (e' := e) h1.1 (Nat.le_refl _) (show (l ++ st).length + d2 ≤ st.length + d by rw [List.length_append]; omega) (fun j _ _ => ⟨rfl, rfl⟩) k _ _ _ hk
    refine ⟨n + k, MS_t n k _ _ _ _ _ hn2 ?_⟩
    dsimp only
    cases hm : μ E with
    | none => rw [hm] at hk2; exact hk2
    | some l2 => rw [hm] at hk2; dsimp only at hk2 ⊢; rw [List.append_assoc]; exact hk2
/-- an arithmetic sign, a comparison, behind two numbers -/
def vop (o : Int) (ν : (Nat → Int) → Option (List Int)) : (Nat → Int) → Option (List Int) := fun E => match ν E with | some (b :: a :: l) => (match wop o a b with | none => none | some x => some (x :: l)) | _ => none
theorem RPush_op {op ar : Nat → Int} {s e d : Nat} {ν : (Nat → Int) → Option (List Int)} {o : Int} (h : RPush op ar s e d ν) (ho : op e = o) (h20 : 20 ≤ o ∧ o < 27) (hl : ∀ E l, EOK E → ν E = some l → 2 ≤ l.length ∧ l.length ≤ d) : RPush op ar s (e + 1) d (vop o ν) := by
  refine ⟨by have := h.1; omega, fun E hE => ⟨fun l hl2 => ?_, fun st hst => ?_⟩⟩
  · unfold vop at hl2
    cases hv : ν E with
    | none => rw [hv] at hl2; exact nomatch hl2
    | some l0 =>
      rw [hv] at hl2
      have g := hl E l0 hE hv
      have gb := (h.2 E hE).1 l0 hv
      match l0, g, gb with
      | b :: a :: l1, g, gb =>
        dsimp only at hl2
        cases hw : wop o a b with
        | none => rw [hw] at hl2; exact nomatch hl2
        | some x => rw [hw] at hl2; cases hl2; exact BND_c (wop_r hw) (BND_t (BND_t gb).2).2
  obtain ⟨n, hn⟩ := (h.2 E hE).2 st hst
  have hn2 := MS_w (s' := s) (e' := e + 1) (Nat.le_refl _) (by omega) (Nat.le_refl (st.length + d)) (fun j _ _ => ⟨rfl, rfl⟩) n _ _ _ hn
  unfold vop
  cases hv : ν E with
  | none => rw [hv] at hn2; exact ⟨n, hn2⟩
  | some l =>
    rw [hv] at hn2
    have g := hl E l hE hv
    have gb := (h.2 E hE).1 l hv
    match l, g, gb with
    | b :: a :: l, g, gb =>
      dsimp only at hn2 ⊢
      have e1 : stp op ar E e (b :: a :: l ++ st) = (match wop o a b with | none => some none | some x => some (some (e + 1, x :: (l ++ st)))) := by
        unfold stp stpv
        rw [ho, if_neg (by omega), if_neg (by omega), if_pos (by omega)]
        rfl
      cases hw : wop o a b with
      | none =>
        rw [hw] at e1
        exact ⟨n + 1, MS_t n 1 _ _ _ _ _ hn2 (MS_b h.1 (by omega) e1)⟩
      | some x =>
        rw [hw] at e1
        refine ⟨n + 1, MS_t n 1 _ _ _ _ _ hn2 (MS_1 h.1 (by omega) e1 ?_ (BND_c (wop_r hw) (BND_a (BND_t (BND_t gb).2).2 hst)))⟩
        simp only [List.length_cons, List.length_append] at g ⊢
        omega
theorem RVal_num {op ar : Nat → Int} {s : Nat} {c : Int} (h : op s = 0) (ha : ar s = c) (hc : -1000000000 ≤ c ∧ c ≤ 1000000000) : RVal op ar s (s + 1) 1 (fun _ => some c) := by
  refine ⟨by omega, fun E hE => ⟨fun l hl => by cases hl; exact BND_c hc BND_nil, fun st hst => ⟨1, MS_1 (Nat.le_refl _) (by omega) ?_ (by simp) (BND_c hc hst)⟩⟩⟩
  unfold stp stpv
  rw [if_pos h, ha]
  rfl
theorem RVal_word {op ar : Nat → Int} {s j : Nat} (h : op s = (j : Int) + 1) (hj : j < 8) : RVal op ar s (s + 1) 1 (fun E => some (E j)) := by
  have hb : ∀ E, EOK E → -1000000000 ≤ E j ∧ E j ≤ 1000000000 := fun E hE => by have := hE j hj; omega
  refine ⟨by omega, fun E hE => ⟨fun l hl => by cases hl; exact BND_c (hb E hE) BND_nil, fun st hst => ⟨1, MS_1 (Nat.le_refl _) (by omega) ?_ (by simp) (BND_c (hb E hE) hst)⟩⟩⟩
  unfold stp stpv
  rw [h, if_neg (by omega), if_pos (by omega), show ((j : Int) + 1 - 1).toNat = j from by omega]
  rfl
theorem RVal_x {op ar op' ar' : Nat → Int} {s e d d' : Nat} {ν : (Nat → Int) → Option Int} (h : RVal op ar s e d ν) (hd : d ≤ d') (hx : ∀ j, s ≤ j → j < e → op' j = op j ∧ ar' j = ar j) : RVal op' ar' s e d' ν := RPush_x h hd hx
/-! a row of conditions with 'and', 'or': where it comes to, while some jumps have no goal yet -/
def bv (b : Bool) : Int := if b then 1 else 0
def BVal (op ar : Nat → Int) (s e d : Nat) (β : (Nat → Int) → Option Bool) : Prop := RVal op ar s e d (fun E => (β E).map bv)
theorem bv_b (b : Bool) : -1000000000 ≤ bv b ∧ bv b ≤ 1000000000 := by cases b <;> decide
theorem BVal_not {op ar : Nat → Int} {s e d : Nat} {β : (Nat → Int) → Option Bool} (h : BVal op ar s e d β) (ho : op e = 27) (hd : 1 ≤ d) : BVal op ar s (e + 1) d (fun E => (β E).map (fun b => !b)) := by
  refine ⟨by have := h.1; omega, fun E hE => ⟨fun l hl => ?_, fun st hst => ?_⟩⟩
  · dsimp only at hl
    cases hv : β E with
    | none => rw [hv] at hl; exact nomatch hl
    | some b => rw [hv] at hl; cases hl; exact BND_c (bv_b _) BND_nil
  · obtain ⟨n, hn⟩ := (h.2 E hE).2 st hst
    have hn2 := MS_w (s' := s) (e' := e + 1) (Nat.le_refl _) (by omega) (Nat.le_refl (st.length + d)) (fun j _ _ => ⟨rfl, rfl⟩) n _ _ _ hn
    dsimp only at hn2 ⊢
    cases hv : β E with
    | none => rw [hv] at hn2; exact ⟨n, hn2⟩
    | some b =>
      rw [hv] at hn2
      have e1 : 1 - bv b = bv (!b) := by cases b <;> rfl
      refine ⟨n + 1, MS_t n 1 _ _ _ _ _ hn2 (MS_1 h.1 (by omega) (k1 := e + 1) (st1 := bv (!b) :: st) ?_ ?_ (BND_c (bv_b _) hst))⟩
      · unfold stp stpv
        rw [ho, if_neg (by omega), if_neg (by omega), if_neg (by omega), if_pos rfl]
        show some (some (e + 1, (1 - bv b) :: st)) = _
        rw [e1]
      · simp only [List.length_cons]; omega
/-- ψ: broken; 0 goes on at k; 1 an 'and' jumps with 0; 2 an 'or' jumps with 1 -/
def PRE (op ar : Nat → Int) (s k d : Nat) (a o : Option Nat) (ψ : (Nat → Int) → Option Nat) : Prop :=
  s ≤ k ∧ (∀ i, a = some i → s ≤ i ∧ i < k) ∧ (∀ i, o = some i → s ≤ i ∧ i < k) ∧ ∀ (ar' : Nat → Int) (ta to : Nat), (∀ j, s ≤ j → j < k → a ≠ some j → o ≠ some j → ar' j = ar j) → (∀ i, a = some i → ar' i = (ta : Int)) → (∀ i, o = some i → ar' i = (to : Int)) → k ≤ ta → k ≤ to →
    ∀ E, EOK E → ∀ st : List Int, BND st → ∃ n, MS op ar' E s k (st.length + d) n s st (match ψ E with | none => none | some 0 => some (k, st) | some 1 => some (ta, 0 :: st) | _ => some (to, 1 :: st)) ∧ (∀ z, ψ E = some z → (z = 1 → a ≠ none) ∧ (z ≠ 0 → z ≠ 1 → o ≠ none))
theorem PRE_0 {op ar : Nat → Int} {s d : Nat} : PRE op ar s s d none none (fun _ => some 0) :=
  ⟨Nat.le_refl _, (fun _ h => nomatch h), (fun _ h => nomatch h), fun ar' ta to _ _ _ _ _ E hE st hst => ⟨0, rfl, fun z hz => by cases hz; exact ⟨fun h => (by omega), fun h => absurd rfl h⟩⟩⟩
theorem PRE_x {op ar op' ar' : Nat → Int} {s k d d' : Nat} {a o : Option Nat} {ψ : (Nat → Int) → Option Nat} (h : PRE op ar s k d a o ψ) (hd : d ≤ d') (hx : ∀ j, s ≤ j → j < k → op' j = op j ∧ (a ≠ some j → o ≠ some j → ar' j = ar j)) : PRE op' ar' s k d' a o ψ := by
  refine ⟨h.1, h.2.1, h.2.2.1, fun ar2 ta to g1 g2 g3 g4 g5 E hE st hst => ?_⟩
  obtain ⟨n, hn, hz⟩ := h.2.2.2 ar2 ta to (fun j j1 j2 j3 j4 => by rw [g1 j j1 j2 j3 j4]; exact (hx j j1 j2).2 j3 j4) g2 g3 g4 g5 E hE st hst
  exact ⟨n, MS_w (Nat.le_refl _) (Nat.le_refl _) (by omega) (fun j j1 j2 => ⟨(hx j j1 j2).1, rfl⟩) n _ _ _ hn, hz⟩
def ψand (ψ : (Nat → Int) → Option Nat) (β : (Nat → Int) → Option Bool) : (Nat → Int) → Option Nat := fun E => match ψ E with | none => none | some 0 => (match β E with | none => none | some true => some 0 | some false => some 1) | some z => some z
def ψor (ψ : (Nat → Int) → Option Nat) (β : (Nat → Int) → Option Bool) : (Nat → Int) → Option Nat := fun E => match ψ E with | none => none | some 0 => (match β E with | none => none | some true => some 2 | some false => some 0) | some 1 => some 0 | some z => some z
def ψend (ψ : (Nat → Int) → Option Nat) (β : (Nat → Int) → Option Bool) : (Nat → Int) → Option Bool := fun E => match ψ E with | none => none | some 0 => β E | some 1 => some false | some _ => some true
theorem stp_and {op ar E : Nat → Int} {k t : Nat} {st : List Int} (h : op k = 28) (ha : ar k = (t : Int)) : stp op ar E k (0 :: st) = some (some (t, 0 :: st)) ∧ stp op ar E k (1 :: st) = some (some (k + 1, st)) := by
  constructor
  · unfold stp stpv
    rw [h, if_neg (by omega), if_neg (by omega), if_neg (by omega), if_neg (by omega), if_pos (by omega)]
    dsimp only
    rw [if_pos (by decide), ha, Int.toNat_natCast]
  · unfold stp stpv
    rw [h, if_neg (by omega), if_neg (by omega), if_neg (by omega), if_neg (by omega), if_pos (by omega)]
    dsimp only
    rw [if_neg (by decide)]
theorem stp_or {op ar E : Nat → Int} {k t : Nat} {st : List Int} (h : op k = 29) (ha : ar k = (t : Int)) : stp op ar E k (1 :: st) = some (some (t, 1 :: st)) ∧ stp op ar E k (0 :: st) = some (some (k + 1, st)) := by
  constructor
  · unfold stp stpv
    rw [h, if_neg (by omega), if_neg (by omega), if_neg (by omega), if_neg (by omega), if_pos (by omega)]
    dsimp only
    rw [if_pos (by decide), ha, Int.toNat_natCast]
  · unfold stp stpv
    rw [h, if_neg (by omega), if_neg (by omega), if_neg (by omega), if_neg (by omega), if_pos (by omega)]
    dsimp only
    rw [if_neg (by decide)]
/-- behind a condition: 'and' at m; the 'and' before it jumps here -/
theorem PRE_and {op ar ar0 : Nat → Int} {s k m d d0 : Nat} {a o : Option Nat} {ψ : (Nat → Int) → Option Nat} {β : (Nat → Int) → Option Bool} (h : PRE op ar0 s k d a o ψ) (hb : BVal op ar k m d0 β) (hd0 : d0 ≤ d) (hd1 : 1 ≤ d) (ho : op m = 28)
    (hx : ∀ j, s ≤ j → j < k → a ≠ some j → o ≠ some j → ar j = ar0 j) (ha : ∀ i, a = some i → ar i = (m : Int)) (hao : ∀ i, a = some i → o ≠ some i) : PRE op ar s (m + 1) d (some m) o (ψand ψ β) := by
  have hkm := hb.1
  refine ⟨by have := h.1; omega, fun i hi => by cases hi; have := h.1; omega, fun i hi => by have := h.2.2.1 i hi; omega, fun ar' ta to g1 g2 g3 g4 g5 E hE st hst => ?_⟩
  have hmo : o ≠ some m := fun e => by have := h.2.2.1 m e; omega
  obtain ⟨n, hn, hz⟩ := h.2.2.2 ar' m to (fun j j1 j2 j3 j4 => by rw [g1 j j1 (by omega) (fun e => by cases e; omega) j4]; exact hx j j1 j2 j3 j4) (fun i hi => by have := h.2.1 i hi; rw [g1 i this.1 (by omega) (fun e => by cases e; omega) (hao i hi)]; exact ha i hi) g3 hb.1 (by have := hb.1; omega) E hE st hst
  have hn2 := MS_w (s' := s) (e' := m + 1) (Nat.le_refl _) (by omega) (Nat.le_refl (st.length + d)) (fun j _ _ => ⟨rfl, rfl⟩) n _ _ _ hn
  have hs := stp_and (E := E) (st := st) ho (g2 m rfl)
  have hsk := h.1
  have la : (0 :: st).length ≤ st.length + d := by simp only [List.length_cons]; omega
  have lb : BND (0 :: st) := BND_c (by decide) hst
  unfold ψand
  cases hv : ψ E with
  | none => rw [hv] at hn2; exact ⟨n, hn2, fun z hz => nomatch hz⟩
  | some z =>
    rw [hv] at hn2
    match z with
    | 0 =>
      try dsimp only at hn2 ⊢
      obtain ⟨q, hq⟩ := (hb.2 E hE).2 st hst
      have hq2 := MS_w (op' := op) (ar' := ar') (s' := s) (e' := m + 1) hsk (by omega) (show st.length + d0 ≤ st.length + d by omega) (fun j j1 j2 => ⟨rfl, g1 j (by omega) (by omega) (fun e => by cases e; omega) (fun e => by have := h.2.2.1 j e; omega)⟩) q _ _ _ hq
      dsimp only at hq2
      cases hβ : β E with
      | none => rw [hβ] at hq2; exact ⟨n + q, MS_t n q _ _ _ _ _ hn2 hq2, fun z hz => nomatch hz⟩
      | some b =>
        rw [hβ] at hq2
        cases b with
        | true => exact ⟨n + (q + 1), MS_t n _ _ _ _ _ _ hn2 (MS_t q 1 _ _ _ _ _ hq2 (MS_1 (by omega) (by omega) hs.2 (by omega) hst)), fun z hz => by cases hz; exact ⟨fun h => (by omega), fun h => absurd rfl h⟩⟩
        | false => exact ⟨n + (q + 1), MS_t n _ _ _ _ _ _ hn2 (MS_t q 1 _ _ _ _ _ hq2 (MS_1 (by omega) (by omega) hs.1 la lb)), fun z hz => by cases hz; exact ⟨fun _ h => (nomatch h), fun _ h => absurd rfl h⟩⟩
    | 1 =>
      try dsimp only at hn2 ⊢
      exact ⟨n + 1, MS_t n 1 _ _ _ _ _ hn2 (MS_1 (by omega) (by omega) hs.1 la lb), fun z hz => by cases hz; exact ⟨fun _ h => (nomatch h), fun _ h => absurd rfl h⟩⟩
    | z + 2 =>
      exact ⟨n, hn2, fun y hy => by cases hy; exact ⟨fun h => (by omega), fun _ _ => (hz (z + 2) hv).2 (by omega) (by omega)⟩⟩
/-- behind a condition: 'or' at m; the 'and', the 'or' before it jump here -/
theorem PRE_or {op ar ar0 : Nat → Int} {s k m d d0 : Nat} {a o : Option Nat} {ψ : (Nat → Int) → Option Nat} {β : (Nat → Int) → Option Bool} (h : PRE op ar0 s k d a o ψ) (hb : BVal op ar k m d0 β) (hd0 : d0 ≤ d) (hd1 : 1 ≤ d) (ho : op m = 29)
    (hx : ∀ j, s ≤ j → j < k → a ≠ some j → o ≠ some j → ar j = ar0 j) (ha : ∀ i, a = some i → ar i = (m : Int)) (hoo : ∀ i, o = some i → ar i = (m : Int)) : PRE op ar s (m + 1) d none (some m) (ψor ψ β) := by
  have hkm := hb.1
  refine ⟨by have := h.1; omega, (fun i hi => nomatch hi), fun i hi => by cases hi; have := h.1; omega, fun ar' ta to g1 g2 g3 g4 g5 E hE st hst => ?_⟩
  have gj : ∀ j, s ≤ j → j < m → ar' j = ar j := fun j j1 j2 => g1 j j1 (by omega) (fun e => nomatch e) (fun e => by cases e; omega)
  obtain ⟨n, hn, hz⟩ := h.2.2.2 ar' m m (fun j j1 j2 j3 j4 => by rw [gj j j1 (by omega)]; exact hx j j1 j2 j3 j4) (fun i hi => by have := h.2.1 i hi; rw [gj i this.1 (by omega)]; exact ha i hi) (fun i hi => by have := h.2.2.1 i hi; rw [gj i this.1 (by omega)]; exact hoo i hi) hb.1 hb.1 E hE st hst
  have hn2 := MS_w (s' := s) (e' := m + 1) (Nat.le_refl _) (by omega) (Nat.le_refl (st.length + d)) (fun j _ _ => ⟨rfl, rfl⟩) n _ _ _ hn
  have hs := stp_or (E := E) (st := st) ho (g3 m rfl)
  have hsk := h.1
  have la : (1 :: st).length ≤ st.length + d := by simp only [List.length_cons]; omega
  have lb : BND (1 :: st) := BND_c (by decide) hst
  unfold ψor
  cases hv : ψ E with
  | none => rw [hv] at hn2; exact ⟨n, hn2, fun z hz => nomatch hz⟩
  | some z =>
    rw [hv] at hn2
    match z with
    | 0 =>
      try dsimp only at hn2 ⊢
      obtain ⟨q, hq⟩ := (hb.2 E hE).2 st hst
      have hq2 := MS_w (op' := op) (ar' := ar') (s' := s) (e' := m + 1) hsk (by omega) (show st.length + d0 ≤ st.length + d by omega) (fun j j1 j2 => ⟨rfl, gj j (by omega) j2⟩) q _ _ _ hq
      dsimp only at hq2
      cases hβ : β E with
      | none => rw [hβ] at hq2; exact ⟨n + q, MS_t n q _ _ _ _ _ hn2 hq2, fun z hz => nomatch hz⟩
      | some b =>
        rw [hβ] at hq2
        cases b with
        | true => exact ⟨n + (q + 1), MS_t n _ _ _ _ _ _ hn2 (MS_t q 1 _ _ _ _ _ hq2 (MS_1 (by omega) (by omega) hs.1 la lb)), fun z hz => by cases hz; exact ⟨fun h => (by omega), fun _ _ h => nomatch h⟩⟩
        | false => exact ⟨n + (q + 1), MS_t n _ _ _ _ _ _ hn2 (MS_t q 1 _ _ _ _ _ hq2 (MS_1 (by omega) (by omega) hs.2 (by omega) hst)), fun z hz => by cases hz; exact ⟨fun h => (by omega), fun h => absurd rfl h⟩⟩
    | 1 =>
      try dsimp only at hn2 ⊢
      exact ⟨n + 1, MS_t n 1 _ _ _ _ _ hn2 (MS_1 (by omega) (by omega) hs.2 (by omega) hst), fun z hz => by cases hz; exact ⟨fun h => (by omega), fun h => absurd rfl h⟩⟩
    | z + 2 =>
      try dsimp only at hn2 ⊢
      exact ⟨n + 1, MS_t n 1 _ _ _ _ _ hn2 (MS_1 (by omega) (by omega) hs.1 la lb), fun y hy => by cases hy; exact ⟨fun h => (by omega), fun _ _ h => nomatch h⟩⟩
theorem PRE_end {op ar ar0 : Nat → Int} {s k m d d0 : Nat} {a o : Option Nat} {ψ : (Nat → Int) → Option Nat} {β : (Nat → Int) → Option Bool} (h : PRE op ar0 s k d a o ψ) (hb : BVal op ar k m d0 β) (hd0 : d0 ≤ d) (hd1 : 1 ≤ d)
    (hx : ∀ j, s ≤ j → j < k → a ≠ some j → o ≠ some j → ar j = ar0 j) (ha : ∀ i, a = some i → ar i = (m : Int)) (hoo : ∀ i, o = some i → ar i = (m : Int)) : BVal op ar s m d (ψend ψ β) := by
  have hkm := hb.1
  have hsk := h.1
  refine ⟨by omega, fun E hE => ⟨fun l hl => ?_, fun st hst => ?_⟩⟩
  · dsimp only at hl
    cases hv : ψend ψ β E with
    | none => rw [hv] at hl; exact nomatch hl
    | some b => rw [hv] at hl; cases hl; exact BND_c (bv_b _) BND_nil
  obtain ⟨n, hn, hz⟩ := h.2.2.2 ar m m hx ha hoo hb.1 hb.1 E hE st hst
  have hn2 := MS_w (s' := s) (e' := m) (Nat.le_refl _) hkm (Nat.le_refl (st.length + d)) (fun j _ _ => ⟨rfl, rfl⟩) n _ _ _ hn
  unfold ψend
  dsimp only
  cases hv : ψ E with
  | none => rw [hv] at hn2; exact ⟨n, hn2⟩
  | some z =>
    rw [hv] at hn2
    match z with
    | 0 =>
      try dsimp only at hn2 ⊢
      obtain ⟨q, hq⟩ := (hb.2 E hE).2 st hst
      have hq2 := MS_w (s' := s) (e' := m) hsk (Nat.le_refl _) (show st.length + d0 ≤ st.length + d by omega) (fun j _ _ => ⟨rfl, rfl⟩) q _ _ _ hq
      dsimp only at hq2
      exact ⟨n + q, MS_t n q _ _ _ _ _ hn2 hq2⟩
    | 1 => exact ⟨n, hn2⟩
    | z + 2 => exact ⟨n, hn2⟩
