/-! ONE MACHINE: numbers, words, sums, comparisons, not, and, or -/
def wopv (op a b : Int) : Int := if op = 20 then a + b else if op = 21 then a - b else if op = 22 then a * b else if op = 23 then (if b = 0 then 2000000000 else a.tdiv b) else if op = 24 then (if a < b then 1 else 0) else if op = 25 then (if b < a then 1 else 0) else (if a = b then 1 else 0)
def wop (op a b : Int) : Option Int := if -1000000000 ≤ wopv op a b ∧ wopv op a b ≤ 1000000000 then some (wopv op a b) else none
theorem wop_r {op a b x : Int} (h : wop op a b = some x) : -1000000000 ≤ x ∧ x ≤ 1000000000 := by
  sorry
/-- one instruction: none, where it can't be; some none, where it breaks -/
def stpv (op ar : Int) (E : Nat → Int) (k : Nat) (st : List Int) : Option (Option (Nat × List Int)) :=
  if op = 0 then some (some (k + 1, ar :: st))
  else if 0 < op ∧ op < 9 then some (some (k + 1, E (op - 1).toNat :: st))
  else if 20 ≤ op ∧ op < 27 then (match st with
    | b :: a :: l => (match wop (op) a b with
      | none => some none
      | some x => some (some (k + 1, x :: l)))
    | _ => none)
  else if op = 27 then (match st with
    | a :: l => some (some (k + 1, (1 - a) :: l))
    | _ => none)
  else if op = 28 ∨ op = 29 then (match st with
    | a :: l => if a = (if op = 28 then 0 else 1) then some (some ((ar).toNat, a :: l)) else some (some (k + 1, l))
    | _ => none)
  else none
def stp (op ar : Nat → Int) (E : Nat → Int) (k : Nat) (st : List Int) : Option (Option (Nat × List Int)) := stpv (op k) (ar k) E k st
def BND (st : List Int) : Prop := ∀ x ∈ st, -1000000000 ≤ x ∧ x ≤ 1000000000
theorem BND_nil : BND [] := fun x h => absurd h List.not_mem_nil
theorem BND_c {a : Int} {l : List Int} (h : -1000000000 ≤ a ∧ a ≤ 1000000000) (g : BND l) : BND (a :: l) := fun x hx => by
  rcases List.mem_cons.mp hx with e | e
  · rw [e]; exact h
  · exact g x e
theorem BND_a {l m : List Int} (h : BND l) (g : BND m) : BND (l ++ m) := fun x hx => by
  rcases List.mem_append.mp hx with e | e
  · exact h x e
  · exact g x e
theorem BND_t {a : Int} {l : List Int} (h : BND (a :: l)) : (-1000000000 ≤ a ∧ a ≤ 1000000000) ∧ BND l := ⟨h a List.mem_cons_self, fun x hx => h x (List.mem_cons_of_mem _ hx)⟩
def MS (op ar : Nat → Int) (E : Nat → Int) (s e lim : Nat) : Nat → Nat → List Int → Option (Nat × List Int) → Prop
  | 0 => fun k st r => r = some (k, st)
  | n + 1 => fun k st r => (s ≤ k ∧ k < e) ∧ ((stp op ar E k st = some none ∧ r = none) ∨ ∃ k1 st1, stp op ar E k st = some (some (k1, st1)) ∧ (st1.length ≤ lim ∧ BND st1 ∧ k < k1) ∧ MS op ar E s e lim n k1 st1 r)
theorem MS_w {op ar op' ar' E : Nat → Int} {s e s' e' lim lim' : Nat} (hs : s' ≤ s) (he : e ≤ e') (hl : lim ≤ lim') (hx : ∀ j, s ≤ j → j < e → op' j = op j ∧ ar' j = ar j) : ∀ (n k : Nat) (st : List Int) (r : Option (Nat × List Int)), MS op ar E s e lim n k st r → MS op' ar' E s' e' lim' n k st r := by
  sorry
theorem MS_t {op ar E : Nat → Int} {s e lim : Nat} : ∀ (n m k : Nat) (st : List Int) (k1 : Nat) (st1 : List Int) (r : Option (Nat × List Int)), MS op ar E s e lim n k st (some (k1, st1)) → MS op ar E s e lim m k1 st1 r → MS op ar E s e lim (n + m) k st r := by
  sorry
theorem MS_1 {op ar E : Nat → Int} {s e lim k k1 : Nat} {st st1 : List Int} (h1 : s ≤ k) (h2 : k < e) (h : stp op ar E k st = some (some (k1, st1))) (hl : st1.length ≤ lim) (hB : BND st1) (hk : k < k1 := by omega) : MS op ar E s e lim 1 k st (some (k1, st1)) :=
  ⟨⟨h1, h2⟩, Or.inr ⟨k1, st1, h, ⟨hl, hB, hk⟩, rfl⟩⟩
theorem MS_b {op ar E : Nat → Int} {s e lim k : Nat} {st : List Int} (h1 : s ≤ k) (h2 : k < e) (h : stp op ar E k st = some none) : MS op ar E s e lim 1 k st none :=
  ⟨⟨h1, h2⟩, Or.inl ⟨h, rfl⟩⟩
/-- the words' values -/
def EOK (E : Nat → Int) : Prop := ∀ j, j < 8 → 0 ≤ E j ∧ E j ≤ 100
/-- from s to e: so many numbers come on the pile, the latest first; d: how many more lie there at most meanwhile -/
def RPush (op ar : Nat → Int) (s e d : Nat) (ν : (Nat → Int) → Option (List Int)) : Prop :=
  s ≤ e ∧ ∀ E, EOK E → (∀ l, ν E = some l → BND l) ∧ ∀ st : List Int, BND st → ∃ n, MS op ar E s e (st.length + d) n s st (match ν E with | some l => some (e, l ++ st) | none => none)
def RVal (op ar : Nat → Int) (s e d : Nat) (ν : (Nat → Int) → Option Int) : Prop := RPush op ar s e d (fun E => (ν E).map (fun x => [x]))
def NB (ν : (Nat → Int) → Option Int) : Prop := ∀ E, EOK E → ∀ x, ν E = some x → -1000000000 ≤ x ∧ x ≤ 1000000000
theorem RPush_x {op ar op' ar' : Nat → Int} {s e d d' : Nat} {ν : (Nat → Int) → Option (List Int)} (h : RPush op ar s e d ν) (hd : d ≤ d') (hx : ∀ j, s ≤ j → j < e → op' j = op j ∧ ar' j = ar j) : RPush op' ar' s e d' ν := by
  sorry
theorem RPush_0 {op ar : Nat → Int} {s d : Nat} : RPush op ar s s d (fun _ => some []) :=
  ⟨Nat.le_refl _, fun E hE => ⟨fun l hl => by cases hl; exact BND_nil, fun st _ => ⟨0, rfl⟩⟩⟩
def vapp (ν μ : (Nat → Int) → Option (List Int)) : (Nat → Int) → Option (List Int) := fun E => match ν E with | none => none | some l => (match μ E with | none => none | some l2 => some (l2 ++ l))
theorem RPush_app {op ar : Nat → Int} {s m e d1 d2 d : Nat} {ν μ : (Nat → Int) → Option (List Int)} (h1 : RPush op ar s m d1 ν) (h2 : RPush op ar m e d2 μ) (hd1 : d1 ≤ d) (hd2 : ∀ E l, EOK E → ν E = some l → l.length + d2 ≤ d) : RPush op ar s e d (vapp ν μ) := by
  sorry
/-- an arithmetic sign, a comparison, behind two numbers -/
def vop (o : Int) (ν : (Nat → Int) → Option (List Int)) : (Nat → Int) → Option (List Int) := fun E => match ν E with | some (b :: a :: l) => (match wop o a b with | none => none | some x => some (x :: l)) | _ => none
theorem RPush_op {op ar : Nat → Int} {s e d : Nat} {ν : (Nat → Int) → Option (List Int)} {o : Int} (h : RPush op ar s e d ν) (ho : op e = o) (h20 : 20 ≤ o ∧ o < 27) (hl : ∀ E l, EOK E → ν E = some l → 2 ≤ l.length ∧ l.length ≤ d) : RPush op ar s (e + 1) d (vop o ν) := by
  sorry
theorem RVal_num {op ar : Nat → Int} {s : Nat} {c : Int} (h : op s = 0) (ha : ar s = c) (hc : -1000000000 ≤ c ∧ c ≤ 1000000000) : RVal op ar s (s + 1) 1 (fun _ => some c) := by
  sorry
theorem RVal_word {op ar : Nat → Int} {s j : Nat} (h : op s = (j : Int) + 1) (hj : j < 8) : RVal op ar s (s + 1) 1 (fun E => some (E j)) := by
  sorry
theorem RVal_x {op ar op' ar' : Nat → Int} {s e d d' : Nat} {ν : (Nat → Int) → Option Int} (h : RVal op ar s e d ν) (hd : d ≤ d') (hx : ∀ j, s ≤ j → j < e → op' j = op j ∧ ar' j = ar j) : RVal op' ar' s e d' ν := RPush_x h hd hx
/-! a row of conditions with 'and', 'or': where it comes to, while some jumps have no goal yet -/
def bv (b : Bool) : Int := if b then 1 else 0
def BVal (op ar : Nat → Int) (s e d : Nat) (β : (Nat → Int) → Option Bool) : Prop := RVal op ar s e d (fun E => (β E).map bv)
theorem bv_b (b : Bool) : -1000000000 ≤ bv b ∧ bv b ≤ 1000000000 := by cases b <;> decide
theorem BVal_not {op ar : Nat → Int} {s e d : Nat} {β : (Nat → Int) → Option Bool} (h : BVal op ar s e d β) (ho : op e = 27) (hd : 1 ≤ d) : BVal op ar s (e + 1) d (fun E => (β E).map (fun b => !b)) := by
  sorry
/-- ψ: broken; 0 goes on at k; 1 an 'and' jumps with 0; 2 an 'or' jumps with 1 -/
def PRE (op ar : Nat → Int) (s k d : Nat) (a o : Option Nat) (ψ : (Nat → Int) → Option Nat) : Prop :=
  s ≤ k ∧ (∀ i, a = some i → s ≤ i ∧ i < k) ∧ (∀ i, o = some i → s ≤ i ∧ i < k) ∧ ∀ (ar' : Nat → Int) (ta to : Nat), (∀ j, s ≤ j → j < k → a ≠ some j → o ≠ some j → ar' j = ar j) → (∀ i, a = some i → ar' i = (ta : Int)) → (∀ i, o = some i → ar' i = (to : Int)) → k ≤ ta → k ≤ to →
    ∀ E, EOK E → ∀ st : List Int, BND st → ∃ n, MS op ar' E s k (st.length + d) n s st (match ψ E with | none => none | some 0 => some (k, st) | some 1 => some (ta, 0 :: st) | _ => some (to, 1 :: st)) ∧ (∀ z, ψ E = some z → (z = 1 → a ≠ none) ∧ (z ≠ 0 → z ≠ 1 → o ≠ none))
theorem PRE_0 {op ar : Nat → Int} {s d : Nat} : PRE op ar s s d none none (fun _ => some 0) :=
  ⟨Nat.le_refl _, (fun _ h => nomatch h), (fun _ h => nomatch h), fun ar' ta to _ _ _ _ _ E hE st hst => ⟨0, rfl, fun z hz => by cases hz; exact ⟨fun h => (by omega), fun h => absurd rfl h⟩⟩⟩
theorem PRE_x {op ar op' ar' : Nat → Int} {s k d d' : Nat} {a o : Option Nat} {ψ : (Nat → Int) → Option Nat} (h : PRE op ar s k d a o ψ) (hd : d ≤ d') (hx : ∀ j, s ≤ j → j < k → op' j = op j ∧ (a ≠ some j → o ≠ some j → ar' j = ar j)) : PRE op' ar' s k d' a o ψ := by
  sorry
def ψand (ψ : (Nat → Int) → Option Nat) (β : (Nat → Int) → Option Bool) : (Nat → Int) → Option Nat := fun E => match ψ E with | none => none | some 0 => (match β E with | none => none | some true => some 0 | some false => some 1) | some z => some z
def ψor (ψ : (Nat → Int) → Option Nat) (β : (Nat → Int) → Option Bool) : (Nat → Int) → Option Nat := fun E => match ψ E with | none => none | some 0 => (match β E with | none => none | some true => some 2 | some false => some 0) | some 1 => some 0 | some z => some z
def ψend (ψ : (Nat → Int) → Option Nat) (β : (Nat → Int) → Option Bool) : (Nat → Int) → Option Bool := fun E => match ψ E with | none => none | some 0 => β E | some 1 => some false | some _ => some true
theorem stp_and {op ar E : Nat → Int} {k t : Nat} {st : List Int} (h : op k = 28) (ha : ar k = (t : Int)) : stp op ar E k (0 :: st) = some (some (t, 0 :: st)) ∧ stp op ar E k (1 :: st) = some (some (k + 1, st)) := by
  sorry
theorem stp_or {op ar E : Nat → Int} {k t : Nat} {st : List Int} (h : op k = 29) (ha : ar k = (t : Int)) : stp op ar E k (1 :: st) = some (some (t, 1 :: st)) ∧ stp op ar E k (0 :: st) = some (some (k + 1, st)) := by
  sorry
/-- behind a condition: 'and' at m; the 'and' before it jumps here -/
theorem PRE_and {op ar ar0 : Nat → Int} {s k m d d0 : Nat} {a o : Option Nat} {ψ : (Nat → Int) → Option Nat} {β : (Nat → Int) → Option Bool} (h : PRE op ar0 s k d a o ψ) (hb : BVal op ar k m d0 β) (hd0 : d0 ≤ d) (hd1 : 1 ≤ d) (ho : op m = 28)
    (hx : ∀ j, s ≤ j → j < k → a ≠ some j → o ≠ some j → ar j = ar0 j) (ha : ∀ i, a = some i → ar i = (m : Int)) (hao : ∀ i, a = some i → o ≠ some i) : PRE op ar s (m + 1) d (some m) o (ψand ψ β) := by
  sorry
/-- behind a condition: 'or' at m; the 'and', the 'or' before it jump here -/
theorem PRE_or {op ar ar0 : Nat → Int} {s k m d d0 : Nat} {a o : Option Nat} {ψ : (Nat → Int) → Option Nat} {β : (Nat → Int) → Option Bool} (h : PRE op ar0 s k d a o ψ) (hb : BVal op ar k m d0 β) (hd0 : d0 ≤ d) (hd1 : 1 ≤ d) (ho : op m = 29)
    (hx : ∀ j, s ≤ j → j < k → a ≠ some j → o ≠ some j → ar j = ar0 j) (ha : ∀ i, a = some i → ar i = (m : Int)) (hoo : ∀ i, o = some i → ar i = (m : Int)) : PRE op ar s (m + 1) d none (some m) (ψor ψ β) := by
  sorry
theorem PRE_end {op ar ar0 : Nat → Int} {s k m d d0 : Nat} {a o : Option Nat} {ψ : (Nat → Int) → Option Nat} {β : (Nat → Int) → Option Bool} (h : PRE op ar0 s k d a o ψ) (hb : BVal op ar k m d0 β) (hd0 : d0 ≤ d) (hd1 : 1 ≤ d)
    (hx : ∀ j, s ≤ j → j < k → a ≠ some j → o ≠ some j → ar j = ar0 j) (ha : ∀ i, a = some i → ar i = (m : Int)) (hoo : ∀ i, o = some i → ar i = (m : Int)) : BVal op ar s m d (ψend ψ β) := by
  sorry
