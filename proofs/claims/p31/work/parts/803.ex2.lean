/-! THE CLASS'S JUDGE over its orders -/
def PREP (pile : Nat → Int) : List Int → Prop
  | [] => True
  | a :: l => pile l.length = a ∧ PREP pile l
theorem PREP_u {pile : Nat → Int} {i : Nat} {v : Int} : ∀ l : List Int, l.length ≤ i → PREP pile l → PREP (zu pile i v) l := by
  sorry
def cop (v : Int) : Int := if v % 16 = 1 then 0 else if v % 16 = 2 then (if v / 16 < 8 then v / 16 + 1 else 99) else if 3 ≤ v % 16 ∧ v % 16 ≤ 12 then v % 16 + 17 else 99
def car (v : Int) : Int := v / 16
theorem zl_div_t {a b : Int} (ha : -1000000000 ≤ a ∧ a ≤ 1000000000) (hb : -1000000000 ≤ b ∧ b ≤ 1000000000) : zl_div a b = a.tdiv b := by
  sorry
theorem k_118 {x w : Int} (hx : -9223372036854775808 ≤ x ∧ x ≤ 9223372036854775807) (h : f_Judge_worked_118 x = some w) : w = if -1000000000 ≤ x ∧ x ≤ 1000000000 then x else -2000000000 := by
  sorry
theorem k_wopf {op a b x : Int} (hx : x = wopv op a b) : wop op a b = if -1000000000 ≤ x ∧ x ≤ 1000000000 then some x else none := by
  sorry
theorem k_worked {s a b w : Int} (hs : 3 ≤ s ∧ s ≤ 9) (ha : -1000000000 ≤ a ∧ a ≤ 1000000000) (hb : -1000000000 ≤ b ∧ b ≤ 1000000000) (h : f_Judge_worked s a b = some w) : (wop (s + 17) a b = none ∧ w = -2000000000) ∨ (wop (s + 17) a b = some w ∧ -1000000000 ≤ w ∧ w ≤ 1000000000) := by
  sorry
theorem k_push {x : Int} {k : Nat} {pile : Nat → Int} {o : Int × (Nat → Int)} (hk : k < 32) (h : f_Judge_push x (k : Int) pile = some o) : o = (((k + 1 : Nat) : Int), zu pile k x) := by
  sorry
theorem k_pop {k : Nat} {pile : Nat → Int} {o : Int × Int} (hk : k < 32) (h : f_Judge_pop pile ((k + 1 : Nat) : Int) = some o) : o = (pile k, (k : Int)) := by
  sorry
/-- the judge comes to o from here -/
def HR (words ord : Nat → Int) (base n : Nat) (o : Int × Int × Int × (Nat → Int)) (res cE k : Nat) (piled til bar : Int) (pile : Nat → Int) : Prop :=
  ∃ N, f_Judge_hear_8 words ord N (base : Int) (n : Int) (res : Int) (cE : Int) (k : Int) piled til bar pile = some o
theorem HR_skip1 {words ord : Nat → Int} {base n : Nat} {o : Int × Int × Int × (Nat → Int)} {res cE k : Nat} {piled til bar : Int} {pile : Nat → Int} (hn : n ≤ 424) (hr : res ≤ 424) (h1 : k < res) (h2 : k < n) (h : HR words ord base n o res cE k piled til bar pile) : HR words ord base n o res cE (k + 1) piled til bar pile := by
  sorry
theorem HR_skip {words ord : Nat → Int} {base n : Nat} {o : Int × Int × Int × (Nat → Int)} {res cE : Nat} {piled til bar : Int} {pile : Nat → Int} (hn : n ≤ 424) (hr : res ≤ 424) : ∀ (d k : Nat), k + d ≤ res → k + d ≤ n → HR words ord base n o res cE k piled til bar pile → HR words ord base n o res cE (k + d) piled til bar pile := by
  sorry
theorem zi_and15 {x : Int} (h : 0 ≤ x ∧ x ≤ 100000) : zi_and x 15 = x % 16 := by
  sorry
set_option maxHeartbeats 8000000 in
theorem HR_step {words ord E : Nat → Int} {base n : Nat} {o : Int × Int × Int × (Nat → Int)} {res cE k : Nat} {til bar : Int} {pile : Nat → Int} {st : List Int} (hn : n ≤ 424) (hb : base ≤ 2120) (hr : res ≤ k) (hk : k < n) (hw : ∀ j, j < 8 → words j = E j) (hE : EOK E) (hv : 0 ≤ ord (base + k) ∧ ord (base + k) ≤ 100000) (hP : PREP pile st) (hB : BND st) (hl : st.length ≤ 32)
    (h : HR words ord base n o res cE k (st.length : Int) til bar pile) :
    (∀ k1 st1, stp (fun j => cop (ord (base + j))) (fun j => car (ord (base + j))) E k st = some (some (k1, st1)) → k < k1 → k1 ≤ n → st1.length ≤ 32 → BND st1 → ∃ (res' : Nat) (pile' : Nat → Int), res' ≤ k1 ∧ HR words ord base n o res' cE k1 (st1.length : Int) til bar pile' ∧ PREP pile' st1) ∧
    (stp (fun j => cop (ord (base + j))) (fun j => car (ord (base + j))) E k st = some none → ∃ (piled' : Int) (pile' : Nat → Int), HR words ord base n o cE cE (k + 1) piled' til bar pile') := by
  sorry
theorem HR_run {words ord E : Nat → Int} {base n s e : Nat} {o : Int × Int × Int × (Nat → Int)} {cE : Nat} {til bar : Int} (hn : n ≤ 424) (hb : base ≤ 2120) (hw : ∀ j, j < 8 → words j = E j) (hE : EOK E) (he : e ≤ n) (hv : ∀ j, s ≤ j → j < e → 0 ≤ ord (base + j) ∧ ord (base + j) ≤ 100000) (lim : Nat) (hlim : lim ≤ 32) (hc : cE ≤ n) (hec : e ≤ cE) :
    ∀ (m k : Nat) (st : List Int) (r : Option (Nat × List Int)) (res : Nat) (pile : Nat → Int), MS (fun j => cop (ord (base + j))) (fun j => car (ord (base + j))) E s e lim m k st r → (∀ q, r = some q → q.1 ≤ n) → res ≤ k → PREP pile st → BND st → st.length ≤ 32 →
      HR words ord base n o res cE k (st.length : Int) til bar pile → (∀ q, r = some q → ∃ (res' : Nat) (pile' : Nat → Int), res' ≤ q.1 ∧ HR words ord base n o res' cE q.1 (q.2.length : Int) til bar pile' ∧ PREP pile' q.2) ∧ (r = none → ∃ (piled' : Int) (pile' : Nat → Int), HR words ord base n o cE cE cE piled' til bar pile') := by
  sorry
