/-! THE REFERENCE'S RECKONING over its row -/
def RR (row set : Nat → Int) (law e : Nat) (o : Int × Int × (Nat → Int)) (k : Nat) (n br val : Int) (rest : Nat → Int) : Prop :=
  ∃ N, f_HM_reckonAll_10 (law : Int) row set N (e : Int) n (k : Int) br val rest = some o
def rop (row : Nat → Int) (law : Nat) : Nat → Int := fun j => row (law + 98 + 2 * j)
def rar (row : Nat → Int) (law : Nat) : Nat → Int := fun j => row (law + 99 + 2 * j)
theorem r_in {x w : Int} (hx : -9223372036854775808 ≤ x ∧ x ≤ 9223372036854775807) (h : f_HM_in x (-1000000000) 1000000000 = some w) : w = if -1000000000 ≤ x ∧ x ≤ 1000000000 then 1 else 0 := by
  sorry
theorem r_reckon {op a b x br : Int} (hs : 20 ≤ op ∧ op ≤ 26) (ha : -1000000000 ≤ a ∧ a ≤ 1000000000) (hb : -1000000000 ≤ b ∧ b ≤ 1000000000) (h : f_HM_reckon op a b 0 = some (x, br)) : (-9223372036854775808 ≤ x ∧ x ≤ 9223372036854775807) ∧ ((br = 1 ∧ wop op a b = none) ∨ (br = 0 ∧ wop op a b = if -1000000000 ≤ x ∧ x ≤ 1000000000 then some x else none)) := by
  sorry
set_option maxHeartbeats 8000000 in
theorem RR_step {row set E : Nat → Int} {law e : Nat} {o : Int × Int × (Nat → Int)} {k : Nat} {val : Int} {rest : Nat → Int} {st : List Int} (hlaw : law ≤ 4700) (he : e ≤ 400) (hk : k < e) (hw : ∀ j, j < 8 → set (j + 1) = E j) (hE : EOK E) (ho : 0 ≤ rop row law k ∧ rop row law k < 30) (ha : -1000000000 ≤ rar row law k ∧ rar row law k ≤ 1000000000) (hj : 28 ≤ rop row law k → 0 ≤ rar row law k) (hP : PREP rest st) (hB : BND st) (hl : st.length ≤ 100)
    (h : RR row set law e o k (st.length : Int) 0 val rest) :
    (∀ k1 st1, stp (rop row law) (rar row law) E k st = some (some (k1, st1)) → ∃ rest' : Nat → Int, RR row set law e o k1 (st1.length : Int) 0 val rest' ∧ PREP rest' st1) ∧
    (stp (rop row law) (rar row law) E k st = some none → ∃ (n' : Int) (rest' : Nat → Int), RR row set law e o (k + 1) n' 1 val rest') := by
  sorry
theorem RR_end {row set : Nat → Int} {law e : Nat} {o : Int × Int × (Nat → Int)} {k : Nat} {n br val : Int} {rest : Nat → Int} (he : e ≤ 400) (hk : k ≤ 400) (hb : (br = 0 ∧ e ≤ k) ∨ br = 1) (h : RR row set law e o k n br val rest) : o.1 = br ∧ (n = 1 → o.2.1 = rest 0) := by
  sorry
theorem RR_run {row set E : Nat → Int} {law e s0 : Nat} {o : Int × Int × (Nat → Int)} {val : Int} (hlaw : law ≤ 4700) (he : e ≤ 400) (hw : ∀ j, j < 8 → set (j + 1) = E j) (hE : EOK E) (hr : ∀ k, s0 ≤ k → k < e → (0 ≤ rop row law k ∧ rop row law k < 30) ∧ (-1000000000 ≤ rar row law k ∧ rar row law k ≤ 1000000000) ∧ (28 ≤ rop row law k → 0 ≤ rar row law k)) (lim : Nat) (hlim : lim ≤ 100) :
    ∀ (m k : Nat) (st : List Int) (r : Option (Nat × List Int)) (rest : Nat → Int), MS (rop row law) (rar row law) E s0 e lim m k st r → PREP rest st → BND st → st.length ≤ 100 → RR row set law e o k (st.length : Int) 0 val rest →
      (∀ q, r = some q → ∃ rest' : Nat → Int, RR row set law e o q.1 (q.2.length : Int) 0 val rest' ∧ PREP rest' q.2) ∧ (r = none → o.1 = 1) := by
  sorry
/-- what a piece of code that leaves one number reckons -/
theorem RR_val {row set E : Nat → Int} {law s e d : Nat} {ν : (Nat → Int) → Option Int} {o : Int × Int × (Nat → Int)} {val br0 : Int} {rest : Nat → Int} (hv : RVal (rop row law) (rar row law) s e d ν) (hd : d ≤ 100) (hlaw : law ≤ 4700) (he : e ≤ 400) (hw : ∀ j, j < 8 → set (j + 1) = E j) (hE : EOK E) (hr : ∀ k, s ≤ k → k < e → (0 ≤ rop row law k ∧ rop row law k < 30) ∧ (-1000000000 ≤ rar row law k ∧ rar row law k ≤ 1000000000) ∧ (28 ≤ rop row law k → 0 ≤ rar row law k))
    (h : f_HM_reckonAll (s : Int) (e : Int) (law : Int) row set br0 val rest = some o) : match ν E with | none => o.1 = 1 | some x => o.1 = 0 ∧ o.2.1 = x := by
  sorry
