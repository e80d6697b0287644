/-! THE CLASS'S JUDGE over its orders -/
def PREP (pile : Nat → Int) : List Int → Prop
  | [] => True
  | a :: l => pile l.length = a ∧ PREP pile l
theorem PREP_u {pile : Nat → Int} {i : Nat} {v : Int} : ∀ l : List Int, l.length ≤ i → PREP pile l → PREP (zu pile i v) l := by
  intro l
  induction l with
  | nil => intro _ _; trivial
  | cons a l ih =>
    intro h g
    rw [List.length_cons] at h
    exact ⟨by rw [zu_ne _ _ (by omega)]; exact g.1, ih (by omega) g.2⟩
def cop (v : Int) : Int := if v % 16 = 1 then 0 else if v % 16 = 2 then (if v / 16 < 8 then v / 16 + 1 else 99) else if 3 ≤ v % 16 ∧ v % 16 ≤ 12 then v % 16 + 17 else 99
def car (v : Int) : Int := v / 16
theorem zl_div_t {a b : Int} (ha : -1000000000 ≤ a ∧ a ≤ 1000000000) (hb : -1000000000 ≤ b ∧ b ≤ 1000000000) : zl_div a b = a.tdiv b := by
  have e1 : (Int64.ofInt a).toInt = a := zwl (by omega)
  have e2 : (Int64.ofInt b).toInt = b := zwl (by omega)
  have h1 : (a.tdiv b).natAbs ≤ a.natAbs := by rw [Int.natAbs_tdiv]; exact Nat.div_le_self _ _
  unfold zl_div
  rw [Int64.toInt_div, e1, e2]
  exact zbl (by omega)
theorem k_118 {x w : Int} (hx : -9223372036854775808 ≤ x ∧ x ≤ 9223372036854775807) (h : f_Judge_worked_118 x = some w) : w = if -1000000000 ≤ x ∧ x ≤ 1000000000 then x else -2000000000 := by
  unfold f_Judge_worked_118 at h
  rw [zwl (x := 1000000000) (by omega), zwl hx, zwl (x := -1000000000) (by omega)] at h
  by_cases h1 : 1000000000 < x
  · rw [if_pos h1] at h; cases h; rw [if_neg (by omega)]
  · rw [if_neg h1] at h
    by_cases h2 : -1000000000 ≤ x
    · rw [if_pos h2] at h; cases h; rw [if_pos (by omega)]
    · rw [if_neg h2] at h; cases h; rw [if_neg (by omega)]
theorem k_wopf {op a b x : Int} (hx : x = wopv op a b) : wop op a b = if -1000000000 ≤ x ∧ x ≤ 1000000000 then some x else none := by
  unfold wop
  rw [hx]
theorem k_worked {s a b w : Int} (hs : 3 ≤ s ∧ s ≤ 9) (ha : -1000000000 ≤ a ∧ a ≤ 1000000000) (hb : -1000000000 ≤ b ∧ b ≤ 1000000000) (h : f_Judge_worked s a b = some w) : (wop (s + 17) a b = none ∧ w = -2000000000) ∨ (wop (s + 17) a b = some w ∧ -1000000000 ≤ w ∧ w ≤ 1000000000) := by
  have fin : ∀ x : Int, (x = wopv (s + 17) a b) → (w = if -1000000000 ≤ x ∧ x ≤ 1000000000 then x else -2000000000) → (wop (s + 17) a b = none ∧ w = -2000000000) ∨ (wop (s + 17) a b = some w ∧ -1000000000 ≤ w ∧ w ≤ 1000000000) := by
    intro x hx hw
    rw [k_wopf hx]
    by_cases g : -1000000000 ≤ x ∧ x ≤ 1000000000
    · rw [if_pos g] at hw ⊢; subst hw; exact Or.inr ⟨rfl, g⟩
    · rw [if_neg g] at hw ⊢; exact Or.inl ⟨rfl, hw⟩
  unfold f_Judge_worked at h
  rw [zwi (x := s) (by omega), zwl (x := b) (by omega), zwl (x := a) (by omega)] at h
  have hs7 : s = 3 ∨ s = 4 ∨ s = 5 ∨ s = 6 ∨ s = 7 ∨ s = 8 ∨ s = 9 := by omega
  rcases hs7 with e | e | e | e | e | e | e <;> subst e
  · rw [if_pos rfl] at h
    exact fin (a + b) rfl (k_118 (by omega) h)
  · rw [if_neg (by decide), if_pos rfl] at h
    exact fin (a - b) rfl (k_118 (by omega) h)
  · rw [if_neg (by decide), if_neg (by decide), if_pos rfl] at h
    have hm := zmulA (a := a) (b := b) 1000000000 1000000000 (by omega) (by omega)
    exact fin (a * b) rfl (k_118 (by omega) h)
  · rw [if_neg (by decide), if_neg (by decide), if_neg (by decide), if_pos rfl, zwl (x := 0) (by decide)] at h
    by_cases hz : b = 0
    · rw [if_neg (fun g => g hz)] at h
      cases h
      exact fin 2000000000 (by unfold wopv; rw [if_neg (by decide), if_neg (by decide), if_neg (by decide), if_pos (by decide), if_pos hz]) (by rw [if_neg (by decide)])
    · rw [if_pos hz, if_neg hz] at h
      replace h := xp_n h
      have h1 : (a.tdiv b).natAbs ≤ a.natAbs := by rw [Int.natAbs_tdiv]; exact Nat.div_le_self _ _
      rw [zl_div_t ha hb] at h
      exact fin (a.tdiv b) (by unfold wopv; rw [if_neg (by decide), if_neg (by decide), if_neg (by decide), if_pos (by decide), if_neg hz]) (k_118 (by omega) h)
  · rw [if_neg (by decide), if_neg (by decide), if_neg (by decide), if_neg (by decide), if_pos rfl] at h
    by_cases hz : b ≤ a
    · rw [if_pos hz] at h; cases h
      exact fin 0 (by unfold wopv; rw [if_neg (by decide), if_neg (by decide), if_neg (by decide), if_neg (by decide), if_pos (by decide), if_neg (by omega)]) (by decide)
    · rw [if_neg hz] at h; cases h
      exact fin 1 (by unfold wopv; rw [if_neg (by decide), if_neg (by decide), if_neg (by decide), if_neg (by decide), if_pos (by decide), if_pos (by omega)]) (by decide)
  · rw [if_neg (by decide), if_neg (by decide), if_neg (by decide), if_neg (by decide), if_neg (by decide), if_pos rfl] at h
    by_cases hz : a ≤ b
    · rw [if_pos hz] at h; cases h
      exact fin 0 (by unfold wopv; rw [if_neg (by decide), if_neg (by decide), if_neg (by decide), if_neg (by decide), if_neg (by decide), if_pos (by decide), if_neg (by omega)]) (by decide)
    · rw [if_neg hz] at h; cases h
      exact fin 1 (by unfold wopv; rw [if_neg (by decide), if_neg (by decide), if_neg (by decide), if_neg (by decide), if_neg (by decide), if_pos (by decide), if_pos (by omega)]) (by decide)
  · rw [if_neg (by decide), if_neg (by decide), if_neg (by decide), if_neg (by decide), if_neg (by decide), if_neg (by decide), if_pos rfl] at h
    by_cases hz : a = b
    · rw [if_neg (fun g => g hz)] at h; cases h
      exact fin 1 (by unfold wopv; rw [if_neg (by decide), if_neg (by decide), if_neg (by decide), if_neg (by decide), if_neg (by decide), if_neg (by decide), if_pos hz]) (by decide)
    · rw [if_pos hz] at h; cases h
      exact fin 0 (by unfold wopv; rw [if_neg (by decide), if_neg (by decide), if_neg (by decide), if_neg (by decide), if_neg (by decide), if_neg (by decide), if_neg hz]) (by decide)
theorem k_push {x : Int} {k : Nat} {pile : Nat → Int} {o : Int × (Nat → Int)} (hk : k < 32) (h : f_Judge_push x (k : Int) pile = some o) : o = (((k + 1 : Nat) : Int), zu pile k x) := by
  unfold f_Judge_push at h
  rw [zwi (x := 32) (by decide), zwi (x := (k : Int)) (by omega), if_neg (by omega)] at h
  have h2 := (xp_s h).2
  rw [zwi (x := (k : Int)) (by omega), Int.toNat_natCast] at h2
  replace h2 := xp_n h2
  cases h2
  rfl
theorem k_pop {k : Nat} {pile : Nat → Int} {o : Int × Int} (hk : k < 32) (h : f_Judge_pop pile ((k + 1 : Nat) : Int) = some o) : o = (pile k, (k : Int)) := by
  unfold f_Judge_pop at h
  rw [zwi (x := ((k + 1 : Nat) : Int)) (by omega), if_pos (by omega)] at h
  replace h := xp_n h
  have h2 := (xp_g h).2
  have e : (((k + 1 : Nat) : Int) - 1) = (k : Int) := by omega
  rw [e, zwi (x := (k : Int)) (by omega), Int.toNat_natCast] at h2
  cases h2
  rfl
/-- the judge comes to o from here -/
def HR (words ord : Nat → Int) (base n : Nat) (o : Int × Int × Int × (Nat → Int)) (res cE k : Nat) (piled til bar : Int) (pile : Nat → Int) : Prop :=
  ∃ N, f_Judge_hear_8 words ord N (base : Int) (n : Int) (res : Int) (cE : Int) (k : Int) piled til bar pile = some o
theorem HR_skip1 {words ord : Nat → Int} {base n : Nat} {o : Int × Int × Int × (Nat → Int)} {res cE k : Nat} {piled til bar : Int} {pile : Nat → Int} (hn : n ≤ 424) (hr : res ≤ 424) (h1 : k < res) (h2 : k < n) (h : HR words ord base n o res cE k piled til bar pile) : HR words ord base n o res cE (k + 1) piled til bar pile := by
  obtain ⟨N, h⟩ := h
  cases N with
  | zero => exact nomatch h
  | succ N =>
    have h' : f_Judge_hear_8_b words ord (f_Judge_hear_8 words ord N) (base : Int) (n : Int) (res : Int) (cE : Int) (k : Int) piled til bar pile = some o := h
    unfold f_Judge_hear_8_b at h'
    rw [zwi (x := (n : Int)) (by omega), zwi (x := (k : Int)) (by omega), zwi (x := (res : Int)) (by omega), if_neg (by omega), if_neg (by omega)] at h'
    unfold f_Judge_hear_338 at h'
    replace h' := xp_n h'
    exact ⟨N, h'⟩
theorem HR_skip {words ord : Nat → Int} {base n : Nat} {o : Int × Int × Int × (Nat → Int)} {res cE : Nat} {piled til bar : Int} {pile : Nat → Int} (hn : n ≤ 424) (hr : res ≤ 424) : ∀ (d k : Nat), k + d ≤ res → k + d ≤ n → HR words ord base n o res cE k piled til bar pile → HR words ord base n o res cE (k + d) piled til bar pile := by
  intro d
  induction d with
  | zero => intro k _ _ h; exact h
  | succ d ih =>
    intro k h1 h2 h
    have g := HR_skip1 hn hr (by omega) (by omega) h
    have := ih (k + 1) (by omega) (by omega) g
    rw [show k + (d + 1) = k + 1 + d from by omega]
    exact this
theorem zi_and15 {x : Int} (h : 0 ≤ x ∧ x ≤ 100000) : zi_and x 15 = x % 16 := by
  have e : zi_and x 15 = ((Int32.ofInt x).toBitVec &&& (Int32.ofInt 15).toBitVec).toInt := rfl
  have e1 : (Int32.ofInt x).toBitVec.toInt = x := zwi (x := x) (by omega)
  have n1 : (Int32.ofInt x).toBitVec.toNat = x.toNat := by
    have hlt := (Int32.ofInt x).toBitVec.isLt
    rw [BitVec.toInt_eq_toNat_cond] at e1
    split at e1 <;> omega
  have n2 : ((Int32.ofInt x).toBitVec &&& (Int32.ofInt 15).toBitVec).toNat = x.toNat % 16 := by
    rw [BitVec.toNat_and, n1]
    have e15 : (Int32.ofInt 15).toBitVec.toNat = 2 ^ 4 - 1 := by decide
    rw [e15, Nat.and_two_pow_sub_one_eq_mod]
  rw [e, BitVec.toInt_eq_toNat_cond, n2]
  split <;> omega
set_option maxHeartbeats 8000000 in
theorem HR_step {words ord E : Nat → Int} {base n : Nat} {o : Int × Int × Int × (Nat → Int)} {res cE k : Nat} {til bar : Int} {pile : Nat → Int} {st : List Int} (hn : n ≤ 424) (hb : base ≤ 2120) (hr : res ≤ k) (hk : k < n) (hw : ∀ j, j < 8 → words j = E j) (hE : EOK E) (hv : 0 ≤ ord (base + k) ∧ ord (base + k) ≤ 100000) (hP : PREP pile st) (hB : BND st) (hl : st.length ≤ 32)
    (h : HR words ord base n o res cE k (st.length : Int) til bar pile) :
    (∀ k1 st1, stp (fun j => cop (ord (base + j))) (fun j => car (ord (base + j))) E k st = some (some (k1, st1)) → k < k1 → k1 ≤ n → st1.length ≤ 32 → BND st1 → ∃ (res' : Nat) (pile' : Nat → Int), res' ≤ k1 ∧ HR words ord base n o res' cE k1 (st1.length : Int) til bar pile' ∧ PREP pile' st1) ∧
    (stp (fun j => cop (ord (base + j))) (fun j => car (ord (base + j))) E k st = some none → ∃ (piled' : Int) (pile' : Nat → Int), HR words ord base n o cE cE (k + 1) piled' til bar pile') := by
  generalize hV : ord (base + k) = v at hv
  have r16 := zemod v (w := 16) (by decide)
  have hd : 0 ≤ v / 16 ∧ v / 16 ≤ 100000 := by omega
  obtain ⟨N, h⟩ := h
  cases N with
  | zero => exact nomatch h
  | succ N =>
    replace h : f_Judge_hear_8_b words ord (f_Judge_hear_8 words ord N) (base : Int) (n : Int) (res : Int) (cE : Int) (k : Int) (st.length : Int) til bar pile = some o := h
    unfold f_Judge_hear_8_b at h
    rw [zwi (x := (n : Int)) (by omega), zwi (x := (k : Int)) (by omega), zwi (x := (res : Int)) (by omega), if_neg (by omega), if_pos (by omega)] at h
    replace h := xp_n h
    replace h := (xp_g h).2
    replace h := xp_n h
    replace h := xp_n h
    replace h := (xp_g h).2
    replace h := xp_n h
    have ei : (zi_w ((base : Int) + (k : Int))).toNat = base + k := by rw [zwi (by omega)]; omega
    have ea : zi_and v 15 = v % 16 := zi_and15 (by omega)
    have es : zi_shr v 4 = v / 16 := zi_shr_k 4 16 (by decide) (by decide) (by omega)
    rw [ei, hV, ea, es, zwi (x := v % 16) (by omega), zwi (x := v / 16) (by omega)] at h
    have es1 : stp (fun j => cop (ord (base + j))) (fun j => car (ord (base + j))) E k st = stpv (cop v) (v / 16) E k st := by rw [← hV]; rfl
    rw [es1]
    clear es1
    have key : v % 16 = 0 ∨ v % 16 = 1 ∨ v % 16 = 2 ∨ v % 16 = 3 ∨ v % 16 = 4 ∨ v % 16 = 5 ∨ v % 16 = 6 ∨ v % 16 = 7 ∨ v % 16 = 8 ∨ v % 16 = 9 ∨ v % 16 = 10 ∨ v % 16 = 11 ∨ v % 16 = 12 ∨ v % 16 = 13 ∨ v % 16 = 14 ∨ v % 16 = 15 := by omega
    rcases key with e | e | e | e | e | e | e | e | e | e | e | e | e | e | e | e
    · have ep : cop v = 99 := by unfold cop; rw [if_neg (by omega), if_neg (by omega), if_neg (by omega)]
      rw [ep]
      unfold stpv
      rw [if_neg (by decide), if_neg (by decide), if_neg (by decide), if_neg (by decide), if_neg (by decide)]
      exact ⟨fun k1 st1 g => (nomatch g), fun g => nomatch g⟩
    · have ep : cop v = 0 := by unfold cop; rw [if_pos e]
      rw [ep]
      unfold stpv
      rw [if_pos rfl]
      refine ⟨fun k1 st1 g g1 g2 g3 g4 => ?_, fun g => nomatch g⟩
      cases g
      rw [List.length_cons] at g3
      rw [if_neg (by omega), if_pos e] at h
      obtain ⟨v7, a8, e1, h⟩ := xz_d2 h
      have p := k_push (by omega) e1
      cases p
      unfold f_Judge_hear_338 at h
      replace h := xp_n h
      refine ⟨res, _, by omega, ⟨N, h⟩, ?_⟩
      exact ⟨zu_eq _ _ _, PREP_u st (Nat.le_refl _) hP⟩
    · by_cases h8 : v / 16 < 8
      · have ep : cop v = v / 16 + 1 := by unfold cop; rw [if_neg (by omega), if_pos e, if_pos h8]
        rw [ep]
        unfold stpv
        rw [if_neg (by omega), if_pos (by omega)]
        refine ⟨fun k1 st1 g g1 g2 g3 g4 => ?_, fun g => nomatch g⟩
        cases g
        rw [List.length_cons] at g3
        rw [if_neg (by omega), if_neg (by omega), if_pos e, if_neg (by omega), zwi (x := 8) (by decide), if_neg (by omega)] at h
        replace h := (xp_g h).2
        rw [zwi (x := v / 16) (by omega)] at h
        unfold f_Judge_hear_177 at h
        obtain ⟨v7, a8, e1, h⟩ := xz_d2 h
        have p := k_push (by omega) e1
        cases p
        unfold f_Judge_hear_338 at h
        replace h := xp_n h
        refine ⟨res, _, by omega, ⟨N, h⟩, ?_⟩
        refine ⟨?_, PREP_u st (Nat.le_refl _) hP⟩
        rw [zu_eq, hw _ (by omega), show (v / 16 + 1 - 1).toNat = (v / 16).toNat from by omega]
      · have ep : cop v = 99 := by unfold cop; rw [if_neg (by omega), if_pos e, if_neg h8]
        rw [ep]
        unfold stpv
        rw [if_neg (by decide), if_neg (by decide), if_neg (by decide), if_neg (by decide), if_neg (by decide)]
        exact ⟨fun k1 st1 g => (nomatch g), fun g => nomatch g⟩
    · have ep : cop v = 20 := by unfold cop; rw [if_neg (by omega), if_neg (by omega), if_pos (by omega), e]; rfl
      rw [ep]
      unfold stpv
      rw [if_neg (by decide), if_neg (by decide), if_pos (by decide)]
      match st, hP, hB, hl, h with
      | [], _, _, _, _ => exact ⟨fun k1 st1 g => (nomatch g), fun g => nomatch g⟩
      | [_], _, _, _, _ => exact ⟨fun k1 st1 g => (nomatch g), fun g => nomatch g⟩
      | b :: a :: l, hP, hB, hl, h =>
        dsimp only
        simp only [List.length_cons] at hl
        rw [if_neg (by omega), if_neg (by omega), if_neg (by omega), if_pos e, e] at h
        obtain ⟨u1, u2, e1, h⟩ := xz_d2 h
        have p1 := k_pop (k := l.length + 1) (by omega) e1
        cases p1
        obtain ⟨u3, u4, e2, h⟩ := xz_d2 h
        have p2 := k_pop (k := l.length) (by omega) e2
        cases p2
        have q1 : pile (l.length + 1) = b := hP.1
        have q2 : pile l.length = a := hP.2.1
        have qa := (BND_t (BND_t hB).2).1
        have qb := (BND_t hB).1
        replace h := xp_n h
        replace h := xp_n h
        rw [q1, q2, zwi (x := a) (by omega), zwi (x := b) (by omega)] at h
        obtain ⟨w, e3, h⟩ := xz_d1 h
        have p3 := k_worked (by decide) qa qb e3
        obtain ⟨u5, a6, e4, h⟩ := xz_d2 h
        have p4 := k_push (by omega) e4
        cases p4
        rw [zwi (x := -2000000000) (by decide)] at h
        rcases p3 with ⟨p3, p5⟩ | ⟨p3, p5⟩
        · rw [show ((3 : Int) + 17) = 20 from rfl] at p3
          rw [p3]
          refine ⟨fun k1 st1 g => (nomatch g), fun g => ?_⟩
          rw [p5, if_neg (by rw [zwi (by decide)]; exact fun g => g rfl)] at h
          unfold f_Judge_hear_337 f_Judge_hear_338 at h
          replace h := xp_n h
          exact ⟨_, _, ⟨N, h⟩⟩
        · rw [show ((3 : Int) + 17) = 20 from rfl] at p3
          rw [p3]
          refine ⟨fun k1 st1 g g1 g2 g3 g4 => ?_, fun g => nomatch g⟩
          cases g
          rw [if_pos (by rw [zwi (by omega)]; omega)] at h
          unfold f_Judge_hear_337 f_Judge_hear_338 at h
          replace h := xp_n h
          refine ⟨res, _, by omega, ⟨N, h⟩, ?_⟩
          exact ⟨zu_eq _ _ _, PREP_u l (Nat.le_refl _) hP.2.2⟩
    · have ep : cop v = 21 := by unfold cop; rw [if_neg (by omega), if_neg (by omega), if_pos (by omega), e]; rfl
      rw [ep]
      unfold stpv
      rw [if_neg (by decide), if_neg (by decide), if_pos (by decide)]
      match st, hP, hB, hl, h with
      | [], _, _, _, _ => exact ⟨fun k1 st1 g => (nomatch g), fun g => nomatch g⟩
      | [_], _, _, _, _ => exact ⟨fun k1 st1 g => (nomatch g), fun g => nomatch g⟩
      | b :: a :: l, hP, hB, hl, h =>
        dsimp only
        simp only [List.length_cons] at hl
        rw [if_neg (by omega), if_neg (by omega), if_neg (by omega), if_neg (by omega), if_pos e, e] at h
        obtain ⟨u1, u2, e1, h⟩ := xz_d2 h
        have p1 := k_pop (k := l.length + 1) (by omega) e1
        cases p1
        obtain ⟨u3, u4, e2, h⟩ := xz_d2 h
        have p2 := k_pop (k := l.length) (by omega) e2
        cases p2
        have q1 : pile (l.length + 1) = b := hP.1
        have q2 : pile l.length = a := hP.2.1
        have qa := (BND_t (BND_t hB).2).1
        have qb := (BND_t hB).1
        replace h := xp_n h
        replace h := xp_n h
        rw [q1, q2, zwi (x := a) (by omega), zwi (x := b) (by omega)] at h
        obtain ⟨w, e3, h⟩ := xz_d1 h
        have p3 := k_worked (by decide) qa qb e3
        obtain ⟨u5, a6, e4, h⟩ := xz_d2 h
        have p4 := k_push (by omega) e4
        cases p4
        rw [zwi (x := -2000000000) (by decide)] at h
        rcases p3 with ⟨p3, p5⟩ | ⟨p3, p5⟩
        · rw [show ((4 : Int) + 17) = 21 from rfl] at p3
          rw [p3]
          refine ⟨fun k1 st1 g => (nomatch g), fun g => ?_⟩
          rw [p5, if_neg (by rw [zwi (by decide)]; exact fun g => g rfl)] at h
          unfold f_Judge_hear_337 f_Judge_hear_338 at h
          replace h := xp_n h
          exact ⟨_, _, ⟨N, h⟩⟩
        · rw [show ((4 : Int) + 17) = 21 from rfl] at p3
          rw [p3]
          refine ⟨fun k1 st1 g g1 g2 g3 g4 => ?_, fun g => nomatch g⟩
          cases g
          rw [if_pos (by rw [zwi (by omega)]; omega)] at h
          unfold f_Judge_hear_337 f_Judge_hear_338 at h
          replace h := xp_n h
          refine ⟨res, _, by omega, ⟨N, h⟩, ?_⟩
          exact ⟨zu_eq _ _ _, PREP_u l (Nat.le_refl _) hP.2.2⟩
    · have ep : cop v = 22 := by unfold cop; rw [if_neg (by omega), if_neg (by omega), if_pos (by omega), e]; rfl
      rw [ep]
      unfold stpv
      rw [if_neg (by decide), if_neg (by decide), if_pos (by decide)]
      match st, hP, hB, hl, h with
      | [], _, _, _, _ => exact ⟨fun k1 st1 g => (nomatch g), fun g => nomatch g⟩
      | [_], _, _, _, _ => exact ⟨fun k1 st1 g => (nomatch g), fun g => nomatch g⟩
      | b :: a :: l, hP, hB, hl, h =>
        dsimp only
        simp only [List.length_cons] at hl
        rw [if_neg (by omega), if_neg (by omega), if_neg (by omega), if_neg (by omega), if_neg (by omega), if_pos e, e] at h
        obtain ⟨u1, u2, e1, h⟩ := xz_d2 h
        have p1 := k_pop (k := l.length + 1) (by omega) e1
        cases p1
        obtain ⟨u3, u4, e2, h⟩ := xz_d2 h
        have p2 := k_pop (k := l.length) (by omega) e2
        cases p2
        have q1 : pile (l.length + 1) = b := hP.1
        have q2 : pile l.length = a := hP.2.1
        have qa := (BND_t (BND_t hB).2).1
        have qb := (BND_t hB).1
        replace h := xp_n h
        replace h := xp_n h
        rw [q1, q2, zwi (x := a) (by omega), zwi (x := b) (by omega)] at h
        obtain ⟨w, e3, h⟩ := xz_d1 h
        have p3 := k_worked (by decide) qa qb e3
        obtain ⟨u5, a6, e4, h⟩ := xz_d2 h
        have p4 := k_push (by omega) e4
        cases p4
        rw [zwi (x := -2000000000) (by decide)] at h
        rcases p3 with ⟨p3, p5⟩ | ⟨p3, p5⟩
        · rw [show ((5 : Int) + 17) = 22 from rfl] at p3
          rw [p3]
          refine ⟨fun k1 st1 g => (nomatch g), fun g => ?_⟩
          rw [p5, if_neg (by rw [zwi (by decide)]; exact fun g => g rfl)] at h
          unfold f_Judge_hear_337 f_Judge_hear_338 at h
          replace h := xp_n h
          exact ⟨_, _, ⟨N, h⟩⟩
        · rw [show ((5 : Int) + 17) = 22 from rfl] at p3
          rw [p3]
          refine ⟨fun k1 st1 g g1 g2 g3 g4 => ?_, fun g => nomatch g⟩
          cases g
          rw [if_pos (by rw [zwi (by omega)]; omega)] at h
          unfold f_Judge_hear_337 f_Judge_hear_338 at h
          replace h := xp_n h
          refine ⟨res, _, by omega, ⟨N, h⟩, ?_⟩
          exact ⟨zu_eq _ _ _, PREP_u l (Nat.le_refl _) hP.2.2⟩
    · have ep : cop v = 23 := by unfold cop; rw [if_neg (by omega), if_neg (by omega), if_pos (by omega), e]; rfl
      rw [ep]
      unfold stpv
      rw [if_neg (by decide), if_neg (by decide), if_pos (by decide)]
      match st, hP, hB, hl, h with
      | [], _, _, _, _ => exact ⟨fun k1 st1 g => (nomatch g), fun g => nomatch g⟩
      | [_], _, _, _, _ => exact ⟨fun k1 st1 g => (nomatch g), fun g => nomatch g⟩
      | b :: a :: l, hP, hB, hl, h =>
        dsimp only
        simp only [List.length_cons] at hl
        rw [if_neg (by omega), if_neg (by omega), if_neg (by omega), if_neg (by omega), if_neg (by omega), if_neg (by omega), if_pos e, e] at h
        obtain ⟨u1, u2, e1, h⟩ := xz_d2 h
        have p1 := k_pop (k := l.length + 1) (by omega) e1
        cases p1
        obtain ⟨u3, u4, e2, h⟩ := xz_d2 h
        have p2 := k_pop (k := l.length) (by omega) e2
        cases p2
        have q1 : pile (l.length + 1) = b := hP.1
        have q2 : pile l.length = a := hP.2.1
        have qa := (BND_t (BND_t hB).2).1
        have qb := (BND_t hB).1
        replace h := xp_n h
        replace h := xp_n h
        rw [q1, q2, zwi (x := a) (by omega), zwi (x := b) (by omega)] at h
        obtain ⟨w, e3, h⟩ := xz_d1 h
        have p3 := k_worked (by decide) qa qb e3
        obtain ⟨u5, a6, e4, h⟩ := xz_d2 h
        have p4 := k_push (by omega) e4
        cases p4
        rw [zwi (x := -2000000000) (by decide)] at h
        rcases p3 with ⟨p3, p5⟩ | ⟨p3, p5⟩
        · rw [show ((6 : Int) + 17) = 23 from rfl] at p3
          rw [p3]
          refine ⟨fun k1 st1 g => (nomatch g), fun g => ?_⟩
          rw [p5, if_neg (by rw [zwi (by decide)]; exact fun g => g rfl)] at h
          unfold f_Judge_hear_337 f_Judge_hear_338 at h
          replace h := xp_n h
          exact ⟨_, _, ⟨N, h⟩⟩
        · rw [show ((6 : Int) + 17) = 23 from rfl] at p3
          rw [p3]
          refine ⟨fun k1 st1 g g1 g2 g3 g4 => ?_, fun g => nomatch g⟩
          cases g
          rw [if_pos (by rw [zwi (by omega)]; omega)] at h
          unfold f_Judge_hear_337 f_Judge_hear_338 at h
          replace h := xp_n h
          refine ⟨res, _, by omega, ⟨N, h⟩, ?_⟩
          exact ⟨zu_eq _ _ _, PREP_u l (Nat.le_refl _) hP.2.2⟩
    · have ep : cop v = 24 := by unfold cop; rw [if_neg (by omega), if_neg (by omega), if_pos (by omega), e]; rfl
      rw [ep]
      unfold stpv
      rw [if_neg (by decide), if_neg (by decide), if_pos (by decide)]
      match st, hP, hB, hl, h with
      | [], _, _, _, _ => exact ⟨fun k1 st1 g => (nomatch g), fun g => nomatch g⟩
      | [_], _, _, _, _ => exact ⟨fun k1 st1 g => (nomatch g), fun g => nomatch g⟩
      | b :: a :: l, hP, hB, hl, h =>
        dsimp only
        simp only [List.length_cons] at hl
        rw [if_neg (by omega), if_neg (by omega), if_neg (by omega), if_neg (by omega), if_neg (by omega), if_neg (by omega), if_neg (by omega), if_pos e, e] at h
        obtain ⟨u1, u2, e1, h⟩ := xz_d2 h
        have p1 := k_pop (k := l.length + 1) (by omega) e1
        cases p1
        obtain ⟨u3, u4, e2, h⟩ := xz_d2 h
        have p2 := k_pop (k := l.length) (by omega) e2
        cases p2
        have q1 : pile (l.length + 1) = b := hP.1
        have q2 : pile l.length = a := hP.2.1
        have qa := (BND_t (BND_t hB).2).1
        have qb := (BND_t hB).1
        replace h := xp_n h
        replace h := xp_n h
        rw [q1, q2, zwi (x := a) (by omega), zwi (x := b) (by omega)] at h
        obtain ⟨w, e3, h⟩ := xz_d1 h
        have p3 := k_worked (by decide) qa qb e3
        obtain ⟨u5, a6, e4, h⟩ := xz_d2 h
        have p4 := k_push (by omega) e4
        cases p4
        rw [zwi (x := -2000000000) (by decide)] at h
        rcases p3 with ⟨p3, p5⟩ | ⟨p3, p5⟩
        · rw [show ((7 : Int) + 17) = 24 from rfl] at p3
          rw [p3]
          refine ⟨fun k1 st1 g => (nomatch g), fun g => ?_⟩
          rw [p5, if_neg (by rw [zwi (by decide)]; exact fun g => g rfl)] at h
          unfold f_Judge_hear_337 f_Judge_hear_338 at h
          replace h := xp_n h
          exact ⟨_, _, ⟨N, h⟩⟩
        · rw [show ((7 : Int) + 17) = 24 from rfl] at p3
          rw [p3]
          refine ⟨fun k1 st1 g g1 g2 g3 g4 => ?_, fun g => nomatch g⟩
          cases g
          rw [if_pos (by rw [zwi (by omega)]; omega)] at h
          unfold f_Judge_hear_337 f_Judge_hear_338 at h
          replace h := xp_n h
          refine ⟨res, _, by omega, ⟨N, h⟩, ?_⟩
          exact ⟨zu_eq _ _ _, PREP_u l (Nat.le_refl _) hP.2.2⟩
    · have ep : cop v = 25 := by unfold cop; rw [if_neg (by omega), if_neg (by omega), if_pos (by omega), e]; rfl
      rw [ep]
      unfold stpv
      rw [if_neg (by decide), if_neg (by decide), if_pos (by decide)]
      match st, hP, hB, hl, h with
      | [], _, _, _, _ => exact ⟨fun k1 st1 g => (nomatch g), fun g => nomatch g⟩
      | [_], _, _, _, _ => exact ⟨fun k1 st1 g => (nomatch g), fun g => nomatch g⟩
      | b :: a :: l, hP, hB, hl, h =>
        dsimp only
        simp only [List.length_cons] at hl
        rw [if_neg (by omega), if_neg (by omega), if_neg (by omega), if_neg (by omega), if_neg (by omega), if_neg (by omega), if_neg (by omega), if_neg (by omega), if_pos e, e] at h
        obtain ⟨u1, u2, e1, h⟩ := xz_d2 h
        have p1 := k_pop (k := l.length + 1) (by omega) e1
        cases p1
        obtain ⟨u3, u4, e2, h⟩ := xz_d2 h
        have p2 := k_pop (k := l.length) (by omega) e2
        cases p2
        have q1 : pile (l.length + 1) = b := hP.1
        have q2 : pile l.length = a := hP.2.1
        have qa := (BND_t (BND_t hB).2).1
        have qb := (BND_t hB).1
        replace h := xp_n h
        replace h := xp_n h
        rw [q1, q2, zwi (x := a) (by omega), zwi (x := b) (by omega)] at h
        obtain ⟨w, e3, h⟩ := xz_d1 h
        have p3 := k_worked (by decide) qa qb e3
        obtain ⟨u5, a6, e4, h⟩ := xz_d2 h
        have p4 := k_push (by omega) e4
        cases p4
        rw [zwi (x := -2000000000) (by decide)] at h
        rcases p3 with ⟨p3, p5⟩ | ⟨p3, p5⟩
        · rw [show ((8 : Int) + 17) = 25 from rfl] at p3
          rw [p3]
          refine ⟨fun k1 st1 g => (nomatch g), fun g => ?_⟩
          rw [p5, if_neg (by rw [zwi (by decide)]; exact fun g => g rfl)] at h
          unfold f_Judge_hear_337 f_Judge_hear_338 at h
          replace h := xp_n h
          exact ⟨_, _, ⟨N, h⟩⟩
        · rw [show ((8 : Int) + 17) = 25 from rfl] at p3
          rw [p3]
          refine ⟨fun k1 st1 g g1 g2 g3 g4 => ?_, fun g => nomatch g⟩
          cases g
          rw [if_pos (by rw [zwi (by omega)]; omega)] at h
          unfold f_Judge_hear_337 f_Judge_hear_338 at h
          replace h := xp_n h
          refine ⟨res, _, by omega, ⟨N, h⟩, ?_⟩
          exact ⟨zu_eq _ _ _, PREP_u l (Nat.le_refl _) hP.2.2⟩
    · have ep : cop v = 26 := by unfold cop; rw [if_neg (by omega), if_neg (by omega), if_pos (by omega), e]; rfl
      rw [ep]
      unfold stpv
      rw [if_neg (by decide), if_neg (by decide), if_pos (by decide)]
      match st, hP, hB, hl, h with
      | [], _, _, _, _ => exact ⟨fun k1 st1 g => (nomatch g), fun g => nomatch g⟩
      | [_], _, _, _, _ => exact ⟨fun k1 st1 g => (nomatch g), fun g => nomatch g⟩
      | b :: a :: l, hP, hB, hl, h =>
        dsimp only
        simp only [List.length_cons] at hl
        rw [if_neg (by omega), if_neg (by omega), if_neg (by omega), if_neg (by omega), if_neg (by omega), if_neg (by omega), if_neg (by omega), if_neg (by omega), if_neg (by omega), if_pos e, e] at h
        obtain ⟨u1, u2, e1, h⟩ := xz_d2 h
        have p1 := k_pop (k := l.length + 1) (by omega) e1
        cases p1
        obtain ⟨u3, u4, e2, h⟩ := xz_d2 h
        have p2 := k_pop (k := l.length) (by omega) e2
        cases p2
        have q1 : pile (l.length + 1) = b := hP.1
        have q2 : pile l.length = a := hP.2.1
        have qa := (BND_t (BND_t hB).2).1
        have qb := (BND_t hB).1
        replace h := xp_n h
        replace h := xp_n h
        rw [q1, q2, zwi (x := a) (by omega), zwi (x := b) (by omega)] at h
        obtain ⟨w, e3, h⟩ := xz_d1 h
        have p3 := k_worked (by decide) qa qb e3
        obtain ⟨u5, a6, e4, h⟩ := xz_d2 h
        have p4 := k_push (by omega) e4
        cases p4
        rw [zwi (x := -2000000000) (by decide)] at h
        rcases p3 with ⟨p3, p5⟩ | ⟨p3, p5⟩
        · rw [show ((9 : Int) + 17) = 26 from rfl] at p3
          rw [p3]
          refine ⟨fun k1 st1 g => (nomatch g), fun g => ?_⟩
          rw [p5, if_neg (by rw [zwi (by decide)]; exact fun g => g rfl)] at h
          unfold f_Judge_hear_337 f_Judge_hear_338 at h
          replace h := xp_n h
          exact ⟨_, _, ⟨N, h⟩⟩
        · rw [show ((9 : Int) + 17) = 26 from rfl] at p3
          rw [p3]
          refine ⟨fun k1 st1 g g1 g2 g3 g4 => ?_, fun g => nomatch g⟩
          cases g
          rw [if_pos (by rw [zwi (by omega)]; omega)] at h
          unfold f_Judge_hear_337 f_Judge_hear_338 at h
          replace h := xp_n h
          refine ⟨res, _, by omega, ⟨N, h⟩, ?_⟩
          exact ⟨zu_eq _ _ _, PREP_u l (Nat.le_refl _) hP.2.2⟩
    · have ep : cop v = 27 := by unfold cop; rw [if_neg (by omega), if_neg (by omega), if_pos (by omega), e]; rfl
      rw [ep]
      unfold stpv
      rw [if_neg (by decide), if_neg (by decide), if_neg (by decide), if_pos rfl]
      match st, hP, hB, hl, h with
      | [], _, _, _, _ => exact ⟨fun k1 st1 g => (nomatch g), fun g => nomatch g⟩
      | a :: l, hP, hB, hl, h =>
        dsimp only
        simp only [List.length_cons] at hl
        refine ⟨fun k1 st1 g g1 g2 g3 g4 => ?_, fun g => nomatch g⟩
        cases g
        rw [if_neg (by omega), if_neg (by omega), if_neg (by omega), if_neg (by omega), if_neg (by omega), if_neg (by omega), if_neg (by omega), if_neg (by omega), if_neg (by omega), if_neg (by omega), if_pos e] at h
        obtain ⟨u1, u2, e1, h⟩ := xz_d2 h
        have p1 := k_pop (k := l.length) (by omega) e1
        cases p1
        replace h := xp_n h
        have q1 : pile l.length = a := hP.1
        rw [q1] at h
        obtain ⟨u5, a6, e4, h⟩ := xz_d2 h
        have p4 := k_push (by omega) e4
        cases p4
        unfold f_Judge_hear_338 at h
        replace h := xp_n h
        refine ⟨res, _, by omega, ⟨N, h⟩, ?_⟩
        exact ⟨zu_eq _ _ _, PREP_u l (Nat.le_refl _) hP.2⟩
    · have ep : cop v = 28 := by unfold cop; rw [if_neg (by omega), if_neg (by omega), if_pos (by omega), e]; rfl
      rw [ep]
      unfold stpv
      rw [if_neg (by decide), if_neg (by decide), if_neg (by decide), if_neg (by decide), if_pos (by decide)]
      match st, hP, hB, hl, h with
      | [], _, _, _, _ => exact ⟨fun k1 st1 g => (nomatch g), fun g => nomatch g⟩
      | a :: l, hP, hB, hl, h =>
        dsimp only
        simp only [List.length_cons] at hl
        have q1 : pile l.length = a := hP.1
        have qa := (BND_t hB).1
        rw [if_neg (by omega), if_neg (by omega), if_neg (by omega), if_neg (by omega), if_neg (by omega), if_neg (by omega), if_neg (by omega), if_neg (by omega), if_neg (by omega), if_neg (by omega), if_neg (by omega), if_pos e, e] at h
        obtain ⟨u1, u2, e1, h⟩ := xz_d2 h
        have p1 := k_pop (k := l.length) (by omega) e1
        cases p1
        rw [if_pos (by decide +kernel), q1] at h
        unfold f_Judge_hear_216 at h
        rw [zwi (x := a) (by omega), zwi (x := 0) (by decide)] at h
        by_cases ha : a = 0
        · rw [if_pos (by rw [if_pos rfl]; exact ha)]
          refine ⟨fun k1 st1 g g1 g2 g3 g4 => ?_, fun g => nomatch g⟩
          cases g
          rw [if_neg (fun g => g ha)] at h
          obtain ⟨u5, a6, e4, h⟩ := xz_d2 h
          have p4 := k_push (by omega) e4
          cases p4
          unfold f_Judge_hear_338 at h
          replace h := xp_n h
          have et : (v / 16) = (((v / 16).toNat : Nat) : Int) := by omega
          rw [et] at h
          have hs := HR_skip (res := (v / 16).toNat) (k := k + 1) (d := (v / 16).toNat - (k + 1)) hn (by omega) (by omega) (by omega) ⟨N, h⟩
          rw [show k + 1 + ((v / 16).toNat - (k + 1)) = (v / 16).toNat from by omega] at hs
          refine ⟨(v / 16).toNat, _, Nat.le_refl _, hs, ?_⟩
          exact ⟨by rw [zu_eq], PREP_u l (Nat.le_refl _) hP.2⟩
        · rw [if_neg (by rw [if_pos rfl]; exact ha)]
          refine ⟨fun k1 st1 g g1 g2 g3 g4 => ?_, fun g => nomatch g⟩
          cases g
          rw [if_pos ha] at h
          unfold f_Judge_hear_338 at h
          replace h := xp_n h
          exact ⟨res, pile, by omega, ⟨N, h⟩, hP.2⟩
    · have ep : cop v = 29 := by unfold cop; rw [if_neg (by omega), if_neg (by omega), if_pos (by omega), e]; rfl
      rw [ep]
      unfold stpv
      rw [if_neg (by decide), if_neg (by decide), if_neg (by decide), if_neg (by decide), if_pos (by decide)]
      match st, hP, hB, hl, h with
      | [], _, _, _, _ => exact ⟨fun k1 st1 g => (nomatch g), fun g => nomatch g⟩
      | a :: l, hP, hB, hl, h =>
        dsimp only
        simp only [List.length_cons] at hl
        have q1 : pile l.length = a := hP.1
        have qa := (BND_t hB).1
        rw [if_neg (by omega), if_neg (by omega), if_neg (by omega), if_neg (by omega), if_neg (by omega), if_neg (by omega), if_neg (by omega), if_neg (by omega), if_neg (by omega), if_neg (by omega), if_neg (by omega), if_neg (by omega), if_pos e, e] at h
        obtain ⟨u1, u2, e1, h⟩ := xz_d2 h
        have p1 := k_pop (k := l.length) (by omega) e1
        cases p1
        rw [if_neg (by decide +kernel), q1] at h
        unfold f_Judge_hear_216 at h
        rw [zwi (x := a) (by omega), zwi (x := 1) (by decide)] at h
        by_cases ha : a = 1
        · rw [if_pos (by rw [if_neg (by decide)]; exact ha)]
          refine ⟨fun k1 st1 g g1 g2 g3 g4 => ?_, fun g => nomatch g⟩
          cases g
          rw [if_neg (fun g => g ha)] at h
          obtain ⟨u5, a6, e4, h⟩ := xz_d2 h
          have p4 := k_push (by omega) e4
          cases p4
          unfold f_Judge_hear_338 at h
          replace h := xp_n h
          have et : (v / 16) = (((v / 16).toNat : Nat) : Int) := by omega
          rw [et] at h
          have hs := HR_skip (res := (v / 16).toNat) (k := k + 1) (d := (v / 16).toNat - (k + 1)) hn (by omega) (by omega) (by omega) ⟨N, h⟩
          rw [show k + 1 + ((v / 16).toNat - (k + 1)) = (v / 16).toNat from by omega] at hs
          refine ⟨(v / 16).toNat, _, Nat.le_refl _, hs, ?_⟩
          exact ⟨by rw [zu_eq], PREP_u l (Nat.le_refl _) hP.2⟩
        · rw [if_neg (by rw [if_neg (by decide)]; exact ha)]
          refine ⟨fun k1 st1 g g1 g2 g3 g4 => ?_, fun g => nomatch g⟩
          cases g
          rw [if_pos ha] at h
          unfold f_Judge_hear_338 at h
          replace h := xp_n h
          exact ⟨res, pile, by omega, ⟨N, h⟩, hP.2⟩
    · have ep : cop v = 99 := by unfold cop; rw [if_neg (by omega), if_neg (by omega), if_neg (by omega)]
      rw [ep]
      unfold stpv
      rw [if_neg (by decide), if_neg (by decide), if_neg (by decide), if_neg (by decide), if_neg (by decide)]
      exact ⟨fun k1 st1 g => (nomatch g), fun g => nomatch g⟩
    · have ep : cop v = 99 := by unfold cop; rw [if_neg (by omega), if_neg (by omega), if_neg (by omega)]
      rw [ep]
      unfold stpv
      rw [if_neg (by decide), if_neg (by decide), if_neg (by decide), if_neg (by decide), if_neg (by decide)]
      exact ⟨fun k1 st1 g => (nomatch g), fun g => nomatch g⟩
    · have ep : cop v = 99 := by unfold cop; rw [if_neg (by omega), if_neg (by omega), if_neg (by omega)]
      rw [ep]
      unfold stpv
      rw [if_neg (by decide), if_neg (by decide), if_neg (by decide), if_neg (by decide), if_neg (by decide)]
      exact ⟨fun k1 st1 g => (nomatch g), fun g => nomatch g⟩
theorem HR_run {words ord E : Nat → Int} {base n s e : Nat} {o : Int × Int × Int × (Nat → Int)} {cE : Nat} {til bar : Int} (hn : n ≤ 424) (hb : base ≤ 2120) (hw : ∀ j, j < 8 → words j = E j) (hE : EOK E) (he : e ≤ n) (hv : ∀ j, s ≤ j → j < e → 0 ≤ ord (base + j) ∧ ord (base + j) ≤ 100000) (lim : Nat) (hlim : lim ≤ 32) (hc : cE ≤ n) (hec : e ≤ cE) :
    ∀ (m k : Nat) (st : List Int) (r : Option (Nat × List Int)) (res : Nat) (pile : Nat → Int), MS (fun j => cop (ord (base + j))) (fun j => car (ord (base + j))) E s e lim m k st r → (∀ q, r = some q → q.1 ≤ n) → res ≤ k → PREP pile st → BND st → st.length ≤ 32 →
      HR words ord base n o res cE k (st.length : Int) til bar pile → (∀ q, r = some q → ∃ (res' : Nat) (pile' : Nat → Int), res' ≤ q.1 ∧ HR words ord base n o res' cE q.1 (q.2.length : Int) til bar pile' ∧ PREP pile' q.2) ∧ (r = none → ∃ (piled' : Int) (pile' : Nat → Int), HR words ord base n o cE cE cE piled' til bar pile') := by
  intro m
  induction m with
  | zero =>
    intro k st r res pile h hq hr hP hB hl H
    have h' : r = some (k, st) := h
    subst h'
    exact ⟨fun q hq2 => by cases hq2; exact ⟨res, pile, hr, H, hP⟩, fun g => nomatch g⟩
  | succ m ih =>
    intro k st r res pile h hq hr hP hB hl H
    obtain ⟨h1, h2⟩ := h
    have g := HR_step hn hb hr (by omega) hw hE (hv k h1.1 h1.2) hP hB hl H
    rcases h2 with ⟨h2, h3⟩ | ⟨k1, st1, g1, g2, g3⟩
    · subst h3
      refine ⟨fun q hq2 => (nomatch hq2), fun _ => ?_⟩
      obtain ⟨p', l', hp⟩ := g.2 h2
      have hs := HR_skip (res := cE) (k := k + 1) (d := cE - (k + 1)) hn (by omega) (by omega) (by omega) hp
      rw [show k + 1 + (cE - (k + 1)) = cE from by omega] at hs
      exact ⟨p', l', hs⟩
    · have hk1 : k1 ≤ n := by
        cases m with
        | zero => have g3' : r = some (k1, st1) := g3; exact hq _ g3'
        | succ m => have := g3.1; omega
      obtain ⟨res', pile', hr', H', hP'⟩ := g.1 k1 st1 g1 g2.2.2 hk1 (by omega) g2.2.1
      exact ih k1 st1 r res' pile' g3 hq hr' hP' g2.2.1 (by omega) H'

