/-! THE REFERENCE'S RECKONING over its row -/
def RR (row set : Nat → Int) (law e : Nat) (o : Int × Int × (Nat → Int)) (k : Nat) (n br val : Int) (rest : Nat → Int) : Prop :=
  ∃ N, f_HM_reckonAll_10 (law : Int) row set N (e : Int) n (k : Int) br val rest = some o
def rop (row : Nat → Int) (law : Nat) : Nat → Int := fun j => row (law + 98 + 2 * j)
def rar (row : Nat → Int) (law : Nat) : Nat → Int := fun j => row (law + 99 + 2 * j)
theorem r_in {x w : Int} (hx : -9223372036854775808 ≤ x ∧ x ≤ 9223372036854775807) (h : f_HM_in x (-1000000000) 1000000000 = some w) : w = if -1000000000 ≤ x ∧ x ≤ 1000000000 then 1 else 0 := by
  unfold f_HM_in at h
  rw [zwl (x := 1000000000) (by omega), zwl hx, zwl (x := -1000000000) (by omega)] at h
  by_cases h1 : x < -1000000000
  · rw [if_pos h1] at h; cases h; rw [if_neg (by omega)]
  · rw [if_neg h1] at h
    by_cases h2 : 1000000000 < x
    · rw [if_pos h2] at h; cases h; rw [if_neg (by omega)]
    · rw [if_neg h2] at h; cases h; rw [if_pos (by omega)]
theorem r_reckon {op a b x br : Int} (hs : 20 ≤ op ∧ op ≤ 26) (ha : -1000000000 ≤ a ∧ a ≤ 1000000000) (hb : -1000000000 ≤ b ∧ b ≤ 1000000000) (h : f_HM_reckon op a b 0 = some (x, br)) : (-9223372036854775808 ≤ x ∧ x ≤ 9223372036854775807) ∧ ((br = 1 ∧ wop op a b = none) ∨ (br = 0 ∧ wop op a b = if -1000000000 ≤ x ∧ x ≤ 1000000000 then some x else none)) := by
  unfold f_HM_reckon at h
  rw [zwi (x := op) (by omega), zwl (x := b) (by omega), zwl (x := a) (by omega), zwl (x := 0) (by decide)] at h
  have hs7 : op = 20 ∨ op = 21 ∨ op = 22 ∨ op = 23 ∨ op = 24 ∨ op = 25 ∨ op = 26 := by omega
  rcases hs7 with e | e | e | e | e | e | e <;> subst e
  · rw [if_pos rfl] at h
    replace h := xp_n h
    cases h
    exact ⟨by omega, Or.inr ⟨rfl, k_wopf (by unfold wopv; rw [if_pos rfl])⟩⟩
  · rw [if_neg (by decide), if_pos rfl] at h
    replace h := xp_n h
    cases h
    exact ⟨by omega, Or.inr ⟨rfl, k_wopf (by unfold wopv; rw [if_neg (by decide), if_pos rfl])⟩⟩
  · rw [if_neg (by decide), if_neg (by decide), if_pos rfl] at h
    replace h := xp_n h
    cases h
    have hm := zmulA (a := a) (b := b) 1000000000 1000000000 (by omega) (by omega)
    exact ⟨by omega, Or.inr ⟨rfl, k_wopf (by unfold wopv; rw [if_neg (by decide), if_neg (by decide), if_pos rfl])⟩⟩
  · rw [if_neg (by decide), if_neg (by decide), if_neg (by decide), if_pos rfl] at h
    by_cases hz : b = 0
    · rw [if_neg (fun g => g hz)] at h
      unfold f_HM_reckon_68 at h
      rw [zwi (x := 1) (by decide), if_neg (fun g => g (Or.inr rfl)), if_neg (by decide)] at h
      cases h
      exact ⟨by omega, Or.inl ⟨rfl, by rw [k_wopf (x := 2000000000) (by unfold wopv; rw [if_neg (by decide), if_neg (by decide), if_neg (by decide), if_pos rfl, if_pos hz]), if_neg (by decide)]⟩⟩
    · rw [if_pos hz] at h
      unfold f_HM_reckon_68 at h
      rw [zwi (x := 0) (by decide), if_neg (fun g => g (Or.inl rfl)), if_pos rfl, zwl (x := b) (by omega), if_neg hz] at h
      replace h := xp_n h
      have h1 : (a.tdiv b).natAbs ≤ a.natAbs := by rw [Int.natAbs_tdiv]; exact Nat.div_le_self _ _
      rw [zl_div_t ha hb] at h
      cases h
      exact ⟨by omega, Or.inr ⟨rfl, k_wopf (by unfold wopv; rw [if_neg (by decide), if_neg (by decide), if_neg (by decide), if_pos rfl, if_neg hz])⟩⟩
  · rw [if_neg (by decide), if_neg (by decide), if_neg (by decide), if_neg (by decide), if_pos rfl] at h
    by_cases hz : b ≤ a
    · rw [if_pos hz] at h; cases h
      exact ⟨by omega, Or.inr ⟨rfl, k_wopf (by unfold wopv; rw [if_neg (by decide), if_neg (by decide), if_neg (by decide), if_neg (by decide), if_pos rfl, if_neg (by omega)])⟩⟩
    · rw [if_neg hz] at h; cases h
      exact ⟨by omega, Or.inr ⟨rfl, k_wopf (by unfold wopv; rw [if_neg (by decide), if_neg (by decide), if_neg (by decide), if_neg (by decide), if_pos rfl, if_pos (by omega)])⟩⟩
  · rw [if_neg (by decide), if_neg (by decide), if_neg (by decide), if_neg (by decide), if_neg (by decide), if_pos rfl] at h
    by_cases hz : a ≤ b
    · rw [if_pos hz] at h; cases h
      exact ⟨by omega, Or.inr ⟨rfl, k_wopf (by unfold wopv; rw [if_neg (by decide), if_neg (by decide), if_neg (by decide), if_neg (by decide), if_neg (by decide), if_pos rfl, if_neg (by omega)])⟩⟩
    · rw [if_neg hz] at h; cases h
      exact ⟨by omega, Or.inr ⟨rfl, k_wopf (by unfold wopv; rw [if_neg (by decide), if_neg (by decide), if_neg (by decide), if_neg (by decide), if_neg (by decide), if_pos rfl, if_pos (by omega)])⟩⟩
  · rw [if_neg (by decide), if_neg (by decide), if_neg (by decide), if_neg (by decide), if_neg (by decide), if_neg (by decide)] at h
    by_cases hz : a = b
    · rw [if_neg (fun g => g hz)] at h; cases h
      exact ⟨by omega, Or.inr ⟨rfl, k_wopf (by unfold wopv; rw [if_neg (by decide), if_neg (by decide), if_neg (by decide), if_neg (by decide), if_neg (by decide), if_neg (by decide), if_pos hz])⟩⟩
    · rw [if_pos hz] at h; cases h
      exact ⟨by omega, Or.inr ⟨rfl, k_wopf (by unfold wopv; rw [if_neg (by decide), if_neg (by decide), if_neg (by decide), if_neg (by decide), if_neg (by decide), if_neg (by decide), if_neg hz])⟩⟩
set_option maxHeartbeats 8000000 in
theorem RR_step {row set E : Nat → Int} {law e : Nat} {o : Int × Int × (Nat → Int)} {k : Nat} {val : Int} {rest : Nat → Int} {st : List Int} (hlaw : law ≤ 4700) (he : e ≤ 400) (hk : k < e) (hw : ∀ j, j < 8 → set (j + 1) = E j) (hE : EOK E) (ho : 0 ≤ rop row law k ∧ rop row law k < 30) (ha : -1000000000 ≤ rar row law k ∧ rar row law k ≤ 1000000000) (hj : 28 ≤ rop row law k → 0 ≤ rar row law k) (hP : PREP rest st) (hB : BND st) (hl : st.length ≤ 100)
    (h : RR row set law e o k (st.length : Int) 0 val rest) :
    (∀ k1 st1, stp (rop row law) (rar row law) E k st = some (some (k1, st1)) → ∃ rest' : Nat → Int, RR row set law e o k1 (st1.length : Int) 0 val rest' ∧ PREP rest' st1) ∧
    (stp (rop row law) (rar row law) E k st = some none → ∃ (n' : Int) (rest' : Nat → Int), RR row set law e o (k + 1) n' 1 val rest') := by
  have hV : rop row law k = row (law + 98 + 2 * k) := rfl
  have hW : rar row law k = row (law + 99 + 2 * k) := rfl
  obtain ⟨N, h⟩ := h
  cases N with
  | zero => exact nomatch h
  | succ N =>
    replace h : f_HM_reckonAll_10_b (law : Int) row set (f_HM_reckonAll_10 (law : Int) row set N) (e : Int) (st.length : Int) (k : Int) 0 val rest = some o := h
    unfold f_HM_reckonAll_10_b at h
    rw [zwi (x := (e : Int)) (by omega), zwi (x := (k : Int)) (by omega), if_neg (by omega), if_neg (by decide +kernel)] at h
    replace h := (xp_g (xp_n (xp_n (xp_n h)))).2
    replace h := (xp_g (xp_n (xp_n (xp_n (xp_n h))))).2
    replace h := xp_n h
    have ei : (zi_w ((law : Int) + 98 + 2 * (k : Int))).toNat = law + 98 + 2 * k := by rw [zwi (by omega)]; omega
    have ej : (zi_w ((law : Int) + 98 + 2 * (k : Int) + 1)).toNat = law + 99 + 2 * k := by rw [zwi (by omega)]; omega
    rw [ei, ej, ← hV, ← hW] at h
    generalize hv : rop row law k = v at h ho hj
    generalize hw2 : rar row law k = w at h ha hj
    rw [zwi (x := v) (by omega), zwi (x := w) (by omega), zwi (x := 20) (by decide), zwi (x := 27) (by decide), zwi (x := 28) (by decide)] at h
    have es1 : stp (rop row law) (rar row law) E k st = stpv v w E k st := by rw [← hv, ← hw2]; rfl
    rw [es1]
    clear es1
    unfold stpv
    by_cases c0 : v = 0
    · rw [if_pos c0]
      rw [if_neg (by omega), if_neg (fun g => g c0)] at h
      replace h := xp_n h
      unfold f_HM_reckonAll_96 at h
      replace h := (xp_s h).2
      replace h := xp_n h
      rw [zwi (x := (st.length : Int)) (by omega), Int.toNat_natCast] at h
      refine ⟨fun k1 st1 g => ?_, fun g => nomatch g⟩
      cases g
      exact ⟨_, ⟨N, h⟩, ⟨zu_eq _ _ _, PREP_u st (Nat.le_refl _) hP⟩⟩
    rw [if_neg c0]
    by_cases c1 : 0 < v ∧ v < 9
    · rw [if_pos c1]
      rw [if_neg (by omega), if_pos c0] at h
      replace h := (xp_g h).2
      unfold f_HM_reckonAll_96 at h
      replace h := (xp_s h).2
      replace h := xp_n h
      rw [zwi (x := (st.length : Int)) (by omega), zwi (x := v) (by omega), Int.toNat_natCast] at h
      refine ⟨fun k1 st1 g => ?_, fun g => nomatch g⟩
      cases g
      have e1 := hw (v - 1).toNat (by omega)
      rw [show (v - 1).toNat + 1 = v.toNat from by omega] at e1
      refine ⟨_, ⟨N, h⟩, ⟨?_, PREP_u st (Nat.le_refl _) hP⟩⟩
      rw [zu_eq, e1]
    rw [if_neg c1]
    by_cases c2 : 20 ≤ v ∧ v < 27
    · rw [if_pos c2]
      rw [if_pos (by omega), if_neg (by omega)] at h
      match st, hP, hB, hl, h with
      | [], _, _, _, _ => exact ⟨fun k1 st1 g => (nomatch g), fun g => nomatch g⟩
      | [_], _, _, _, _ => exact ⟨fun k1 st1 g => (nomatch g), fun g => nomatch g⟩
      | b :: a :: l, hP, hB, hl, h =>
        dsimp only
        simp only [List.length_cons] at hl
        have q1 : rest (l.length + 1) = b := hP.1
        have q2 : rest l.length = a := hP.2.1
        have qa := (BND_t (BND_t hB).2).1
        have qb := (BND_t hB).1
        have x18 : (((b :: a :: l).length : Nat) : Int) + (-1) = ((l.length + 1 : Nat) : Int) := by simp only [List.length_cons]; omega
        have x19 : ((l.length + 1 : Nat) : Int) - 1 = ((l.length : Nat) : Int) := by omega
        rw [x18] at h
        replace h := xp_n (xp_n (xp_n h))
        rw [x19] at h
        replace h := (xp_g (xp_g h).2).2
        rw [zwi (x := (l.length : Int)) (by omega), zwi (x := ((l.length + 1 : Nat) : Int)) (by omega), Int.toNat_natCast, Int.toNat_natCast, q1, q2] at h
        obtain ⟨x, br, e1, h⟩ := xz_d2 h
        have p := r_reckon (by omega) qa qb e1
        replace h := (xp_s h).2
        rw [zwi (x := (l.length : Int)) (by omega), Int.toNat_natCast] at h
        rcases p with ⟨p0, ⟨p1, p2⟩ | ⟨p1, p2⟩⟩ <;> subst p1
        · rw [p2]
          refine ⟨fun k1 st1 g => (nomatch g), fun _ => ?_⟩
          rw [if_pos (by decide +kernel)] at h
          unfold f_HM_reckonAll_169 f_HM_reckonAll_174 f_HM_reckonAll_242 at h
          rw [if_neg (by decide +kernel)] at h
          exact ⟨_, _, ⟨N, h⟩⟩
        · rw [if_neg (by decide +kernel)] at h
          replace h := (xp_g (xp_n h)).2
          rw [zwi (x := (l.length : Int)) (by omega), Int.toNat_natCast, zu_eq] at h
          obtain ⟨w1, e2, h⟩ := xz_d1 h
          have p3 := r_in p0 e2
          by_cases hx : -1000000000 ≤ x ∧ x ≤ 1000000000
          · rw [if_pos hx] at p2 p3
            rw [p2]
            subst p3
            rw [if_pos (by decide +kernel)] at h
            unfold f_HM_reckonAll_174 f_HM_reckonAll_242 at h
            rw [if_neg (by decide +kernel)] at h
            refine ⟨fun k1 st1 g => ?_, fun g => nomatch g⟩
            cases g
            exact ⟨_, ⟨N, h⟩, ⟨zu_eq _ _ _, PREP_u l (Nat.le_refl _) hP.2.2⟩⟩
          · rw [if_neg hx] at p2 p3
            rw [p2]
            subst p3
            rw [if_neg (by decide +kernel)] at h
            unfold f_HM_reckonAll_169 f_HM_reckonAll_174 f_HM_reckonAll_242 at h
            rw [if_neg (by decide +kernel)] at h
            exact ⟨fun k1 st1 g => (nomatch g), fun _ => ⟨_, _, ⟨N, h⟩⟩⟩
    rw [if_neg c2]
    by_cases c3 : v = 27
    · rw [if_pos c3]
      rw [if_pos (by omega), if_pos (by omega), if_neg (fun g => g c3)] at h
      match st, hP, hB, hl, h with
      | [], _, _, _, _ => exact ⟨fun k1 st1 g => (nomatch g), fun g => nomatch g⟩
      | a :: l, hP, hB, hl, h =>
        dsimp only
        simp only [List.length_cons] at hl
        have q1 : rest l.length = a := hP.1
        have x13 : (((a :: l).length : Nat) : Int) - 1 = ((l.length : Nat) : Int) := by simp only [List.length_cons]; omega
        replace h := xp_n (xp_n h)
        rw [x13] at h
        replace h := (xp_s (xp_n (xp_g h).2)).2
        rw [zwi (x := (l.length : Int)) (by omega), Int.toNat_natCast, q1] at h
        unfold f_HM_reckonAll_242 at h
        refine ⟨fun k1 st1 g => ?_, fun g => nomatch g⟩
        cases g
        exact ⟨_, ⟨N, h⟩, ⟨zu_eq _ _ _, PREP_u l (Nat.le_refl _) hP.2⟩⟩
    rw [if_neg c3]
    by_cases c4 : v = 28 ∨ v = 29
    · rw [if_pos c4]
      rw [if_pos (by omega), if_pos (by omega), if_pos c3] at h
      match st, hP, hB, hl, h with
      | [], _, _, _, _ => exact ⟨fun k1 st1 g => (nomatch g), fun g => nomatch g⟩
      | a :: l, hP, hB, hl, h =>
        dsimp only
        simp only [List.length_cons] at hl
        have q1 : rest l.length = a := hP.1
        have qa := (BND_t hB).1
        have x13 : (((a :: l).length : Nat) : Int) - 1 = ((l.length : Nat) : Int) := by simp only [List.length_cons]; omega
        have x14 : (((a :: l).length : Nat) : Int) + (-1) = ((l.length : Nat) : Int) := by simp only [List.length_cons]; omega
        replace h := xp_n h
        rw [x13] at h
        replace h := (xp_g h).2
        rw [zwi (x := (l.length : Int)) (by omega), Int.toNat_natCast, q1] at h
        have h2 : f_HM_reckonAll_228 (law : Int) row set (f_HM_reckonAll_10 (law : Int) row set N) (e : Int) (((a :: l).length : Nat) : Int) ((k : Int) + 1) w a (if v = 28 then 0 else 1) 0 val rest = some o := by
          by_cases c5 : v = 28
          · rw [if_neg (fun g => g c5)] at h; rw [if_pos c5]; exact h
          · rw [if_pos c5] at h; rw [if_neg c5]; exact h
        clear h
        unfold f_HM_reckonAll_228 f_HM_reckonAll_242 at h2
        rw [zwl (x := a) (by omega), zwl (x := if v = 28 then 0 else 1) (by split <;> omega)] at h2
        by_cases c6 : a = if v = 28 then 0 else 1
        · rw [if_pos c6]
          rw [if_neg (fun g => g c6)] at h2
          refine ⟨fun k1 st1 g => ?_, fun g => nomatch g⟩
          cases g
          have et : w = ((w.toNat : Nat) : Int) := by omega
          rw [et] at h2
          exact ⟨rest, ⟨N, h2⟩, hP⟩
        · rw [if_neg c6]
          rw [if_pos c6] at h2
          replace h2 := xp_n h2
          rw [x14] at h2
          refine ⟨fun k1 st1 g => ?_, fun g => nomatch g⟩
          cases g
          exact ⟨rest, ⟨N, h2⟩, hP.2⟩
    rw [if_neg c4]
    exact ⟨fun k1 st1 g => (nomatch g), fun g => nomatch g⟩
theorem RR_end {row set : Nat → Int} {law e : Nat} {o : Int × Int × (Nat → Int)} {k : Nat} {n br val : Int} {rest : Nat → Int} (he : e ≤ 400) (hk : k ≤ 400) (hb : (br = 0 ∧ e ≤ k) ∨ br = 1) (h : RR row set law e o k n br val rest) : o.1 = br ∧ (n = 1 → o.2.1 = rest 0) := by
  obtain ⟨N, h⟩ := h
  cases N with
  | zero => exact nomatch h
  | succ N =>
    replace h : f_HM_reckonAll_10_b (law : Int) row set (f_HM_reckonAll_10 (law : Int) row set N) (e : Int) n (k : Int) br val rest = some o := h
    unfold f_HM_reckonAll_10_b at h
    have h2 : f_HM_reckonAll_245 (law : Int) row set n br val rest = some o := by
      rw [zwi (x := (e : Int)) (by omega), zwi (x := (k : Int)) (by omega)] at h
      by_cases c : (e : Int) ≤ (k : Int)
      · rw [if_pos c] at h; exact h
      · rw [if_neg c] at h
        rcases hb with hb | hb
        · omega
        · subst hb
          rw [if_pos (by decide +kernel)] at h; exact h
    unfold f_HM_reckonAll_245 at h2
    by_cases c : zi_w n ≤ 0
    · rw [if_pos c] at h2
      cases h2
      refine ⟨rfl, fun g => ?_⟩
      subst g
      exact absurd c (by decide +kernel)
    · rw [if_neg c] at h2
      replace h2 := (xp_g h2).2
      cases h2
      exact ⟨rfl, fun _ => by congr 1⟩
theorem RR_run {row set E : Nat → Int} {law e s0 : Nat} {o : Int × Int × (Nat → Int)} {val : Int} (hlaw : law ≤ 4700) (he : e ≤ 400) (hw : ∀ j, j < 8 → set (j + 1) = E j) (hE : EOK E) (hr : ∀ k, s0 ≤ k → k < e → (0 ≤ rop row law k ∧ rop row law k < 30) ∧ (-1000000000 ≤ rar row law k ∧ rar row law k ≤ 1000000000) ∧ (28 ≤ rop row law k → 0 ≤ rar row law k)) (lim : Nat) (hlim : lim ≤ 100) :
    ∀ (m k : Nat) (st : List Int) (r : Option (Nat × List Int)) (rest : Nat → Int), MS (rop row law) (rar row law) E s0 e lim m k st r → PREP rest st → BND st → st.length ≤ 100 → RR row set law e o k (st.length : Int) 0 val rest →
      (∀ q, r = some q → ∃ rest' : Nat → Int, RR row set law e o q.1 (q.2.length : Int) 0 val rest' ∧ PREP rest' q.2) ∧ (r = none → o.1 = 1) := by
  intro m
  induction m with
  | zero =>
    intro k st r rest h hP hB hl H
    have h' : r = some (k, st) := h
    subst h'
    exact ⟨fun q hq => by cases hq; exact ⟨rest, H, hP⟩, fun g => nomatch g⟩
  | succ m ih =>
    intro k st r rest h hP hB hl H
    obtain ⟨h1, h2⟩ := h
    have hk := hr k h1.1 h1.2
    have g := RR_step hlaw he h1.2 hw hE hk.1 hk.2.1 hk.2.2 hP hB hl H
    rcases h2 with ⟨h2, h3⟩ | ⟨k1, st1, g1, g2, g3⟩
    · subst h3
      refine ⟨fun q hq => (nomatch hq), fun _ => ?_⟩
      obtain ⟨n', rest', hp⟩ := g.2 h2
      exact (RR_end he (by omega) (Or.inr rfl) hp).1
    · obtain ⟨rest', H', hP'⟩ := g.1 k1 st1 g1
      exact ih k1 st1 r rest' g3 hP' g2.2.1 (by omega) H'
/-- what a piece of code that leaves one number reckons -/
theorem RR_val {row set E : Nat → Int} {law s e d : Nat} {ν : (Nat → Int) → Option Int} {o : Int × Int × (Nat → Int)} {val br0 : Int} {rest : Nat → Int} (hv : RVal (rop row law) (rar row law) s e d ν) (hd : d ≤ 100) (hlaw : law ≤ 4700) (he : e ≤ 400) (hw : ∀ j, j < 8 → set (j + 1) = E j) (hE : EOK E) (hr : ∀ k, s ≤ k → k < e → (0 ≤ rop row law k ∧ rop row law k < 30) ∧ (-1000000000 ≤ rar row law k ∧ rar row law k ≤ 1000000000) ∧ (28 ≤ rop row law k → 0 ≤ rar row law k))
    (h : f_HM_reckonAll (s : Int) (e : Int) (law : Int) row set br0 val rest = some o) : match ν E with | none => o.1 = 1 | some x => o.1 = 0 ∧ o.2.1 = x := by
  obtain ⟨n, hn⟩ := (hv.2 E hE).2 [] BND_nil
  have H : RR row set law e o s (([] : List Int).length : Int) 0 val rest := ⟨zfu, by unfold f_HM_reckonAll at h; exact h⟩
  have g := RR_run hlaw he hw hE hr (([] : List Int).length + d) (by simp; omega) n s [] _ rest hn trivial BND_nil (by simp) H
  dsimp only at g
  cases hx : ν E with
  | none =>
    rw [hx] at g
    exact g.2 rfl
  | some x =>
    rw [hx] at g
    obtain ⟨rest', hp, hq⟩ := g.1 _ rfl
    have z := RR_end he (by show e ≤ 400; omega) (Or.inl ⟨rfl, Nat.le_refl _⟩) hp
    exact ⟨z.1, by rw [z.2 rfl]; exact hq.1⟩
