/-! A CLAUSE in the class's orders -/
theorem HR_head {words ord : Nat → Int} {base n : Nat} {o : Int × Int × Int × (Nat → Int)} {res cE k c : Nat} {piled til bar : Int} {pile : Nat → Int} (hn : n ≤ 424) (hb : base ≤ 2120) (hr : res ≤ k) (hk : k < n) (hv : ord (base + k) = 16 * (c : Int)) (hc : c ≤ 424)
    (h : HR words ord base n o res cE k piled til bar pile) : HR words ord base n o res c (k + 1) 0 til bar pile := by
  obtain ⟨N, h⟩ := h
  cases N with
  | zero => exact nomatch h
  | succ N =>
    replace h : f_Judge_hear_8_b words ord (f_Judge_hear_8 words ord N) (base : Int) (n : Int) (res : Int) (cE : Int) (k : Int) piled til bar pile = some o := h
    unfold f_Judge_hear_8_b at h
    rw [zwi (x := (n : Int)) (by omega), zwi (x := (k : Int)) (by omega), zwi (x := (res : Int)) (by omega), if_neg (by omega), if_pos (by omega)] at h
    replace h := xp_n h
    replace h := (xp_g h).2
    replace h := xp_n h
    replace h := xp_n h
    replace h := (xp_g h).2
    replace h := xp_n h
    have ei : (zi_w ((base : Int) + (k : Int))).toNat = base + k := by rw [zwi (by omega)]; omega
    generalize hV : ord (base + k) = v at *
    have r16 := zemod v (w := 16) (by decide)
    have ea : zi_and v 15 = v % 16 := zi_and15 (by omega)
    have es : zi_shr v 4 = v / 16 := zi_shr_k 4 16 (by decide) (by decide) (by omega)
    rw [ei, hV, ea, es, zwi (x := v % 16) (by omega)] at h
    rw [if_pos (by omega), show v / 16 = (c : Int) from by omega] at h
    unfold f_Judge_hear_338 at h
    exact ⟨N, xp_n h⟩
theorem HR_tires {words ord : Nat → Int} {base n : Nat} {o : Int × Int × Int × (Nat → Int)} {res cE k : Nat} {til bar : Int} {pile : Nat → Int} {b : Bool} {l : List Int} (hn : n ≤ 424) (hb : base ≤ 2120) (hr : res ≤ k) (hk : k < n) (hv : 0 ≤ ord (base + k) ∧ ord (base + k) ≤ 100000) (h13 : ord (base + k) % 16 = 13) (hP : PREP pile (bv b :: l)) (hB : BND l) (hl : l.length ≤ 31)
    (h : HR words ord base n o res cE k ((bv b :: l).length : Int) til bar pile) :
    (b = false → HR words ord base n o res cE (k + 1) (l.length : Int) til bar pile) ∧ (b = true → ∀ x l', l = x :: l' → HR words ord base n o res cE (k + 1) (l'.length : Int) (max 0 (min 99 x)) bar pile) := by
  obtain ⟨N, h⟩ := h
  cases N with
  | zero => exact nomatch h
  | succ N =>
    replace h : f_Judge_hear_8_b words ord (f_Judge_hear_8 words ord N) (base : Int) (n : Int) (res : Int) (cE : Int) (k : Int) ((bv b :: l).length : Int) til bar pile = some o := h
    unfold f_Judge_hear_8_b at h
    rw [zwi (x := (n : Int)) (by omega), zwi (x := (k : Int)) (by omega), zwi (x := (res : Int)) (by omega), if_neg (by omega), if_pos (by omega)] at h
    replace h := xp_n h
    replace h := (xp_g h).2
    replace h := xp_n h
    replace h := xp_n h
    replace h := (xp_g h).2
    replace h := xp_n h
    have ei : (zi_w ((base : Int) + (k : Int))).toNat = base + k := by rw [zwi (by omega)]; omega
    generalize hV : ord (base + k) = v at *
    have r16 := zemod v (w := 16) (by decide)
    have ea : zi_and v 15 = v % 16 := zi_and15 (by omega)
    have es : zi_shr v 4 = v / 16 := zi_shr_k 4 16 (by decide) (by decide) (by omega)
    rw [ei, hV, ea, es, zwi (x := v % 16) (by omega)] at h
    rw [if_neg (by omega), if_neg (by omega), if_neg (by omega), if_neg (by omega), if_neg (by omega), if_neg (by omega), if_neg (by omega), if_neg (by omega), if_neg (by omega), if_neg (by omega), if_neg (by omega), if_neg (by omega), if_neg (by omega), if_pos h13] at h
    obtain ⟨u1, u2, e1, h⟩ := xz_d2 h
    have p1 := k_pop (k := l.length) (by omega) e1
    cases p1
    have q1 : pile l.length = bv b := hP.1
    rw [q1, zwi (x := bv b) (by have := bv_b b; omega), zwi (x := 1) (by decide)] at h
    refine ⟨fun e => ?_, fun e x l' e2 => ?_⟩
    · subst e
      rw [if_pos (by decide)] at h
      unfold f_Judge_hear_264 f_Judge_hear_338 at h
      exact ⟨N, xp_n h⟩
    · subst e
      subst e2
      rw [if_neg (by decide)] at h
      obtain ⟨u3, u4, e3, h⟩ := xz_d2 h
      have p3 := k_pop (k := l'.length) (by simp only [List.length_cons] at hl; omega) e3
      cases p3
      have q2 : pile l'.length = x := hP.2.1
      have qx := (BND_t hB).1
      rw [q2] at h
      replace h := xp_n (xp_n h)
      have m1 := zi_min_f 99 (by decide) x (by omega)
      have e4 : zi_min 99 x = min 99 x := by omega
      have m2 := zi_max_f 0 (by decide) (min 99 x) (by omega)
      have e5 : zi_max 0 (min 99 x) = max 0 (min 99 x) := by omega
      rw [e4, e5] at h
      unfold f_Judge_hear_264 f_Judge_hear_338 at h
      exact ⟨N, xp_n h⟩
theorem HR_bars {words ord : Nat → Int} {base n : Nat} {o : Int × Int × Int × (Nat → Int)} {res cE k : Nat} {til bar : Int} {pile : Nat → Int} {b : Bool} {l : List Int} (hn : n ≤ 424) (hb : base ≤ 2120) (hr : res ≤ k) (hk : k < n) (hv : 0 ≤ ord (base + k) ∧ ord (base + k) ≤ 100000) (h14 : ord (base + k) % 16 = 14) (hP : PREP pile (bv b :: l)) (hl : l.length ≤ 31) (hbar : bar = 0 ∨ bar = 1)
    (h : HR words ord base n o res cE k ((bv b :: l).length : Int) til bar pile) :
    HR words ord base n o res cE (k + 1) (l.length : Int) til (if b then 1 else bar) pile := by
  obtain ⟨N, h⟩ := h
  cases N with
  | zero => exact nomatch h
  | succ N =>
    replace h : f_Judge_hear_8_b words ord (f_Judge_hear_8 words ord N) (base : Int) (n : Int) (res : Int) (cE : Int) (k : Int) ((bv b :: l).length : Int) til bar pile = some o := h
    unfold f_Judge_hear_8_b at h
    rw [zwi (x := (n : Int)) (by omega), zwi (x := (k : Int)) (by omega), zwi (x := (res : Int)) (by omega), if_neg (by omega), if_pos (by omega)] at h
    replace h := xp_n h
    replace h := (xp_g h).2
    replace h := xp_n h
    replace h := xp_n h
    replace h := (xp_g h).2
    replace h := xp_n h
    have ei : (zi_w ((base : Int) + (k : Int))).toNat = base + k := by rw [zwi (by omega)]; omega
    generalize hV : ord (base + k) = v at *
    have r16 := zemod v (w := 16) (by decide)
    have ea : zi_and v 15 = v % 16 := zi_and15 (by omega)
    have es : zi_shr v 4 = v / 16 := zi_shr_k 4 16 (by decide) (by decide) (by omega)
    rw [ei, hV, ea, es, zwi (x := v % 16) (by omega)] at h
    rw [if_neg (by omega), if_neg (by omega), if_neg (by omega), if_neg (by omega), if_neg (by omega), if_neg (by omega), if_neg (by omega), if_neg (by omega), if_neg (by omega), if_neg (by omega), if_neg (by omega), if_neg (by omega), if_neg (by omega), if_neg (by omega), if_pos h14] at h
    obtain ⟨u1, u2, e1, h⟩ := xz_d2 h
    have p1 := k_pop (k := l.length) (by omega) e1
    cases p1
    have q1 : pile l.length = bv b := hP.1
    rw [q1, zwi (x := bv b) (by have := bv_b b; omega), zwi (x := 1) (by decide), zwi (x := bar) (by omega)] at h
    cases b with
    | true =>
      rw [if_pos (by decide)] at h
      unfold f_Judge_hear_286 f_Judge_hear_291 f_Judge_hear_338 at h
      rw [if_neg (by decide +kernel)] at h
      exact ⟨N, xp_n h⟩
    | false =>
      rw [if_neg (by decide)] at h
      rcases hbar with g | g <;> subst g
      · rw [if_pos rfl] at h
        unfold f_Judge_hear_291 f_Judge_hear_338 at h
        rw [if_neg (by decide +kernel)] at h
        exact ⟨N, xp_n h⟩
      · rw [if_neg (by decide)] at h
        unfold f_Judge_hear_286 f_Judge_hear_291 f_Judge_hear_338 at h
        rw [if_neg (by decide +kernel)] at h
        exact ⟨N, xp_n h⟩
def COP (ord : Nat → Int) (base : Nat) : Nat → Int := fun j => cop (ord (base + j))
def CAR (ord : Nat → Int) (base : Nat) : Nat → Int := fun j => car (ord (base + j))
/-- a clause from p to t, where its last order stands -/
def CLC (ord : Nat → Int) (base p t : Nat) (bars : Bool) (β : (Nat → Int) → Option Bool) (ν : (Nat → Int) → Option Int) : Prop :=
  ord (base + p) = 16 * ((t + 1 : Nat) : Int) ∧ p < t ∧ (∀ j, p ≤ j → j ≤ t → 0 ≤ ord (base + j) ∧ ord (base + j) ≤ 100000) ∧
  ((bars = true ∧ ord (base + t) % 16 = 14 ∧ ∃ d, d ≤ 31 ∧ BVal (COP ord base) (CAR ord base) (p + 1) t d β) ∨
   (bars = false ∧ ord (base + t) % 16 = 13 ∧ ∃ m d, d ≤ 31 ∧ RVal (COP ord base) (CAR ord base) (p + 1) m d ν ∧ BVal (COP ord base) (CAR ord base) m t d β))
def clT (bars : Bool) (β : (Nat → Int) → Option Bool) (ν : (Nat → Int) → Option Int) (E : Nat → Int) (til : Int) : Int := match bars, β E, ν E with | false, some true, some x => max 0 (min 99 x) | _, _, _ => til
def clB (bars : Bool) (β : (Nat → Int) → Option Bool) (E : Nat → Int) (bar : Int) : Int := match bars, β E with | true, some true => 1 | _, _ => bar
theorem HR_bval {words ord E : Nat → Int} {base n s e d : Nat} {o : Int × Int × Int × (Nat → Int)} {res cE : Nat} {til bar : Int} {pile : Nat → Int} {st : List Int} {ν : (Nat → Int) → Option Int} (hn : n ≤ 424) (hb : base ≤ 2120) (hw : ∀ j, j < 8 → words j = E j) (hE : EOK E) (hv : ∀ j, s ≤ j → j < e → 0 ≤ ord (base + j) ∧ ord (base + j) ≤ 100000) (hc : cE ≤ n) (hec : e ≤ cE) (hd : st.length + d ≤ 32) (hr : res ≤ s) (hP : PREP pile st) (hB : BND st) (hN : RVal (COP ord base) (CAR ord base) s e d ν) (h : HR words ord base n o res cE s (st.length : Int) til bar pile) :
    (∀ x, ν E = some x → ∃ (res' : Nat) (pile' : Nat → Int), res' ≤ e ∧ HR words ord base n o res' cE e ((x :: st).length : Int) til bar pile' ∧ PREP pile' (x :: st)) ∧ (ν E = none → ∃ (piled' : Int) (pile' : Nat → Int), HR words ord base n o cE cE cE piled' til bar pile') := by
  obtain ⟨q, hq⟩ := (hN.2 E hE).2 st hB
  have g := HR_run (e := e) hn hb hw hE (by omega) hv (st.length + d) hd hc hec q s st _ res pile hq (fun q hq2 => by
    dsimp only at hq2
    cases hx : ν E with
    | none => rw [hx] at hq2; exact nomatch hq2
    | some x => rw [hx] at hq2; cases hq2; show e ≤ n; omega) hr hP hB (by omega) h
  dsimp only at g
  refine ⟨fun x hx => ?_, fun hx => ?_⟩
  · rw [hx] at g
    exact g.1 _ rfl
  · rw [hx] at g
    exact g.2 rfl
theorem HR_clause {words ord E : Nat → Int} {base n p t : Nat} {o : Int × Int × Int × (Nat → Int)} {res cE : Nat} {piled til bar : Int} {pile : Nat → Int} {bars : Bool} {β : (Nat → Int) → Option Bool} {ν : (Nat → Int) → Option Int} (hn : n ≤ 424) (hb : base ≤ 2120) (hw : ∀ j, j < 8 → words j = E j) (hE : EOK E) (hC : CLC ord base p t bars β ν) (ht : t + 1 ≤ n) (hr : res ≤ p) (hbar : bar = 0 ∨ bar = 1) (h : HR words ord base n o res cE p piled til bar pile) :
    ∃ (res' : Nat) (piled' : Int) (pile' : Nat → Int), res' ≤ t + 1 ∧ HR words ord base n o res' (t + 1) (t + 1) piled' (clT bars β ν E til) (clB bars β E bar) pile' := by
  obtain ⟨h0, hpt, hv, hk⟩ := hC
  have h1 := HR_head hn hb hr (by omega) h0 (by omega) h
  rcases hk with ⟨e1, e2, d, hd, hβ⟩ | ⟨e1, e2, m, d, hd, hν, hβ⟩ <;> subst e1
  · have g := HR_bval (st := []) hn hb hw hE (fun j j1 j2 => hv j (by omega) (by omega)) ht (by omega) (by simp; omega) (by omega) trivial BND_nil hβ h1
    cases hx : β E with
    | none =>
      obtain ⟨p', l', H⟩ := g.2 (by rw [hx]; rfl)
      exact ⟨t + 1, p', l', Nat.le_refl _, by unfold clT clB; rw [hx]; exact H⟩
    | some b =>
      obtain ⟨r', l', h2, H, hP⟩ := g.1 (bv b) (by rw [hx]; rfl)
      have z := HR_bars hn hb h2 (by omega) (hv t (by omega) (Nat.le_refl _)) e2 hP (by simp) hbar H
      refine ⟨r', ((([] : List Int).length : Nat) : Int), l', by omega, ?_⟩
      unfold clT clB
      rw [hx]
      cases b <;> exact z
  · have hm := hβ.1
    have hm2 := hν.1
    have g := HR_bval (st := []) hn hb hw hE (fun j j1 j2 => hv j (by omega) (by omega)) ht (by omega) (by simp; omega) (by omega) trivial BND_nil hν h1
    cases hy : ν E with
    | none =>
      obtain ⟨p', l', H⟩ := g.2 hy
      refine ⟨t + 1, p', l', Nat.le_refl _, ?_⟩
      unfold clT clB
      rw [hy]
      cases hx : β E with
      | none => exact H
      | some b => cases b <;> exact H
    | some x =>
      obtain ⟨r', l', h2, H, hP⟩ := g.1 x hy
      have hBx : BND [x] := (hν.2 E hE).1 [x] (by show (ν E).map (fun x => [x]) = some [x]; rw [hy]; rfl)
      have g2 := HR_bval (st := [x]) hn hb hw hE (fun j j1 j2 => hv j (by omega) (by omega)) ht (by omega) (by simp; omega) h2 hP hBx hβ H
      cases hx : β E with
      | none =>
        obtain ⟨p', l', H⟩ := g2.2 (by rw [hx]; rfl)
        exact ⟨t + 1, p', l', Nat.le_refl _, by unfold clT clB; rw [hx, hy]; exact H⟩
      | some b =>
        obtain ⟨r3, l3, h3, H3, hP3⟩ := g2.1 (bv b) (by rw [hx]; rfl)
        have z := HR_tires hn hb h3 (by omega) (hv t (by omega) (Nat.le_refl _)) e2 hP3 hBx (by simp) H3
        unfold clT clB
        rw [hx, hy]
        cases b with
        | false => exact ⟨r3, _, _, by omega, z.1 rfl⟩
        | true => exact ⟨r3, _, _, by omega, z.2 rfl x [] rfl⟩
/-! A LAW: its clauses -/
def CSE : Type := Bool × ((Nat → Int) → Option Bool) × ((Nat → Int) → Option Int)
def CLL (ord : Nat → Int) (base n : Nat) : List CSE → Nat → Prop
  | [] => fun p => p = n
  | c :: l => fun p => ∃ t, CLC ord base p t c.1 c.2.1 c.2.2 ∧ CLL ord base n l (t + 1)
theorem CLL_le {ord : Nat → Int} {base n : Nat} : ∀ (l : List CSE) (p : Nat), CLL ord base n l p → p ≤ n := by
  intro l
  induction l with
  | nil => intro p h; have h' : p = n := h; omega
  | cons c l ih =>
    intro p h
    obtain ⟨t, h1, h2⟩ := h
    have := ih _ h2
    have := h1.2.1
    omega
def lwS (E : Nat → Int) : List CSE → Int → Int → Int × Int
  | [] => fun til bar => (til, bar)
  | c :: l => fun til bar => lwS E l (clT c.1 c.2.1 c.2.2 E til) (clB c.1 c.2.1 E bar)
theorem clB_r {bars : Bool} {β : (Nat → Int) → Option Bool} {E : Nat → Int} {bar : Int} (h : bar = 0 ∨ bar = 1) : clB bars β E bar = 0 ∨ clB bars β E bar = 1 := by
  unfold clB
  split
  · exact Or.inr rfl
  · exact h
theorem HR_law {words ord E : Nat → Int} {base n : Nat} {o : Int × Int × Int × (Nat → Int)} (hn : n ≤ 424) (hb : base ≤ 2120) (hw : ∀ j, j < 8 → words j = E j) (hE : EOK E) : ∀ (l : List CSE) (p res cE : Nat) (piled til bar : Int) (pile : Nat → Int), CLL ord base n l p → res ≤ p → (bar = 0 ∨ bar = 1) → HR words ord base n o res cE p piled til bar pile → o.2.1 = (lwS E l til bar).1 ∧ o.2.2.1 = (lwS E l til bar).2 := by
  intro l
  induction l with
  | nil =>
    intro p res cE piled til bar pile hC hr hbar h
    have e : p = n := hC
    subst e
    obtain ⟨N, h⟩ := h
    cases N with
    | zero => exact nomatch h
    | succ N =>
      replace h : f_Judge_hear_8_b words ord (f_Judge_hear_8 words ord N) (base : Int) (p : Int) (res : Int) (cE : Int) (p : Int) piled til bar pile = some o := h
      unfold f_Judge_hear_8_b at h
      rw [if_pos (Int.le_refl _)] at h
      cases h
      exact ⟨rfl, rfl⟩
  | cons c l ih =>
    intro p res cE piled til bar pile hC hr hbar h
    obtain ⟨t, h1, h2⟩ := hC
    obtain ⟨r', p', l', h3, h4⟩ := HR_clause hn hb hw hE h1 (CLL_le l _ h2) hr hbar h
    exact ih (t + 1) r' (t + 1) p' _ _ l' h2 h3 (clB_r hbar) h4
theorem hear_law {words ord E pile : Nat → Int} {base n : Nat} {o : Int × Int × Int × (Nat → Int)} {l : List CSE} {piled til bar : Int} (hn : n ≤ 424) (hb : base ≤ 2120) (hw : ∀ j, j < 8 → words j = E j) (hE : EOK E) (hC : CLL ord base n l 0) (hbar : bar = 0 ∨ bar = 1) (h : f_Judge_hear (base : Int) (n : Int) words ord piled til bar pile = some o) : o.2.1 = (lwS E l til bar).1 ∧ o.2.2.1 = (lwS E l til bar).2 :=
  HR_law hn hb hw hE l 0 0 0 piled til bar pile hC (Nat.le_refl _) hbar ⟨zfu, by unfold f_Judge_hear at h; exact h⟩
