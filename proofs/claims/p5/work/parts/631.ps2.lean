/-! THE REFERENCE'S SMALL STEPS -/
abbrev OX : Type := Int × Int × Int × Int × Int × Int × Int × Int × Int × Int × (Nat → Int) × (Nat → Int) × (Nat → Int) × (Nat → Int)
def EX (T : Nat → Int) (n : Nat) (W : Nat → Int) (x1 : Int) (qs rs : Nat → Nat) (o : OX) (tn : Int) (i c p pd b : Nat) (op ar pl pa : Nat → Int) : Prop :=
  ∃ N, f_HM_readExpression_20 (n : Int) T W N x1 tn (qs i : Int) (rs i : Int) (SO T n (qs i)) (WO T n (qs i) (rs i)) (-1) 0 (c : Int) (p : Int) (pd : Int) (b : Int) op ar pl pa = some o
def FL (qs : Nat → Nat) (o : OX) (i : Nat) : Prop := o.2.2.2.2.1 = (qs i : Int) ∧ o.2.2.2.2.2.1 = 1
theorem e_bad {n : Int} {T W : Nat → Int} {N : Nat} {x1 tn fr to so wo ft c p pd b : Int} {op ar pl pa : Nat → Int} {o : OX} (h : f_HM_readExpression_20 n T W N x1 tn fr to so wo ft 1 c p pd b op ar pl pa = some o) : o.2.2.2.2.1 = ft ∧ o.2.2.2.2.2.1 = 1 := by
  cases N with
  | zero => exact nomatch h
  | succ N =>
    replace h : f_HM_readExpression_20_b n T W (f_HM_readExpression_20 n T W N) x1 tn fr to so wo ft 1 c p pd b op ar pl pa = some o := h
    unfold f_HM_readExpression_20_b at h
    replace h := xp_t (by decide +kernel) h
    unfold f_HM_readExpression_76 at h
    obtain ⟨v1, v2, a3, a4, e1, h⟩ := xz_d4 h
    cases h
    exact ⟨rfl, rfl⟩
theorem x_next {T : Nat → Int} {n m : Nat} {qs rs : Nat → Nat} {tk vl : Nat → Int} (hL : LEX T n m qs rs tk vl) {i : Nat} (hi : i < m) {fr so wo : Int} {o : Int × Int × Int × Int} (h : f_HM_next (n : Int) T fr (rs i : Int) so wo = some o) : o = ((qs (i + 1) : Int), (rs (i + 1) : Int), SO T n (qs (i + 1)), WO T n (qs (i + 1)) (rs (i + 1))) := by
  have hr : rs i ≤ n := (hL.2.2.2.1.1 i hi).2.2.2.1
  have g := zok_x (l_next T hL.1 n (rs i) hL.2.1 hr fr so wo) h
  exact NXQ_i hL.2.2.2.1 (i := i + 1) (by omega) (by rw [if_neg (by omega), show i + 1 - 1 = i from by omega]; exact g)
theorem x_must1 {T : Nat → Int} {n m : Nat} {qs rs : Nat → Nat} {tk vl : Nat → Int} (hL : LEX T n m qs rs tk vl) {i : Nat} (hi : i < m) {fr so wo : Int} {o : Int × Int × Int × Int × Int × Int} (h : f_HM_must 1 (n : Int) T fr (rs i : Int) so wo (-1) 0 = some o) : o = ((qs (i + 1) : Int), (rs (i + 1) : Int), SO T n (qs (i + 1)), WO T n (qs (i + 1)) (rs (i + 1)), -1, 0) := by
  unfold f_HM_must at h
  replace h := xp_f (by decide +kernel) h
  replace h := xp_t (by decide +kernel) h
  unfold f_HM_must_24 at h
  replace h := xp_f (by decide +kernel) h
  obtain ⟨v1, v2, v3, v4, e, h⟩ := xz_d4 h
  have g := x_next hL hi e
  cases g
  cases h
  rfl
theorem x_must0 {n : Int} {T : Nat → Int} {fr to so wo : Int} {o : Int × Int × Int × Int × Int × Int} (h : f_HM_must 0 n T fr to so wo (-1) 0 = some o) : o = (fr, to, so, wo, fr, 1) := by
  unfold f_HM_must at h
  replace h := xp_f (by decide +kernel) h
  replace h := xp_f (by decide +kernel) h
  unfold f_HM_must_24 at h
  replace h := xp_t (by decide +kernel) h
  cases h
  rfl
theorem x_in {x lo hi w : Int} (hx : -1000000000000 ≤ x ∧ x ≤ 1000000000000) (hl : -1000000000000 ≤ lo ∧ lo ≤ 1000000000000) (hh : -1000000000000 ≤ hi ∧ hi ≤ 1000000000000) (h : f_HM_in x lo hi = some w) : w = if lo ≤ x ∧ x ≤ hi then 1 else 0 := by
  unfold f_HM_in at h
  rw [zwl (x := hi) (by omega), zwl (x := x) (by omega), zwl (x := lo) (by omega)] at h
  by_cases h1 : x < lo
  · rw [if_pos h1] at h; cases h; rw [if_neg (by omega)]
  · rw [if_neg h1] at h
    by_cases h2 : hi < x
    · rw [if_pos h2] at h; cases h; rw [if_neg (by omega)]
    · rw [if_neg h2] at h; cases h; rw [if_pos (by omega)]
def INVb (pl : Nat → Int) : Nat → Int
  | 0 => -1
  | k + 1 => if 30 ≤ pl k then pl k else INVb pl k
def CMV (pl : Nat → Int) : Nat → Int
  | 0 => 0
  | k + 1 => if 20 ≤ pl k ∧ pl k ≤ 23 then CMV pl k else if 24 ≤ pl k ∧ pl k ≤ 26 then 1 else 0
def PLR (pl : Nat → Int) (pd : Nat) : Prop := ∀ k, k < pd → 20 ≤ pl k ∧ pl k ≤ 31
theorem INV_agr {pl pl' : Nat → Int} : ∀ k, AGR pl pl' k → INVb pl' k = INVb pl k := by
  intro k
  induction k with
  | zero => intro _; rfl
  | succ k ih =>
    intro h
    show (if 30 ≤ pl' k then pl' k else INVb pl' k) = (if 30 ≤ pl k then pl k else INVb pl k)
    rw [h k (by omega), ih (fun j hj => h j (by omega))]
theorem CMV_agr {pl pl' : Nat → Int} : ∀ k, AGR pl pl' k → CMV pl' k = CMV pl k := by
  intro k
  induction k with
  | zero => intro _; rfl
  | succ k ih =>
    intro h
    show (if 20 ≤ pl' k ∧ pl' k ≤ 23 then CMV pl' k else if 24 ≤ pl' k ∧ pl' k ≤ 26 then 1 else 0) = (if 20 ≤ pl k ∧ pl k ≤ 23 then CMV pl k else if 24 ≤ pl k ∧ pl k ≤ 26 then 1 else 0)
    rw [h k (by omega), ih (fun j hj => h j (by omega))]
theorem x_inner_4 {pl : Nat → Int} {pd : Nat} (hp : PLR pl pd) (hpd : pd ≤ 400) : ∀ (N k : Nat) (x1 o : Int), k ≤ pd → x1 = INVb pl k → f_HM_inner_4 (pd : Int) pl N x1 (k : Int) = some o → o = INVb pl pd := by
  intro N
  induction N with
  | zero => intro k x1 o _ _ h; exact nomatch h
  | succ N ih =>
    intro k x1 o hk hx h
    replace h : f_HM_inner_4_b (pd : Int) pl (f_HM_inner_4 (pd : Int) pl N) x1 (k : Int) = some o := h
    unfold f_HM_inner_4_b at h
    rw [zwi (x := (pd : Int)) (by omega), zwi (x := (k : Int)) (by omega)] at h
    by_cases c : (pd : Int) ≤ (k : Int)
    · rw [if_pos c] at h
      cases h
      rw [hx, show pd = k from by omega]
    · rw [if_neg c] at h
      replace h := (xp_g h).2
      have r := hp k (by omega)
      rw [zwi (x := (k : Int)) (by omega), Int.toNat_natCast, zwi (x := pl k) (by omega), zwi (x := 30) (by decide)] at h
      by_cases d : pl k < 30
      · rw [if_pos d] at h
        unfold f_HM_inner_33 at h
        replace h := xp_n h
        exact ih (k + 1) x1 o (by omega) (by rw [hx]; show _ = if 30 ≤ pl k then pl k else INVb pl k; rw [if_neg (by omega)]) h
      · rw [if_neg d] at h
        replace h := (xp_g h).2
        rw [zwi (x := (k : Int)) (by omega), Int.toNat_natCast] at h
        unfold f_HM_inner_33 at h
        replace h := xp_n h
        exact ih (k + 1) (pl k) o (by omega) (by show _ = if 30 ≤ pl k then pl k else INVb pl k; rw [if_pos (by omega)]) h
theorem x_inner {pl : Nat → Int} {pd : Nat} {o : Int} (hp : PLR pl pd) (hpd : pd ≤ 400) (h : f_HM_inner (pd : Int) pl = some o) : o = INVb pl pd :=
  x_inner_4 hp hpd zfu 0 (-1) o (by omega) rfl (by unfold f_HM_inner at h; exact h)
theorem x_cmp_7 {pl : Nat → Int} {pd : Nat} (hp : PLR pl pd) (hpd : pd ≤ 400) : ∀ (N k : Nat) (o : Int), k ≤ pd → f_HM_isCompared_7 (pd : Int) pl N ((k : Int) - 1) = some o → o = CMV pl k := by
  intro N
  induction N with
  | zero => intro k o _ h; exact nomatch h
  | succ N ih =>
    intro k o hk h
    replace h : f_HM_isCompared_7_b (pd : Int) pl (f_HM_isCompared_7 (pd : Int) pl N) ((k : Int) - 1) = some o := h
    unfold f_HM_isCompared_7_b at h
    rw [zwi (x := (k : Int) - 1) (by omega)] at h
    cases k with
    | zero =>
      rw [if_pos (by omega)] at h
      unfold f_HM_isCompared_36 at h
      rw [zwi (x := ((0 : Nat) : Int) - 1) (by omega), if_pos (by omega)] at h
      cases h
      rfl
    | succ k =>
      rw [if_neg (by omega)] at h
      replace h := (xp_g h).2
      have r := hp k (by omega)
      have ek : (((k + 1 : Nat) : Int) - 1) = (k : Int) := by omega
      rw [ek, zwi (x := (k : Int)) (by omega), Int.toNat_natCast] at h
      replace h := xp_n h
      obtain ⟨v3, e3, h⟩ := xz_d1 h
      rw [zwi (x := pl k) (by omega)] at e3
      have g3 := x_in (by omega) (by decide) (by decide) e3
      show o = if 20 ≤ pl k ∧ pl k ≤ 23 then CMV pl k else if 24 ≤ pl k ∧ pl k ≤ 26 then 1 else 0
      by_cases c : 20 ≤ pl k ∧ pl k ≤ 23
      · rw [if_pos c] at g3 ⊢
        subst g3
        replace h := xp_f (by decide +kernel) h
        replace h := xp_n h
        exact ih k o (by omega) (by rw [show ((k : Int) - 1) = (k : Int) + -1 from by omega]; exact h)
      · rw [if_neg c] at g3 ⊢
        subst g3
        replace h := xp_t (by decide +kernel) h
        unfold f_HM_isCompared_36 at h
        rw [zwi (x := (k : Int)) (by omega), if_neg (by omega)] at h
        replace h := (xp_g h).2
        rw [zwi (x := (k : Int)) (by omega), Int.toNat_natCast] at h
        replace h := xp_n h
        obtain ⟨v4, e4, h⟩ := xz_d1 h
        rw [zwi (x := pl k) (by omega)] at e4
        have g4 := x_in (by omega) (by decide) (by decide) e4
        by_cases d : 24 ≤ pl k ∧ pl k ≤ 26
        · rw [if_pos d] at g4 ⊢
          subst g4
          replace h := xp_f (by decide +kernel) h
          cases h
          rfl
        · rw [if_neg d] at g4 ⊢
          subst g4
          replace h := xp_t (by decide +kernel) h
          cases h
          rfl
theorem x_cmp {pl : Nat → Int} {pd : Nat} {o : Int} (hp : PLR pl pd) (hpd : pd ≤ 400) (h : f_HM_isCompared (pd : Int) pl = some o) : o = CMV pl pd := by
  unfold f_HM_isCompared at h
  replace h := xp_n h
  exact x_cmp_7 hp hpd zfu pd o (Nat.le_refl _) h
/-! settle -/
def BDS (op : Int) : Int := if op < 30 then (if op = 29 then 1 else if op = 28 then 2 else if op = 27 then 3 else if op < 24 then (if op < 22 then 5 else 6) else 4) else 0
theorem x_binds {op r : Int} (h0 : 0 ≤ op ∧ op ≤ 31) (h : f_HM_binds op = some r) : r = BDS op := by
  unfold f_HM_binds at h
  rw [zwi (x := op) (by omega), zwi (x := 30) (by decide), zwi (x := 29) (by decide), zwi (x := 28) (by decide), zwi (x := 27) (by decide), zwi (x := 24) (by decide), zwi (x := 22) (by decide)] at h
  unfold BDS
  by_cases c1 : op < 30
  · rw [if_pos c1] at h ⊢
    by_cases c2 : op = 29
    · rw [if_neg (fun q => q c2)] at h; rw [if_pos c2]; cases h; rfl
    · rw [if_pos c2] at h; rw [if_neg c2]
      by_cases c3 : op = 28
      · rw [if_neg (fun q => q c3)] at h; rw [if_pos c3]; cases h; rfl
      · rw [if_pos c3] at h; rw [if_neg c3]
        by_cases c4 : op = 27
        · rw [if_neg (fun q => q c4)] at h; rw [if_pos c4]; cases h; rfl
        · rw [if_pos c4] at h; rw [if_neg c4]
          by_cases c5 : op < 24
          · rw [if_pos c5] at h ⊢
            by_cases c6 : op < 22
            · rw [if_pos c6] at h ⊢; cases h; rfl
            · rw [if_neg c6] at h ⊢; cases h; rfl
          · rw [if_neg c5] at h ⊢; cases h; rfl
  · rw [if_neg c1] at h ⊢; cases h; rfl
theorem x_emit {x y : Int} {c : Nat} {op ar : Nat → Int} {r : Int × (Nat → Int) × (Nat → Int)} (hc : c ≤ 1000) (h : f_HM_emit x y (c : Int) op ar = some r) : c < 400 ∧ r = (((c + 1 : Nat) : Int), zu op c x, zu ar c y) := by
  unfold f_HM_emit at h
  obtain ⟨h1, h⟩ := xp_s h
  replace h := (xp_s h).2
  replace h := xp_n h
  rw [zwi (x := (c : Int)) (by omega)] at h1 h
  rw [Int.toNat_natCast] at h
  cases h
  exact ⟨by omega, rfl⟩
theorem x_push {x y : Int} {c : Nat} {op ar : Nat → Int} {r : Int × (Nat → Int) × (Nat → Int)} (hc : c ≤ 1000) (h : f_HM_push x y (c : Int) op ar = some r) : c < 400 ∧ r = (((c + 1 : Nat) : Int), zu op c x, zu ar c y) := by
  unfold f_HM_push at h
  obtain ⟨h1, h⟩ := xp_s h
  replace h := (xp_s h).2
  replace h := xp_n h
  rw [zwi (x := (c : Int)) (by omega)] at h1 h
  rw [Int.toNat_natCast] at h
  cases h
  exact ⟨by omega, rfl⟩
def ST (least : Int) (pl pa : Nat → Int) (c pd : Nat) (op ar : Nat → Int) (r : Int × Int × (Nat → Int) × (Nat → Int)) : Prop := ∃ N, f_HM_settle_0 pl pa N least (c : Int) (pd : Int) op ar = some r
theorem BDS_r (x : Int) : 0 ≤ BDS x ∧ BDS x ≤ 6 := by
  unfold BDS
  repeat' split
  all_goals decide
theorem ST_stop {least : Int} {pl pa : Nat → Int} {c pd : Nat} {op ar : Nat → Int} {r : Int × Int × (Nat → Int) × (Nat → Int)} (hpd : pd ≤ 400) (hl : 0 ≤ least ∧ least ≤ 10) (hp : PLR pl pd) (hs : pd = 0 ∨ BDS (pl (pd - 1)) < least) (h : ST least pl pa c pd op ar r) : r = ((c : Int), (pd : Int), op, ar) := by
  obtain ⟨N, h⟩ := h
  cases N with
  | zero => exact nomatch h
  | succ N =>
    replace h : f_HM_settle_0_b pl pa (f_HM_settle_0 pl pa N) least (c : Int) (pd : Int) op ar = some r := h
    unfold f_HM_settle_0_b at h
    rw [zwi (x := (pd : Int)) (by omega)] at h
    cases pd with
    | zero =>
      rw [if_pos (by omega)] at h
      cases h
      rfl
    | succ k =>
      have ek : (((k + 1 : Nat) : Int) - 1) = (k : Int) := by omega
      rw [if_neg (by omega), ek] at h
      replace h := xp_n h
      replace h := (xp_g h).2
      rw [zwi (x := (k : Int)) (by omega), Int.toNat_natCast] at h
      obtain ⟨v3, e3, h⟩ := xz_d1 h
      have r1 := hp k (by omega)
      have g3 := x_binds (by omega) e3
      subst g3
      rw [show k + 1 - 1 = k from by omega] at hs
      have hb := BDS_r (pl k)
      rw [zwi (x := BDS (pl k)) (by omega), zwi (x := least) (by omega), if_pos (by omega)] at h
      cases h
      rfl
theorem ST_op {least : Int} {pl pa : Nat → Int} {c k : Nat} {op ar : Nat → Int} {r : Int × Int × (Nat → Int) × (Nat → Int)} (hk : k < 400) (hl : 0 ≤ least ∧ least ≤ BDS (pl k)) (hp : 20 ≤ pl k ∧ pl k ≤ 27) (hc : c ≤ 1000) (h : ST least pl pa c (k + 1) op ar r) : c < 400 ∧ ST least pl pa (c + 1) k (zu op c (pl k)) (zu ar c 0) r := by
  obtain ⟨N, h⟩ := h
  cases N with
  | zero => exact nomatch h
  | succ N =>
    replace h : f_HM_settle_0_b pl pa (f_HM_settle_0 pl pa N) least (c : Int) ((k + 1 : Nat) : Int) op ar = some r := h
    unfold f_HM_settle_0_b at h
    have ek : (((k + 1 : Nat) : Int) - 1) = (k : Int) := by omega
    rw [zwi (x := ((k + 1 : Nat) : Int)) (by omega), if_neg (by omega), ek] at h
    replace h := xp_n h
    replace h := (xp_g h).2
    rw [zwi (x := (k : Int)) (by omega), Int.toNat_natCast] at h
    obtain ⟨v3, e3, h⟩ := xz_d1 h
    have g3 := x_binds (by omega) e3
    subst g3
    have hb := BDS_r (pl k)
    rw [zwi (x := BDS (pl k)) (by omega), zwi (x := least) (by omega), if_neg (by omega)] at h
    replace h := xp_n h
    replace h := (xp_g h).2
    rw [zwi (x := (k : Int)) (by omega), Int.toNat_natCast, zwi (x := pl k) (by omega), zwi (x := 28) (by decide), if_neg (by omega)] at h
    replace h := (xp_g h).2
    rw [zwi (x := (k : Int)) (by omega), Int.toNat_natCast, zwi (x := pl k) (by omega), zwi (x := 29) (by decide), if_pos (by omega)] at h
    replace h := (xp_g h).2
    rw [zwi (x := (k : Int)) (by omega), Int.toNat_natCast] at h
    obtain ⟨v8, a9, a10, e4, h⟩ := xz_d3 h
    have g4 := x_emit hc e4
    obtain ⟨g5, g4⟩ := g4
    cases g4
    exact ⟨g5, N, h⟩
theorem ST_jump {least : Int} {pl pa : Nat → Int} {c k a : Nat} {op ar : Nat → Int} {r : Int × Int × (Nat → Int) × (Nat → Int)} (hk : k < 400) (hl : 0 ≤ least ∧ least ≤ BDS (pl k)) (hp : pl k = 28 ∨ pl k = 29) (ha : pa k = (a : Int)) (ha2 : a ≤ 1000) (h : ST least pl pa c (k + 1) op ar r) : ST least pl pa c k op (zu ar a (c : Int)) r := by
  obtain ⟨N, h⟩ := h
  cases N with
  | zero => exact nomatch h
  | succ N =>
    replace h : f_HM_settle_0_b pl pa (f_HM_settle_0 pl pa N) least (c : Int) ((k + 1 : Nat) : Int) op ar = some r := h
    unfold f_HM_settle_0_b at h
    have ek : (((k + 1 : Nat) : Int) - 1) = (k : Int) := by omega
    rw [zwi (x := ((k + 1 : Nat) : Int)) (by omega), if_neg (by omega), ek] at h
    replace h := xp_n h
    replace h := (xp_g h).2
    rw [zwi (x := (k : Int)) (by omega), Int.toNat_natCast] at h
    obtain ⟨v3, e3, h⟩ := xz_d1 h
    have g3 := x_binds (by omega) e3
    subst g3
    have hb := BDS_r (pl k)
    rw [zwi (x := BDS (pl k)) (by omega), zwi (x := least) (by omega), if_neg (by omega)] at h
    replace h := xp_n h
    replace h := (xp_g h).2
    have fin : ∀ h2 : f_HM_settle_63 pl pa (f_HM_settle_0 pl pa N) least (c : Int) (k : Int) op ar = some r, ST least pl pa c k op (zu ar a (c : Int)) r := fun h2 => by
      unfold f_HM_settle_63 at h2
      replace h2 := (xp_g h2).2
      rw [zwi (x := (k : Int)) (by omega), Int.toNat_natCast, ha] at h2
      replace h2 := (xp_s h2).2
      rw [zwi (x := (a : Int)) (by omega), Int.toNat_natCast] at h2
      exact ⟨N, h2⟩
    rw [zwi (x := (k : Int)) (by omega), Int.toNat_natCast, zwi (x := pl k) (by omega), zwi (x := 28) (by decide)] at h
    by_cases d : pl k = 28
    · rw [if_pos d] at h
      exact fin h
    · rw [if_neg d] at h
      replace h := (xp_g h).2
      rw [zwi (x := (k : Int)) (by omega), Int.toNat_natCast, zwi (x := pl k) (by omega), zwi (x := 29) (by decide), if_neg (by omega)] at h
      exact fin h
/-! the pile's signs of a sum -/
def PIL (pl : Nat → Int) (pd : Nat) : List Int → Prop
  | [] => True
  | a :: l => pl (pd + l.length) = a ∧ PIL pl pd l
def VL : List Int → LNu → LNu
  | [] => fun ν => ν
  | a :: l => fun ν => VL l (vop a ν)
def AR4 (l : List Int) : Prop := ∀ a ∈ l, 20 ≤ a ∧ a ≤ 23
theorem ST_arith {pl pa : Nat → Int} {pd : Nat} {op0 ar0 : Nat → Int} {c0 d : Nat} {least : Int} {r : Int × Int × (Nat → Int) × (Nat → Int)} (hl : 0 ≤ least ∧ least ≤ 5) : ∀ (l : List Int) (c : Nat) (op ar : Nat → Int) (ν : LNu), AR4 l → PIL pl pd l → RSg op0 ar0 op ar c0 c d ν → LEN ν (l.length + 1) → l.length + 1 ≤ d → c ≤ 400 → pd + l.length ≤ 400 → ST least pl pa c (pd + l.length) op ar r → ∃ (c' : Nat) (op' ar' : Nat → Int), c' ≤ 400 ∧ RSg op0 ar0 op' ar' c0 c' d (VL l ν) ∧ LEN (VL l ν) 1 ∧ ST least pl pa c' pd op' ar' r := by
  intro l
  induction l with
  | nil => intro c op ar ν _ _ hR hN _ hc _ h; exact ⟨c, op, ar, hc, hR, hN, h⟩
  | cons a l ih =>
    intro c op ar ν hA hP hR hN hd hc hpd h
    rw [List.length_cons] at hN hd hpd
    have ha := hA a List.mem_cons_self
    have e1 : pl (pd + l.length) = a := hP.1
    have hb : 5 ≤ BDS a := by unfold BDS; rw [if_pos (by omega), if_neg (by omega), if_neg (by omega), if_neg (by omega), if_pos (by omega)]; split <;> decide
    have g := ST_op (k := pd + l.length) (by omega) (by rw [e1]; omega) (by rw [e1]; omega) (by omega) h
    rw [e1] at g
    exact ih (c + 1) _ _ (vop a ν) (fun x hx => hA x (List.mem_cons_of_mem _ hx)) hP.2 (RS_op (k := l.length) hR (by omega) hN (by omega)) (LEN_op (k := l.length) hN) (by omega) (by omega) (by omega) g.2
