/-! CULPRITS: what a set brings, whom it is of -/
def TBT (s : Int) (k : Nat) : Int := zi_and (zi_shr s (k : Int)) 1
def TSM (tr : Nat → Int) (s : Int) : Nat → Int
  | 0 => 0
  | k + 1 => TSM tr s k + TBT s k * tr k
def TBW (s : Int) (f : Nat → Int) (k : Nat) : Nat → Int := fun j => if j < k then f j + TBT s j else f j
theorem TBT_b (s : Int) (k : Nat) : TBT s k = 0 ∨ TBT s k = 1 := by
  have h := zi_and_m (zi_shr s (k : Int)) (m := 1) (by decide)
  unfold TBT
  omega
theorem TSM_b {tr : Nat → Int} (ht : zR tr 0 20) (s : Int) : ∀ k : Nat, 0 ≤ TSM tr s k ∧ TSM tr s k ≤ 20 * (k : Int) := by
  intro k
  induction k with
  | zero => exact ⟨Int.le_refl _, Int.le_refl _⟩
  | succ k ih =>
    have b := ht k
    show 0 ≤ TSM tr s k + TBT s k * tr k ∧ TSM tr s k + TBT s k * tr k ≤ 20 * ((k : Int) + 1)
    rcases TBT_b s k with e | e <;> rw [e] <;> omega
theorem TBW_0 (s : Int) (f : Nat → Int) (j : Nat) : TBW s f 0 j = f j := by
  unfold TBW
  rw [if_neg (by omega)]
theorem TBW_at (s : Int) (f : Nat → Int) (k : Nat) : TBW s f k k = f k := by
  unfold TBW
  rw [if_neg (by omega)]
theorem TBW_s {s : Int} {f g : Nat → Int} {k : Nat} (h : ∀ j : Nat, j < 6 → g j = TBW s f k j) : ∀ j : Nat, j < 6 → zu g k (f k + TBT s k) j = TBW s f (k + 1) j := fun j hj => by
  by_cases e : j = k
  · subst e
    rw [zu_eq]
    unfold TBW
    rw [if_pos (by omega)]
  · rw [zu_ne _ _ e, h j hj]
    unfold TBW
    by_cases d : j < k
    · rw [if_pos d, if_pos (by omega)]
    · rw [if_neg d, if_neg (by omega)]
theorem TBW_b {s n : Int} {f : Nat → Int} {k : Nat} (h : ∀ j : Nat, j < 6 → 0 ≤ f j ∧ f j ≤ n) : ∀ j : Nat, j < 6 → 0 ≤ TBW s f k j ∧ TBW s f k j ≤ n + 1 := fun j hj => by
  have b := h j hj
  unfold TBW
  split
  · rcases TBT_b s j with e | e <;> rw [e] <;> omega
  · omega
theorem cu_in {x lo hi w : Int} (hx : -1000000000000 ≤ x ∧ x ≤ 1000000000000) (hl : -1000000000000 ≤ lo ∧ lo ≤ 1000000000000) (hh : -1000000000000 ≤ hi ∧ hi ≤ 1000000000000) (h : f_HM_in x lo hi = some w) : w = if lo ≤ x ∧ x ≤ hi then 1 else 0 := by
  unfold f_HM_in at h
  rw [zwl (x := hi) (by omega), zwl (x := x) (by omega), zwl (x := lo) (by omega)] at h
  by_cases h1 : x < lo
  · rw [if_pos h1] at h; cases h; rw [if_neg (by omega)]
  · rw [if_neg h1] at h
    by_cases h2 : hi < x
    · rw [if_pos h2] at h; cases h; rw [if_neg (by omega)]
    · rw [if_neg h2] at h; cases h; rw [if_pos (by omega)]
theorem cu_wn {k : Nat} (h : k < 100) : zi_w (k : Int) = (k : Int) ∧ (zi_w (k : Int)).toNat = k := by
  have e := zwi (x := (k : Int)) (by omega)
  rw [e]
  exact ⟨rfl, by omega⟩
theorem c_trips {ch s o : Int} {tr : Nat → Int} (hc : 0 ≤ ch ∧ ch ≤ 6) : ∀ (N k : Nat) (v : Int), (k : Int) ≤ ch → v = TSM tr s k → f_Scales_tripsOf_4 ch tr N s v (k : Int) = some o → o = TSM tr s ch.toNat := by
  intro N
  induction N with
  | zero => intro k v _ _ h; exact nomatch h
  | succ N ih =>
    intro k v hk hv h
    replace h : f_Scales_tripsOf_4_b ch tr (f_Scales_tripsOf_4 ch tr N) s v (k : Int) = some o := h
    unfold f_Scales_tripsOf_4_b at h
    have z := cu_wn (k := k) (by omega)
    rw [zwi (x := ch) (by omega), z.1] at h
    by_cases c : ch ≤ (k : Int)
    · rw [if_pos c] at h
      cases h
      rw [hv, show ch.toNat = k from by omega]
    · rw [if_neg c] at h
      replace h := (xp_g (xp_n (xp_n h))).2
      replace h := xp_n (xp_n (xp_n h))
      rw [z.2] at h
      refine ih (k + 1) _ (by omega) ?_ h
      rw [hv]
      rfl
theorem c_note {ch s n lo ia iy : Int} {f : Nat → Int} {o : Int × Int × Int × Int × (Nat → Int)} (hc : 0 ≤ ch ∧ ch ≤ 6) : ∀ (N k : Nat) (g : Nat → Int), (k : Int) ≤ ch → (∀ j : Nat, j < 6 → g j = TBW s f k j) → f_Scales_note_44 ch N s (k : Int) n lo ia iy g = some o → o.1 = n ∧ o.2.1 = lo ∧ o.2.2.1 = ia ∧ o.2.2.2.1 = iy ∧ ∀ j : Nat, j < 6 → o.2.2.2.2 j = TBW s f ch.toNat j := by
  intro N
  induction N with
  | zero => intro k g _ _ h; exact nomatch h
  | succ N ih =>
    intro k g hk hg h
    replace h : f_Scales_note_44_b ch (f_Scales_note_44 ch N) s (k : Int) n lo ia iy g = some o := h
    unfold f_Scales_note_44_b at h
    have z := cu_wn (k := k) (by omega)
    rw [zwi (x := ch) (by omega), z.1] at h
    by_cases c : ch ≤ (k : Int)
    · rw [if_pos c] at h
      cases h
      rw [show ch.toNat = k from by omega]
      exact ⟨rfl, rfl, rfl, rfl, hg⟩
    · rw [if_neg c] at h
      replace h := (xp_g h).2
      replace h := (xp_s (xp_n (xp_n (xp_n h)))).2
      replace h := xp_n h
      rw [z.2, hg k (by omega), TBW_at] at h
      exact ih (k + 1) _ (by omega) (TBW_s hg) h
theorem c_note1 {ch s n lo ia iy : Int} {f : Nat → Int} {o : Int × Int × Int × Int × (Nat → Int)} (hc : 0 ≤ ch ∧ ch ≤ 6) (h : f_Scales_note s ch n lo ia iy f = some o) : o.1 = n + 1 ∧ o.2.1 = (if zi_w n ≠ 0 then lo else s) ∧ o.2.2.1 = zi_and ia s ∧ o.2.2.2.1 = zi_or iy s ∧ ∀ j : Nat, j < 6 → o.2.2.2.2 j = TBW s f ch.toNat j := by
  unfold f_Scales_note at h
  by_cases c : zi_w n ≠ 0
  · rw [if_pos c] at h
    unfold f_Scales_note_12 at h
    replace h := xp_n (xp_n (xp_n h))
    rw [if_pos c]
    exact c_note hc zfu 0 _ (by omega) (fun j _ => (TBW_0 s f j).symm) h
  · rw [if_neg c] at h
    unfold f_Scales_note_12 at h
    replace h := xp_n (xp_n (xp_n h))
    rw [if_neg c]
    exact c_note hc zfu 0 _ (by omega) (fun j _ => (TBW_0 s f j).symm) h
theorem c_fill {o : Nat → Int} : ∀ (N k : Nat) (g : Nat → Int), k ≤ 6 → (∀ s, s < k → g s = 0) → f_Arrays_fill_n6_5 N 0 (k : Int) 6 g = some o → ∀ s, s < 6 → o s = 0 := by
  intro N
  induction N with
  | zero => intro k g _ _ h; exact nomatch h
  | succ N ih =>
    intro k g hk hg h
    replace h : f_Arrays_fill_n6_5_b (f_Arrays_fill_n6_5 N) 0 (k : Int) 6 g = some o := h
    unfold f_Arrays_fill_n6_5_b at h
    have z := cu_wn (k := k) (by omega)
    rw [zwi (x := 6) (by decide), z.1] at h
    by_cases c : (6 : Int) ≤ (k : Int)
    · rw [if_pos c] at h
      cases h
      exact fun s hs => hg s (by omega)
    · rw [if_neg c] at h
      replace h := xp_n (xp_s h).2
      rw [z.2] at h
      refine ih (k + 1) _ (by omega) (fun s hs => ?_) h
      by_cases e : s = k
      · subst e; rw [zu_eq]
      · rw [zu_ne _ _ e]; exact hg s (by omega)
theorem r_is {s v : Int} {k : Nat} (h : f_HM_is s (k : Int) = some v) : v = TBT s k := by
  unfold f_HM_is at h
  replace h := xp_n (xp_n h)
  have e : zi_and (zi_shr s (k : Int)) 1 = TBT s k := rfl
  rw [e] at h
  rcases TBT_b s k with b | b
  · rw [b] at h ⊢
    rw [if_pos (by decide +kernel)] at h
    cases h
    rfl
  · rw [b] at h ⊢
    rw [if_neg (by decide +kernel)] at h
    cases h
    rfl
theorem r_199 {x1 x2 x3 ch n lo ia iy s thr : Int} {row f : Nat → Int} {K : Int → Int → Int → Int → Int → Int → Int → Int → Int → Int → (Nat → Int) → Option (Int × Int × (Nat → Int))} {o : Int × Int × (Nat → Int)} (hc : 0 ≤ ch ∧ ch ≤ 6) : ∀ (N k : Nat) (g : Nat → Int), (k : Int) ≤ ch → (∀ j : Nat, j < 6 → g j = TBW s f k j) → f_HM_culprits_199 row K N x1 x2 x3 ch n lo ia iy s (k : Int) thr g = some o → ∃ g' : Nat → Int, (∀ j : Nat, j < 6 → g' j = TBW s f ch.toNat j) ∧ K x1 x2 x3 ch n lo ia iy (s + 1) thr g' = some o := by
  intro N
  induction N with
  | zero => intro k g _ _ h; exact nomatch h
  | succ N ih =>
    intro k g hk hg h
    replace h : f_HM_culprits_199_b row K (f_HM_culprits_199 row K N) x1 x2 x3 ch n lo ia iy s (k : Int) thr g = some o := h
    unfold f_HM_culprits_199_b at h
    have z := cu_wn (k := k) (by omega)
    rw [zwi (x := ch) (by omega), z.1] at h
    by_cases c : ch ≤ (k : Int)
    · rw [if_pos c] at h
      unfold f_HM_culprits_229 at h
      rw [show ch.toNat = k from by omega]
      exact ⟨g, hg, xp_n h⟩
    · rw [if_neg c] at h
      replace h := (xp_g h).2
      replace h := (xp_s (xp_n (xp_n (xp_n h)))).2
      replace h := xp_n h
      rw [z.2, hg k (by omega), TBW_at] at h
      exact ih (k + 1) _ (by omega) (TBW_s hg) h
theorem r_110 {x1 x2 x3 ch n lo ia iy s thr : Int} {row tr f : Nat → Int} {K : Int → Int → Int → Int → Int → Int → Int → Int → Int → Int → (Nat → Int) → Option (Int × Int × (Nat → Int))} {o : Int × Int × (Nat → Int)} (hc : 0 ≤ ch ∧ ch ≤ 6) (hr : RV 3 155 ch tr row) (ht : zR tr 0 20) (h1 : 1 ≤ x1 ∧ x1 ≤ 9) : ∀ (N k : Nat) (v : Int), (k : Int) ≤ ch → v = TSM tr s k * x1 → f_HM_culprits_110 row K N x1 x2 x3 ch n lo ia iy s v (k : Int) thr f = some o → (zi_w (TSM tr s ch.toNat * x1) ≠ zi_w x2 ∧ K x1 x2 x3 ch n lo ia iy (s + 1) thr f = some o) ∨ (zi_w (TSM tr s ch.toNat * x1) = zi_w x2 ∧ ∃ g' : Nat → Int, (∀ j : Nat, j < 6 → g' j = TBW s f ch.toNat j) ∧ K x1 x2 x3 ch (n + 1) (if zi_w n ≠ 0 then lo else s) (zi_and ia s) (zi_or iy s) (s + 1) thr g' = some o) := by
  intro N
  induction N with
  | zero => intro k v _ _ h; exact nomatch h
  | succ N ih =>
    intro k v hk hv h
    replace h : f_HM_culprits_110_b row K (f_HM_culprits_110 row K N) x1 x2 x3 ch n lo ia iy s v (k : Int) thr f = some o := h
    unfold f_HM_culprits_110_b at h
    have z := cu_wn (k := k) (by omega)
    rw [zwi (x := ch) (by omega), z.1] at h
    by_cases c : ch ≤ (k : Int)
    · rw [if_pos c, hv] at h
      rw [show ch.toNat = k from by omega]
      by_cases d : zi_w (TSM tr s k * x1) ≠ zi_w x2
      · rw [if_pos d] at h
        unfold f_HM_culprits_229 at h
        exact Or.inl ⟨d, xp_n h⟩
      · rw [if_neg d] at h
        refine Or.inr ⟨Classical.not_not.mp d, ?_⟩
        rw [show k = ch.toNat from by omega]
        by_cases e : zi_w n ≠ 0
        · rw [if_pos e] at h ⊢
          unfold f_HM_culprits_177 at h
          replace h := xp_n (xp_n (xp_n h))
          exact r_199 hc zfu 0 _ (by omega) (fun j _ => (TBW_0 s f j).symm) h
        · rw [if_neg e] at h ⊢
          unfold f_HM_culprits_177 at h
          replace h := xp_n (xp_n (xp_n h))
          exact r_199 hc zfu 0 _ (by omega) (fun j _ => (TBW_0 s f j).symm) h
    · rw [if_neg c] at h
      obtain ⟨v1, e1, h⟩ := xz_d1 h
      have q := r_is e1
      have b := TBT_b s k
      rw [← q] at b
      have bt := ht k
      rcases b with b | b
      · rw [b] at h
        rw [if_pos (by decide +kernel)] at h
        unfold f_HM_culprits_150 at h
        replace h := xp_n (xp_n h)
        refine ih (k + 1) _ (by omega) ?_ h
        show v + 0 = (TSM tr s k + TBT s k * tr k) * x1
        rw [← q, b, hv, Int.zero_mul, Int.add_zero, Int.add_zero]
      · rw [b] at h
        rw [if_neg (by decide +kernel)] at h
        replace h := (xp_g (xp_n (xp_n (xp_n h)))).2
        replace h := xp_n h
        have zz : (zi_w (153 + 3 * (k : Int) + 2)).toNat = 155 + 3 * k := by rw [zwi (by omega)]; omega
        rw [zz, ← hr k (by omega)] at h
        unfold f_HM_culprits_150 at h
        replace h := xp_n (xp_n h)
        refine ih (k + 1) _ (by omega) ?_ h
        show v + x1 * tr k = (TSM tr s k + TBT s k * tr k) * x1
        rw [← q, b, hv, Int.one_mul, Int.add_mul, Int.mul_comm x1]
theorem cu_71 {x1 x2 x3 ch n lo ia iy thr : Int} {row : Nat → Int} {o : Int × Int × (Nat → Int)} : ∀ (N k : Nat) (g : Nat → Int), k ≤ 6 → (∀ j, j < k → g j = 0) → f_HM_culprits_71 row N x1 x2 x3 ch n lo ia iy (k : Int) thr g = some o → ∃ g' : Nat → Int, (∀ j : Nat, j < 6 → g' j = 0) ∧ f_HM_culprits_95 row zfu x1 x2 x3 ch n lo ia iy 0 thr g' = some o := by
  intro N
  induction N with
  | zero => intro k g _ _ h; exact nomatch h
  | succ N ih =>
    intro k g hk hg h
    replace h : f_HM_culprits_71_b row (f_HM_culprits_71 row N) x1 x2 x3 ch n lo ia iy (k : Int) thr g = some o := h
    unfold f_HM_culprits_71_b at h
    have z := cu_wn (k := k) (by omega)
    rw [zwi (x := 6) (by decide), z.1] at h
    by_cases c : (6 : Int) ≤ (k : Int)
    · rw [if_pos c] at h
      exact ⟨g, fun j hj => hg j (by omega), h⟩
    · rw [if_neg c] at h
      replace h := xp_n (xp_s h).2
      rw [z.2] at h
      refine ih (k + 1) _ (by omega) (fun j hj => ?_) h
      by_cases e : j = k
      · subst e; rw [zu_eq]
      · rw [zu_ne _ _ e]; exact hg j (by omega)
theorem cu_loop {x1 x2 x3 ch thr : Int} {row tr : Nat → Int} {v : Int × Int × Int × Int × (Nat → Int)} {w : Int × Int × (Nat → Int)} (hc : 0 ≤ ch ∧ ch ≤ 6) (hr : RV 3 155 ch tr row) (ht : zR tr 0 20) (h1 : 1 ≤ x1 ∧ x1 ≤ 9) (h2 : 0 ≤ x2 ∧ x2 ≤ 999) : ∀ (N M : Nat) (s n lo ia iy : Int) (f g : Nat → Int), (0 ≤ s ∧ s ≤ zi_shl 1 ch) → (0 ≤ n ∧ n ≤ s) → (∀ j : Nat, j < 6 → g j = f j) → (∀ j : Nat, j < 6 → 0 ≤ f j ∧ f j ≤ n) → f_Scales_suspect_43 ch tr N x1 x2 (zi_shl 1 ch - 1) s n lo ia iy f = some v → f_HM_culprits_95 row M x1 x2 x3 ch n lo ia iy s thr g = some w → ∃ (M' : Nat) (g' : Nat → Int) (S : Int), S = zi_shl 1 ch ∧ (0 ≤ v.1 ∧ v.1 ≤ 64) ∧ (∀ j : Nat, j < 6 → g' j = v.2.2.2.2 j) ∧ (∀ j : Nat, j < 6 → 0 ≤ v.2.2.2.2 j ∧ v.2.2.2.2 j ≤ v.1) ∧ f_HM_culprits_95 row (M' + 1) x1 x2 x3 ch v.1 v.2.1 v.2.2.1 v.2.2.2.1 S thr g' = some w := by
  have b64 := zi_shl1 hc
  intro N
  induction N with
  | zero => intro M s n lo ia iy f g _ _ _ _ h; exact nomatch h
  | succ N ih =>
    intro M s n lo ia iy f g hs hn hg hf h k
    cases M with
    | zero => exact nomatch k
    | succ M =>
      replace h : f_Scales_suspect_43_b ch tr (f_Scales_suspect_43 ch tr N) x1 x2 (zi_shl 1 ch - 1) s n lo ia iy f = some v := h
      unfold f_Scales_suspect_43_b at h
      rw [zwi (x := zi_shl 1 ch - 1) (by omega), zwi (x := s) (by omega)] at h
      by_cases c : zi_shl 1 ch - 1 < s
      · rw [if_pos c] at h
        cases h
        have es : s = zi_shl 1 ch := by omega
        exact ⟨M, g, s, es, by dsimp only; omega, hg, hf, k⟩
      · rw [if_neg c] at h
        obtain ⟨t, e1, h⟩ := xz_d1 h
        unfold f_Scales_tripsOf at e1
        have et := c_trips hc zfu 0 0 (by omega) rfl e1
        subst et
        replace h := xp_n h
        replace k : f_HM_culprits_95_b row (f_HM_culprits_95 row M) x1 x2 x3 ch n lo ia iy s thr g = some w := k
        unfold f_HM_culprits_95_b at k
        replace k := xp_n k
        rw [zwi (x := zi_shl 1 ch) (by omega), zwi (x := s) (by omega), if_neg (by omega)] at k
        have q := r_110 hc hr ht h1 zfu 0 0 (by omega) (by show (0 : Int) = 0 * x1; rw [Int.zero_mul]) k
        rcases q with ⟨d, q⟩ | ⟨d, g', hg', q⟩
        · rw [if_pos d] at h
          unfold f_Scales_suspect_67 at h
          exact ih M (s + 1) n lo ia iy f g (by omega) (by omega) hg hf (xp_n h) q
        · rw [if_neg (fun z => z d)] at h
          obtain ⟨v3, v4, v5, v6, a7, e2, h⟩ := xz_d5 h
          have m := c_note1 hc e2
          dsimp only at m
          obtain ⟨m1, m2, m3, m4, m5⟩ := m
          subst m1 m2 m3 m4
          unfold f_Scales_suspect_67 at h
          refine ih M (s + 1) _ _ _ _ a7 g' (by omega) (by omega) (fun j hj => ?_) (fun j hj => ?_) (xp_n h) q
          · rw [hg' j hj, m5 j hj]
            unfold TBW
            rw [hg j hj]
          · rw [m5 j hj]
            exact TBW_b hf j hj
theorem cu_best {ch n v w : Int} {row f g : Nat → Int} (hc : 0 ≤ ch ∧ ch ≤ 6) (ec : ch = row 1) (hn : 0 ≤ n ∧ n ≤ 64) (hg : ∀ j : Nat, j < 6 → g j = f j) (hf : ∀ j : Nat, j < 6 → 0 ≤ f j ∧ f j ≤ n) : ∀ (N M k : Nat) (best few its least : Int), (k : Int) ≤ ch → ((best = -1 ∧ its = -1 ∧ least = n + 1) ∨ (0 ≤ best ∧ best ≤ 6 ∧ best = its ∧ few = least ∧ 0 ≤ few ∧ few ≤ 64)) → f_Scales_bestToWeigh_6 n ch f N best few (k : Int) = some v → f_HM_bestToWeigh_9 row g M n its least (k : Int) = some w → v = w := by
  intro N
  induction N with
  | zero => intro M k best few its least _ _ h; exact nomatch h
  | succ N ih =>
    intro M k best few its least hk hb h e
    cases M with
    | zero => exact nomatch e
    | succ M =>
      replace h : f_Scales_bestToWeigh_6_b n ch f (f_Scales_bestToWeigh_6 n ch f N) best few (k : Int) = some v := h
      replace e : f_HM_bestToWeigh_9_b row g (f_HM_bestToWeigh_9 row g M) n its least (k : Int) = some w := e
      unfold f_Scales_bestToWeigh_6_b at h
      unfold f_HM_bestToWeigh_9_b at e
      have z := cu_wn (k := k) (by omega)
      replace e := (xp_g e).2
      have e1 : row (zi_w 1).toNat = ch := ec.symm
      rw [e1, zwi (x := ch) (by omega), z.1] at e
      rw [zwi (x := ch) (by omega), z.1] at h
      by_cases c : ch ≤ (k : Int)
      · rw [if_pos c] at h e
        cases h
        cases e
        omega
      · rw [if_neg c] at h e
        replace h := (xp_g (xp_g h).2).2
        replace h := xp_n (xp_n h)
        replace e := (xp_g (xp_g e).2).2
        replace e := xp_n e
        rw [z.2] at h e
        have bf := hf k (by omega)
        rw [hg k (by omega), zwi (x := f k) (by omega), zwi (x := n - f k) (by omega)] at e
        have mx := zi_max_f (f k) (by omega) (n - f k) (by omega)
        have e2 : ∃ m : Int, zi_max (f k) (n - f k) = m ∧ (0 ≤ m ∧ m ≤ n) ∧ f_HM_bestToWeigh_58 row g (f_HM_bestToWeigh_9 row g M) n its least (k : Int) m = some w := by
          by_cases d : f k ≤ n - f k
          · rw [if_pos d] at e
            replace e := xp_n (xp_g e).2
            rw [z.2, hg k (by omega)] at e
            exact ⟨n - f k, by omega, by omega, e⟩
          · rw [if_neg d] at e
            replace e := (xp_g e).2
            rw [z.2, hg k (by omega)] at e
            exact ⟨f k, by omega, by omega, e⟩
        clear e
        obtain ⟨m, hm, bm, e⟩ := e2
        rw [hm] at h
        unfold f_HM_bestToWeigh_58 at e
        rw [zwi (x := least) (by omega), zwi (x := m) (by omega)] at e
        rw [zwi (x := best) (by omega), zwi (x := m) (by omega), show zi_w (-1) = -1 from by decide +kernel] at h
        rcases hb with ⟨p1, p2, p3⟩ | ⟨p1, p2, p3, p4, p5, p6⟩
        · rw [if_pos p1] at h
          rw [if_neg (by omega)] at e
          unfold f_HM_bestToWeigh_72 at e
          rw [zwi (x := least) (by omega), zwi (x := m) (by omega), if_neg (by omega)] at e
          unfold f_HM_bestToWeigh_85 at e
          unfold f_Scales_bestToWeigh_50 f_Scales_bestToWeigh_55 at h
          exact ih M (k + 1) _ _ _ _ (by omega) (Or.inr ⟨by omega, by omega, rfl, rfl, by omega, by omega⟩) (xp_n h) (xp_n e)
        · rw [if_neg (by omega), zwi (x := few) (by omega)] at h
          by_cases d : few ≤ m
          · rw [if_pos d] at h
            rw [if_pos (by omega)] at e
            unfold f_HM_bestToWeigh_72 at e
            rw [zwi (x := least) (by omega), zwi (x := m) (by omega), if_pos (by omega)] at e
            unfold f_HM_bestToWeigh_85 at e
            unfold f_Scales_bestToWeigh_55 at h
            exact ih M (k + 1) _ _ _ _ (by omega) (Or.inr ⟨p1, p2, p3, p4, p5, p6⟩) (xp_n h) (xp_n e)
          · rw [if_neg d] at h
            rw [if_neg (by omega)] at e
            unfold f_HM_bestToWeigh_72 at e
            rw [zwi (x := least) (by omega), zwi (x := m) (by omega), if_neg (by omega)] at e
            unfold f_HM_bestToWeigh_85 at e
            unfold f_Scales_bestToWeigh_50 f_Scales_bestToWeigh_55 at h
            exact ih M (k + 1) _ _ _ _ (by omega) (Or.inr ⟨by omega, by omega, rfl, rfl, by omega, by omega⟩) (xp_n h) (xp_n e)
theorem x_culprits {a1 a2 a3 ch n0 lo0 ia0 iy0 thr : Int} {row tr sw wo : Nat → Int} {v : Int × Int × Int × Int × Int × (Nat → Int)} {w : Int × Int × (Nat → Int)} (b1 : -2147483648 ≤ a1 ∧ a1 ≤ 2147483647) (b2 : -2147483648 ≤ a2 ∧ a2 ≤ 2147483647) (b3 : -2147483648 ≤ a3 ∧ a3 ≤ 2147483647) (hc : 0 ≤ ch ∧ ch ≤ 6) (ec : ch = row 1) (hr : RV 3 155 ch tr row) (ht : zR tr 0 20) (h : f_HS_culprits a1 a2 a3 ch tr n0 lo0 ia0 iy0 sw = some v) (k : f_HM_culprits a1 a2 a3 row thr wo = some w) : v.1 = w.1 := by
  unfold f_HS_culprits at h
  unfold f_HM_culprits at k
  rw [zwi b1, zwi b2, show zi_w 1 = 1 from by decide +kernel, show zi_w 9 = 9 from by decide +kernel, show zi_w 999 = 999 from by decide +kernel] at h
  rw [zwi b1, zwi b2, zwi b3] at k
  replace k := xp_n k
  obtain ⟨u2, d2, k⟩ := xz_d1 k
  have g2 := cu_in (by omega) (by decide) (by decide) d2
  by_cases c1 : a1 < 1
  · rw [if_pos c1] at h
    rw [if_neg (by omega)] at g2
    subst g2
    rw [if_pos (by decide +kernel)] at k
    cases h
    cases k
    rfl
  rw [if_neg c1] at h
  by_cases c2 : 9 < a1
  · rw [if_pos c2] at h
    rw [if_neg (by omega)] at g2
    subst g2
    rw [if_pos (by decide +kernel)] at k
    cases h
    cases k
    rfl
  rw [if_neg c2] at h
  rw [if_pos (by omega)] at g2
  subst g2
  rw [if_neg (by decide +kernel)] at k
  replace k := xp_n k
  obtain ⟨u4, d4, k⟩ := xz_d1 k
  have g4 := cu_in (by omega) (by decide) (by decide) d4
  by_cases c3 : a2 < 0
  · rw [if_pos c3] at h
    rw [if_neg (by omega)] at g4
    subst g4
    rw [if_pos (by decide +kernel)] at k
    cases h
    cases k
    rfl
  rw [if_neg c3] at h
  by_cases c4 : a2 ≤ 999
  rotate_left
  · rw [if_neg c4] at h
    rw [if_neg (by omega)] at g4
    subst g4
    rw [if_pos (by decide +kernel)] at k
    cases h
    cases k
    rfl
  rw [if_pos c4] at h
  rw [if_pos (by omega)] at g4
  subst g4
  rw [if_neg (by decide +kernel)] at k
  replace k := xp_n k
  obtain ⟨u6, d6, k⟩ := xz_d1 k
  have g6 := cu_in (by omega) (by decide) (by decide) d6
  obtain ⟨v1, v2, v3, v4, a5, e1, h⟩ := xz_d5 h
  obtain ⟨v6, e2, h⟩ := xz_d1 h
  cases h
  show v6 = w.1
  unfold f_Scales_finding at e2
  rw [zwi b3] at e2
  by_cases c5 : 0 ≤ a3 ∧ a3 ≤ 4
  rotate_left
  · rw [if_neg c5] at g6
    subst g6
    rw [if_neg (by decide +kernel)] at k
    cases k
    show v6 = -1
    rw [if_pos (by omega)] at e2
    rcases xp_if e2 with ⟨_, e2⟩ | ⟨_, e2⟩
    · rw [if_neg (by omega), if_neg (by omega), if_neg (by omega), if_neg (by omega)] at e2
      cases e2
      rfl
    · cases e2
      rfl
  rw [if_pos c5] at g6
  subst g6
  rw [if_pos (by decide +kernel)] at k
  replace k := xp_n (xp_n (xp_g k).2)
  have er : row (zi_w 1).toNat = ch := ec.symm
  rw [er] at k
  obtain ⟨g0, z0, k⟩ := cu_71 zfu 0 _ (by decide) (fun j hj => absurd hj (by omega)) k
  unfold f_Scales_suspect at e1
  replace e1 := xp_n (xp_n e1)
  obtain ⟨a3', e3, e1⟩ := xz_d1 e1
  unfold f_Arrays_fill_n6 at e3
  have f0 := c_fill zfu 0 _ (by decide) (fun j hj => absurd hj (by omega)) e3
  have b64 := zi_shl1 hc
  obtain ⟨M, g', S, eS, q1, q2, q3, k⟩ := cu_loop hc hr ht (by omega) (by omega) zfu zfu 0 0 (-1) (zi_shl 1 ch - 1) 0 a3' g0 (by omega) (by omega) (fun j hj => by rw [z0 j hj, f0 j hj]) (fun j hj => by rw [f0 j hj]; decide) e1 k
  clear e1
  dsimp only at q1 q2 q3 k
  replace k : f_HM_culprits_95_b row (f_HM_culprits_95 row M) a1 a2 a3 ch v1 v2 v3 v4 S 0 g' = some w := k
  unfold f_HM_culprits_95_b at k
  replace k := xp_n k
  rw [eS, if_pos (Int.le_refl _), zwi b3] at k
  by_cases c6 : a3 ≠ 0
  rotate_left
  · rw [if_neg c6] at e2 k
    cases e2
    cases k
    rfl
  rw [if_pos c6] at e2 k
  by_cases c7 : zi_w v1 ≠ 0
  rotate_left
  · rw [if_neg c7] at e2 k
    cases e2
    cases k
    rfl
  rw [if_pos c7] at e2 k
  rw [show zi_w 1 = 1 from by decide +kernel, show zi_w 2 = 2 from by decide +kernel, show zi_w 3 = 3 from by decide +kernel] at k
  by_cases c8 : a3 = 1
  · rw [if_pos c8] at e2
    rw [if_neg (fun z => z c8)] at k
    cases e2
    cases k
    rfl
  rw [if_neg c8] at e2
  rw [if_pos c8] at k
  by_cases c9 : a3 = 2
  · rw [if_pos c9] at e2
    rw [if_neg (fun z => z c9)] at k
    cases e2
    cases k
    rfl
  rw [if_neg c9] at e2
  rw [if_pos c9] at k
  by_cases c10 : a3 = 3
  · rw [if_pos c10] at e2
    rw [if_neg (fun z => z c10)] at k
    replace e2 := xp_n (xp_n (xp_n (xp_n e2)))
    replace k := xp_n (xp_n (xp_n (xp_n k)))
    cases e2
    cases k
    rfl
  rw [if_neg c10, if_pos (by omega)] at e2
  rw [if_pos c10] at k
  obtain ⟨y1, e4, e2⟩ := xz_d1 e2
  obtain ⟨y2, e5, k⟩ := xz_d1 k
  cases e2
  cases k
  show v6 = y2
  unfold f_Scales_bestToWeigh at e4
  unfold f_HM_bestToWeigh at e5
  replace e5 := xp_n e5
  exact cu_best hc ec q1 q2 q3 zfu zfu 0 _ _ _ _ (by omega) (Or.inl ⟨rfl, rfl, rfl⟩) e4 e5
set_option maxHeartbeats 4000000 in
set_option maxRecDepth 10000 in
theorem c_29 {N : Int} {σ : Nat → Int} {τ : Nat → Nat → Int} (hI : INV N σ τ) (a1 : Int) (a2 : Int) (a3 : Int) (b_a1 : (-2147483648) ≤ a1 ∧ a1 ≤ 2147483647) (b_a2 : (-2147483648) ≤ a2 ∧ a2 ≤ 2147483647) (b_a3 : (-2147483648) ≤ a3 ∧ a3 ≤ 2147483647) {o : Int × Int × Int × Int × Int × Int × Int × (Nat → Int) × (Nat → Int)} (h : f_OP_29 N a1 a2 a3 (σ 4) (σ 26) (σ 45) (σ 46) (σ 47) (σ 48) (τ 4) (τ 29) (τ 36) (τ 62) = some o) : o.1 = o.2.1 := by
  have zg1 := hI.2
  have zg2 := zg1.2
  have zg3 := zg2.2
  have zg4 := zg3.2
  have zg5 := zg4.2
  have zg6 := zg5.2
  have zg7 := zg6.2
  have zg8 := zg7.2
  have zg9 := zg8.2
  have zg10 := zg9.2
  have zg11 := zg10.2
  have zg12 := zg11.2
  have zg13 := zg12.2
  have zg14 := zg13.2
  have zg15 := zg14.2
  have zg16 := zg15.2
  have zg17 := zg16.2
  have zg18 := zg17.2
  have zg19 := zg18.2
  have zg20 := zg19.2
  have zg21 := zg20.2
  have zg22 := zg21.2
  have zg23 := zg22.2
  have zg24 := zg23.2
  have zg25 := zg24.2
  have zg26 := zg25.2
  have zg27 := zg26.2
  have zg28 := zg27.2
  have zg29 := zg28.2
  have zg30 := zg29.2
  have zg31 := zg30.2
  have zg32 := zg31.2
  have zg33 := zg32.2
  have zg34 := zg33.2
  have zg35 := zg34.2
  have zg36 := zg35.2
  have zg37 := zg36.2
  have zg38 := zg37.2
  have zg39 := zg38.2
  have zg40 := zg39.2
  have zg41 := zg40.2
  have zg42 := zg41.2
  have zg43 := zg42.2
  have zg44 := zg43.2
  have zg45 := zg44.2
  have zg46 := zg45.2
  have zg47 := zg46.2
  have zg48 := zg47.2
  have zg49 := zg48.2
  have zg50 := zg49.2
  have zg51 := zg50.2
  have zg52 := zg51.2
  have zg53 := zg52.2
  have zg54 := zg53.2
  have zg55 := zg54.2
  have zg56 := zg55.2
  have zg57 := zg56.2
  have zg58 := zg57.2
  have zg59 := zg58.2
  have zg60 := zg59.2
  have zg61 := zg60.2
  have zg62 := zg61.2
  have zg63 := zg62.2
  have zg64 := zg63.2
  have zg65 := zg64.2
  have zg66 := zg65.2
  have zg67 := zg66.2
  have zg68 := zg67.2
  have zg69 := zg68.2
  have zg70 := zg69.2
  have zg71 := zg70.2
  have zg72 := zg71.2
  have zg73 := zg72.2
  have zg74 := zg73.2
  have zg75 := zg74.2
  have zg76 := zg75.2
  have zg77 := zg76.2
  have zg78 := zg77.2
  have zg79 := zg78.2
  have zg80 := zg79.2
  have zg81 := zg80.2
  have zg82 := zg81.2
  have zg83 := zg82.2
  have zg84 := zg83.2
  have zg85 := zg84.2
  have zg86 := zg85.2
  have zg87 := zg86.2
  have zg88 := zg87.2
  have zg89 := zg88.2
  have zg90 := zg89.2
  have zg91 := zg90.2
  have zg92 := zg91.2
  have zg93 := zg92.2
  have zg94 := zg93.2
  have zg95 := zg94.2
  have zg96 := zg95.2
  have zg97 := zg96.2
  have zg98 := zg97.2
  have zg99 := zg98.2
  have zg100 := zg99.2
  have zg101 := zg100.2
  have zg102 := zg101.2
  have zg103 := zg102.2
  have zg104 := zg103.2
  have zg105 := zg104.2
  have zg106 := zg105.2
  have zg107 := zg106.2
  have zg108 := zg107.2
  have zg109 := zg108.2
  have zg110 := zg109.2
  have zg111 := zg110.2
  have zg112 := zg111.2
  have zg113 := zg112.2
  have zg114 := zg113.2
  have zg115 := zg114.2
  have zg116 := zg115.2
  have zg117 := zg116.2
  have zg118 := zg117.2
  have zg119 := zg118.2
  have zg120 := zg119.2
  have zg121 := zg120.2
  have zg122 := zg121.2
  have zg123 := zg122.2
  have zg124 := zg123.2
  have zg125 := zg124.2
  have I_s26 := zg3.1
  have R_ch := zg114.1
  have R_tr := zg118.1
  have I_t36 := zg47.1
  unfold f_OP_29 at h
  obtain ⟨x_ans, n_s45, n_s46, n_s47, n_s48, n_t62, e1, h⟩ := xz_d6 h
  obtain ⟨y_ans, n_s4, n_t29, e2, h⟩ := xz_d3 h
  have q := x_culprits b_a1 b_a2 b_a3 I_s26 R_ch R_tr I_t36 e1 e2
  cases h
  exact q
