def zOI (l : List Int) (z k : Nat) (x3 : Int) (sm ta : Nat → Int) : Prop := ∃ p q : List Int, l = p ++ q ∧ q.length = k ∧ x3 = zcode p ∧ q.count 0 = z ∧ q.reverse = zrv sm ta z ++ zcol sm (3 - z) (ta (3 - z)).toNat ∧ (∀ c, c < 4 → 0 ≤ ta c ∧ ta c ≤ 5) ∧ (∀ c, c < 3 - z → ta c = 0)
theorem zcount_le (l : List Int) : l.count 0 ≤ l.length := List.count_le_length
theorem zcode_n (l : List Int) (h : ∀ d, d ∈ l → 0 ≤ d) : 0 ≤ zcode l := by
  induction hk : l.length generalizing l with
  | zero =>
    have : l = [] := List.length_eq_zero_iff.mp hk
    subst this
    decide
  | succ k ih =>
    rcases List.eq_nil_or_concat l with e | ⟨p, d, e⟩
    · subst e; exact absurd hk (by simp)
    · have e2 : l = p ++ [d] := by rw [e]; simp
      subst e2
      rw [List.length_append, List.length_singleton] at hk
      have h1 := ih p (fun x hx => h x (List.mem_append.mpr (Or.inl hx))) (by omega)
      have h2 := h d (List.mem_append.mpr (Or.inr (List.mem_singleton.mpr rfl)))
      rw [zcode_snoc]
      omega
theorem zOI_step {n : Nat} {l : List Int} {z k : Nat} {x3 : Int} {sm ta : Nat → Int} (hn : n ≤ 5) (hl : zD n l) (h : zOI l z k x3 sm ta) (hk : k < n + 3) : z ≤ 3 ∧ (0 ≤ x3 ∧ x3 ≤ 1679615) ∧ ((x3 % 6 = 0 → z ≤ 2 ∧ zOI l (z + 1) (k + 1) (x3 / 6) sm ta) ∧ (x3 % 6 ≠ 0 → ta (3 - z) ≤ 4 ∧ ∀ (sm' ta' : Nat → Int), sm' = zu sm (5 * (3 - z) + (ta (3 - z)).toNat) (x3 % 6 - 1) → ta' = zu ta (3 - z) (ta (3 - z) + 1) → zOI l z (k + 1) (x3 / 6) sm' ta')) := by
  obtain ⟨p, q, e1, e2, e3, e4, e5, e6, e7⟩ := h
  have hlen := zD_len hl
  have hcnt := zD_c hl
  have hr := zD_r hl
  rw [e1, List.length_append] at hlen
  rw [e1, List.count_append] at hcnt
  rcases List.eq_nil_or_concat p with ep | ⟨p', d, ep⟩
  · subst ep
    simp only [List.length_nil] at hlen
    omega
  · have ep2 : p = p' ++ [d] := by rw [ep]; simp
    subst ep2
    have hd := hr d (by rw [e1]; exact List.mem_append.mpr (Or.inl (List.mem_append.mpr (Or.inr (List.mem_singleton.mpr rfl)))))
    have hb : 0 ≤ zcode (p' ++ [d]) ∧ zcode (p' ++ [d]) ≤ 1679615 := zcode_p (by omega) (fun x hx => by
      have := hr x (by rw [e1]; exact List.mem_append.mpr (Or.inl hx))
      omega)
    have hb2 : 0 ≤ zcode p' := zcode_n p' (fun x hx => (hr x (by rw [e1]; exact List.mem_append.mpr (Or.inl (List.mem_append.mpr (Or.inl hx))))).1)
    have hx : x3 % 6 = d ∧ x3 / 6 = zcode p' := by
      rw [e3, zcode_snoc]
      omega
    have el : l = p' ++ (d :: q) := by rw [e1, List.append_assoc]; rfl
    have hc1 : (p' ++ [d]).count 0 = p'.count 0 + [d].count 0 := List.count_append
    have hp := zcount_le p'
    have hz : z ≤ 3 := by omega
    have c3 := e6 (3 - z) (by omega)
    rw [List.length_append, List.length_singleton] at hlen
    refine ⟨hz, by rw [e3]; exact hb, fun h0 => ?_, fun h0 => ?_⟩
    · have d0 : d = 0 := by omega
      have hc2 : [d].count 0 = 1 := by rw [d0]; decide
      have hz2 : z ≤ 2 := by omega
      refine ⟨hz2, p', d :: q, el, by rw [List.length_cons]; omega, hx.2, ?_, ?_, e6, fun c hc => e7 c (by omega)⟩
      · rw [d0, List.count_cons_self, e4]
      · rw [List.reverse_cons, e5, e7 (3 - (z + 1)) (by omega), d0]
        show _ = (zrv sm ta z ++ zcol sm (3 - z) (ta (3 - z)).toNat ++ [0]) ++ []
        rw [List.append_nil]
    · have d0 : d ≠ 0 := by omega
      have hc2 : [d].count 0 = 0 := by
        rw [List.count_cons_of_ne d0]
        rfl
      have hq : q.length = (zrv sm ta z).length + (ta (3 - z)).toNat := by
        have := congrArg List.length e5
        rw [List.length_reverse, List.length_append, zcol_len] at this
        exact this
      have hzl := zrv_len sm ta z
      refine ⟨by omega, fun sm' ta' es et => ?_⟩
      have t1 := zu_rd et
      have t2 := zu_rd es
      have tc : ta' (3 - z) = ta (3 - z) + 1 := by have := t1 (3 - z); omega
      refine ⟨p', d :: q, el, by rw [List.length_cons]; omega, hx.2, ?_, ?_, fun c hc => ?_, fun c hc => ?_⟩
      · rw [List.count_cons_of_ne d0, e4]
      · rw [List.reverse_cons, e5]
        have g1 : zrv sm' ta' z = zrv sm ta z := zrv_ext z hz (fun c h1 h2 => ⟨by have := t1 c; omega, fun i hi => by
          have := t2 (5 * c + i)
          have := e6 c (by omega)
          omega⟩)
        have g2 : (ta' (3 - z)).toNat = (ta (3 - z)).toNat + 1 := by omega
        have g3 : zcol sm' (3 - z) (ta (3 - z)).toNat = zcol sm (3 - z) (ta (3 - z)).toNat := zcol_ext (fun i hi => by
          have := t2 (5 * (3 - z) + i)
          omega)
        have g4 : sm' (5 * (3 - z) + (ta (3 - z)).toNat) + 1 = d := by
          have := t2 (5 * (3 - z) + (ta (3 - z)).toNat)
          omega
        rw [g1, g2, zcol_s, g3, g4, List.append_assoc]
      · have := t1 c
        have := e6 c hc
        omega
      · have := t1 c
        have := e7 c hc
        omega
def zOP (n : Nat) (l : List Int) (o : (Nat → Int) × (Nat → Int)) : Prop := zdig o.1 o.2 = l ∧ zSm n o.1 o.2
theorem z_os31 (n : Nat) (l : List Int) (hn : n ≤ 5) (hl : zD n l) (x2 : Int) (h2 : x2 = (n : Int)) : ∀ (m z k : Nat) (x3 x4 x5 : Int) (sm ta : Nat → Int), x4 = 3 - (z : Int) → x5 = (k : Int) → k ≤ n + 3 → zOI l z k x3 sm ta → n + 4 - k ≤ m → zok (f_HM_openSmall_31 m x2 x3 x4 x5 sm ta) (zOP n l) := by
  intro m
  induction m with
  | zero => intro z k x3 x4 x5 sm ta e4 e5 hk h hm; exact absurd hm (by omega)
  | succ m ih =>
    intro z k x3 x4 x5 sm ta e4 e5 hk h hm
    show zok (f_HM_openSmall_31_b (f_HM_openSmall_31 m) x2 x3 x4 x5 sm ta) _
    unfold f_HM_openSmall_31_b
    refine zk_nE (fun v1 e1 => ?_)
    refine zk_ifc (zci_le (by omega) (by omega)) (fun hc1 => ?_) (fun hc1 => ?_)
    · obtain ⟨p, q, g1, g2, g3, g4, g5, g6, g7⟩ := h
      have hlen := zD_len hl
      rw [g1, List.length_append] at hlen
      have hp : p = [] := List.length_eq_zero_iff.mp (by omega)
      rw [hp, List.nil_append] at g1
      have hcnt := zD_c hl
      rw [g1, g4] at hcnt
      subst hcnt
      refine zok_mono (z_os102 sm ta g6 zfu 0 0 sm rfl (by omega) (fun c' hc' => absurd hc' (by omega)) (fun i _ => rfl) (by unfold zfu; omega)) ?_
      intro o ho
      obtain ⟨o1, o2⟩ := ho
      have o3 : zdig o.1 o.2 = l := by
        rw [o1, ← g5, List.reverse_reverse, g1]
      refine ⟨o3, hn, ?_, by rw [o3]; exact hl⟩
      rw [o2]
      exact ⟨(g6 0 (by decide)).1, (g6 1 (by decide)).1, (g6 2 (by decide)).1, (g6 3 (by decide)).1⟩
    · have hs := zOI_step hn hl h (by omega)
      obtain ⟨hz, hb, hA, hB⟩ := hs
      have ht : 0 ≤ ta (3 - z) := by
        obtain ⟨p, q, g1, g2, g3, g4, g5, g6, g7⟩ := h
        exact (g6 (3 - z) (by omega)).1
      refine zk_g0zi_w (by omega) ?_
      refine zk_nE (fun v2 e2 => ?_)
      rw [zi_rem_n (by omega) (by omega)] at e2
      refine zk_g0zi_w (by omega) ?_
      refine zk_nE (fun v3 e3 => ?_)
      rw [zi_div_n (by omega) (by omega)] at e3
      refine zk_ifc (zci_ner (by omega)) (fun hc2 => ?_) (fun hc2 => ?_)
      · obtain ⟨hB1, hB2⟩ := hB (by omega)
        refine zk_nE (fun v4 e4' => ?_)
        refine zk_gl (3 - z) (by omega) (by omega) (by decide) (fun v5 e5' => ?_)
        refine zk_nE (fun v6 e6 => ?_)
        refine zk_nE (fun v7 e7 => ?_)
        refine zk_sl (5 * (3 - z) + (ta (3 - z)).toNat) (by omega) (by omega) (by decide) (fun a8 e8 => ?_)
        refine zk_gl (3 - z) (by omega) (by omega) (by decide) (fun v9 e9 => ?_)
        refine zk_nE (fun v10 e10 => ?_)
        refine zk_sl (3 - z) (by omega) (by omega) (by decide) (fun a11 e11 => ?_)
        unfold f_HM_openSmall_93
        refine zk_nE (fun w hw => ?_)
        refine ih z (k + 1) _ x4 _ _ _ e4 (by omega) (by omega) ?_ (by omega)
        rw [e3]
        refine hB2 a8 a11 ?_ ?_
        · rw [e8, e7, e2]
        · rw [e11, e10, e9]
      · obtain ⟨hA1, hA2⟩ := hA (by omega)
        refine zk_nE (fun v12 e12 => ?_)
        unfold f_HM_openSmall_93
        refine zk_nE (fun w hw => ?_)
        refine ih (z + 1) (k + 1) _ _ _ _ _ (by omega) (by omega) (by omega) ?_ (by omega)
        rw [e3]
        exact hA2
theorem z_os8 (n : Nat) (l : List Int) (hn : n ≤ 5) (hl : zD n l) (x2 x3 : Int) (h2 : x2 = (n : Int)) (h3 : x3 = zcode l) : ∀ (m k : Nat) (x5 : Int) (sm ta : Nat → Int), x5 = (k : Int) → k ≤ 4 → (∀ c, c < k → ta c = 0) → 5 - k ≤ m → zok (f_HM_openSmall_8 m x2 x3 3 x5 sm ta) (zOP n l) := by
  intro m
  induction m with
  | zero => intro k x5 sm ta e5 hk h hm; exact absurd hm (by omega)
  | succ m ih =>
    intro k x5 sm ta e5 hk h hm
    show zok (f_HM_openSmall_8_b (f_HM_openSmall_8 m) x2 x3 3 x5 sm ta) _
    unfold f_HM_openSmall_8_b
    refine zk_ifc (zci_le (by omega) (by omega)) (fun hc1 => ?_) (fun hc1 => ?_)
    · refine z_os31 n l hn hl x2 h2 zfu 0 0 x3 3 0 sm ta rfl rfl (by omega) ?_ (by unfold zfu; omega)
      refine ⟨l, [], (List.append_nil l).symm, rfl, h3, rfl, ?_, fun c hc => by have := h c (by omega); omega, fun c hc => h c (by omega)⟩
      show [] = [] ++ zcol sm 3 (ta 3).toNat
      rw [h 3 (by omega)]
      rfl
    · refine zk_sl k (by omega) (by omega) (by decide) (fun a1 e1 => ?_)
      refine zk_nE (fun v2 e2 => ?_)
      refine ih (k + 1) v2 sm a1 (by omega) (by omega) (fun c hc => ?_) (by omega)
      have := zu_rd e1 c
      have : c < k → ta c = 0 := h c
      omega
theorem z_openSmall {n : Nat} {l : List Int} (hn : n ≤ 5) (hl : zD n l) (x1 x2 : Int) (h1 : x1 = zcode l) (h2 : x2 = (n : Int)) (sm ta : Nat → Int) : zok (f_HM_openSmall x1 x2 sm ta) (zOP n l) := by
  unfold f_HM_openSmall
  exact z_os8 n l hn hl x2 x1 h2 h1 zfu 0 0 sm ta rfl (by decide) (fun c hc => absurd hc (by omega)) (by unfold zfu; omega)

