/-! PLAN AND THE NOTES -/
theorem pn_look37 {x1 x3 : Int} {o : (Nat → Int) × (Nat → Int)} {k2 : Int → Int → (Nat → Int) → (Nat → Int) → Option ((Nat → Int) × (Nat → Int))} : ∀ (N : Nat) (x4 x5 : Int) (h t : Nat → Int), zR h 0 5 → (0 ≤ x5 ∧ x5 ≤ 5) → h (zi_w x3).toNat = x5 → f_Planner_look_37 k2 N x1 x3 x4 x5 h t = some o → ∃ h' t' : Nat → Int, zR h' 0 5 ∧ k2 x1 (x3 + 1) h' t' = some o := by
  intro N
  induction N with
  | zero => intro x4 x5 h t _ _ _ e; exact nomatch e
  | succ N ih =>
    intro x4 x5 h t hh b5 h5 e
    replace e : f_Planner_look_37_b k2 (f_Planner_look_37 k2 N) x1 x3 x4 x5 h t = some o := e
    unfold f_Planner_look_37_b at e
    rw [show zi_w 5 = 5 from by decide +kernel, zwi (x := x5) (by omega)] at e
    by_cases c : 5 ≤ x5
    · rw [if_pos c] at e
      unfold f_Planner_look_81 at e
      exact ⟨h, t, hh, xp_n e⟩
    rw [if_neg c] at e
    rcases xp_if e with ⟨_, e⟩ | ⟨_, e⟩
    · unfold f_Planner_look_81 at e
      exact ⟨h, t, hh, xp_n e⟩
    · replace e := (xp_s (xp_n (xp_g e).2)).2
      replace e := xp_n (xp_n (xp_s (xp_n e)).2)
      rw [h5] at e
      refine ih _ _ _ _ (fun j => ?_) (by omega) ?_ e
      · by_cases d : j = (zi_w x3).toNat
        · subst d; rw [zu_eq]; omega
        · rw [zu_ne _ _ d]; exact hh j
      · rw [zu_eq]
theorem pn_look2 {x1 : Int} {o : (Nat → Int) × (Nat → Int)} : ∀ (N : Nat) (x3 : Int) (h t : Nat → Int), zR h 0 5 → f_Planner_look_2 N x1 x3 h t = some o → zR o.1 0 5 := by
  intro N
  induction N with
  | zero => intro x3 h t _ e; exact nomatch e
  | succ N ih =>
    intro x3 h t hh e
    replace e : f_Planner_look_2_b (f_Planner_look_2 N) x1 x3 h t = some o := e
    unfold f_Planner_look_2_b at e
    rcases xp_if e with ⟨_, e⟩ | ⟨_, e⟩
    · cases e; exact hh
    · replace e := (xp_s (xp_s (xp_n (xp_n (xp_n e)))).2).2
      obtain ⟨h', t', q1, q2⟩ := pn_look37 zfu _ 0 _ _ (fun j => by
        by_cases d : j = (zi_w x3).toNat
        · subst d; rw [zu_eq]; decide
        · rw [zu_ne _ _ d]; exact hh j) (by decide) (zu_eq _ _ _) e
      exact ih _ _ _ q1 q2
theorem pn_224 {ch la fo : Int} {st ex te ord od : Nat → Int} {G : Prop} {cg hmany x1 x2 x3 x4 x6 x7 : Int} {wg tops : Nat → Int} {o : Int × Int × (Nat → Int) × (Nat → Int) × (Nat → Int) × (Nat → Int) × (Nat → Int) × (Nat → Int) × (Nat → Int) × (Nat → Int) × Int × Int × Int × (Nat → Int) × (Nat → Int) × (Nat → Int)} {k18 k55X : Int → Int → Int → Int → Int → Int → (Nat → Int) → (Nat → Int) → (Nat → Int) → (Nat → Int) → (Nat → Int) → (Nat → Int) → (Nat → Int) → (Nat → Int) → Int → Int → Int → (Nat → Int) → (Nat → Int) → (Nat → Int) → Option (Int × Int × (Nat → Int) × (Nat → Int) × (Nat → Int) × (Nat → Int) × (Nat → Int) × (Nat → Int) × (Nat → Int) × (Nat → Int) × Int × Int × Int × (Nat → Int) × (Nat → Int) × (Nat → Int))} {k55 : Int → Int → Int → Int → Int → Int → Int → Int → (Nat → Int) → (Nat → Int) → (Nat → Int) → (Nat → Int) → (Nat → Int) → (Nat → Int) → (Nat → Int) → (Nat → Int) → Int → Int → Int → (Nat → Int) → (Nat → Int) → (Nat → Int) → Option (Int × Int × (Nat → Int) × (Nat → Int) × (Nat → Int) × (Nat → Int) × (Nat → Int) × (Nat → Int) × (Nat → Int) × (Nat → Int) × Int × Int × Int × (Nat → Int) × (Nat → Int) × (Nat → Int))} (hk : ∀ (found queued : Int) (slots states costs before byy queue queuedAt heights : Nat → Int) (pi ti ba : Int) (nt wo pz : Nat → Int), zR heights 0 5 → NOK cg ch la fo st ex te ord od nt → k55 x1 x2 x3 x4 x6 (x7 + 1) found queued slots states costs before byy queue queuedAt heights pi ti ba nt wo pz = some o → G) (found queued : Int) (slots states costs before byy queue queuedAt heights : Nat → Int) (pi ti ba : Int) (nt wo pz : Nat → Int) (h1 : zR heights 0 5) (h2 : NOK cg ch la fo st ex te ord od nt) (e : f_Planner_goOn_224 ch la fo cg wg tops hmany st ex te ord od k18 k55 x1 x2 x3 x4 x6 x7 found queued slots states costs before byy queue queuedAt heights pi ti ba nt wo pz = some o) : G := by
  unfold f_Planner_goOn_224 at e
  exact hk _ _ _ _ _ _ _ _ _ _ _ _ _ _ _ _ h1 h2 (xp_n e)
theorem pn_123 {ch la fo : Int} {st ex te ord od : Nat → Int} {G : Prop} {cg hmany x1 x2 x3 x4 x6 x7 x8 : Int} {wg tops : Nat → Int} {o : Int × Int × (Nat → Int) × (Nat → Int) × (Nat → Int) × (Nat → Int) × (Nat → Int) × (Nat → Int) × (Nat → Int) × (Nat → Int) × Int × Int × Int × (Nat → Int) × (Nat → Int) × (Nat → Int)} {k18 : Int → Int → Int → Int → Int → Int → (Nat → Int) → (Nat → Int) → (Nat → Int) → (Nat → Int) → (Nat → Int) → (Nat → Int) → (Nat → Int) → (Nat → Int) → Int → Int → Int → (Nat → Int) → (Nat → Int) → (Nat → Int) → Option (Int × Int × (Nat → Int) × (Nat → Int) × (Nat → Int) × (Nat → Int) × (Nat → Int) × (Nat → Int) × (Nat → Int) × (Nat → Int) × Int × Int × Int × (Nat → Int) × (Nat → Int) × (Nat → Int))} {k55 : Int → Int → Int → Int → Int → Int → Int → Int → (Nat → Int) → (Nat → Int) → (Nat → Int) → (Nat → Int) → (Nat → Int) → (Nat → Int) → (Nat → Int) → (Nat → Int) → Int → Int → Int → (Nat → Int) → (Nat → Int) → (Nat → Int) → Option (Int × Int × (Nat → Int) × (Nat → Int) × (Nat → Int) × (Nat → Int) × (Nat → Int) × (Nat → Int) × (Nat → Int) × (Nat → Int) × Int × Int × Int × (Nat → Int) × (Nat → Int) × (Nat → Int))} (hk : ∀ (found queued : Int) (slots states costs before byy queue queuedAt heights : Nat → Int) (pi ti ba : Int) (nt wo pz : Nat → Int), zR heights 0 5 → NOK cg ch la fo st ex te ord od nt → k55 x1 x2 x3 x4 x6 (x7 + 1) found queued slots states costs before byy queue queuedAt heights pi ti ba nt wo pz = some o → G) (found queued : Int) (slots states costs before byy queue queuedAt heights : Nat → Int) (pi ti ba : Int) (nt wo pz : Nat → Int) (h1 : zR heights 0 5) (h2 : NOK cg ch la fo st ex te ord od nt) (e : f_Planner_goOn_123 ch la fo cg wg tops hmany st ex te ord od k18 k55 x1 x2 x3 x4 x6 x7 x8 found queued slots states costs before byy queue queuedAt heights pi ti ba nt wo pz = some o) : G := by
  have a176 : ∀ (x10 s0 : Int), f_Planner_goOn_176 ch la fo cg wg tops hmany st ex te ord od k18 k55 x1 x2 x3 x4 x6 x7 x10 s0 found queued slots states costs before byy queue queuedAt heights pi ti ba nt wo pz = some o → G := fun x10 s0 e => by
    unfold f_Planner_goOn_176 at e
    replace e := (xp_g (xp_n (xp_n (xp_n (xp_n e))))).2
    obtain ⟨v6, _, e⟩ := xz_d1 e
    replace e := xp_n (xp_g e).2
    obtain ⟨v9, v10, a11, a12, a13, a14, a15, a16, a17, _, e⟩ := xz_d9 e
    exact pn_224 (k55X := k18) hk _ _ _ _ _ _ _ _ _ _ _ _ _ _ _ _ h1 h2 e
  have a153 : ∀ (x9 s0 : Int), f_Planner_goOn_153 ch la fo cg wg tops hmany st ex te ord od k18 k55 x1 x2 x3 x4 x6 x7 x8 x9 s0 found queued slots states costs before byy queue queuedAt heights pi ti ba nt wo pz = some o → G := fun x9 s0 e => by
    unfold f_Planner_goOn_153 at e
    rcases xp_if e with ⟨_, e⟩ | ⟨_, e⟩
    · exact a176 _ _ e
    · obtain ⟨v1, _, e⟩ := xz_d1 e
      exact a176 _ _ (xp_n (xp_n (xp_n e)))
  have a133 : ∀ (s0 : Int), f_Planner_goOn_133 ch la fo cg wg tops hmany st ex te ord od k18 k55 x1 x2 x3 x4 x6 x7 x8 s0 found queued slots states costs before byy queue queuedAt heights pi ti ba nt wo pz = some o → G := fun s0 e => by
    unfold f_Planner_goOn_133 at e
    rcases xp_if e with ⟨_, e⟩ | ⟨_, e⟩
    · obtain ⟨v1, _, e⟩ := xz_d1 e
      exact a153 _ _ e
    · obtain ⟨v1, _, e⟩ := xz_d1 e
      exact a153 _ _ e
  unfold f_Planner_goOn_123 at e
  rcases xp_if e with ⟨_, e⟩ | ⟨_, e⟩
  · exact a133 _ e
  · exact a133 _ e
theorem pn_55 {ch la fo : Int} {st ex te ord od : Nat → Int} {G : Prop} {row : Nat → Int} {cg hmany x1 x2 x3 x4 x6 : Int} {wg tops : Nat → Int} {o : Int × Int × (Nat → Int) × (Nat → Int) × (Nat → Int) × (Nat → Int) × (Nat → Int) × (Nat → Int) × (Nat → Int) × (Nat → Int) × Int × Int × Int × (Nat → Int) × (Nat → Int) × (Nat → Int)} {k18 : Int → Int → Int → Int → Int → Int → (Nat → Int) → (Nat → Int) → (Nat → Int) → (Nat → Int) → (Nat → Int) → (Nat → Int) → (Nat → Int) → (Nat → Int) → Int → Int → Int → (Nat → Int) → (Nat → Int) → (Nat → Int) → Option (Int × Int × (Nat → Int) × (Nat → Int) × (Nat → Int) × (Nat → Int) × (Nat → Int) × (Nat → Int) × (Nat → Int) × (Nat → Int) × Int × Int × Int × (Nat → Int) × (Nat → Int) × (Nat → Int))} (hF : FOK ch la fo st ex te ord od row) (hcg : 0 ≤ cg ∧ cg ≤ 5000) (b3 : 0 ≤ x3 ∧ x3 ≤ 4) (b4 : 0 ≤ x4 ∧ x4 < x3) (b6 : 0 ≤ x6 ∧ x6 ≤ 30) (hk : (∀ (found queued : Int) (slots states costs before byy queue queuedAt heights : Nat → Int) (pi ti ba : Int) (nt wo pz : Nat → Int), zR heights 0 5 → NOK cg ch la fo st ex te ord od nt → k18 x1 x2 x3 (x4 + 1) found queued slots states costs before byy queue queuedAt heights pi ti ba nt wo pz = some o → G)) : ∀ (N : Nat) (x7 : Int) (found queued : Int) (slots states costs before byy queue queuedAt heights : Nat → Int) (pi ti ba : Int) (nt wo pz : Nat → Int), 0 ≤ x7 ∧ x7 ≤ x3 → zR heights 0 5 → NOK cg ch la fo st ex te ord od nt → f_Planner_goOn_55 ch la fo cg wg tops hmany st ex te ord od k18 N x1 x2 x3 x4 x6 x7 found queued slots states costs before byy queue queuedAt heights pi ti ba nt wo pz = some o → G := by
  intro N
  induction N with
  | zero => intro x7 found queued slots states costs before byy queue queuedAt heights pi ti ba nt wo pz _ _ _ e; exact nomatch e
  | succ N ih =>
    intro x7 found queued slots states costs before byy queue queuedAt heights pi ti ba nt wo pz b7 hh hN e
    replace e : f_Planner_goOn_55_b ch la fo cg wg tops hmany st ex te ord od k18 (f_Planner_goOn_55 ch la fo cg wg tops hmany st ex te ord od k18 N) x1 x2 x3 x4 x6 x7 found queued slots states costs before byy queue queuedAt heights pi ti ba nt wo pz = some o := e
    unfold f_Planner_goOn_55_b at e
    have a230 : f_Planner_goOn_230 ch la fo cg wg tops hmany st ex te ord od k18 x1 x2 x3 x4 found queued slots states costs before byy queue queuedAt heights pi ti ba nt wo pz = some o → G := fun e => by
      unfold f_Planner_goOn_230 at e
      exact hk _ _ _ _ _ _ _ _ _ _ _ _ _ _ _ _ hh hN (xp_n e)
    rw [zwi (x := x3) (by omega), zwi (x := x7) (by omega)] at e
    by_cases c : x3 ≤ x7
    · rw [if_pos c] at e
      exact a230 e
    rw [if_neg c] at e
    replace e := (xp_g e).2
    rcases xp_if e with ⟨_, e⟩ | ⟨_, e⟩
    · exact a230 e
    replace e := (xp_g (xp_g e).2).2
    have z4 := hh (zi_w x4).toNat
    have z7 := hh (zi_w x7).toNat
    obtain ⟨v4, v5, v6, v7, a8, a9, a10, e5, e⟩ := xz_d7 e
    have q := (k_note hF ⟨by omega, by omega, b6, by omega, by omega⟩ hcg hN e5).1
    have q : NOK cg ch la fo st ex te ord od a8 := q
    have kk : ∀ (found queued : Int) (slots states costs before byy queue queuedAt heights : Nat → Int) (pi ti ba : Int) (nt wo pz : Nat → Int), zR heights 0 5 → NOK cg ch la fo st ex te ord od nt → f_Planner_goOn_55 ch la fo cg wg tops hmany st ex te ord od k18 N x1 x2 x3 x4 x6 (x7 + 1) found queued slots states costs before byy queue queuedAt heights pi ti ba nt wo pz = some o → G := fun _ _ _ _ _ _ _ _ _ _ _ _ _ _ _ _ h1 h2 e => ih _ _ _ _ _ _ _ _ _ _ _ _ _ _ _ _ _ (by omega) h1 h2 e
    rcases xp_if e with ⟨_, e⟩ | ⟨_, e⟩
    · exact pn_224 (k55X := k18) kk _ _ _ _ _ _ _ _ _ _ _ _ _ _ _ _ hh q e
    rcases xp_if e with ⟨_, e⟩ | ⟨_, e⟩
    · exact pn_123 kk _ _ _ _ _ _ _ _ _ _ _ _ _ _ _ _ hh q e
    · obtain ⟨v11, a12, e6, e⟩ := xz_d2 e
      have sf := zok_x (s_Planner_isSafe x4 x7 x3 te heights (by omega) (by omega) (by omega) hF.2.2.2.2.1 hh) e6
      have h12 : zR a12 0 5 := sf.2
      rcases xp_if e with ⟨_, e⟩ | ⟨_, e⟩
      · exact pn_224 (k55X := k18) kk _ _ _ _ _ _ _ _ _ _ _ _ _ _ _ _ h12 q e
      · exact pn_123 kk _ _ _ _ _ _ _ _ _ _ _ _ _ _ _ _ h12 q e
theorem pn_18 {ch la fo : Int} {st ex te ord od : Nat → Int} {row : Nat → Int} {cg hmany x1 x2 x3 : Int} {wg tops : Nat → Int} {o : Int × Int × (Nat → Int) × (Nat → Int) × (Nat → Int) × (Nat → Int) × (Nat → Int) × (Nat → Int) × (Nat → Int) × (Nat → Int) × Int × Int × Int × (Nat → Int) × (Nat → Int) × (Nat → Int)} (hF : FOK ch la fo st ex te ord od row) (hcg : 0 ≤ cg ∧ cg ≤ 5000) (b3 : 0 ≤ x3 ∧ x3 ≤ 4) (hwg : zR wg 0 30) : ∀ (N : Nat) (x4 : Int) (found queued : Int) (slots states costs before byy queue queuedAt heights : Nat → Int) (pi ti ba : Int) (nt wo pz : Nat → Int), 0 ≤ x4 → x4 ≤ x3 → zR heights 0 5 → NOK cg ch la fo st ex te ord od nt → f_Planner_goOn_18 ch la fo cg wg tops hmany st ex te ord od N x1 x2 x3 x4 found queued slots states costs before byy queue queuedAt heights pi ti ba nt wo pz = some o → zR o.2.2.2.2.2.2.2.2.2.1 0 5 ∧ NOK cg ch la fo st ex te ord od o.2.2.2.2.2.2.2.2.2.2.2.2.2.1 := by
  intro N
  induction N with
  | zero => intro x4 found queued slots states costs before byy queue queuedAt heights pi ti ba nt wo pz _ _ _ _ e; exact nomatch e
  | succ N ih =>
    intro x4 found queued slots states costs before byy queue queuedAt heights pi ti ba nt wo pz b4 b5 hh hN e
    replace e : f_Planner_goOn_18_b ch la fo cg wg tops hmany st ex te ord od (f_Planner_goOn_18 ch la fo cg wg tops hmany st ex te ord od N) x1 x2 x3 x4 found queued slots states costs before byy queue queuedAt heights pi ti ba nt wo pz = some o := e
    unfold f_Planner_goOn_18_b at e
    by_cases c4 : x3 ≤ x4
    · rw [zwi (x := x3) (by omega), zwi (x := x4) (by omega), if_pos c4] at e
      cases e
      exact ⟨hh, hN⟩
    rw [zwi (x := x3) (by omega), zwi (x := x4) (by omega), if_neg c4] at e
    replace e := (xp_g e).2
    have kk : ∀ (found queued : Int) (slots states costs before byy queue queuedAt heights : Nat → Int) (pi ti ba : Int) (nt wo pz : Nat → Int), zR heights 0 5 → NOK cg ch la fo st ex te ord od nt → f_Planner_goOn_18 ch la fo cg wg tops hmany st ex te ord od N x1 x2 x3 (x4 + 1) found queued slots states costs before byy queue queuedAt heights pi ti ba nt wo pz = some o → zR o.2.2.2.2.2.2.2.2.2.1 0 5 ∧ NOK cg ch la fo st ex te ord od o.2.2.2.2.2.2.2.2.2.2.2.2.2.1 := fun _ _ _ _ _ _ _ _ _ _ _ _ _ _ _ _ h1 h2 e => ih _ _ _ _ _ _ _ _ _ _ _ _ _ _ _ _ _ (by omega) (by omega) h1 h2 e
    rcases xp_if e with ⟨_, e⟩ | ⟨_, e⟩
    · unfold f_Planner_goOn_50 at e
      exact pn_55 hF hcg b3 ⟨b4, by omega⟩ (by decide) kk zfu 0 _ _ _ _ _ _ _ _ _ _ _ _ _ _ _ _ (by omega) hh hN e
    · replace e := (xp_g e).2
      unfold f_Planner_goOn_50 at e
      exact pn_55 hF hcg b3 ⟨b4, by omega⟩ (hwg _) kk zfu 0 _ _ _ _ _ _ _ _ _ _ _ _ _ _ _ _ (by omega) hh hN e
theorem pn_goOn {ch la fo : Int} {st ex te ord od : Nat → Int} {row : Nat → Int} {cg hmany x1 x2 : Int} {wg tops : Nat → Int} {o : Int × Int × (Nat → Int) × (Nat → Int) × (Nat → Int) × (Nat → Int) × (Nat → Int) × (Nat → Int) × (Nat → Int) × (Nat → Int) × Int × Int × Int × (Nat → Int) × (Nat → Int) × (Nat → Int)} (hF : FOK ch la fo st ex te ord od row) (hcg : 0 ≤ cg ∧ cg ≤ 5000) (hm : 0 ≤ hmany ∧ hmany ≤ 12) (hwg : zR wg 0 30) (found queued : Int) (slots states costs before byy queue queuedAt heights : Nat → Int) (pi ti ba : Int) (nt wo pz : Nat → Int) (hh : zR heights 0 5) (hN : NOK cg ch la fo st ex te ord od nt) (e : f_Planner_goOn x1 x2 ch la fo cg wg tops hmany st ex te ord od found queued slots states costs before byy queue queuedAt heights pi ti ba nt wo pz = some o) : zR o.2.2.2.2.2.2.2.2.2.1 0 5 ∧ NOK cg ch la fo st ex te ord od o.2.2.2.2.2.2.2.2.2.2.2.2.2.1 := by
  unfold f_Planner_goOn at e
  have m := zi_min_f 4 (by decide) hmany (by omega)
  exact pn_18 hF hcg (by omega) hwg zfu 0 _ _ _ _ _ _ _ _ _ _ _ _ _ _ _ _ (by decide) (by omega) hh hN (xp_n e)
theorem pn_33 {ch la fo : Int} {st ex te ord od : Nat → Int} {row : Nat → Int} {cg hmany x1 : Int} {go HH HW : Nat → Int} {o : Int × Int × Int × Int × (Nat → Int) × (Nat → Int) × (Nat → Int) × (Nat → Int) × (Nat → Int) × (Nat → Int) × (Nat → Int) × (Nat → Int) × (Nat → Int) × (Nat → Int) × Int × Int × Int × (Nat → Int) × (Nat → Int) × (Nat → Int)} (hF : FOK ch la fo st ex te ord od row) (hcg : 0 ≤ cg ∧ cg ≤ 5000) (hm : 0 ≤ hmany ∧ hmany ≤ 12) : ∀ (N : Nat) (x2 x3 : Int) (kinds found queued : Int) (slots states costs before byy queue queuedAt wg heights tops : Nat → Int) (pi ti ba : Int) (nt wo pz : Nat → Int), zR wg 0 30 → zR heights 0 5 → NOK cg ch la fo st ex te ord od nt → f_Planner_search_33 ch la fo cg hmany st ex te go ord od HH HW N x1 x2 x3 kinds found queued slots states costs before byy queue queuedAt wg heights tops pi ti ba nt wo pz = some o → NOK cg ch la fo st ex te ord od o.2.2.2.2.2.2.2.2.2.2.2.2.2.2.2.2.2.1 ∧ True := by
  intro N
  induction N with
  | zero => intro x2 x3 kinds found queued slots states costs before byy queue queuedAt wg heights tops pi ti ba nt wo pz _ _ _ e; exact nomatch e
  | succ N ih =>
    intro x2 x3 kinds found queued slots states costs before byy queue queuedAt wg heights tops pi ti ba nt wo pz hwg hh hN e
    replace e : f_Planner_search_33_b ch la fo cg hmany st ex te go ord od HH HW (f_Planner_search_33 ch la fo cg hmany st ex te go ord od HH HW N) x1 x2 x3 kinds found queued slots states costs before byy queue queuedAt wg heights tops pi ti ba nt wo pz = some o := e
    unfold f_Planner_search_33_b at e
    have a140 : ∀ (x2' x3' : Int) (kinds found queued : Int) (slots states costs before byy queue queuedAt wg heights tops : Nat → Int) (pi ti ba : Int) (nt wo pz : Nat → Int), zR wg 0 30 → zR heights 0 5 → NOK cg ch la fo st ex te ord od nt → f_Planner_search_140 ch la fo cg hmany st ex te go ord od HH HW (f_Planner_search_33 ch la fo cg hmany st ex te go ord od HH HW N) x1 x2' x3' kinds found queued slots states costs before byy queue queuedAt wg heights tops pi ti ba nt wo pz = some o → NOK cg ch la fo st ex te ord od o.2.2.2.2.2.2.2.2.2.2.2.2.2.2.2.2.2.1 ∧ True := fun x2' x3' kinds found queued slots states costs before byy queue queuedAt wg heights tops pi ti ba nt wo pz h1 h2 h3 e => by
      unfold f_Planner_search_140 at e
      exact ih _ _ _ _ _ _ _ _ _ _ _ _ _ _ _ _ _ _ _ _ _ h1 h2 h3 (xp_n e)
    have a122 : ∀ (x3' x4' : Int) (kinds found queued : Int) (slots states costs before byy queue queuedAt wg heights tops : Nat → Int) (pi ti ba : Int) (nt wo pz : Nat → Int), zR wg 0 30 → zR heights 0 5 → NOK cg ch la fo st ex te ord od nt → f_Planner_search_122 ch la fo cg hmany st ex te go ord od HH HW (f_Planner_search_33 ch la fo cg hmany st ex te go ord od HH HW N) x1 x3' x4' kinds found queued slots states costs before byy queue queuedAt wg heights tops pi ti ba nt wo pz = some o → NOK cg ch la fo st ex te ord od o.2.2.2.2.2.2.2.2.2.2.2.2.2.2.2.2.2.1 ∧ True := fun x3' x4' kinds found queued slots states costs before byy queue queuedAt wg heights tops pi ti ba nt wo pz h1 h2 h3 e => by
      unfold f_Planner_search_122 at e
      exact a140 _ _ _ _ _ _ _ _ _ _ _ _ _ _ _ _ _ _ _ _ _ h1 h2 h3 e
    have a77 : ∀ (x4' queued' : Int) (queue' queuedAt' : Nat → Int), f_Planner_search_77 ch la fo cg hmany st ex te go ord od HH HW (f_Planner_search_33 ch la fo cg hmany st ex te go ord od HH HW N) x1 x2 x3 x4' kinds found queued' slots states costs before byy queue' queuedAt' wg heights tops pi ti ba nt wo pz = some o → NOK cg ch la fo st ex te ord od o.2.2.2.2.2.2.2.2.2.2.2.2.2.2.2.2.2.1 ∧ True := fun x4' queued' queue' queuedAt' e => by
      unfold f_Planner_search_77 at e
      replace e := (xp_g e).2
      obtain ⟨a2, a3, e2, e⟩ := xz_d2 e
      unfold f_Planner_look at e2
      have h2 : zR a2 0 5 := pn_look2 zfu _ _ _ hh e2
      obtain ⟨v4, _, e⟩ := xz_d1 e
      rcases xp_if e with ⟨_, e⟩ | ⟨_, e⟩
      · rcases xp_if e with ⟨_, e⟩ | ⟨_, e⟩
        · exact a140 _ _ _ _ _ _ _ _ _ _ _ _ _ _ _ _ _ _ _ _ _ hwg h2 hN e
        · obtain ⟨v5, v6, a7, a8, a9, a10, a11, a12, a13, a14, v15, v16, v17, a18, a19, a20, e3, e⟩ := xz_d16 e
          have q := pn_goOn hF hcg hm hwg _ _ _ _ _ _ _ _ _ _ _ _ _ _ _ _ h2 hN e3
          exact a140 _ _ _ _ _ _ _ _ _ _ _ _ _ _ _ _ _ _ _ _ _ hwg q.1 q.2 e
      · rcases xp_if e with ⟨_, e⟩ | ⟨_, e⟩
        · exact a122 _ _ _ _ _ _ _ _ _ _ _ _ _ _ _ _ _ _ _ _ _ hwg h2 hN e
        · replace e := (xp_g (xp_g e).2).2
          obtain ⟨v23, _, e⟩ := xz_d1 e
          rcases xp_if e with ⟨_, e⟩ | ⟨_, e⟩
          · exact a140 _ _ _ _ _ _ _ _ _ _ _ _ _ _ _ _ _ _ _ _ _ hwg h2 hN e
          · exact a122 _ _ _ _ _ _ _ _ _ _ _ _ _ _ _ _ _ _ _ _ _ hwg h2 hN e
    rcases xp_if e with ⟨_, e⟩ | ⟨_, e⟩
    · cases e
      exact ⟨hN, trivial⟩
    rcases xp_if e with ⟨_, e⟩ | ⟨_, e⟩
    · cases e
      exact ⟨hN, trivial⟩
    obtain ⟨v1, v2, a3, a4, _, e⟩ := xz_d4 e
    rcases xp_if e with ⟨_, e⟩ | ⟨_, e⟩
    · exact a77 _ _ _ _ e
    replace e := (xp_g (xp_g e).2).2
    rcases xp_if e with ⟨_, e⟩ | ⟨_, e⟩
    · exact a77 _ _ _ _ e
    · cases e
      exact ⟨hN, trivial⟩
theorem pn_search {ch la fo : Int} {st ex te ord od : Nat → Int} {row : Nat → Int} {cg hmany x1 : Int} {go HH HW : Nat → Int} {o : Int × Int × Int × Int × (Nat → Int) × (Nat → Int) × (Nat → Int) × (Nat → Int) × (Nat → Int) × (Nat → Int) × (Nat → Int) × (Nat → Int) × (Nat → Int) × (Nat → Int) × Int × Int × Int × (Nat → Int) × (Nat → Int) × (Nat → Int)} (hF : FOK ch la fo st ex te ord od row) (hcg : 0 ≤ cg ∧ cg ≤ 5000) (hm : 0 ≤ hmany ∧ hmany ≤ 12) (hH : zR HH 0 10) (hW : zR HW 0 30) (kinds found queued : Int) (slots states costs before byy queue queuedAt wg heights tops : Nat → Int) (pi ti ba : Int) (nt wo pz : Nat → Int) (bk : 0 ≤ kinds ∧ kinds ≤ 5) (hwg : zR wg 0 30) (hh : zR heights 0 5) (hN : NOK cg ch la fo st ex te ord od nt) (e : f_Planner_search x1 ch la fo cg hmany st ex te go ord od HH HW kinds found queued slots states costs before byy queue queuedAt wg heights tops pi ti ba nt wo pz = some o) : NOK cg ch la fo st ex te ord od o.2.2.2.2.2.2.2.2.2.2.2.2.2.2.2.2.2.1 := by
  unfold f_Planner_search at e
  obtain ⟨a1, _, e⟩ := xz_d1 e
  obtain ⟨v2, v3, a4, e2, e⟩ := xz_d3 e
  have q := zok_x (s_Planner_firstState hmany HH HW kinds wg hm hH hW bk hwg) e2
  have q4 : zR a4 0 30 := q.2.2
  obtain ⟨v5, v6, a7, a8, a9, a10, a11, a12, a13, _, e⟩ := xz_d9 e
  exact (pn_33 hF hcg hm zfu _ _ _ _ _ _ _ _ _ _ _ _ _ _ _ _ _ _ _ _ _ q4 hh hN e).1
