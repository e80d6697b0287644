/-! THE CLASS'S SEARCH -/
def KREL (r : Int × Int) (best f t : Int) : Prop := best = r.1 ∧ ((r.1 = -1 ∧ f = -1 ∧ t = -1) ∨ ((0 ≤ r.1 ∧ r.1 ≤ 60) ∧ (0 ≤ f ∧ f ≤ 3) ∧ (0 ≤ t ∧ t ≤ 3) ∧ r.2 = 4 * f + t))
def SBR (pa : Int) (pl : Nat → Int) (many ch la fo : Int) (st ex te ord od : Nat → Int) (cg : Int) (t : Nat) (s : Int) (H W fr tt : Nat → Int) (o : Int × (Nat → Int) × (Nat → Int) × Int × Int × Int × (Nat → Int) × (Nat → Int) × (Nat → Int) × (Nat → Int) × (Nat → Int)) : Prop := o.1 = VAL pa pl many ch la fo st ex te ord od t s H W ∧ (1 ≤ t → KREL (AT pa pl many ch la fo st ex te ord od (t - 1) s H W 16) (AT pa pl many ch la fo st ex te ord od (t - 1) s H W 16).1 (o.2.1 t) (o.2.2.1 t)) ∧ (∀ j : Nat, t < j → o.2.1 j = fr j ∧ o.2.2.1 j = tt j) ∧ NOK cg ch la fo st ex te ord od o.2.2.2.2.2.2.1 ∧ o.2.2.2.2.2.2.2.1 = H ∧ CREL many H W H o.2.2.2.2.2.2.2.2.1 ∧ zR o.2.2.2.2.2.2.2.2.1 0 30
def SPB (pa : Int) (pl : Nat → Int) (many ch la fo : Int) (st ex te ord od : Nat → Int) (cg : Int) (t : Nat) : Prop := ∀ (n : Nat) (s pi ti ba : Int) (H W fr tt nt wo pz : Nat → Int) (o : Int × (Nat → Int) × (Nat → Int) × Int × Int × Int × (Nat → Int) × (Nat → Int) × (Nat → Int) × (Nat → Int) × (Nat → Int)), (s = 0 ∨ s = 1) → zR H 0 10 → zR W 0 30 → STW many H W → NOK cg ch la fo st ex te ord od nt → (g_Schools_shadesBehind n).1 (t : Int) s ch pa la fo cg many st ex pl te ord od fr tt pi ti ba nt H W wo pz = some o → SBR pa pl many ch la fo st ex te ord od cg t s H W fr tt o
/-- what is kept within a turn's search -/
def CSI (pa : Int) (pl : Nat → Int) (many ch la fo : Int) (st ex te ord od : Nat → Int) (cg : Int) (t : Nat) (s : Int) (H W fr0 tt0 : Nat → Int) (p : Nat) (best : Int) (fr tt nt W' : Nat → Int) : Prop := KREL (AT pa pl many ch la fo st ex te ord od (t - 1) s H W p) best (fr t) (tt t) ∧ (∀ j : Nat, t < j → fr j = fr0 j ∧ tt j = tt0 j) ∧ NOK cg ch la fo st ex te ord od nt ∧ CREL many H W H W' ∧ zR W' 0 30
theorem CREL_0' {many : Int} {H W : Nat → Int} : CREL many H W H W := ⟨fun _ _ => rfl, fun _ _ _ _ => rfl⟩
set_option maxHeartbeats 4000000 in
theorem cs_55 {pa many ch la fo : Int} {st ex te ord od pl : Nat → Int} {row : Nat → Int} {cg s : Int} {T n M a : Nat} {H W fr0 tt0 : Nat → Int} {o : Int × (Nat → Int) × (Nat → Int) × Int × Int × Int × (Nat → Int) × (Nat → Int) × (Nat → Int) × (Nat → Int) × (Nat → Int)} {k40 : Int → Int → Int → Int → (Nat → Int) → (Nat → Int) → Int → Int → Int → (Nat → Int) → (Nat → Int) → (Nat → Int) → (Nat → Int) → (Nat → Int) → Option (Int × (Nat → Int) × (Nat → Int) × Int × Int × Int × (Nat → Int) × (Nat → Int) × (Nat → Int) × (Nat → Int) × (Nat → Int))} (hF : FOK ch la fo st ex te ord od row) (hP : PREL pa pl te row) (em : many = row 0) (eM : many = (M : Int)) (hM : M ≤ 4) (hcg : 0 ≤ cg ∧ cg ≤ 5000) (hB : SPB pa pl many ch la fo st ex te ord od cg T) (hT : T ≤ 3) (hs : s = 0 ∨ s = 1) (hh : zR H 0 10) (hS : STW many H W) (ha : a < M) :
    ∀ (N b : Nat) (best pi ti ba : Int) (fr tt nt W' wo pz : Nat → Int), b ≤ M → CSI pa pl many ch la fo st ex te ord od cg (T + 1) s H W fr0 tt0 (4 * a + b) best fr tt nt W' → f_Schools_shadesBehind_55 (g_Schools_shadesBehind n).1 (g_Schools_shadesBehind n).2 ch pa la fo cg many st ex pl te ord od k40 N ((T + 1 : Nat) : Int) s best (a : Int) (b : Int) fr tt pi ti ba nt H W' wo pz = some o →
    ∃ (best' pi' ti' ba' : Int) (fr' tt' nt' W2 wo' pz' : Nat → Int), CSI pa pl many ch la fo st ex te ord od cg (T + 1) s H W fr0 tt0 (4 * a + M) best' fr' tt' nt' W2 ∧ k40 ((T + 1 : Nat) : Int) s best' ((a : Int) + 1) fr' tt' pi' ti' ba' nt' H W2 wo' pz' = some o := by
  have hm : 0 ≤ many ∧ many ≤ 12 := by omega
  have hR := hF.2.1
  have hte := hF.2.2.2.2.1
  intro N
  induction N with
  | zero => intro b best pi ti ba fr tt nt W' wo pz _ _ h; exact nomatch h
  | succ N ih =>
    intro b best pi ti ba fr tt nt W' wo pz hb hI h
    replace h : f_Schools_shadesBehind_55_b (g_Schools_shadesBehind n).1 (g_Schools_shadesBehind n).2 ch pa la fo cg many st ex pl te ord od k40 (f_Schools_shadesBehind_55 (g_Schools_shadesBehind n).1 (g_Schools_shadesBehind n).2 ch pa la fo cg many st ex pl te ord od k40 N) ((T + 1 : Nat) : Int) s best (a : Int) (b : Int) fr tt pi ti ba nt H W' wo pz = some o := h
    unfold f_Schools_shadesBehind_55_b at h
    rw [zwi (x := many) (by omega), zwi (x := (b : Int)) (by omega)] at h
    by_cases c : many ≤ (b : Int)
    · rw [if_pos c] at h
      have eb : b = M := by omega
      subst eb
      exact ⟨best, pi, ti, ba, fr, tt, nt, W', wo, pz, hI, xp_n h⟩
    · rw [if_neg c] at h
      obtain ⟨i1, i2, i3, i4, i5⟩ := hI
      have ha' : (a : Int) < many := by omega
      have hb' : (b : Int) < many := by omega
      have qa := hh a
      have qb := hh b
      obtain ⟨v2, e2, h⟩ := xz_d1 h
      have q2 := k_top hm hh ha' e2
      subst q2
      obtain ⟨v3, e3, h⟩ := xz_d1 h
      have q3 := k_high hm ha' e3
      subst q3
      obtain ⟨v4, e4, h⟩ := xz_d1 h
      have q4 := k_high hm hb' e4
      subst q4
      obtain ⟨v5, v6, v7, v8, a9, a10, a11, e5, h⟩ := xz_d7 h
      have tr := TOPV_r (h := H) i5 a
      have q5 := k_note hF ⟨by omega, by omega, tr, by omega, by omega⟩ hcg i3 e5
      dsimp only at q5
      obtain ⟨n1, n2, n3⟩ := q5
      have tW : TOPV H W' a = TOPV H W a := CREL_top i4 ha' qa.1
      have can : (((a : Int) ≠ (b : Int) ∧ 1 ≤ TOPV H W' a ∧ 1 ≤ H a ∧ H b ≤ 9 ∧ CNQ ch la fo st ex te ord od (a : Int) (b : Int) (TOPV H W' a) (H a) (H b)) ↔ CANX many ch la fo st ex te ord od H W a b) := by
        unfold CANX
        rw [tW]
        constructor
        · intro ⟨m1, m2, m3, m4, m5⟩
          exact ⟨ha', hb', by omega, m3, m4, m5⟩
        · intro ⟨_, _, m1, m3, m4, m5⟩
          exact ⟨by omega, STW_top hS ha' m3, m3, m4, m5⟩
      have d4 : (4 * a + b) / 4 = a := by omega
      have r4 : (4 * a + b) % 4 = b := by omega
      have t5 : (zi_w ((T + 1 : Nat) : Int)).toNat = T + 1 := by rw [zwi (by omega)]; omega
      have go : ∀ (best' pi' ti' ba' : Int) (fr' tt' nt' W2 wo' pz' : Nat → Int), CSI pa pl many ch la fo st ex te ord od cg (T + 1) s H W fr0 tt0 (4 * a + (b + 1)) best' fr' tt' nt' W2 → f_Schools_shadesBehind_167 (g_Schools_shadesBehind n).1 (g_Schools_shadesBehind n).2 ch pa la fo cg many st ex pl te ord od k40 (f_Schools_shadesBehind_55 (g_Schools_shadesBehind n).1 (g_Schools_shadesBehind n).2 ch pa la fo cg many st ex pl te ord od k40 N) ((T + 1 : Nat) : Int) s best' (a : Int) (b : Int) fr' tt' pi' ti' ba' nt' H W2 wo' pz' = some o → ∃ (best' pi' ti' ba' : Int) (fr' tt' nt' W2 wo' pz' : Nat → Int), CSI pa pl many ch la fo st ex te ord od cg (T + 1) s H W fr0 tt0 (4 * a + M) best' fr' tt' nt' W2 ∧ k40 ((T + 1 : Nat) : Int) s best' ((a : Int) + 1) fr' tt' pi' ti' ba' nt' H W2 wo' pz' = some o := fun best' pi' ti' ba' fr' tt' nt' W2 wo' pz' hI' h' => by
        unfold f_Schools_shadesBehind_167 at h'
        exact ih (b + 1) best' pi' ti' ba' fr' tt' nt' W2 wo' pz' (by omega) hI' (xp_n h')
      rw [zwi (x := v5) (by omega), show zi_w (-1) = -1 from by decide +kernel] at h
      rcases xp_if h with ⟨c5, h⟩ | ⟨c5, h⟩
      · -- carried
        have cx : CANX many ch la fo st ex te ord od H W a b := can.mp (Classical.byContradiction (fun m => by
          exact c5 (n2.mpr m)))
        obtain ⟨v12, a13, a14, v15, v16, v17, a18, a19, a20, a21, a22, e6, h⟩ := xz_d11 h
        cases n with
        | zero => exact nomatch e6
        | succ n =>
          have e6 : fb_Schools_shadesCarried (g_Schools_shadesBehind n).1 (g_Schools_shadesBehind n).2 ((T + 1 : Nat) : Int) s (a : Int) (b : Int) ch pa la fo cg many st ex pl te ord od fr tt v6 v7 v8 a9 H W' a10 a11 = some (v12, a13, a14, v15, v16, v17, a18, a19, a20, a21, a22) := e6
          unfold fb_Schools_shadesCarried at e6
          obtain ⟨p1, p2, f1, e6⟩ := xz_d2 e6
          have cx' := cx
          obtain ⟨_, _, x3, x4, x5, _⟩ := cx'
          have g1 := k_move hm hh ha' hb' x3 (by omega) (by omega) f1
          cases g1
          replace e6 := xp_n (xp_n e6)
          obtain ⟨w5, w6, w7, w8, w9, w10, w11, w12, w13, w14, w15, f2, e6⟩ := xz_d11 e6
          rw [show ((T + 1 : Nat) : Int) - 1 = (T : Int) from by omega] at f2
          have hS' : STW many H W' := STW_c hS i4
          have q6 := hB n (1 - s) _ _ _ (MVH H a b) (MVW H W' a b) _ _ _ _ _ _ (by omega) (MVH_R hh x4 x5) (MVW_R i5) (STW_mv hS' hh ha' hb' x4 x5 x3) n1 f2
          unfold SBR at q6
          dsimp only at q6
          obtain ⟨s1, _, s3, s4, s5, s6, s7⟩ := q6
          obtain ⟨p3, p4, f3, e6⟩ := xz_d2 e6
          cases e6
          rw [s5] at f3
          have va : MVH H a b a = H a - 1 := by unfold MVH; rw [zu_eq]
          have vb : MVH H a b b = H b + 1 := by unfold MVH; rw [zu_ne _ _ (Ne.symm x3), zu_eq]
          have g3 := k_move hm (MVH_R hh x4 x5) hb' ha' (Ne.symm x3) (by rw [vb]; omega) (by rw [va]; omega) f3
          have back := mv_back (W := W') (W2 := w13) hh ha' hb' x3 x4 x5 s6
          have g3' : a19 = H ∧ a20 = MVW (MVH H a b) w13 b a := by
            have z1 : a19 = MVH (MVH H a b) b a := congrArg Prod.fst g3
            have z2 : a20 = MVW (MVH H a b) w13 b a := congrArg Prod.snd g3
            exact ⟨z1.trans back.1, z2⟩
          obtain ⟨y1, y2⟩ := g3'
          have vv := VAL_c (ch := ch) (la := la) (fo := fo) (st := st) (ex := ex) (ord := ord) (od := od) hR hm em hP hte T (1 - s) _ _ _ _ (MVH_R hh x4 x5) (MVH_R hh x4 x5) (CREL_mv i4 hh ha' hb' x3 x4 x5)
          have ev : v12 = VAL pa pl many ch la fo st ex te ord od T (1 - s) (MVH H a b) (MVW H W a b) := s1.trans vv.1.symm
          have bv := vv.2
          rw [← ev] at bv
          have stq := ACQ_y (C := CANX many ch la fo st ex te ord od H W) (F := fun a b => VAL pa pl many ch la fo st ex te ord od T (1 - s) (MVH H a b) (MVW H W a b)) (s := s) (p := 4 * a + b) (by rw [d4, r4]; exact cx)
          rw [d4, r4] at stq
          try dsimp only at stq
          rw [← ev] at stq
          have at1 : AT pa pl many ch la fo st ex te ord od (T + 1 - 1) s H W (4 * a + (b + 1)) = UPD s (AT pa pl many ch la fo st ex te ord od (T + 1 - 1) s H W (4 * a + b)) ((4 * a + b : Nat) : Int) v12 := stq
          have fr1 := s3 (T + 1) (by omega)
          have C2 : CREL many H W H a20 := by rw [y2]; exact CREL_tr i4 back.2
          have R2 : zR a20 0 30 := by rw [y2]; exact MVW_R s7
          have fj : ∀ j : Nat, T + 1 < j → a13 j = fr0 j ∧ a14 j = tt0 j := fun j hj => by
            have z := s3 j (by omega)
            have z2 := i2 j hj
            exact ⟨z.1.trans z2.1, z.2.trans z2.2⟩
          rw [y1] at h
          obtain ⟨k1, k2⟩ := i1
          have k1' : best = (AT pa pl many ch la fo st ex te ord od (T + 1 - 1) s H W (4 * a + b)).1 := k1
          have bb : -1 ≤ best ∧ best ≤ 60 := by rcases k2 with z | z <;> omega
          have keep : ¬ (best = -1 ∨ (if s = 0 then best < v12 else v12 < best)) → CSI pa pl many ch la fo st ex te ord od cg (T + 1) s H W fr0 tt0 (4 * a + (b + 1)) best a13 a14 a18 a20 := fun no => by
            refine ⟨?_, fj, s4, C2, R2⟩
            rw [at1]
            unfold UPD
            rw [← k1', if_neg no]
            rw [fr1.1, fr1.2]
            exact ⟨k1, k2⟩
          have take : (best = -1 ∨ (if s = 0 then best < v12 else v12 < best)) → f_Schools_shadesBehind_148 (g_Schools_shadesBehind (n + 1)).1 (g_Schools_shadesBehind (n + 1)).2 ch pa la fo cg many st ex pl te ord od k40 (f_Schools_shadesBehind_55 (g_Schools_shadesBehind (n + 1)).1 (g_Schools_shadesBehind (n + 1)).2 ch pa la fo cg many st ex pl te ord od k40 N) ((T + 1 : Nat) : Int) s (a : Int) (b : Int) v12 a13 a14 v15 v16 v17 a18 H a20 a21 a22 = some o → ∃ (best' pi' ti' ba' : Int) (fr' tt' nt' W2 wo' pz' : Nat → Int), CSI pa pl many ch la fo st ex te ord od cg (T + 1) s H W fr0 tt0 (4 * a + M) best' fr' tt' nt' W2 ∧ k40 ((T + 1 : Nat) : Int) s best' ((a : Int) + 1) fr' tt' pi' ti' ba' nt' H W2 wo' pz' = some o := fun yes h => by
            unfold f_Schools_shadesBehind_148 at h
            replace h := (xp_s (xp_s h).2).2
            rw [t5] at h
            refine go _ _ _ _ _ _ _ _ _ _ ⟨?_, fun j hj => ?_, s4, C2, R2⟩ h
            · rw [at1]
              unfold UPD
              rw [← k1', if_pos yes, zu_eq, zu_eq]
              exact ⟨rfl, Or.inr ⟨bv, by omega, by omega, by dsimp only; omega⟩⟩
            · rw [zu_ne _ _ (by omega), zu_ne _ _ (by omega)]
              exact fj j hj
          rw [zwi (x := best) (by omega)] at h
          by_cases c6 : best = -1
          · rw [if_pos c6] at h
            exact take (Or.inl c6) h
          rw [if_neg c6, zwi (x := s) (by omega), zwi (x := v12) (by omega)] at h
          rcases hs with hs0 | hs1
          · rw [if_neg (fun z => z hs0)] at h
            by_cases c7 : v12 ≤ best
            · rw [if_pos c7] at h
              exact go _ _ _ _ _ _ _ _ _ _ (keep (fun z => by rw [if_pos hs0] at z; omega)) h
            · rw [if_neg c7] at h
              exact take (Or.inr (by rw [if_pos hs0]; omega)) h
          · rw [if_pos (by omega)] at h
            by_cases c7 : best ≤ v12
            · rw [if_pos c7] at h
              exact go _ _ _ _ _ _ _ _ _ _ (keep (fun z => by rw [if_neg (by omega)] at z; omega)) h
            · rw [if_neg c7] at h
              exact take (Or.inr (by rw [if_neg (by omega)]; omega)) h
      · have cx : ¬ CANX many ch la fo st ex te ord od H W a b := fun z => (n2.mp (Classical.not_not.mp c5)) (can.mpr z)
        have stq := ACQ_n (C := CANX many ch la fo st ex te ord od H W) (F := fun a b => VAL pa pl many ch la fo st ex te ord od T (1 - s) (MVH H a b) (MVW H W a b)) (s := s) (p := 4 * a + b) (by rw [d4, r4]; exact cx)
        have at1 : AT pa pl many ch la fo st ex te ord od (T + 1 - 1) s H W (4 * a + (b + 1)) = AT pa pl many ch la fo st ex te ord od (T + 1 - 1) s H W (4 * a + b) := stq
        exact go _ _ _ _ _ _ _ _ _ _ ⟨by rw [at1]; exact i1, i2, n1, i4, i5⟩ h
theorem cs_40 {pa many ch la fo : Int} {st ex te ord od pl : Nat → Int} {row : Nat → Int} {cg s : Int} {T n M : Nat} {H W fr0 tt0 : Nat → Int} {o : Int × (Nat → Int) × (Nat → Int) × Int × Int × Int × (Nat → Int) × (Nat → Int) × (Nat → Int) × (Nat → Int) × (Nat → Int)} (hF : FOK ch la fo st ex te ord od row) (hP : PREL pa pl te row) (em : many = row 0) (eM : many = (M : Int)) (hM : M ≤ 4) (hcg : 0 ≤ cg ∧ cg ≤ 5000) (hB : SPB pa pl many ch la fo st ex te ord od cg T) (hT : T ≤ 3) (hs : s = 0 ∨ s = 1) (hh : zR H 0 10) (hS : STW many H W) :
    ∀ (N a : Nat) (best pi ti ba : Int) (fr tt nt W' wo pz : Nat → Int), a ≤ M → CSI pa pl many ch la fo st ex te ord od cg (T + 1) s H W fr0 tt0 (4 * a) best fr tt nt W' → f_Schools_shadesBehind_40 (g_Schools_shadesBehind n).1 (g_Schools_shadesBehind n).2 ch pa la fo cg many st ex pl te ord od N ((T + 1 : Nat) : Int) s best (a : Int) fr tt pi ti ba nt H W' wo pz = some o → SBR pa pl many ch la fo st ex te ord od cg (T + 1) s H W fr0 tt0 o := by
  have hm : 0 ≤ many ∧ many ≤ 12 := by omega
  have gap : ∀ p n : Nat, (∀ q : Nat, p ≤ q → q < p + n → ¬ (((q / 4 : Nat) : Int) < many ∧ ((q % 4 : Nat) : Int) < many)) → AT pa pl many ch la fo st ex te ord od (T + 1 - 1) s H W (p + n) = AT pa pl many ch la fo st ex te ord od (T + 1 - 1) s H W p := fun p n hq => ACQ_gap n (fun q q1 q2 z => hq q q1 q2 ⟨z.1, z.2.1⟩)
  intro N
  induction N with
  | zero => intro a best pi ti ba fr tt nt W' wo pz _ _ h; exact nomatch h
  | succ N ih =>
    intro a best pi ti ba fr tt nt W' wo pz ha hI h
    replace h : f_Schools_shadesBehind_40_b (g_Schools_shadesBehind n).1 (g_Schools_shadesBehind n).2 ch pa la fo cg many st ex pl te ord od (f_Schools_shadesBehind_40 (g_Schools_shadesBehind n).1 (g_Schools_shadesBehind n).2 ch pa la fo cg many st ex pl te ord od N) ((T + 1 : Nat) : Int) s best (a : Int) fr tt pi ti ba nt H W' wo pz = some o := h
    unfold f_Schools_shadesBehind_40_b at h
    rw [zwi (x := many) (by omega), zwi (x := (a : Int)) (by omega)] at h
    by_cases c : many ≤ (a : Int)
    · rw [if_pos c] at h
      obtain ⟨i1, i2, i3, i4, i5⟩ := hI
      have ea : a = M := by omega
      have g := gap (4 * a) (16 - 4 * a) (fun q q1 q2 z => by omega)
      rw [show 4 * a + (16 - 4 * a) = 16 from by omega] at g
      rw [← g] at i1
      obtain ⟨k1, k2⟩ := i1
      have k1' : best = (AT pa pl many ch la fo st ex te ord od (T + 1 - 1) s H W 16).1 := k1
      have kk : KREL (AT pa pl many ch la fo st ex te ord od (T + 1 - 1) s H W 16) (AT pa pl many ch la fo st ex te ord od (T + 1 - 1) s H W 16).1 (fr (T + 1)) (tt (T + 1)) := ⟨rfl, k2⟩
      have bb : -1 ≤ best ∧ best ≤ 60 := by rcases k2 with z | z <;> omega
      rw [zwi (x := best) (by omega), show zi_w (-1) = -1 from by decide +kernel] at h
      have vs : VAL pa pl many ch la fo st ex te ord od (T + 1) s H W = if best = -1 then SHV pa pl many te H else best := by
        have e : (AT pa pl many ch la fo st ex te ord od T s H W 16).1 = best := k1'.symm
        rw [VAL_s, e]
      by_cases c6 : best = -1
      · rw [if_neg (fun z => z c6)] at h
        obtain ⟨v1, e1, h⟩ := xz_d1 h
        cases h
        refine ⟨?_, fun _ => kk, i2, i3, rfl, i4, i5⟩
        show v1 = _
        rw [vs, if_pos c6]
        unfold SHV
        rw [e1]
      · rw [if_pos c6] at h
        cases h
        refine ⟨?_, fun _ => kk, i2, i3, rfl, i4, i5⟩
        show best = _
        rw [vs, if_neg c6]
    · rw [if_neg c] at h
      obtain ⟨best', pi', ti', ba', fr', tt', nt', W2, wo', pz', j1, j2⟩ := cs_55 hF hP em eM hM hcg hB hT hs hh hS (by omega) zfu 0 _ _ _ _ _ _ _ _ _ _ (by omega) hI h
      refine ih (a + 1) _ _ _ _ _ _ _ _ _ _ (by omega) ?_ j2
      obtain ⟨i1, i2⟩ := j1
      refine ⟨?_, i2⟩
      have g := gap (4 * a + M) (4 - M) (fun q q1 q2 z => by omega)
      rw [show 4 * a + M + (4 - M) = 4 * (a + 1) from by omega] at g
      rw [g]
      exact i1
theorem cs_all {pa many ch la fo : Int} {st ex te ord od pl : Nat → Int} {row : Nat → Int} {cg : Int} {M : Nat} (hF : FOK ch la fo st ex te ord od row) (hP : PREL pa pl te row) (em : many = row 0) (eM : many = (M : Int)) (hM : M ≤ 4) (hcg : 0 ≤ cg ∧ cg ≤ 5000) : ∀ t : Nat, t ≤ 4 → SPB pa pl many ch la fo st ex te ord od cg t := by
  intro t
  induction t with
  | zero =>
    intro _ n s pi ti ba H W fr tt nt wo pz o hs hh hw hS hN h
    cases n with
    | zero => exact nomatch h
    | succ n =>
      replace h : fb_Schools_shadesBehind (g_Schools_shadesBehind n).1 (g_Schools_shadesBehind n).2 ((0 : Nat) : Int) s ch pa la fo cg many st ex pl te ord od fr tt pi ti ba nt H W wo pz = some o := h
      unfold fb_Schools_shadesBehind at h
      replace h := xp_t (by decide +kernel) h
      unfold f_Schools_shadesBehind_9 at h
      obtain ⟨v1, e1, h⟩ := xz_d1 h
      cases h
      refine ⟨?_, fun z => absurd z (by omega), fun j _ => ⟨rfl, rfl⟩, hN, rfl, CREL_0', hw⟩
      show v1 = SHV pa pl many te H
      unfold SHV
      rw [e1]
  | succ T ih =>
    intro hT n s pi ti ba H W fr tt nt wo pz o hs hh hw hS hN h
    cases n with
    | zero => exact nomatch h
    | succ n =>
      replace h : fb_Schools_shadesBehind (g_Schools_shadesBehind n).1 (g_Schools_shadesBehind n).2 ((T + 1 : Nat) : Int) s ch pa la fo cg many st ex pl te ord od fr tt pi ti ba nt H W wo pz = some o := h
      unfold fb_Schools_shadesBehind at h
      rw [zwi (x := ((T + 1 : Nat) : Int)) (by omega), show zi_w 4 = 4 from by decide +kernel, if_neg (by omega), if_pos (by omega)] at h
      replace h := (xp_s (xp_s h).2).2
      have t5 : (zi_w ((T + 1 : Nat) : Int)).toNat = T + 1 := by rw [zwi (by omega)]; omega
      rw [t5] at h
      refine cs_40 hF hP em eM hM hcg (ih (by omega)) (by omega) hs hh hS zfu 0 (-1) _ _ _ _ _ _ _ _ _ (by omega) ⟨?_, fun j hj => ?_, hN, CREL_0', hw⟩ h
      · rw [zu_eq, zu_eq]
        exact ⟨rfl, Or.inl ⟨rfl, rfl, rfl⟩⟩
      · rw [zu_ne _ _ (by omega), zu_ne _ _ (by omega)]
        exact ⟨rfl, rfl⟩
