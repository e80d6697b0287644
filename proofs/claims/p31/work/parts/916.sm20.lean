/-! THE REFERENCE'S TURNS -/
def SDF (first : Int) (d : Nat) : Int := (first + (d : Int)) % 2
def FREL (r : Int × Int) (f : Int) : Prop := (r.1 = -1 ∧ f = 17) ∨ ((0 ≤ r.1 ∧ r.1 ≤ 60) ∧ (0 ≤ f ∧ f ≤ 15) ∧ f = r.2)
/-- a turn comes back with its worth -/
def RET (pa : Int) (pl : Nat → Int) (many ch la fo : Int) (st ex te ord od row : Nat → Int) (turns first what thr : Int) (d t : Nat) (hi he tried bests firsts : Nat → Int) (o : Int × Int × Int × Int × Int × Int × (Nat → Int) × (Nat → Int) × (Nat → Int) × (Nat → Int) × (Nat → Int) × (Nat → Int) × (Nat → Int)) : Prop := ∃ (N' : Nat) (lw br va su : Int) (set rest he' tried' bests' firsts' : Nat → Int), f_HM_duel_136 row (f_HM_duel_72 row N') turns first what (d : Int) (VAL pa pl many ch la fo st ex te ord od t (SDF first d) hi he) thr lw br va su set rest hi he' tried' bests' firsts' = some o ∧ CREL many hi he hi he' ∧ zR he' 0 30 ∧ (∀ j : Nat, j < d → tried' j = tried j ∧ bests' j = bests j ∧ firsts' j = firsts j) ∧ (1 ≤ t → bests' d = VAL pa pl many ch la fo st ex te ord od t (SDF first d) hi he ∧ FREL (AT pa pl many ch la fo st ex te ord od (t - 1) (SDF first d) hi he 16) (firsts' d))
def SPR (pa : Int) (pl : Nat → Int) (many ch la fo : Int) (st ex te ord od row : Nat → Int) (turns first what thr : Int) (t : Nat) : Prop := ∀ (N d : Nat) (lw br va su : Int) (set rest hi he tried bests firsts : Nat → Int) (o : Int × Int × Int × Int × Int × Int × (Nat → Int) × (Nat → Int) × (Nat → Int) × (Nat → Int) × (Nat → Int) × (Nat → Int) × (Nat → Int)), (d : Int) + (t : Int) = turns → (1 ≤ t → tried d = -1 ∧ bests d = -1000) → zR hi 0 10 → zR he 0 30 → STW many hi he → f_HM_duel_72 row N turns first what (d : Int) thr lw br va su set rest hi he tried bests firsts = some o → RET pa pl many ch la fo st ex te ord od row turns first what thr d t hi he tried bests firsts o
theorem sp_0 {pa many ch la fo : Int} {st ex te ord od pl : Nat → Int} {row : Nat → Int} {turns first what thr : Int} (hF : FOK ch la fo st ex te ord od row) (hP : PREL pa pl te row) (em : many = row 0) (hm : 0 ≤ many ∧ many ≤ 12) (ht : 1 ≤ turns ∧ turns ≤ 4) : SPR pa pl many ch la fo st ex te ord od row turns first what thr 0 := by
  intro N d lw br va su set rest hi he tried bests firsts o hd _ hh hw _ h
  cases N with
  | zero => exact nomatch h
  | succ N =>
    replace h : f_HM_duel_72_b row (f_HM_duel_72 row N) turns first what (d : Int) thr lw br va su set rest hi he tried bests firsts = some o := h
    unfold f_HM_duel_72_b at h
    rw [zwi (x := (d : Int)) (by omega), zwi (x := turns) (by omega), if_neg (by omega), if_pos (by omega)] at h
    unfold f_HM_duel_94 at h
    rw [zwi (x := (d : Int)) (by omega), zwi (x := turns) (by omega), if_pos (by omega)] at h
    unfold f_HM_duel_116 at h
    rw [zwi (x := (d : Int)) (by omega), zwi (x := turns) (by omega), if_neg (by omega)] at h
    obtain ⟨v2, e2, h⟩ := xz_d1 h
    have q := (SHV_both hF.2.1 hm em hh hh hP hF.2.2.2.2.1 (fun _ _ => rfl)).1 v2 e2
    rw [q] at h
    exact ⟨N, lw, br, va, su, set, rest, he, tried, bests, firsts, h, ⟨fun _ _ => rfl, fun _ _ _ _ => rfl⟩, hw, fun j _ => ⟨rfl, rfl, rfl⟩, fun z => absurd z (by omega)⟩
theorem r_197 {row : Nat → Int} {turns first what thr lw br va su : Int} {d : Nat} {set rest hi he tried bests firsts : Nat → Int} {o : Int × Int × Int × Int × Int × Int × (Nat → Int) × (Nat → Int) × (Nat → Int) × (Nat → Int) × (Nat → Int) × (Nat → Int) × (Nat → Int)} {K : Int → Int → Int → Int → Int → Int → Int → Int → Int → (Nat → Int) → (Nat → Int) → (Nat → Int) → (Nat → Int) → (Nat → Int) → (Nat → Int) → (Nat → Int) → Option (Int × Int × Int × Int × Int × Int × (Nat → Int) × (Nat → Int) × (Nat → Int) × (Nat → Int) × (Nat → Int) × (Nat → Int) × (Nat → Int))} (hd : (d : Int) < turns ∧ turns ≤ 4) (h : f_HM_duel_197 row K turns first what (d : Int) thr lw br va su set rest hi he tried bests firsts = some o) : ∃ (tried1 bests1 : Nat → Int), (∀ j : Nat, j < d + 1 → tried1 j = tried j ∧ bests1 j = bests j) ∧ ((d : Int) + 1 < turns → tried1 (d + 1) = -1 ∧ bests1 (d + 1) = -1000) ∧ K turns first what ((d + 1 : Nat) : Int) thr lw br va su set rest hi he tried1 bests1 firsts = some o := by
  unfold f_HM_duel_197 at h
  replace h := xp_n h
  rw [show (d : Int) + 1 = ((d + 1 : Nat) : Int) from by omega, zwi (x := turns) (by omega), zwi (x := ((d + 1 : Nat) : Int)) (by omega)] at h
  have zd : (zi_w ((d + 1 : Nat) : Int)).toNat = d + 1 := by rw [zwi (by omega)]; omega
  by_cases c : turns ≤ ((d + 1 : Nat) : Int)
  · rw [if_pos c] at h
    unfold f_HM_duel_224 at h
    exact ⟨tried, bests, fun j _ => ⟨rfl, rfl⟩, fun m => by omega, h⟩
  · rw [if_neg c] at h
    replace h := (xp_s (xp_s h).2).2
    unfold f_HM_duel_224 at h
    rw [zd] at h
    exact ⟨_, _, fun j hj => ⟨zu_ne _ _ (by omega), zu_ne _ _ (by omega)⟩, fun _ => ⟨zu_eq _ _ _, zu_eq _ _ _⟩, h⟩
/-- how a turn stands: the moves below p are looked at -/
def RLI (pa : Int) (pl : Nat → Int) (many ch la fo : Int) (st ex te ord od : Nat → Int) (T : Nat) (s : Int) (hi he : Nat → Int) (p : Nat) (bd fd : Int) : Prop := ((AT pa pl many ch la fo st ex te ord od T s hi he p).1 = -1 ∧ bd = -1000) ∨ ((0 ≤ (AT pa pl many ch la fo st ex te ord od T s hi he p).1 ∧ (AT pa pl many ch la fo st ex te ord od T s hi he p).1 ≤ 60) ∧ bd = (AT pa pl many ch la fo st ex te ord od T s hi he p).1 ∧ (0 ≤ fd ∧ fd ≤ 15) ∧ fd = (AT pa pl many ch la fo st ex te ord od T s hi he p).2)
set_option maxHeartbeats 8000000 in
theorem sp_lv {pa many ch la fo : Int} {st ex te ord od pl : Nat → Int} {row : Nat → Int} {turns first what thr : Int} {T d : Nat} {hi he0 tried0 bests0 firsts0 : Nat → Int} {o : Int × Int × Int × Int × Int × Int × (Nat → Int) × (Nat → Int) × (Nat → Int) × (Nat → Int) × (Nat → Int) × (Nat → Int) × (Nat → Int)} (hF : FOK ch la fo st ex te ord od row) (hP : PREL pa pl te row) (em : many = row 0) (hm : 0 ≤ many ∧ many ≤ 12) (ht : 1 ≤ turns ∧ turns ≤ 4) (hf : 0 ≤ first ∧ first ≤ 1) (hB : SPR pa pl many ch la fo st ex te ord od row turns first what thr T) (hd : (d : Int) + ((T + 1 : Nat) : Int) = turns) (hh : zR hi 0 10) (hS : STW many hi he0) :
    ∀ (g N p : Nat) (lw br va su : Int) (set rest he tried bests firsts : Nat → Int), 16 - p < g → p ≤ 16 → tried d = (p : Int) - 1 → RLI pa pl many ch la fo st ex te ord od T (SDF first d) hi he0 p (bests d) (firsts d) → CREL many hi he0 hi he → zR he 0 30 → (∀ j : Nat, j < d → tried j = tried0 j ∧ bests j = bests0 j ∧ firsts j = firsts0 j) → f_HM_duel_72 row N turns first what (d : Int) thr lw br va su set rest hi he tried bests firsts = some o → RET pa pl many ch la fo st ex te ord od row turns first what thr d (T + 1) hi he0 tried0 bests0 firsts0 o := by
  have hR := hF.2.1
  have hte := hF.2.2.2.2.1
  have zd : (zi_w (d : Int)).toNat = d := by rw [zwi (by omega)]; omega
  have zd1 : (zi_w ((d : Int) + 1)).toNat = d + 1 := by rw [zwi (by omega)]; omega
  have rs : SDF first (d + 1) = 1 - SDF first d := by unfold SDF; omega
  have bs : SDF first d = 0 ∨ SDF first d = 1 := by unfold SDF; omega
  have arr : AT pa pl many ch la fo st ex te ord od T (SDF first d) hi he0 = ACQ (CANX many ch la fo st ex te ord od hi he0) (fun a b => VAL pa pl many ch la fo st ex te ord od T (1 - SDF first d) (MVH hi a b) (MVW hi he0 a b)) (SDF first d) := rfl
  have rng := ACQ_r (s := SDF first d) (VAL_F (ch := ch) (la := la) (fo := fo) (st := st) (ex := ex) (ord := ord) (od := od) hR hm em hP hte (W := he0) hh T (SDF first d))
  rw [← arr] at rng
  have vs := VAL_s (pa := pa) (pl := pl) (many := many) (ch := ch) (la := la) (fo := fo) (st := st) (ex := ex) (te := te) (ord := ord) (od := od) (t := T) (s := SDF first d) (H := hi) (W := he0)
  -- nothing is left to look at: back with the best
  have leave : ∀ (N : Nat) (lw br va su : Int) (set rest he tried bests firsts : Nat → Int), bests d = VAL pa pl many ch la fo st ex te ord od (T + 1) (SDF first d) hi he0 → FREL (AT pa pl many ch la fo st ex te ord od T (SDF first d) hi he0 16) (firsts d) → CREL many hi he0 hi he → zR he 0 30 → (∀ j : Nat, j < d → tried j = tried0 j ∧ bests j = bests0 j ∧ firsts j = firsts0 j) → f_HM_duel_116 row (f_HM_duel_72 row N) turns first what (d : Int) thr lw br va su set rest hi he tried bests firsts = some o → RET pa pl many ch la fo st ex te ord od row turns first what thr d (T + 1) hi he0 tried0 bests0 firsts0 o := fun N lw br va su set rest he tried bests firsts q1 q2 q3 q4 q5 h => by
    unfold f_HM_duel_116 at h
    rw [zwi (x := (d : Int)) (by omega), zwi (x := turns) (by omega), if_pos (by omega)] at h
    replace h := (xp_g h).2
    rw [zd, q1] at h
    exact ⟨N, lw, br, va, su, set, rest, he, tried, bests, firsts, h, q3, q4, q5, fun _ => ⟨q1, q2⟩⟩
  intro g
  induction g with
  | zero => intro N p lw br va su set rest he tried bests firsts hg; omega
  | succ g ih =>
    intro N p lw br va su set rest he tried bests firsts hg hp htd hI hC hw hk h
    cases N with
    | zero => exact nomatch h
    | succ N =>
      replace h : f_HM_duel_72_b row (f_HM_duel_72 row N) turns first what (d : Int) thr lw br va su set rest hi he tried bests firsts = some o := h
      unfold f_HM_duel_72_b at h
      rw [zwi (x := (d : Int)) (by omega), zwi (x := turns) (by omega), if_neg (by omega), if_neg (by omega)] at h
      obtain ⟨v7, v8, v9, v10, v11, a12, a13, e1, h⟩ := xz_d7 h
      have bb : -1000 ≤ bests d ∧ bests d ≤ 60 := by rcases hI with q | q <;> omega
      have cc := fun a b => CANX_c (pa := pa) (pl := pl) (ch := ch) (la := la) (fo := fo) (st := st) (ex := ex) (te := te) (ord := ord) (od := od) hC hh a b
      unfold f_HM_nextMove at e1
      replace e1 := xp_n (xp_g e1).2
      rw [zd, htd, show (p : Int) - 1 + 1 = (p : Int) from by omega] at e1
      have rn := r_next9 (pa := pa) (pl := pl) hF em hm hh hw (by omega) bb (by omega) zfu p _ _ _ _ _ _ (by omega) e1
      have gap : ∀ y : Nat, p ≤ y → (∀ j : Nat, p ≤ j → j < y → ¬ CANX many ch la fo st ex te ord od hi he (j / 4) (j % 4)) → AT pa pl many ch la fo st ex te ord od T (SDF first d) hi he0 y = AT pa pl many ch la fo st ex te ord od T (SDF first d) hi he0 p := fun y y1 y2 => by
        have z := ACQ_gap (C := CANX many ch la fo st ex te ord od hi he0) (F := fun a b => VAL pa pl many ch la fo st ex te ord od T (1 - SDF first d) (MVH hi a b) (MVW hi he0 a b)) (s := SDF first d) (p := p) (y - p) (fun q q1 q2 m => y2 q q1 (by omega) ((cc _ _).mp m))
        rw [show p + (y - p) = y from by omega] at z
        exact z
      have hS' : STW many hi he := STW_c hS hC
      rcases rn with ⟨y, y1, y2, y3, y4, y5⟩ | ⟨z1, z2⟩
      · -- a move
        have y2 : v7 = (y : Int) := y2
        subst y2
        have w16 : zi_w 16 = 16 := by decide +kernel
        have w18 : zi_w 18 = 18 := by decide +kernel
        unfold f_HM_duel_94 at h
        rw [zwi (x := (d : Int)) (by omega), zwi (x := turns) (by omega), if_neg (by omega), w16, w18, zwi (x := (y : Int)) (by omega), if_neg (by omega), if_pos (by omega)] at h
        replace h := (xp_s h).2
        rw [if_neg (by omega)] at h
        replace h := xp_n (xp_gd h).2
        replace h := xp_n (xp_gd h).2
        obtain ⟨a4, a5, e2, h⟩ := xz_d2 h
        generalize eA : y / 4 = A at y4
        generalize eB : y % 4 = B at y4
        rw [zi_div_n (by omega) (by decide), zi_rem_n (by omega) (by decide), show (y : Int) / 4 = (A : Int) from by omega, show (y : Int) % 4 = (B : Int) from by omega] at e2
        rw [zd] at h
        have y4' := y4
        obtain ⟨x1, x2, x3, x4, x5, _⟩ := y4'
        have qA := hh A
        have qB := hh B
        have g2 := r_shift (by omega) (by omega) x3 qA qB e2
        have g2a : a4 = MVH hi A B := (congrArg Prod.fst g2).trans (MVH_alt x3)
        have g2b : a5 = MVW hi he A B := congrArg Prod.snd g2
        subst g2a g2b
        obtain ⟨tried1, bests1, k1, k2, h⟩ := r_197 (by omega) h
        have RT := hB N (d + 1) _ _ _ _ _ _ (MVH hi A B) (MVW hi he A B) tried1 bests1 firsts o (by omega) (fun z => k2 (by omega)) (MVH_R hh x4 x5) (MVW_R hw) (STW_mv hS' hh x1 x2 x4 x5 x3) h
        obtain ⟨N', lw', br', va', su', set', rest', he', tried', bests', firsts', h, C', R', kp, _⟩ := RT
        have vv := VAL_c (ch := ch) (la := la) (fo := fo) (st := st) (ex := ex) (ord := ord) (od := od) hR hm em hP hte T (SDF first (d + 1)) _ _ _ _ (MVH_R hh x4 x5) (MVH_R hh x4 x5) (CREL_mv hC hh x1 x2 x3 x4 x5)
        rw [← vv.1] at h
        have bv := vv.2
        generalize ev : VAL pa pl many ch la fo st ex te ord od T (SDF first (d + 1)) (MVH hi A B) (MVW hi he0 A B) = v at h bv
        have td : tried' d = (y : Int) := by rw [(kp d (by omega)).1, (k1 d (by omega)).1, zu_eq]
        have bd : bests' d = bests d := by rw [(kp d (by omega)).2.1, (k1 d (by omega)).2]
        have fd : firsts' d = firsts d := (kp d (by omega)).2.2
        unfold f_HM_duel_136 at h
        replace h := xp_n h
        rw [show ((d + 1 : Nat) : Int) + (-1) = (d : Int) from by omega, zwi (x := (d : Int)) (by omega), if_neg (by omega)] at h
        replace h := (xp_g h).2
        rw [zd, td] at h
        obtain ⟨a3, a4, e3, h⟩ := xz_d2 h
        unfold f_HM_unmove at e3
        rw [w16, zwi (x := (y : Int)) (by omega), if_neg (by omega)] at e3
        replace e3 := xp_n (xp_gd e3).2
        replace e3 := xp_n (xp_gd e3).2
        rw [zi_div_n (by omega) (by decide), zi_rem_n (by omega) (by decide), show (y : Int) / 4 = (A : Int) from by omega, show (y : Int) % 4 = (B : Int) from by omega] at e3
        obtain ⟨b3, b4, e4, e3⟩ := xz_d2 e3
        cases e3
        have rA := MVH_R hh x4 x5 (a := A) (b := B) A
        have rB := MVH_R hh x4 x5 (a := A) (b := B) B
        have g3 := r_shift (by omega) (by omega) (Ne.symm x3) rB rA e4
        have back := mv_back (W := he) (W2 := he') hh x1 x2 x3 x4 x5 C'
        have g3a : a3 = hi := (congrArg Prod.fst g3).trans ((MVH_alt (Ne.symm x3)).trans back.1)
        have g3b : a4 = MVW (MVH hi A B) he' B A := congrArg Prod.snd g3
        rw [g3a] at h
        obtain ⟨a5, a6, e5, h⟩ := xz_d2 h
        have st1 := r_settle hf (by omega) bv (by rw [bd]; exact bb) e5
        unfold f_HM_duel_166 f_HM_duel_224 at h
        have stq := ACQ_y (C := CANX many ch la fo st ex te ord od hi he0) (F := fun a b => VAL pa pl many ch la fo st ex te ord od T (1 - SDF first d) (MVH hi a b) (MVW hi he0 a b)) (s := SDF first d) (p := y) (by rw [eA, eB]; exact (cc A B).mpr y4)
        rw [eA, eB] at stq
        try dsimp only at stq
        rw [rs] at ev
        rw [ev] at stq
        have stq : AT pa pl many ch la fo st ex te ord od T (SDF first d) hi he0 (y + 1) = UPD (SDF first d) (AT pa pl many ch la fo st ex te ord od T (SDF first d) hi he0 y) (y : Int) v := stq
        rw [gap y y3 y5] at stq
        have cond : (bests' d = -1000 ∨ (if (first + (d : Int)) % 2 = 0 then bests' d < v else v < bests' d)) ↔ ((AT pa pl many ch la fo st ex te ord od T (SDF first d) hi he0 p).1 = -1 ∨ (if SDF first d = 0 then (AT pa pl many ch la fo st ex te ord od T (SDF first d) hi he0 p).1 < v else v < (AT pa pl many ch la fo st ex te ord od T (SDF first d) hi he0 p).1)) := by
          rw [bd]
          show (bests d = -1000 ∨ (if SDF first d = 0 then bests d < v else v < bests d)) ↔ _
          rcases hI with ⟨q1, q2⟩ | ⟨q1, q2, _⟩
          · rw [q1, q2]
            exact ⟨fun _ => Or.inl rfl, fun _ => Or.inl rfl⟩
          · rw [← q2]
            constructor
            · intro m
              rcases m with m | m
              · omega
              · exact Or.inr m
            · intro m
              rcases m with m | m
              · omega
              · exact Or.inr m
        have kj : ∀ j : Nat, j < d → tried' j = tried0 j ∧ bests' j = bests0 j ∧ firsts' j = firsts0 j := fun j hj => by
          have m1 := kp j (by omega)
          have m2 := k1 j (by omega)
          have m3 := hk j hj
          refine ⟨?_, ?_, ?_⟩
          · rw [m1.1, m2.1, zu_ne _ _ (by omega)]; exact m3.1
          · rw [m1.2.1, m2.2]; exact m3.2.1
          · rw [m1.2.2]; exact m3.2.2
        have R2 : zR a4 0 30 := by rw [g3b]; exact MVW_R R'
        have C2 : CREL many hi he0 hi a4 := by rw [g3b]; exact CREL_tr hC back.2
        by_cases cd : bests' d = -1000 ∨ (if (first + (d : Int)) % 2 = 0 then bests' d < v else v < bests' d)
        · rw [if_pos cd] at st1
          cases st1
          refine ih N' (y + 1) _ _ _ _ _ _ _ _ _ _ (by omega) (by omega) (by rw [td]; omega) (Or.inr ?_) C2 R2 (fun j hj => ?_) h
          · rw [stq]
            unfold UPD
            rw [if_pos (cond.mp cd), zu_eq, zu_eq, td]
            exact ⟨bv, rfl, by omega, rfl⟩
          · rw [zu_ne _ _ (by omega), zu_ne _ _ (by omega)]
            exact kj j hj
        · rw [if_neg cd] at st1
          cases st1
          refine ih N' (y + 1) _ _ _ _ _ _ _ _ _ _ (by omega) (by omega) (by rw [td]; omega) ?_ C2 R2 kj h
          unfold RLI
          rw [stq]
          unfold UPD
          rw [if_neg (fun m => cd (cond.mpr m)), bd, fd]
          exact hI
      · -- none is left
        have z2 : v7 = if bests d = -1000 ∧ tried d < 16 then 17 else if p < 16 then 16 else (p : Int) := z2
        have g16 := gap 16 hp z1
        have w16 : zi_w 16 = 16 := by decide +kernel
        have w18 : zi_w 18 = 18 := by decide +kernel
        have w17 : zi_w 17 = 17 := by decide +kernel
        rcases hI with ⟨q1, q2⟩ | ⟨q1, q2, q3, q4⟩
        · -- he passes
          rw [if_pos ⟨q2, by omega⟩] at z2
          subst z2
          have none16 : ∀ q : Nat, q < 16 → ¬ CANX many ch la fo st ex te ord od hi he0 (q / 4) (q % 4) := by
            rcases rng 16 with r | r
            · exact r.2.2
            · rw [g16] at r; omega
          have noneh : ∀ q : Nat, q < 16 → ¬ CANX many ch la fo st ex te ord od hi he (q / 4) (q % 4) := fun q hq m => none16 q hq ((cc _ _).mpr m)
          unfold f_HM_duel_94 at h
          rw [zwi (x := (d : Int)) (by omega), zwi (x := turns) (by omega), if_neg (by omega), w16, w18, w17, if_neg (by decide), if_pos (by decide)] at h
          replace h := (xp_s h).2
          rw [if_pos (by decide), zd] at h
          obtain ⟨tried1, bests1, k1, k2, h⟩ := r_197 (by omega) h
          have RT := hB N (d + 1) _ _ _ _ _ _ hi he tried1 bests1 firsts o (by omega) (fun z => k2 (by omega)) hh hw hS' h
          obtain ⟨N', lw', br', va', su', set', rest', he', tried', bests', firsts', h, C', R', kp, _⟩ := RT
          have bv := (SHV_both hR hm em hh hh hP hte (fun _ _ => rfl)).2
          rw [VAL_none noneh] at h
          have td : tried' d = 17 := by rw [(kp d (by omega)).1, (k1 d (by omega)).1, zu_eq]
          have bd : bests' d = bests d := by rw [(kp d (by omega)).2.1, (k1 d (by omega)).2]
          unfold f_HM_duel_136 at h
          replace h := xp_n h
          rw [show ((d + 1 : Nat) : Int) + (-1) = (d : Int) from by omega, zwi (x := (d : Int)) (by omega), if_neg (by omega)] at h
          replace h := (xp_g h).2
          rw [zd, td] at h
          obtain ⟨a3, a4, e3, h⟩ := xz_d2 h
          unfold f_HM_unmove at e3
          rw [w16, w17, if_pos (by decide)] at e3
          cases e3
          obtain ⟨a5, a6, e5, h⟩ := xz_d2 h
          have st1 := r_settle hf (by omega) bv (by rw [bd]; exact bb) e5
          rw [if_pos (Or.inl (by rw [bd]; exact q2))] at st1
          cases st1
          unfold f_HM_duel_166 f_HM_duel_224 at h
          cases N' with
          | zero => exact nomatch h
          | succ N' =>
            replace h : f_HM_duel_72_b row (f_HM_duel_72 row N') turns first what (d : Int) thr lw' br' va' su' set' rest' hi he' tried' (zu bests' d (SHV pa pl many te hi)) (zu firsts' d (tried' d)) = some o := h
            unfold f_HM_duel_72_b at h
            rw [zwi (x := (d : Int)) (by omega), zwi (x := turns) (by omega), if_neg (by omega), if_neg (by omega)] at h
            obtain ⟨u7, u8, u9, u10, u11, c12, c13, e6, h⟩ := xz_d7 h
            unfold f_HM_nextMove at e6
            replace e6 := xp_n (xp_g e6).2
            rw [zd, td, show (17 : Int) + 1 = ((18 : Nat) : Int) from rfl] at e6
            have rn2 := r_next9 (pa := pa) (pl := pl) hF em hm hh R' (by omega) (by rw [zu_eq]; omega) (by rw [td]; decide) zfu 18 _ _ _ _ _ _ (by decide) e6
            rw [zu_eq] at rn2
            rcases rn2 with ⟨y, y1, _, y3, _⟩ | ⟨_, z4⟩
            · omega
            · have z4 : u7 = if SHV pa pl many te hi = -1000 ∧ tried' d < 16 then 17 else if 18 < 16 then 16 else ((18 : Nat) : Int) := z4
              rw [if_neg (by omega), if_neg (by decide)] at z4
              have z4 : u7 = 18 := z4
              subst z4
              unfold f_HM_duel_94 at h
              rw [zwi (x := (d : Int)) (by omega), zwi (x := turns) (by omega), if_neg (by omega), w16, w18, if_neg (by decide), if_neg (by decide)] at h
              have e16 : (AT pa pl many ch la fo st ex te ord od T (SDF first d) hi he0 16).1 = -1 := by rw [g16]; exact q1
              refine leave N' _ _ _ _ _ _ he' _ _ _ ?_ (Or.inl ⟨e16, ?_⟩) (CREL_tr hC C') R' (fun j hj => ?_) h
              · rw [zu_eq, vs, if_pos e16]
              · rw [zu_eq]; exact td
              · have m1 := kp j (by omega)
                have m2 := k1 j (by omega)
                have m3 := hk j hj
                rw [zu_ne _ _ (by omega), zu_ne _ _ (by omega)]
                refine ⟨?_, ?_, ?_⟩
                · rw [m1.1, m2.1, zu_ne _ _ (by omega)]; exact m3.1
                · rw [m1.2.1, m2.2]; exact m3.2.1
                · rw [m1.2.2]; exact m3.2.2
        · -- back with the best
          have z2 : v7 = 16 := by
            rw [z2, if_neg (by omega)]
            split <;> omega
          subst z2
          unfold f_HM_duel_94 at h
          rw [zwi (x := (d : Int)) (by omega), zwi (x := turns) (by omega), if_neg (by omega), w16, if_pos rfl] at h
          have n16 : (AT pa pl many ch la fo st ex te ord od T (SDF first d) hi he0 16).1 ≠ -1 := by rw [g16]; omega
          refine leave N _ _ _ _ _ _ he _ _ _ ?_ (Or.inr ?_) hC hw hk h
          · rw [vs, if_neg n16, g16]; exact q2
          · rw [g16]; exact ⟨q1, q3, q4⟩
theorem sp_all {pa many ch la fo : Int} {st ex te ord od pl : Nat → Int} {row : Nat → Int} {turns first what thr : Int} (hF : FOK ch la fo st ex te ord od row) (hP : PREL pa pl te row) (em : many = row 0) (hm : 0 ≤ many ∧ many ≤ 12) (ht : 1 ≤ turns ∧ turns ≤ 4) (hf : 0 ≤ first ∧ first ≤ 1) : ∀ t : Nat, SPR pa pl many ch la fo st ex te ord od row turns first what thr t := by
  intro t
  induction t with
  | zero => exact sp_0 hF hP em hm ht
  | succ T ih =>
    intro N d lw br va su set rest hi he tried bests firsts o hd hs hh hw hS h
    obtain ⟨s1, s2⟩ := hs (by omega)
    exact sp_lv hF hP em hm ht hf ih hd hh hS 17 N 0 lw br va su set rest he tried bests firsts (by omega) (by omega) (by rw [s1]; rfl) (Or.inl ⟨rfl, s2⟩) ⟨fun _ _ => rfl, fun _ _ _ _ => rfl⟩ hw (fun j _ => ⟨rfl, rfl, rfl⟩) h
