/-! THE DUEL: moves, shades, what it is worth -/
def MVH (H : Nat → Int) (a b : Nat) : Nat → Int := zu (zu H b (H b + 1)) a (H a - 1)
def MVW (H W : Nat → Int) (a b : Nat) : Nat → Int := zu W (10 * b + (H b).toNat) (TOPV H W a)
def CANX (many ch la fo : Int) (st ex te ord od H W : Nat → Int) (a b : Nat) : Prop := (a : Int) < many ∧ (b : Int) < many ∧ a ≠ b ∧ 1 ≤ H a ∧ H b ≤ 9 ∧ CNQ ch la fo st ex te ord od (a : Int) (b : Int) (TOPV H W a) (H a) (H b)
def SHV (pa : Int) (pl : Nat → Int) (many : Int) (te H : Nat → Int) : Int := match f_Hill_shades pa many pl te H with | some v => v | none => 0
def UPD (s : Int) (r : Int × Int) (p v : Int) : Int × Int := if r.1 = -1 ∨ (if s = 0 then r.1 < v else v < r.1) then (v, p) else r
noncomputable def ACQ (C : Nat → Nat → Prop) (F : Nat → Nat → Int) (s : Int) : Nat → Int × Int
  | 0 => (-1, -1)
  | p + 1 => @ite (Int × Int) (C (p / 4) (p % 4)) (Classical.propDecidable _) (UPD s (ACQ C F s p) (p : Int) (F (p / 4) (p % 4))) (ACQ C F s p)
noncomputable def VAL (pa : Int) (pl : Nat → Int) (many ch la fo : Int) (st ex te ord od : Nat → Int) : Nat → Int → (Nat → Int) → (Nat → Int) → Int
  | 0 => fun _ H _ => SHV pa pl many te H
  | t + 1 => fun s H W => if (ACQ (CANX many ch la fo st ex te ord od H W) (fun a b => VAL pa pl many ch la fo st ex te ord od t (1 - s) (MVH H a b) (MVW H W a b)) s 16).1 = -1 then SHV pa pl many te H else (ACQ (CANX many ch la fo st ex te ord od H W) (fun a b => VAL pa pl many ch la fo st ex te ord od t (1 - s) (MVH H a b) (MVW H W a b)) s 16).1
/-- the moves looked at so far, at t + 1 turns -/
noncomputable def AT (pa : Int) (pl : Nat → Int) (many ch la fo : Int) (st ex te ord od : Nat → Int) (t : Nat) (s : Int) (H W : Nat → Int) (p : Nat) : Int × Int := ACQ (CANX many ch la fo st ex te ord od H W) (fun a b => VAL pa pl many ch la fo st ex te ord od t (1 - s) (MVH H a b) (MVW H W a b)) s p
theorem VAL_s {pa many ch la fo : Int} {st ex te ord od pl : Nat → Int} {t : Nat} {s : Int} {H W : Nat → Int} : VAL pa pl many ch la fo st ex te ord od (t + 1) s H W = if (AT pa pl many ch la fo st ex te ord od t s H W 16).1 = -1 then SHV pa pl many te H else (AT pa pl many ch la fo st ex te ord od t s H W 16).1 := rfl
theorem ACQ_y {C : Nat → Nat → Prop} {F : Nat → Nat → Int} {s : Int} {p : Nat} (h : C (p / 4) (p % 4)) : ACQ C F s (p + 1) = UPD s (ACQ C F s p) (p : Int) (F (p / 4) (p % 4)) := by
  show @ite (Int × Int) (C (p / 4) (p % 4)) (Classical.propDecidable _) _ _ = _
  rw [if_pos h]
theorem ACQ_n {C : Nat → Nat → Prop} {F : Nat → Nat → Int} {s : Int} {p : Nat} (h : ¬ C (p / 4) (p % 4)) : ACQ C F s (p + 1) = ACQ C F s p := by
  show @ite (Int × Int) (C (p / 4) (p % 4)) (Classical.propDecidable _) _ _ = _
  rw [if_neg h]
theorem ACQ_gap {C : Nat → Nat → Prop} {F : Nat → Nat → Int} {s : Int} {p : Nat} : ∀ n : Nat, (∀ q : Nat, p ≤ q → q < p + n → ¬ C (q / 4) (q % 4)) → ACQ C F s (p + n) = ACQ C F s p := by
  intro n
  induction n with
  | zero => intro _; rfl
  | succ n ih =>
    intro h
    rw [show p + (n + 1) = (p + n) + 1 from by omega, ACQ_n (h (p + n) (by omega) (by omega))]
    exact ih (fun q q1 q2 => h q q1 (by omega))
theorem ACQ_c {C C' : Nat → Nat → Prop} {F F' : Nat → Nat → Int} {s : Int} (hC : ∀ a b, C a b ↔ C' a b) (hF : ∀ a b, C a b → F a b = F' a b) : ∀ p, ACQ C F s p = ACQ C' F' s p := by
  intro p
  induction p with
  | zero => rfl
  | succ p ih =>
    by_cases c : C (p / 4) (p % 4)
    · rw [ACQ_y c, ACQ_y ((hC _ _).mp c), ih, hF _ _ c]
    · rw [ACQ_n c, ACQ_n (fun z => c ((hC _ _).mpr z)), ih]
theorem UPD_y {s p v : Int} {r : Int × Int} (c : r.1 = -1 ∨ (if s = 0 then r.1 < v else v < r.1)) : UPD s r p v = (v, p) := if_pos c
theorem UPD_n {s p v : Int} {r : Int × Int} (c : ¬ (r.1 = -1 ∨ (if s = 0 then r.1 < v else v < r.1))) : UPD s r p v = r := if_neg c
theorem UPD_r {s p v : Int} {r : Int × Int} (hv : 0 ≤ v ∧ v ≤ 60) (hr : (r.1 = -1 ∧ r.2 = -1) ∨ (0 ≤ r.1 ∧ r.1 ≤ 60)) : 0 ≤ (UPD s r p v).1 ∧ (UPD s r p v).1 ≤ 60 := by
  by_cases c : r.1 = -1 ∨ (if s = 0 then r.1 < v else v < r.1)
  · rw [UPD_y c]; exact hv
  · rw [UPD_n c]
    rcases hr with h | h
    · exact absurd (Or.inl h.1) c
    · exact h
theorem ACQ_r {C : Nat → Nat → Prop} {F : Nat → Nat → Int} {s : Int} (hF : ∀ a b, C a b → 0 ≤ F a b ∧ F a b ≤ 60) : ∀ p : Nat, ((ACQ C F s p).1 = -1 ∧ (ACQ C F s p).2 = -1 ∧ ∀ q : Nat, q < p → ¬ C (q / 4) (q % 4)) ∨ ((0 ≤ (ACQ C F s p).1 ∧ (ACQ C F s p).1 ≤ 60) ∧ (0 ≤ (ACQ C F s p).2 ∧ (ACQ C F s p).2 < (p : Int))) := by
  intro p
  induction p with
  | zero => exact Or.inl ⟨rfl, rfl, fun q h => absurd h (by omega)⟩
  | succ p ih =>
    by_cases c : C (p / 4) (p % 4)
    · have b := hF _ _ c
      rw [ACQ_y c]
      refine Or.inr ⟨UPD_r b (by rcases ih with h | h; exact Or.inl ⟨h.1, h.2.1⟩; exact Or.inr h.1), ?_⟩
      by_cases d : (ACQ C F s p).1 = -1 ∨ (if s = 0 then (ACQ C F s p).1 < F (p / 4) (p % 4) else F (p / 4) (p % 4) < (ACQ C F s p).1)
      · rw [UPD_y d]; dsimp only; omega
      · rw [UPD_n d]
        rcases ih with h | h
        · exact absurd (Or.inl h.1) d
        · omega
    · rw [ACQ_n c]
      rcases ih with ⟨h1, h2, h3⟩ | h
      · refine Or.inl ⟨h1, h2, fun q hq => ?_⟩
        by_cases e : q = p
        · subst e; exact c
        · exact h3 q (by omega)
      · exact Or.inr ⟨h.1, by omega⟩
theorem SHV_both {pa many : Int} {te pl : Nat → Int} {row H hi : Nat → Int} (hR : RI row) (hm : 0 ≤ many ∧ many ≤ 12) (em : many = row 0) (hh : zR H 0 10) (hh' : zR hi 0 10) (hP : PREL pa pl te row) (ht : zR te 0 99) (hC : ∀ c : Nat, (c : Int) < many → hi c = H c) : (∀ w, f_HM_allShades row hi = some w → w = SHV pa pl many te H) ∧ (0 ≤ SHV pa pl many te H ∧ SHV pa pl many te H ≤ 60) := by
  obtain ⟨u, e, _⟩ := s_Hill_shades pa many pl te H ⟨hP.1.1, hP.1.2.1⟩ hm hP.2.2.1 ht hh
  obtain ⟨w, d, _⟩ := s_HM_allShades row hi hR hh'
  have es : SHV pa pl many te H = u := by
    unfold SHV
    rw [e]
  have e' := e
  unfold f_Hill_shades at e'
  have key : ∀ w, f_HM_allShades row hi = some w → u = w ∧ 0 ≤ u ∧ u ≤ 60 := fun w d => by
    unfold f_HM_allShades at d
    exact shades_eq hm em hh hP hC zfu zfu 0 0 u w (by decide) (by decide) e' d
  rw [es]
  exact ⟨fun w d => (key w d).1.symm, (key w d).2⟩
theorem SHV_c {pa many : Int} {te pl : Nat → Int} {row H hi : Nat → Int} (hR : RI row) (hm : 0 ≤ many ∧ many ≤ 12) (em : many = row 0) (hh : zR H 0 10) (hh' : zR hi 0 10) (hP : PREL pa pl te row) (ht : zR te 0 99) (hC : ∀ c : Nat, (c : Int) < many → hi c = H c) : SHV pa pl many te hi = SHV pa pl many te H := by
  obtain ⟨w, d, _⟩ := s_HM_allShades row hi hR hh'
  rw [← (SHV_both hR hm em hh hh' hP ht hC).1 w d, ← (SHV_both hR hm em hh' hh' hP ht (fun _ _ => rfl)).1 w d]
theorem MVH_R {H : Nat → Int} {a b : Nat} (hh : zR H 0 10) (h1 : 1 ≤ H a) (h2 : H b ≤ 9) : zR (MVH H a b) 0 10 := fun c => by
  have q := hh c
  have qa := hh a
  have qb := hh b
  unfold MVH
  by_cases e : c = a
  · subst e; rw [zu_eq]; omega
  · rw [zu_ne _ _ e]
    by_cases d : c = b
    · subst d; rw [zu_eq]; omega
    · rw [zu_ne _ _ d]; exact q
theorem MVW_R {H W : Nat → Int} {a b : Nat} (hw : zR W 0 30) : zR (MVW H W a b) 0 30 := fun c => by
  unfold MVW
  by_cases e : c = 10 * b + (H b).toNat
  · rw [e, zu_eq]; exact TOPV_r hw a
  · rw [zu_ne _ _ e]; exact hw c
theorem MVH_alt {H : Nat → Int} {a b : Nat} (hab : a ≠ b) : zu (zu H a (H a - 1)) b (H b + 1) = MVH H a b := by
  funext c
  unfold MVH
  by_cases e : c = a
  · subst e; rw [zu_eq, zu_ne _ _ hab, zu_eq]
  · rw [zu_ne (zu H b (H b + 1)) _ e]
    by_cases d : c = b
    · subst d; rw [zu_eq, zu_eq]
    · rw [zu_ne _ _ d, zu_ne _ _ e, zu_ne _ _ d]
theorem CREL_mv {many : Int} {H W H' W' : Nat → Int} (h : CREL many H W H' W') (hh : zR H 0 10) {a b : Nat} (ha : (a : Int) < many) (hb : (b : Int) < many) (hab : a ≠ b) (h1 : 1 ≤ H a) (h2 : H b ≤ 9) : CREL many (MVH H a b) (MVW H W a b) (MVH H' a b) (MVW H' W' a b) := by
  have q := CREL_move h hh ha hb hab (by omega) (by omega)
  rw [MVH_alt hab] at q
  exact q
/-- every stone weighs something -/
def STW (many : Int) (H W : Nat → Int) : Prop := ∀ c i : Nat, (c : Int) < many → (i : Int) < H c → 1 ≤ W (10 * c + i)
theorem STW_top {many : Int} {H W : Nat → Int} (h : STW many H W) {a : Nat} (ha : (a : Int) < many) (h1 : 1 ≤ H a) : 1 ≤ TOPV H W a := by
  unfold TOPV
  rw [if_neg (by omega)]
  exact h a _ ha (by omega)
theorem STW_mv {many : Int} {H W : Nat → Int} (h : STW many H W) (hh : zR H 0 10) {a b : Nat} (ha : (a : Int) < many) (hb : (b : Int) < many) (h1 : 1 ≤ H a) (h2 : H b ≤ 9) (hab : a ≠ b) : STW many (MVH H a b) (MVW H W a b) := fun c i hc hi => by
  have tp := STW_top h ha h1
  have qa := hh a
  have qb := hh b
  have qc := hh c
  unfold MVW
  by_cases e : 10 * c + i = 10 * b + (H b).toNat
  · rw [e, zu_eq]; exact tp
  · rw [zu_ne _ _ e]
    refine h c i hc ?_
    unfold MVH at hi
    by_cases d : c = a
    · subst d; rw [zu_eq] at hi; omega
    · rw [zu_ne _ _ d] at hi
      by_cases f : c = b
      · subst f; rw [zu_eq] at hi; omega
      · rw [zu_ne _ _ f] at hi; exact hi
theorem STW_c {many : Int} {H W H' W' : Nat → Int} (h : STW many H W) (hC : CREL many H W H' W') : STW many H' W' := fun c i hc hi => by
  rw [hC.1 c hc] at hi
  rw [hC.2 c i hc hi]
  exact h c i hc hi
theorem CREL_sym {many : Int} {H W H' W' : Nat → Int} (h : CREL many H W H' W') : CREL many H' W' H W := ⟨fun c hc => (h.1 c hc).symm, fun c i hc hi => (h.2 c i hc (by rw [← h.1 c hc]; exact hi)).symm⟩
theorem CREL_tr {many : Int} {H W H' W' H2 W2 : Nat → Int} (h : CREL many H W H' W') (g : CREL many H' W' H2 W2) : CREL many H W H2 W2 := ⟨fun c hc => (g.1 c hc).trans (h.1 c hc), fun c i hc hi => (g.2 c i hc (by rw [h.1 c hc]; exact hi)).trans (h.2 c i hc hi)⟩
theorem CANX_c {pa many ch la fo : Int} {st ex te ord od pl : Nat → Int} {H W H' W' : Nat → Int} (hC : CREL many H W H' W') (hh : zR H 0 10) (a b : Nat) : CANX many ch la fo st ex te ord od H W a b ↔ CANX many ch la fo st ex te ord od H' W' a b := by
  have key : (a : Int) < many → (b : Int) < many → H' a = H a ∧ H' b = H b ∧ TOPV H' W' a = TOPV H W a := fun ha hb => ⟨hC.1 a ha, hC.1 b hb, CREL_top hC ha (hh a).1⟩
  unfold CANX
  constructor
  · intro ⟨h1, h2, h3, h4, h5, h6⟩
    obtain ⟨k1, k2, k3⟩ := key h1 h2
    rw [k1, k2, k3]
    exact ⟨h1, h2, h3, h4, h5, h6⟩
  · intro ⟨h1, h2, h3, h4, h5, h6⟩
    obtain ⟨k1, k2, k3⟩ := key h1 h2
    rw [← k1, ← k2, ← k3]
    exact ⟨h1, h2, h3, h4, h5, h6⟩
theorem VAL_c {pa many ch la fo : Int} {st ex te ord od pl : Nat → Int} {row : Nat → Int} (hR : RI row) (hm : 0 ≤ many ∧ many ≤ 12) (em : many = row 0) (hP : PREL pa pl te row) (ht : zR te 0 99) : ∀ (t : Nat) (s : Int) (H W H' W' : Nat → Int), zR H 0 10 → zR H' 0 10 → CREL many H W H' W' → VAL pa pl many ch la fo st ex te ord od t s H W = VAL pa pl many ch la fo st ex te ord od t s H' W' ∧ (0 ≤ VAL pa pl many ch la fo st ex te ord od t s H W ∧ VAL pa pl many ch la fo st ex te ord od t s H W ≤ 60) := by
  intro t
  induction t with
  | zero =>
    intro s H W H' W' hh hh' hC
    exact ⟨(SHV_c hR hm em hh hh' hP ht hC.1).symm, (SHV_both hR hm em hh hh' hP ht hC.1).2⟩
  | succ t ih =>
    intro s H W H' W' hh hh' hC
    have bF : ∀ a b, CANX many ch la fo st ex te ord od H W a b → (VAL pa pl many ch la fo st ex te ord od t (1 - s) (MVH H a b) (MVW H W a b) = VAL pa pl many ch la fo st ex te ord od t (1 - s) (MVH H' a b) (MVW H' W' a b) ∧ (0 ≤ VAL pa pl many ch la fo st ex te ord od t (1 - s) (MVH H a b) (MVW H W a b) ∧ VAL pa pl many ch la fo st ex te ord od t (1 - s) (MVH H a b) (MVW H W a b) ≤ 60)) := fun a b hx => by
      obtain ⟨x1, x2, x3, x4, x5, _⟩ := hx
      exact ih (1 - s) _ _ _ _ (MVH_R hh x4 x5) (MVH_R hh' (by rw [hC.1 a x1]; exact x4) (by rw [hC.1 b x2]; exact x5)) (CREL_mv hC hh x1 x2 x3 x4 x5)
    have ea : AT pa pl many ch la fo st ex te ord od t s H W 16 = AT pa pl many ch la fo st ex te ord od t s H' W' 16 := ACQ_c (fun a b => CANX_c (pa := pa) (pl := pl) hC hh a b) (fun a b hx => (bF a b hx).1) 16
    have ra := ACQ_r (s := s) (fun a b hx => (bF a b hx).2) 16
    have sh := SHV_both hR hm em hh hh' hP ht hC.1
    rw [VAL_s, VAL_s, ← ea, SHV_c hR hm em hh hh' hP ht hC.1]
    refine ⟨rfl, ?_⟩
    by_cases c : (AT pa pl many ch la fo st ex te ord od t s H W 16).1 = -1
    · rw [if_pos c]; exact sh.2
    · rw [if_neg c]
      rcases ra with r | r
      · exact absurd r.1 c
      · exact r.1
theorem VAL_F {pa many ch la fo : Int} {st ex te ord od pl : Nat → Int} {row : Nat → Int} (hR : RI row) (hm : 0 ≤ many ∧ many ≤ 12) (em : many = row 0) (hP : PREL pa pl te row) (ht : zR te 0 99) {H W : Nat → Int} (hh : zR H 0 10) (t : Nat) (s : Int) : ∀ a b, CANX many ch la fo st ex te ord od H W a b → 0 ≤ VAL pa pl many ch la fo st ex te ord od t (1 - s) (MVH H a b) (MVW H W a b) ∧ VAL pa pl many ch la fo st ex te ord od t (1 - s) (MVH H a b) (MVW H W a b) ≤ 60 := fun a b hx =>
  (VAL_c hR hm em hP ht t (1 - s) _ _ _ _ (MVH_R hh hx.2.2.2.1 hx.2.2.2.2.1) (MVH_R hh hx.2.2.2.1 hx.2.2.2.2.1) ⟨fun _ _ => rfl, fun _ _ _ _ => rfl⟩).2
theorem VAL_none {pa many ch la fo : Int} {st ex te ord od pl : Nat → Int} {H W : Nat → Int} (hn : ∀ p : Nat, p < 16 → ¬ CANX many ch la fo st ex te ord od H W (p / 4) (p % 4)) : ∀ (t : Nat) (s : Int), VAL pa pl many ch la fo st ex te ord od t s H W = SHV pa pl many te H := by
  intro t s
  cases t with
  | zero => rfl
  | succ t =>
    have e : AT pa pl many ch la fo st ex te ord od t s H W 16 = (-1, -1) := ACQ_gap (p := 0) 16 (fun q _ q2 => hn q (by omega))
    rw [VAL_s, e, if_pos rfl]
theorem mv_back {many : Int} {H W W2 : Nat → Int} (hh : zR H 0 10) {a b : Nat} (ha : (a : Int) < many) (hb : (b : Int) < many) (hab : a ≠ b) (h1 : 1 ≤ H a) (h2 : H b ≤ 9) (hC : CREL many (MVH H a b) (MVW H W a b) (MVH H a b) W2) : MVH (MVH H a b) b a = H ∧ CREL many H W H (MVW (MVH H a b) W2 b a) := by
  have qa := hh a
  have qb := hh b
  have va : MVH H a b a = H a - 1 := by unfold MVH; rw [zu_eq]
  have vb : MVH H a b b = H b + 1 := by unfold MVH; rw [zu_ne _ _ (Ne.symm hab), zu_eq]
  have vc : ∀ c, c ≠ a → c ≠ b → MVH H a b c = H c := fun c c1 c2 => by unfold MVH; rw [zu_ne _ _ c1, zu_ne _ _ c2]
  refine ⟨?_, fun _ _ => rfl, fun c i hc hi => ?_⟩
  · funext c
    show zu (zu (MVH H a b) a (MVH H a b a + 1)) b (MVH H a b b - 1) c = H c
    by_cases d : c = b
    · subst d; rw [zu_eq, vb]; omega
    · rw [zu_ne _ _ d]
      by_cases e : c = a
      · subst e; rw [zu_eq, va]; omega
      · rw [zu_ne _ _ e, vc c e d]
  · have qc := hh c
    have tb : TOPV (MVH H a b) W2 b = TOPV H W a := by
      unfold TOPV
      rw [vb, if_neg (by omega), hC.2 b _ hb (by rw [vb]; omega)]
      unfold MVW
      rw [show 10 * b + (H b + 1 - 1).toNat = 10 * b + (H b).toNat from by omega, zu_eq]
      rfl
    unfold MVW at hC ⊢
    rw [tb, va]
    by_cases e : 10 * c + i = 10 * a + (H a - 1).toNat
    · rw [e, zu_eq]
      unfold TOPV
      rw [if_neg (by omega)]
    · rw [zu_ne _ _ e]
      have lv : (i : Int) < MVH H a b c := by
        by_cases ea : c = a
        · subst ea; rw [va]; omega
        · by_cases eb : c = b
          · subst eb; rw [vb]; omega
          · rw [vc c ea eb]; exact hi
      rw [hC.2 c i hc lv, zu_ne _ _ (by
        by_cases eb : c = b
        · subst eb; omega
        · omega)]
