/-! THE DUEL: moves, shades, what it is worth -/
def MVH (H : Nat → Int) (a b : Nat) : Nat → Int := zu (zu H b (H b + 1)) a (H a - 1)
def MVW (H W : Nat → Int) (a b : Nat) : Nat → Int := zu W (10 * b + (H b).toNat) (TOPV H W a)
def CANX (many ch la fo : Int) (st ex te ord od H W : Nat → Int) (a b : Nat) : Prop := (a : Int) < many ∧ (b : Int) < many ∧ a ≠ b ∧ 1 ≤ H a ∧ H b ≤ 9 ∧ CNQ ch la fo st ex te ord od (a : Int) (b : Int) (TOPV H W a) (H a) (H b)
def SHV (pa : Int) (pl : Nat → Int) (many : Int) (te H : Nat → Int) : Int := match f_Hill_shades pa many pl te H with | some v => v | none => 0
def UPD (s : Int) (r : Int × Int) (p v : Int) : Int × Int := if r.1 = -1 ∨ (if s = 0 then r.1 < v else v < r.1) then (v, p) else r
noncomputable def ACQ (C : Nat → Nat → Prop) (F : Nat → Nat → Int) (s : Int) : Nat → Int × Int
  | 0 => (-1, -1)
  | p + 1 => @ite (Int × Int) (C (p / 4) (p % 4)) (Classical.propDecidable _) (UPD s (ACQ C F s p) (p : Int) (F (p / 4) (p % 4))) (ACQ C F s p)
noncomputable def VAL (pa : Int) (pl : Nat → Int) (many ch la fo : Int) (st ex te ord od : Nat → Int) : Nat → Int → (Nat → Int) → (Nat → Int) → Int
  | 0 => fun _ H _ => SHV pa pl many te H
  | t + 1 => fun s H W => if (ACQ (CANX many ch la fo st ex te ord od H W) (fun a b => VAL pa pl many ch la fo st ex te ord od t (1 - s) (MVH H a b) (MVW H W a b)) s 16).1 = -1 then SHV pa pl many te H else (ACQ (CANX many ch la fo st ex te ord od H W) (fun a b => VAL pa pl many ch la fo st ex te ord od t (1 - s) (MVH H a b) (MVW H W a b)) s 16).1
/-- the moves looked at so far, at t + 1 turns -/
noncomputable def AT (pa : Int) (pl : Nat → Int) (many ch la fo : Int) (st ex te ord od : Nat → Int) (t : Nat) (s : Int) (H W : Nat → Int) (p : Nat) : Int × Int := ACQ (CANX many ch la fo st ex te ord od H W) (fun a b => VAL pa pl many ch la fo st ex te ord od t (1 - s) (MVH H a b) (MVW H W a b)) s p
theorem VAL_s {pa many ch la fo : Int} {st ex te ord od pl : Nat → Int} {t : Nat} {s : Int} {H W : Nat → Int} : VAL pa pl many ch la fo st ex te ord od (t + 1) s H W = if (AT pa pl many ch la fo st ex te ord od t s H W 16).1 = -1 then SHV pa pl many te H else (AT pa pl many ch la fo st ex te ord od t s H W 16).1 := rfl
theorem ACQ_y {C : Nat → Nat → Prop} {F : Nat → Nat → Int} {s : Int} {p : Nat} (h : C (p / 4) (p % 4)) : ACQ C F s (p + 1) = UPD s (ACQ C F s p) (p : Int) (F (p / 4) (p % 4)) := by
  sorry
theorem ACQ_n {C : Nat → Nat → Prop} {F : Nat → Nat → Int} {s : Int} {p : Nat} (h : ¬ C (p / 4) (p % 4)) : ACQ C F s (p + 1) = ACQ C F s p := by
  sorry
theorem ACQ_gap {C : Nat → Nat → Prop} {F : Nat → Nat → Int} {s : Int} {p : Nat} : ∀ n : Nat, (∀ q : Nat, p ≤ q → q < p + n → ¬ C (q / 4) (q % 4)) → ACQ C F s (p + n) = ACQ C F s p := by
  sorry
theorem ACQ_c {C C' : Nat → Nat → Prop} {F F' : Nat → Nat → Int} {s : Int} (hC : ∀ a b, C a b ↔ C' a b) (hF : ∀ a b, C a b → F a b = F' a b) : ∀ p, ACQ C F s p = ACQ C' F' s p := by
  sorry
theorem UPD_y {s p v : Int} {r : Int × Int} (c : r.1 = -1 ∨ (if s = 0 then r.1 < v else v < r.1)) : UPD s r p v = (v, p) := if_pos c
theorem UPD_n {s p v : Int} {r : Int × Int} (c : ¬ (r.1 = -1 ∨ (if s = 0 then r.1 < v else v < r.1))) : UPD s r p v = r := if_neg c
theorem UPD_r {s p v : Int} {r : Int × Int} (hv : 0 ≤ v ∧ v ≤ 60) (hr : (r.1 = -1 ∧ r.2 = -1) ∨ (0 ≤ r.1 ∧ r.1 ≤ 60)) : 0 ≤ (UPD s r p v).1 ∧ (UPD s r p v).1 ≤ 60 := by
  sorry
theorem ACQ_r {C : Nat → Nat → Prop} {F : Nat → Nat → Int} {s : Int} (hF : ∀ a b, C a b → 0 ≤ F a b ∧ F a b ≤ 60) : ∀ p : Nat, ((ACQ C F s p).1 = -1 ∧ (ACQ C F s p).2 = -1 ∧ ∀ q : Nat, q < p → ¬ C (q / 4) (q % 4)) ∨ ((0 ≤ (ACQ C F s p).1 ∧ (ACQ C F s p).1 ≤ 60) ∧ (0 ≤ (ACQ C F s p).2 ∧ (ACQ C F s p).2 < (p : Int))) := by
  sorry
theorem SHV_both {pa many : Int} {te pl : Nat → Int} {row H hi : Nat → Int} (hR : RI row) (hm : 0 ≤ many ∧ many ≤ 12) (em : many = row 0) (hh : zR H 0 10) (hh' : zR hi 0 10) (hP : PREL pa pl te row) (ht : zR te 0 99) (hC : ∀ c : Nat, (c : Int) < many → hi c = H c) : (∀ w, f_HM_allShades row hi = some w → w = SHV pa pl many te H) ∧ (0 ≤ SHV pa pl many te H ∧ SHV pa pl many te H ≤ 60) := by
  sorry
theorem SHV_c {pa many : Int} {te pl : Nat → Int} {row H hi : Nat → Int} (hR : RI row) (hm : 0 ≤ many ∧ many ≤ 12) (em : many = row 0) (hh : zR H 0 10) (hh' : zR hi 0 10) (hP : PREL pa pl te row) (ht : zR te 0 99) (hC : ∀ c : Nat, (c : Int) < many → hi c = H c) : SHV pa pl many te hi = SHV pa pl many te H := by
  sorry
theorem MVH_R {H : Nat → Int} {a b : Nat} (hh : zR H 0 10) (h1 : 1 ≤ H a) (h2 : H b ≤ 9) : zR (MVH H a b) 0 10 := fun c => by
  have q := hh c
  have qa := hh a
  have qb := hh b
  unfold MVH
  by_cases e : c = a
  · subst e; rw [zu_eq]; omega
  · rw [zu_ne _ _ e]
    by_cases d : c = b
    · subst d; rw [zu_eq]; omega
    · rw [zu_ne _ _ d]; exact q
theorem MVW_R {H W : Nat → Int} {a b : Nat} (hw : zR W 0 30) : zR (MVW H W a b) 0 30 := fun c => by
  unfold MVW
  by_cases e : c = 10 * b + (H b).toNat
  · rw [e, zu_eq]; exact TOPV_r hw a
  · rw [zu_ne _ _ e]; exact hw c
theorem MVH_alt {H : Nat → Int} {a b : Nat} (hab : a ≠ b) : zu (zu H a (H a - 1)) b (H b + 1) = MVH H a b := by
  sorry
theorem CREL_mv {many : Int} {H W H' W' : Nat → Int} (h : CREL many H W H' W') (hh : zR H 0 10) {a b : Nat} (ha : (a : Int) < many) (hb : (b : Int) < many) (hab : a ≠ b) (h1 : 1 ≤ H a) (h2 : H b ≤ 9) : CREL many (MVH H a b) (MVW H W a b) (MVH H' a b) (MVW H' W' a b) := by
  sorry
/-- every stone weighs something -/
def STW (many : Int) (H W : Nat → Int) : Prop := ∀ c i : Nat, (c : Int) < many → (i : Int) < H c → 1 ≤ W (10 * c + i)
theorem STW_top {many : Int} {H W : Nat → Int} (h : STW many H W) {a : Nat} (ha : (a : Int) < many) (h1 : 1 ≤ H a) : 1 ≤ TOPV H W a := by
  sorry
theorem STW_mv {many : Int} {H W : Nat → Int} (h : STW many H W) (hh : zR H 0 10) {a b : Nat} (ha : (a : Int) < many) (hb : (b : Int) < many) (h1 : 1 ≤ H a) (h2 : H b ≤ 9) (hab : a ≠ b) : STW many (MVH H a b) (MVW H W a b) := fun c i hc hi => by
  have tp := STW_top h ha h1
  have qa := hh a
  have qb := hh b
  have qc := hh c
  unfold MVW
  by_cases e : 10 * c + i = 10 * b + (H b).toNat
  · rw [e, zu_eq]; exact tp
  · rw [zu_ne _ _ e]
    refine h c i hc ?_
    unfold MVH at hi
    by_cases d : c = a
    · subst d; rw [zu_eq] at hi; omega
    · rw [zu_ne _ _ d] at hi
      by_cases f : c = b
      · subst f; rw [zu_eq] at hi; omega
      · rw [zu_ne _ _ f] at hi; exact hi
theorem STW_c {many : Int} {H W H' W' : Nat → Int} (h : STW many H W) (hC : CREL many H W H' W') : STW many H' W' := fun c i hc hi => by
  rw [hC.1 c hc] at hi
  rw [hC.2 c i hc hi]
  exact h c i hc hi
theorem CREL_sym {many : Int} {H W H' W' : Nat → Int} (h : CREL many H W H' W') : CREL many H' W' H W := ⟨fun c hc => (h.1 c hc).symm, fun c i hc hi => (h.2 c i hc (by rw [← h.1 c hc]; exact hi)).symm⟩
theorem CREL_tr {many : Int} {H W H' W' H2 W2 : Nat → Int} (h : CREL many H W H' W') (g : CREL many H' W' H2 W2) : CREL many H W H2 W2 := ⟨fun c hc => (g.1 c hc).trans (h.1 c hc), fun c i hc hi => (g.2 c i hc (by rw [h.1 c hc]; exact hi)).trans (h.2 c i hc hi)⟩
theorem CANX_c {pa many ch la fo : Int} {st ex te ord od pl : Nat → Int} {H W H' W' : Nat → Int} (hC : CREL many H W H' W') (hh : zR H 0 10) (a b : Nat) : CANX many ch la fo st ex te ord od H W a b ↔ CANX many ch la fo st ex te ord od H' W' a b := by
  sorry
theorem VAL_c {pa many ch la fo : Int} {st ex te ord od pl : Nat → Int} {row : Nat → Int} (hR : RI row) (hm : 0 ≤ many ∧ many ≤ 12) (em : many = row 0) (hP : PREL pa pl te row) (ht : zR te 0 99) : ∀ (t : Nat) (s : Int) (H W H' W' : Nat → Int), zR H 0 10 → zR H' 0 10 → CREL many H W H' W' → VAL pa pl many ch la fo st ex te ord od t s H W = VAL pa pl many ch la fo st ex te ord od t s H' W' ∧ (0 ≤ VAL pa pl many ch la fo st ex te ord od t s H W ∧ VAL pa pl many ch la fo st ex te ord od t s H W ≤ 60) := by
  sorry
theorem VAL_F {pa many ch la fo : Int} {st ex te ord od pl : Nat → Int} {row : Nat → Int} (hR : RI row) (hm : 0 ≤ many ∧ many ≤ 12) (em : many = row 0) (hP : PREL pa pl te row) (ht : zR te 0 99) {H W : Nat → Int} (hh : zR H 0 10) (t : Nat) (s : Int) : ∀ a b, CANX many ch la fo st ex te ord od H W a b → 0 ≤ VAL pa pl many ch la fo st ex te ord od t (1 - s) (MVH H a b) (MVW H W a b) ∧ VAL pa pl many ch la fo st ex te ord od t (1 - s) (MVH H a b) (MVW H W a b) ≤ 60 := fun a b hx =>
  (VAL_c hR hm em hP ht t (1 - s) _ _ _ _ (MVH_R hh hx.2.2.2.1 hx.2.2.2.2.1) (MVH_R hh hx.2.2.2.1 hx.2.2.2.2.1) ⟨fun _ _ => rfl, fun _ _ _ _ => rfl⟩).2
theorem VAL_none {pa many ch la fo : Int} {st ex te ord od pl : Nat → Int} {H W : Nat → Int} (hn : ∀ p : Nat, p < 16 → ¬ CANX many ch la fo st ex te ord od H W (p / 4) (p % 4)) : ∀ (t : Nat) (s : Int), VAL pa pl many ch la fo st ex te ord od t s H W = SHV pa pl many te H := by
  sorry
theorem mv_back {many : Int} {H W W2 : Nat → Int} (hh : zR H 0 10) {a b : Nat} (ha : (a : Int) < many) (hb : (b : Int) < many) (hab : a ≠ b) (h1 : 1 ≤ H a) (h2 : H b ≤ 9) (hC : CREL many (MVH H a b) (MVW H W a b) (MVH H a b) W2) : MVH (MVH H a b) b a = H ∧ CREL many H W H (MVW (MVH H a b) W2 b a) := by
  sorry
