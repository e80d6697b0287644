/-! NUMBERS OF A NOTE -/
theorem nt_shl3 {v : Int} (hv : 0 ≤ v ∧ v ≤ 200000) : zi_shl v 3 = 8 * v := by
  have e : zi_shl v 3 = ((Int32.ofInt v).toBitVec <<< ((Int32.ofInt 3 &&& 31).toBitVec.smod 32)).toInt := rfl
  have k1 : ((Int32.ofInt 3 &&& 31).toBitVec.smod 32).toNat = 3 := by decide +kernel
  have n1 := zi_nat (x := v) (by omega)
  have n2 : ((Int32.ofInt v).toBitVec <<< ((Int32.ofInt 3 &&& 31).toBitVec.smod 32)).toNat = 8 * v.toNat := by
    rw [BitVec.shiftLeft_eq', BitVec.toNat_shiftLeft, k1, n1, Nat.shiftLeft_eq]
    omega
  rw [e, BitVec.toInt_eq_toNat_cond, n2]
  split <;> omega
theorem nt_or3 {v k : Int} (hv : 0 ≤ v ∧ v ≤ 200000) (hk : 0 ≤ k ∧ k < 8) : zi_or (8 * v) k = 8 * v + k := by
  have e : zi_or (8 * v) k = ((Int32.ofInt (8 * v)).toBitVec ||| (Int32.ofInt k).toBitVec).toInt := rfl
  have n2 : ((Int32.ofInt (8 * v)).toBitVec ||| (Int32.ofInt k).toBitVec).toNat = 8 * v.toNat + k.toNat := by
    rw [BitVec.toNat_or, zi_nat (x := 8 * v) (by omega), zi_nat (x := k) (by omega)]
    have h := Nat.shiftLeft_add_eq_or_of_lt (b := k.toNat) (i := 3) (by omega) v.toNat
    rw [Nat.shiftLeft_eq] at h
    rw [show (8 * v).toNat = v.toNat * 2 ^ 3 from by omega, ← h]
    omega
  rw [e, BitVec.toInt_eq_toNat_cond, n2]
  split <;> omega
theorem nt_and3 {x : Int} (h : 0 ≤ x ∧ x ≤ 2147483647) : zi_and x 7 = x % 8 := by
  have e : zi_and x 7 = ((Int32.ofInt x).toBitVec &&& (Int32.ofInt 7).toBitVec).toInt := rfl
  have n2 : ((Int32.ofInt x).toBitVec &&& (Int32.ofInt 7).toBitVec).toNat = x.toNat % 8 := by
    rw [BitVec.toNat_and, zi_nat h]
    have e15 : (Int32.ofInt 7).toBitVec.toNat = 2 ^ 3 - 1 := by decide
    rw [e15, Nat.and_two_pow_sub_one_eq_mod]
  rw [e, BitVec.toInt_eq_toNat_cond, n2]
  split <;> omega
theorem nt_shl13 {v : Int} (hv : 0 ≤ v ∧ v ≤ 200000) : zi_shl v 13 = 8192 * v := by
  have e : zi_shl v 13 = ((Int32.ofInt v).toBitVec <<< ((Int32.ofInt 13 &&& 31).toBitVec.smod 32)).toInt := rfl
  have k1 : ((Int32.ofInt 13 &&& 31).toBitVec.smod 32).toNat = 13 := by decide +kernel
  have n1 := zi_nat (x := v) (by omega)
  have n2 : ((Int32.ofInt v).toBitVec <<< ((Int32.ofInt 13 &&& 31).toBitVec.smod 32)).toNat = 8192 * v.toNat := by
    rw [BitVec.shiftLeft_eq', BitVec.toNat_shiftLeft, k1, n1, Nat.shiftLeft_eq]
    omega
  rw [e, BitVec.toInt_eq_toNat_cond, n2]
  split <;> omega
theorem nt_or13 {v k : Int} (hv : 0 ≤ v ∧ v ≤ 200000) (hk : 0 ≤ k ∧ k < 8192) : zi_or (8192 * v) k = 8192 * v + k := by
  have e : zi_or (8192 * v) k = ((Int32.ofInt (8192 * v)).toBitVec ||| (Int32.ofInt k).toBitVec).toInt := rfl
  have n2 : ((Int32.ofInt (8192 * v)).toBitVec ||| (Int32.ofInt k).toBitVec).toNat = 8192 * v.toNat + k.toNat := by
    rw [BitVec.toNat_or, zi_nat (x := 8192 * v) (by omega), zi_nat (x := k) (by omega)]
    have h := Nat.shiftLeft_add_eq_or_of_lt (b := k.toNat) (i := 13) (by omega) v.toNat
    rw [Nat.shiftLeft_eq] at h
    rw [show (8192 * v).toNat = v.toNat * 2 ^ 13 from by omega, ← h]
    omega
  rw [e, BitVec.toInt_eq_toNat_cond, n2]
  split <;> omega
theorem nt_and13 {x : Int} (h : 0 ≤ x ∧ x ≤ 2147483647) : zi_and x 8191 = x % 8192 := by
  have e : zi_and x 8191 = ((Int32.ofInt x).toBitVec &&& (Int32.ofInt 8191).toBitVec).toInt := rfl
  have n2 : ((Int32.ofInt x).toBitVec &&& (Int32.ofInt 8191).toBitVec).toNat = x.toNat % 8192 := by
    rw [BitVec.toNat_and, zi_nat h]
    have e15 : (Int32.ofInt 8191).toBitVec.toNat = 2 ^ 13 - 1 := by decide
    rw [e15, Nat.and_two_pow_sub_one_eq_mod]
  rw [e, BitVec.toInt_eq_toNat_cond, n2]
  split <;> omega
theorem nt_ushr {x : Int} (h : 0 ≤ x ∧ x ≤ 2147483647) : zi_ushr x 13 = x / 8192 := by
  have e : zi_ushr x 13 = ((Int32.ofInt x).toUInt32 >>> ((Int32.ofInt 13).toUInt32 &&& Int32.toUInt32 31)).toBitVec.toInt := rfl
  have e2 : ((Int32.ofInt 13).toUInt32 &&& Int32.toUInt32 31) = 13 := by decide +kernel
  have n0 : (Int32.ofInt x).toUInt32.toNat = x.toNat := zi_nat h
  have n1 : ((Int32.ofInt x).toUInt32 >>> (13 : UInt32)).toBitVec.toNat = x.toNat / 8192 := by
    show ((Int32.ofInt x).toUInt32 >>> (13 : UInt32)).toNat = x.toNat / 8192
    rw [UInt32.toNat_shiftRight, n0, show (13 : UInt32).toNat % 32 = 13 from by decide, Nat.shiftRight_eq_div_pow]
  rw [e, e2, BitVec.toInt_eq_toNat_cond, n1]
  split <;> omega
/-! WHAT A CARRYING COSTS, whatever lies about -/
def zz0 : Nat → Int := fun _ => 0
theorem zz0_R {lo hi : Int} (h : lo ≤ 0 ∧ 0 ≤ hi) : zR zz0 lo hi := fun _ => h
def EFV (ch la fo : Int) (st ex te ord od : Nat → Int) (k a b w h l : Int) : Int := match f_Judge_effort k a b w h l ch la fo st ex te ord od 0 0 0 zz0 zz0 with | some u => u.1 | none => -1
def FOK (ch la fo : Int) (st ex te ord od row : Nat → Int) : Prop := JREL ch la fo st ex te ord od row ∧ RI row ∧ zR ord (-2147483648) 2147483647 ∧ zR od 0 424 ∧ zR te 0 99 ∧ 0 ≤ la
theorem EFV_both {ch la fo : Int} {st ex te ord od : Nat → Int} {row : Nat → Int} {k a b w h l : Int} (hF : FOK ch la fo st ex te ord od row) (hx : (0 ≤ k ∧ k < ch) ∧ (0 ≤ a ∧ a ≤ 11) ∧ (0 ≤ b ∧ b ≤ 11) ∧ (0 ≤ w ∧ w ≤ 30) ∧ (0 ≤ h ∧ h ≤ 10) ∧ (0 ≤ l ∧ l ≤ 10)) : (∀ (pi ti ba : Int) (wo pl : Nat → Int) (u : Int × Int × Int × Int × (Nat → Int) × (Nat → Int)), f_Judge_effort k a b w h l ch la fo st ex te ord od pi ti ba wo pl = some u → u.1 = EFV ch la fo st ex te ord od k a b w h l) ∧ (∀ (lw br va su : Int) (set rest : Nat → Int) (y : Int × Int × Int × Int × Int × (Nat → Int) × (Nat → Int)), f_HM_tiring k w a b h l row lw br va su set rest = some y → y.1 = EFV ch la fo st ex te ord od k a b w h l) ∧ (-1 ≤ EFV ch la fo st ex te ord od k a b w h l ∧ EFV ch la fo st ex te ord od k a b w h l ≤ 99) ∧ (EFV ch la fo st ex te ord od k a b w h l ≠ -1 → h ≠ 0 ∧ l ≤ 9 ∧ a ≠ b) := by
  obtain ⟨⟨j1, j2, j3, j4, j5, j6, j7⟩, hR, h1, h2, h3, h4⟩ := hF
  have ja := j2 k.toNat (by omega)
  have key : ∀ (pi ti ba lw br va su : Int) (wo pl set rest : Nat → Int) (u : Int × Int × Int × Int × (Nat → Int) × (Nat → Int)) (y : Int × Int × Int × Int × Int × (Nat → Int) × (Nat → Int)), f_Judge_effort k a b w h l ch la fo st ex te ord od pi ti ba wo pl = some u → f_HM_tiring k w a b h l row lw br va su set rest = some y → u.1 = y.1 := fun pi ti ba lw br va su wo pl set rest u y e d => eff_tir (ch := ch) (la := la) (fo := fo) (by omega) ⟨ja.1, (j3 _).1, (j3 _).2⟩ ⟨ja.2, (j4 _).1, (j4 _).2⟩ j5 j6 (fun hf => j7 fo.toNat (by omega)) e d
  obtain ⟨u0, e0, _⟩ := s_Judge_effort k a b w h l ch la fo st ex te ord od 0 0 0 zz0 zz0 (by omega) (by omega) (by omega) (by omega) (by omega) (by omega) (by omega) (by omega) (by omega) j3 j4 h3 h1 h2 (by decide) (by decide) (by decide) (zz0_R (by decide))
  obtain ⟨y0, d0, p0⟩ := s_HM_tiring k w a b h l row 0 0 0 0 zz0 zz0 (by omega) (by omega) (by omega) (by omega) (by omega) (by omega) hR
  have q0 := key _ _ _ _ _ _ _ _ _ _ _ _ _ e0 d0
  have ee : EFV ch la fo st ex te ord od k a b w h l = u0.1 := by
    unfold EFV
    rw [e0]
  rw [ee]
  refine ⟨fun pi ti ba wo pl u e => (key _ _ _ _ _ _ _ _ _ _ _ _ _ e d0).trans q0.symm, fun lw br va su set rest y d => (key _ _ _ _ _ _ _ _ _ _ _ _ _ e0 d).symm, ?_⟩
  rw [q0]
  exact ⟨by omega, fun n => by omega⟩
def CNQ (ch la fo : Int) (st ex te ord od : Nat → Int) (a b w h l : Int) : Prop := ∃ k : Nat, (k : Int) < ch ∧ EFV ch la fo st ex te ord od (k : Int) a b w h l ≠ -1
def CNp (ch la fo : Int) (st ex te ord od : Nat → Int) (p : Nat) : Prop := CNQ ch la fo st ex te ord od ((p / 12000 : Nat) : Int) ((p / 3000 % 4 : Nat) : Int) ((p / 100 % 30 + 1 : Nat) : Int) ((p / 10 % 10 + 1 : Nat) : Int) ((p % 10 : Nat) : Int)
/-- the notes: none is of a later hill; what one of this hill says is so -/
def NOK (cg ch la fo : Int) (st ex te ord od nt : Nat → Int) : Prop := ∀ p : Nat, p < 48000 → zi_ushr (nt p) 13 ≤ cg + 1 ∧ (zi_ushr (nt p) 13 = cg + 1 → (zi_and (zi_and (nt p) 8191) 7 = 7 ↔ ¬ CNp ch la fo st ex te ord od p))
theorem NOK_up {cg cg' ch la fo ch' la' fo' : Int} {st ex te ord od st' ex' te' ord' od' nt : Nat → Int} (h : NOK cg ch la fo st ex te ord od nt) (hc : cg < cg') : NOK cg' ch' la' fo' st' ex' te' ord' od' nt := fun p hp => by
  have q := (h p hp).1
  exact ⟨by omega, fun e => by omega⟩
theorem nt_166 {ch la fo : Int} {st ex te ord od : Nat → Int} {row nt : Nat → Int} {cg a b w h l s : Int} {p : Nat} {u : Int × Int × Int × Int × (Nat → Int) × (Nat → Int) × (Nat → Int)} (hF : FOK ch la fo st ex te ord od row) (hx : (0 ≤ a ∧ a ≤ 11) ∧ (0 ≤ b ∧ b ≤ 11) ∧ (0 ≤ w ∧ w ≤ 30) ∧ (0 ≤ h ∧ h ≤ 10) ∧ (0 ≤ l ∧ l ≤ 10)) (hp : p < 48000) (hs : 0 ≤ s ∧ s ≤ 6000) : ∀ (N k : Nat) (fi be le pi ti ba : Int) (wo pl : Nat → Int), (k : Int) ≤ ch → ((fi = 7 ∧ ∀ j : Nat, j < k → EFV ch la fo st ex te ord od (j : Int) a b w h l = -1) ∨ ((0 ≤ fi ∧ fi ≤ 5) ∧ CNQ ch la fo st ex te ord od a b w h l)) → (0 ≤ be ∧ be ≤ 7) → (0 ≤ le ∧ le ≤ 99) → f_Carriers_note_166 ch la fo cg st ex te ord od N a b w h l (p : Int) s fi be le (k : Int) pi ti ba nt wo pl = some u → ∃ x : Int, u.2.2.2.2.1 = zu nt p x ∧ zi_ushr x 13 = s ∧ (zi_and (zi_and x 8191) 7 = 7 ↔ ¬ CNQ ch la fo st ex te ord od a b w h l) ∧ (u.1 = -1 ↔ ¬ CNQ ch la fo st ex te ord od a b w h l) ∧ (-1 ≤ u.1 ∧ u.1 ≤ 8191) := by
  have hc : 0 ≤ ch ∧ ch ≤ 6 := ⟨hF.1.1.1, hF.1.1.2.1⟩
  intro N
  induction N with
  | zero => intro k fi be le pi ti ba wo pl _ _ _ _ g; exact nomatch g
  | succ N ih =>
    intro k fi be le pi ti ba wo pl hk hq hb hl g
    replace g : f_Carriers_note_166_b ch la fo cg st ex te ord od (f_Carriers_note_166 ch la fo cg st ex te ord od N) a b w h l (p : Int) s fi be le (k : Int) pi ti ba nt wo pl = some u := g
    unfold f_Carriers_note_166_b at g
    have bf : 0 ≤ fi ∧ fi ≤ 7 := by rcases hq with q | q <;> omega
    rw [zwi (x := ch) (by omega), zwi (x := (k : Int)) (by omega)] at g
    by_cases c : ch ≤ (k : Int)
    · rw [if_pos c] at g
      replace g := (xp_s (xp_n (xp_n (xp_n (xp_n (xp_n (xp_n g))))))).2
      have z : (zi_w (p : Int)).toNat = p := by rw [zwi (by omega)]; omega
      rw [z, nt_shl3 (v := le) (by omega), nt_or3 (v := le) (by omega) (by omega), nt_shl3 (v := 8 * le + be) (by omega), nt_or3 (v := 8 * le + be) (by omega) (by omega), nt_shl13 (v := s) (by omega), nt_or13 (v := s) (by omega) (by omega), zwi (x := fi) (by omega), show zi_w 7 = 7 from by decide +kernel] at g
      have w1 : zi_ushr (8192 * s + (8 * (8 * le + be) + fi)) 13 = s := by rw [nt_ushr (by omega)]; omega
      have w2 : zi_and (zi_and (8192 * s + (8 * (8 * le + be) + fi)) 8191) 7 = fi := by rw [nt_and13 (by omega), nt_and3 (by omega)]; omega
      rcases hq with ⟨q1, q2⟩ | ⟨q1, q2⟩
      · rw [if_neg (fun z => z q1)] at g
        cases g
        have no : ¬ CNQ ch la fo st ex te ord od a b w h l := fun ⟨j, j1, j2⟩ => j2 (q2 j (by omega))
        exact ⟨_, rfl, w1, by rw [w2]; exact ⟨fun _ => no, fun _ => q1⟩, ⟨fun _ => no, fun _ => rfl⟩, by dsimp only; omega⟩
      · rw [if_pos (by omega)] at g
        cases g
        refine ⟨_, rfl, w1, ?_, ?_, by dsimp only; omega⟩
        · rw [w2]
          exact ⟨fun e => by omega, fun e => absurd q2 e⟩
        · show 8 * (8 * le + be) + fi = -1 ↔ _
          exact ⟨fun e => by omega, fun e => absurd q2 e⟩
    · rw [if_neg c] at g
      obtain ⟨v8, v9, v10, v11, a12, a13, e1, g⟩ := xz_d6 g
      have ev := EFV_both (k := (k : Int)) hF ⟨⟨by omega, by omega⟩, hx⟩
      have q8 := ev.1 _ _ _ _ _ _ e1
      have q8 : v8 = EFV ch la fo st ex te ord od (k : Int) a b w h l := q8
      rw [zwi (x := v8) (by omega), show zi_w (-1) = -1 from by decide +kernel] at g
      by_cases c8 : v8 = -1
      · rw [if_neg (fun z => z c8)] at g
        unfold f_Carriers_note_238 at g
        refine ih (k + 1) fi be le _ _ _ _ _ (by omega) ?_ hb hl (xp_n g)
        rcases hq with ⟨q1, q2⟩ | q
        · refine Or.inl ⟨q1, fun j hj => ?_⟩
          by_cases e : j = k
          · subst e; omega
          · exact q2 j (by omega)
        · exact Or.inr q
      · rw [if_pos c8] at g
        have cn : CNQ ch la fo st ex te ord od a b w h l := ⟨k, by omega, by omega⟩
        have go : ∀ fi' : Int, (0 ≤ fi' ∧ fi' ≤ 5) → f_Carriers_note_216 ch la fo cg st ex te ord od (f_Carriers_note_166 ch la fo cg st ex te ord od N) a b w h l (p : Int) s fi' be le (k : Int) v8 v9 v10 v11 nt a12 a13 = some u → ∃ x : Int, u.2.2.2.2.1 = zu nt p x ∧ zi_ushr x 13 = s ∧ (zi_and (zi_and x 8191) 7 = 7 ↔ ¬ CNQ ch la fo st ex te ord od a b w h l) ∧ (u.1 = -1 ↔ ¬ CNQ ch la fo st ex te ord od a b w h l) ∧ (-1 ≤ u.1 ∧ u.1 ≤ 8191) := fun fi' hf g => by
          unfold f_Carriers_note_216 at g
          rcases xp_if g with ⟨_, g⟩ | ⟨_, g⟩
          · unfold f_Carriers_note_230 f_Carriers_note_238 at g
            exact ih (k + 1) fi' _ _ _ _ _ _ _ (by omega) (Or.inr ⟨hf, cn⟩) (by omega) (by omega) (xp_n g)
          · rcases xp_if g with ⟨_, g⟩ | ⟨_, g⟩
            · unfold f_Carriers_note_238 at g
              exact ih (k + 1) fi' _ _ _ _ _ _ _ (by omega) (Or.inr ⟨hf, cn⟩) hb hl (xp_n g)
            · unfold f_Carriers_note_230 f_Carriers_note_238 at g
              exact ih (k + 1) fi' _ _ _ _ _ _ _ (by omega) (Or.inr ⟨hf, cn⟩) (by omega) (by omega) (xp_n g)
        rw [zwi (x := fi) (by omega), show zi_w 7 = 7 from by decide +kernel] at g
        by_cases c9 : fi = 7
        · rw [if_neg (fun z => z c9)] at g
          exact go _ (by omega) g
        · rw [if_pos c9] at g
          exact go _ (by omega) g
theorem nt_place {a b w h l : Nat} (hx : a ≤ 3 ∧ b ≤ 3 ∧ (1 ≤ w ∧ w ≤ 30) ∧ (1 ≤ h ∧ h ≤ 10) ∧ l ≤ 9) {p : Nat} (hp : p = (((a * 4 + b) * 30 + w - 1) * 10 + h - 1) * 10 + l) : p < 48000 ∧ p / 12000 = a ∧ p / 3000 % 4 = b ∧ p / 100 % 30 + 1 = w ∧ p / 10 % 10 + 1 = h ∧ p % 10 = l := by
  have h1 : p / 10 = ((a * 4 + b) * 30 + w - 1) * 10 + h - 1 := by omega
  have h2 : p / 100 = (a * 4 + b) * 30 + w - 1 := by omega
  have h3 : p / 3000 = a * 4 + b := by omega
  omega
theorem CNp_at {ch la fo : Int} {st ex te ord od : Nat → Int} {a b w h l : Nat} (hx : a ≤ 3 ∧ b ≤ 3 ∧ (1 ≤ w ∧ w ≤ 30) ∧ (1 ≤ h ∧ h ≤ 10) ∧ l ≤ 9) {p : Nat} (hp : p = (((a * 4 + b) * 30 + w - 1) * 10 + h - 1) * 10 + l) : CNp ch la fo st ex te ord od p = CNQ ch la fo st ex te ord od (a : Int) (b : Int) (w : Int) (h : Int) (l : Int) := by
  obtain ⟨_, h1, h2, h3, h4, h5⟩ := nt_place hx hp
  unfold CNp
  rw [h1, h2, h3, h4, h5]
set_option maxHeartbeats 4000000 in
theorem k_note {ch la fo : Int} {st ex te ord od : Nat → Int} {row nt wo pl : Nat → Int} {cg pi ti ba a b w h l : Int} {u : Int × Int × Int × Int × (Nat → Int) × (Nat → Int) × (Nat → Int)} (hF : FOK ch la fo st ex te ord od row) (hx : (0 ≤ a ∧ a ≤ 3) ∧ (0 ≤ b ∧ b ≤ 3) ∧ (0 ≤ w ∧ w ≤ 30) ∧ (0 ≤ h ∧ h ≤ 10) ∧ (0 ≤ l ∧ l ≤ 10)) (hcg : 0 ≤ cg ∧ cg ≤ 5000) (hN : NOK cg ch la fo st ex te ord od nt) (g : f_Carriers_note a b w h l ch la fo cg st ex te ord od pi ti ba nt wo pl = some u) : NOK cg ch la fo st ex te ord od u.2.2.2.2.1 ∧ (u.1 = -1 ↔ ¬ (a ≠ b ∧ 1 ≤ w ∧ 1 ≤ h ∧ l ≤ 9 ∧ CNQ ch la fo st ex te ord od a b w h l)) ∧ (-1 ≤ u.1 ∧ u.1 ≤ 8191) := by
  unfold f_Carriers_note at g
  rw [zwi (x := a) (by omega), zwi (x := b) (by omega), zwi (x := w) (by omega), zwi (x := h) (by omega), zwi (x := l) (by omega), show zi_w 4 = 4 from by decide +kernel, show zi_w 1 = 1 from by decide +kernel, show zi_w 30 = 30 from by decide +kernel, show zi_w 10 = 10 from by decide +kernel] at g
  rw [if_neg (by omega), if_neg (by omega), if_neg (by omega), if_neg (by omega)] at g
  by_cases c1 : a = b
  · rw [if_pos c1] at g
    cases g
    exact ⟨hN, ⟨fun _ z => z.1 c1, fun _ => rfl⟩, by dsimp only; omega⟩
  rw [if_neg c1] at g
  by_cases c2 : w < 1
  · rw [if_pos c2] at g
    cases g
    exact ⟨hN, ⟨fun _ z => by omega, fun _ => rfl⟩, by dsimp only; omega⟩
  rw [if_neg c2, if_neg (by omega)] at g
  by_cases c3 : h < 1
  · rw [if_pos c3] at g
    cases g
    exact ⟨hN, ⟨fun _ z => by omega, fun _ => rfl⟩, by dsimp only; omega⟩
  rw [if_neg c3, if_neg (by omega), if_neg (by omega)] at g
  by_cases c4 : l < 10
  rotate_left
  · rw [if_neg c4] at g
    cases g
    exact ⟨hN, ⟨fun _ z => by omega, fun _ => rfl⟩, by dsimp only; omega⟩
  rw [if_pos c4] at g
  obtain ⟨A, eA⟩ : ∃ A : Nat, a = (A : Int) := ⟨a.toNat, by omega⟩
  obtain ⟨B, eB⟩ : ∃ B : Nat, b = (B : Int) := ⟨b.toNat, by omega⟩
  obtain ⟨W, eW⟩ : ∃ W : Nat, w = (W : Int) := ⟨w.toNat, by omega⟩
  obtain ⟨H, eH⟩ : ∃ H : Nat, h = (H : Int) := ⟨h.toNat, by omega⟩
  obtain ⟨L, eL⟩ : ∃ L : Nat, l = (L : Int) := ⟨l.toNat, by omega⟩
  have hp : (((A * 4 + B) * 30 + W - 1) * 10 + H - 1) * 10 + L = (((A * 4 + B) * 30 + W - 1) * 10 + H - 1) * 10 + L := rfl
  generalize ep : (((A * 4 + B) * 30 + W - 1) * 10 + H - 1) * 10 + L = p at hp
  have rg : A ≤ 3 ∧ B ≤ 3 ∧ (1 ≤ W ∧ W ≤ 30) ∧ (1 ≤ H ∧ H ≤ 10) ∧ L ≤ 9 := by omega
  have pl48 := (nt_place rg ep.symm).1
  have cp := CNp_at (ch := ch) (la := la) (fo := fo) (st := st) (ex := ex) (te := te) (ord := ord) (od := od) rg ep.symm
  rw [← eA, ← eB, ← eW, ← eH, ← eL] at cp
  replace g := xp_n (xp_n (xp_n (xp_n (xp_n (xp_n (xp_n (xp_n (xp_n (xp_n g)))))))))
  replace g := (xp_gd g).2
  replace g := (xp_g (xp_n (xp_n g))).2
  replace g := xp_n g
  have zp : ((((a * 4 + b) * 30 + w - 1) * 10 + h - 1) * 10 + l) = (p : Int) := by omega
  have z : (zi_w (p : Int)).toNat = p := by rw [zwi (by omega)]; omega
  have zs : zi_rem cg 524287 + 1 = cg + 1 := by rw [zi_rem_n (by omega) (by decide)]; omega
  rw [zp, z, zs] at g
  have us := zi_ushr_f (nt p) 13
  rw [zwi us, zwi (x := cg + 1) (by omega)] at g
  have hNp := hN p pl48
  by_cases c5 : zi_ushr (nt p) 13 = cg + 1
  rotate_left
  · rw [if_pos c5] at g
    obtain ⟨x, x1, x2, x3, x4, x5⟩ := nt_166 hF (a := a) (b := b) (w := w) (h := h) (l := l) (by omega) pl48 (by omega) zfu 0 7 7 0 _ _ _ _ _ hF.1.1.1 (Or.inl ⟨rfl, fun j hj => absurd hj (by omega)⟩) (by decide) (by decide) g
    refine ⟨fun q hq => ?_, ?_, x5⟩
    · rw [x1]
      by_cases e : q = p
      · subst e
        rw [zu_eq, cp]
        exact ⟨by omega, fun _ => x3⟩
      · rw [zu_ne _ _ e]
        exact hN q hq
    · rw [x4]
      exact ⟨fun n m => n m.2.2.2.2, fun n m => n ⟨c1, by omega, by omega, by omega, m⟩⟩
  · rw [if_neg (fun n => n c5)] at g
    replace g := (xp_g g).2
    replace g := xp_n g
    rw [z] at g
    obtain ⟨v17, e17, g⟩ := xz_d1 g
    have q17 : v17 = zi_and (zi_and (nt p) 8191) 7 := by
      unfold f_Carriers_lowest at e17
      replace e17 := xp_n e17
      cases e17
      rfl
    have b16 := zi_and_m (nt p) (m := 8191) (by decide)
    have b17 := zi_and_m (zi_and (nt p) 8191) (m := 7) (by decide)
    have iff := hNp.2 c5
    rw [cp] at iff
    rw [zwi (x := v17) (by omega), show zi_w 7 = 7 from by decide +kernel] at g
    by_cases c6 : v17 = 7
    · rw [if_neg (fun n => n c6)] at g
      cases g
      refine ⟨hN, ⟨fun _ m => ?_, fun _ => rfl⟩, by dsimp only; omega⟩
      exact (iff.mp (by omega)) m.2.2.2.2
    · rw [if_pos c6] at g
      cases g
      refine ⟨hN, ⟨fun e => ?_, fun n => ?_⟩, by dsimp only; omega⟩
      · have e : zi_and (nt p) 8191 = -1 := e
        omega
      · have yes : CNQ ch la fo st ex te ord od a b w h l := Classical.byContradiction (fun m => by have := iff.mpr m; omega)
        exact absurd ⟨c1, by omega, by omega, by omega, yes⟩ n
