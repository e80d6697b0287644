/-! NUMBERS OF A NOTE -/
theorem nt_shl3 {v : Int} (hv : 0 ≤ v ∧ v ≤ 200000) : zi_shl v 3 = 8 * v := by
  sorry
theorem nt_or3 {v k : Int} (hv : 0 ≤ v ∧ v ≤ 200000) (hk : 0 ≤ k ∧ k < 8) : zi_or (8 * v) k = 8 * v + k := by
  sorry
theorem nt_and3 {x : Int} (h : 0 ≤ x ∧ x ≤ 2147483647) : zi_and x 7 = x % 8 := by
  sorry
theorem nt_shl13 {v : Int} (hv : 0 ≤ v ∧ v ≤ 200000) : zi_shl v 13 = 8192 * v := by
  sorry
theorem nt_or13 {v k : Int} (hv : 0 ≤ v ∧ v ≤ 200000) (hk : 0 ≤ k ∧ k < 8192) : zi_or (8192 * v) k = 8192 * v + k := by
  sorry
theorem nt_and13 {x : Int} (h : 0 ≤ x ∧ x ≤ 2147483647) : zi_and x 8191 = x % 8192 := by
  sorry
theorem nt_ushr {x : Int} (h : 0 ≤ x ∧ x ≤ 2147483647) : zi_ushr x 13 = x / 8192 := by
  sorry
/-! WHAT A CARRYING COSTS, whatever lies about -/
def zz0 : Nat → Int := fun _ => 0
theorem zz0_R {lo hi : Int} (h : lo ≤ 0 ∧ 0 ≤ hi) : zR zz0 lo hi := fun _ => h
def EFV (ch la fo : Int) (st ex te ord od : Nat → Int) (k a b w h l : Int) : Int := match f_Judge_effort k a b w h l ch la fo st ex te ord od 0 0 0 zz0 zz0 with | some u => u.1 | none => -1
def FOK (ch la fo : Int) (st ex te ord od row : Nat → Int) : Prop := JREL ch la fo st ex te ord od row ∧ RI row ∧ zR ord (-2147483648) 2147483647 ∧ zR od 0 424 ∧ zR te 0 99 ∧ 0 ≤ la
theorem EFV_both {ch la fo : Int} {st ex te ord od : Nat → Int} {row : Nat → Int} {k a b w h l : Int} (hF : FOK ch la fo st ex te ord od row) (hx : (0 ≤ k ∧ k < ch) ∧ (0 ≤ a ∧ a ≤ 11) ∧ (0 ≤ b ∧ b ≤ 11) ∧ (0 ≤ w ∧ w ≤ 30) ∧ (0 ≤ h ∧ h ≤ 10) ∧ (0 ≤ l ∧ l ≤ 10)) : (∀ (pi ti ba : Int) (wo pl : Nat → Int) (u : Int × Int × Int × Int × (Nat → Int) × (Nat → Int)), f_Judge_effort k a b w h l ch la fo st ex te ord od pi ti ba wo pl = some u → u.1 = EFV ch la fo st ex te ord od k a b w h l) ∧ (∀ (lw br va su : Int) (set rest : Nat → Int) (y : Int × Int × Int × Int × Int × (Nat → Int) × (Nat → Int)), f_HM_tiring k w a b h l row lw br va su set rest = some y → y.1 = EFV ch la fo st ex te ord od k a b w h l) ∧ (-1 ≤ EFV ch la fo st ex te ord od k a b w h l ∧ EFV ch la fo st ex te ord od k a b w h l ≤ 99) ∧ (EFV ch la fo st ex te ord od k a b w h l ≠ -1 → h ≠ 0 ∧ l ≤ 9 ∧ a ≠ b) := by
  sorry
def CNQ (ch la fo : Int) (st ex te ord od : Nat → Int) (a b w h l : Int) : Prop := ∃ k : Nat, (k : Int) < ch ∧ EFV ch la fo st ex te ord od (k : Int) a b w h l ≠ -1
def CNp (ch la fo : Int) (st ex te ord od : Nat → Int) (p : Nat) : Prop := CNQ ch la fo st ex te ord od ((p / 12000 : Nat) : Int) ((p / 3000 % 4 : Nat) : Int) ((p / 100 % 30 + 1 : Nat) : Int) ((p / 10 % 10 + 1 : Nat) : Int) ((p % 10 : Nat) : Int)
/-- the notes: none is of a later hill; what one of this hill says is so -/
def NOK (cg ch la fo : Int) (st ex te ord od nt : Nat → Int) : Prop := ∀ p : Nat, p < 48000 → zi_ushr (nt p) 13 ≤ cg + 1 ∧ (zi_ushr (nt p) 13 = cg + 1 → (zi_and (zi_and (nt p) 8191) 7 = 7 ↔ ¬ CNp ch la fo st ex te ord od p))
theorem NOK_up {cg cg' ch la fo ch' la' fo' : Int} {st ex te ord od st' ex' te' ord' od' nt : Nat → Int} (h : NOK cg ch la fo st ex te ord od nt) (hc : cg < cg') : NOK cg' ch' la' fo' st' ex' te' ord' od' nt := fun p hp => by
  have q := (h p hp).1
  exact ⟨by omega, fun e => by omega⟩
theorem nt_166 {ch la fo : Int} {st ex te ord od : Nat → Int} {row nt : Nat → Int} {cg a b w h l s : Int} {p : Nat} {u : Int × Int × Int × Int × (Nat → Int) × (Nat → Int) × (Nat → Int)} (hF : FOK ch la fo st ex te ord od row) (hx : (0 ≤ a ∧ a ≤ 11) ∧ (0 ≤ b ∧ b ≤ 11) ∧ (0 ≤ w ∧ w ≤ 30) ∧ (0 ≤ h ∧ h ≤ 10) ∧ (0 ≤ l ∧ l ≤ 10)) (hp : p < 48000) (hs : 0 ≤ s ∧ s ≤ 6000) : ∀ (N k : Nat) (fi be le pi ti ba : Int) (wo pl : Nat → Int), (k : Int) ≤ ch → ((fi = 7 ∧ ∀ j : Nat, j < k → EFV ch la fo st ex te ord od (j : Int) a b w h l = -1) ∨ ((0 ≤ fi ∧ fi ≤ 5) ∧ CNQ ch la fo st ex te ord od a b w h l)) → (0 ≤ be ∧ be ≤ 7) → (0 ≤ le ∧ le ≤ 99) → f_Carriers_note_166 ch la fo cg st ex te ord od N a b w h l (p : Int) s fi be le (k : Int) pi ti ba nt wo pl = some u → ∃ x : Int, u.2.2.2.2.1 = zu nt p x ∧ zi_ushr x 13 = s ∧ (zi_and (zi_and x 8191) 7 = 7 ↔ ¬ CNQ ch la fo st ex te ord od a b w h l) ∧ (u.1 = -1 ↔ ¬ CNQ ch la fo st ex te ord od a b w h l) ∧ (-1 ≤ u.1 ∧ u.1 ≤ 8191) := by
  sorry
theorem nt_place {a b w h l : Nat} (hx : a ≤ 3 ∧ b ≤ 3 ∧ (1 ≤ w ∧ w ≤ 30) ∧ (1 ≤ h ∧ h ≤ 10) ∧ l ≤ 9) {p : Nat} (hp : p = (((a * 4 + b) * 30 + w - 1) * 10 + h - 1) * 10 + l) : p < 48000 ∧ p / 12000 = a ∧ p / 3000 % 4 = b ∧ p / 100 % 30 + 1 = w ∧ p / 10 % 10 + 1 = h ∧ p % 10 = l := by
  sorry
theorem CNp_at {ch la fo : Int} {st ex te ord od : Nat → Int} {a b w h l : Nat} (hx : a ≤ 3 ∧ b ≤ 3 ∧ (1 ≤ w ∧ w ≤ 30) ∧ (1 ≤ h ∧ h ≤ 10) ∧ l ≤ 9) {p : Nat} (hp : p = (((a * 4 + b) * 30 + w - 1) * 10 + h - 1) * 10 + l) : CNp ch la fo st ex te ord od p = CNQ ch la fo st ex te ord od (a : Int) (b : Int) (w : Int) (h : Int) (l : Int) := by
  sorry
set_option maxHeartbeats 4000000 in
theorem k_note {ch la fo : Int} {st ex te ord od : Nat → Int} {row nt wo pl : Nat → Int} {cg pi ti ba a b w h l : Int} {u : Int × Int × Int × Int × (Nat → Int) × (Nat → Int) × (Nat → Int)} (hF : FOK ch la fo st ex te ord od row) (hx : (0 ≤ a ∧ a ≤ 3) ∧ (0 ≤ b ∧ b ≤ 3) ∧ (0 ≤ w ∧ w ≤ 30) ∧ (0 ≤ h ∧ h ≤ 10) ∧ (0 ≤ l ∧ l ≤ 10)) (hcg : 0 ≤ cg ∧ cg ≤ 5000) (hN : NOK cg ch la fo st ex te ord od nt) (g : f_Carriers_note a b w h l ch la fo cg st ex te ord od pi ti ba nt wo pl = some u) : NOK cg ch la fo st ex te ord od u.2.2.2.2.1 ∧ (u.1 = -1 ↔ ¬ (a ≠ b ∧ 1 ≤ w ∧ 1 ≤ h ∧ l ≤ 9 ∧ CNQ ch la fo st ex te ord od a b w h l)) ∧ (-1 ≤ u.1 ∧ u.1 ≤ 8191) := by
  sorry
