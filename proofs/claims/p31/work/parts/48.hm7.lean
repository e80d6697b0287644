/-! OUR OWN: the pile and the code keep within their rows; a step of the reader -/
def PV (fr nC pd : Int) (pl pa : Nat → Int) : Prop := 0 ≤ nC ∧ 0 ≤ pd ∧ pd ≤ fr ∧ nC + (zN pl pd.toNat : Int) ≤ fr ∧ (∀ i, i < pd.toNat → 20 ≤ pl i ∧ pl i ≤ 31) ∧ ∀ i, i < pd.toNat → (pl i = 28 ∨ pl i = 29) → 0 ≤ pa i ∧ pa i < 400
def TG (c c' : Nat) (nC pd : Int) (op ar pl pa : Nat → Int) (nC' pd' : Int) (op' ar' pl' pa' : Nat → Int) : Prop := ∀ s op0 ar0, PG s op0 ar0 nC.toNat pd.toNat op ar pl pa c → PG s op0 ar0 nC'.toNat pd'.toNat op' ar' pl' pa' c'
theorem TG_r {c : Nat} {nC pd : Int} {op ar pl pa : Nat → Int} : TG c c nC pd op ar pl pa nC pd op ar pl pa := fun _ _ _ h => h
theorem TG_t {a b c : Nat} {n1 p1 n2 p2 n3 p3 : Int} {op1 ar1 pl1 pa1 op2 ar2 pl2 pa2 op3 ar3 pl3 pa3 : Nat → Int} (h : TG a b n1 p1 op1 ar1 pl1 pa1 n2 p2 op2 ar2 pl2 pa2) (g : TG b c n2 p2 op2 ar2 pl2 pa2 n3 p3 op3 ar3 pl3 pa3) : TG a c n1 p1 op1 ar1 pl1 pa1 n3 p3 op3 ar3 pl3 pa3 := fun s o r q => g s o r (h s o r q)
theorem PV_fr {fr fr' nC pd : Int} {pl pa : Nat → Int} (h : PV fr nC pd pl pa) (hf : fr ≤ fr') : PV fr' nC pd pl pa := by
  sorry
theorem PV_pop {fr nC pd : Int} {pl pa : Nat → Int} (h : PV fr nC pd pl pa) (hp : 0 < pd) : PV fr nC (pd - 1) pl pa := by
  sorry
theorem PV_emit {fr nC pd : Int} {pl pa : Nat → Int} (h : PV fr nC pd pl pa) (hp : 0 < pd) (hb : 20 ≤ pl (pd - 1).toNat ∧ pl (pd - 1).toNat ≤ 27) : PV fr (nC + 1) (pd - 1) pl pa := by
  sorry
theorem PV_push {fr fr' nC nC' pd v w : Int} {pl pa : Nat → Int} (h : PV fr nC pd pl pa) (hf : fr < fr') (hv : 20 ≤ v ∧ v ≤ 31) (hn : (nC' = nC) ∨ (28 ≤ v ∧ nC' = nC + 1)) (hw : (v = 28 ∨ v = 29) → 0 ≤ w ∧ w < 400) : PV fr' nC' (pd + 1) (zu pl pd.toNat v) (zu pa pd.toNat w) := by
  sorry
theorem PS_sub {pl : Nat → Int} {m n : Nat} (h : PS pl m) (hn : n ≤ m) : PS pl n := fun i j a b c => h i j a (by omega) c
theorem NS_sub {pl : Nat → Int} {m n : Nat} (h : NS pl m) (hn : n ≤ m) : NS pl n := fun i a => h i (by omega)
theorem PS_push {pl : Nat → Int} {m : Nat} {v : Int} (h : PS pl m) (hv : (20 ≤ v ∧ v ≤ 23) ∨ v = 31 ∨ NS pl m) : PS (zu pl m v) (m + 1) := by
  sorry
theorem NS_push {pl : Nat → Int} {m : Nat} {v : Int} (h : NS pl m) (hv : v ≠ 31) : NS (zu pl m v) (m + 1) := by
  sorry
/-- what stands on top behind a settling -/
def TOP (x1 pd : Int) (pl : Nat → Int) : Prop := pd ≤ 0 ∨ ((x1 ≤ 5 → ¬ (20 ≤ pl (pd - 1).toNat ∧ pl (pd - 1).toNat ≤ 23)) ∧ (x1 = 1 → 30 ≤ pl (pd - 1).toNat))
theorem s_HM_settle_0 (i_pile i_pileAt : Nat → Int) (fr : Int) (hfr : fr ≤ 400) : ∀ (n : Nat) (x1 i_nCode i_piled : Int) (i_nOp i_nArg : Nat → Int), (1 ≤ x1 ∧ x1 ≤ 6) → PV fr i_nCode i_piled i_pile i_pileAt → i_piled < (n : Int) → zok (f_HM_settle_0 i_pile i_pileAt n x1 i_nCode i_piled i_nOp i_nArg) (fun o => PV fr o.1 o.2.1 i_pile i_pileAt ∧ o.2.1 ≤ i_piled ∧ TOP x1 o.2.1 i_pile ∧ (∀ j, o.2.1.toNat ≤ j → j < i_piled.toNat → i_pile j < 30) ∧ TG 1 1 i_nCode i_piled i_nOp i_nArg i_pile i_pileAt o.1 o.2.1 o.2.2.1 o.2.2.2 i_pile i_pileAt) := by
  sorry
theorem s_HM_settle (x1 : Int) (i_pile i_pileAt : Nat → Int) (i_nCode i_piled : Int) (i_nOp i_nArg : Nat → Int) (fr : Int) (hfr : fr ≤ 400) (hx : 1 ≤ x1 ∧ x1 ≤ 6) (hp : PV fr i_nCode i_piled i_pile i_pileAt) : zok (f_HM_settle x1 i_pile i_pileAt i_nCode i_piled i_nOp i_nArg) (fun o => PV fr o.1 o.2.1 i_pile i_pileAt ∧ o.2.1 ≤ i_piled ∧ TOP x1 o.2.1 i_pile ∧ (∀ j, o.2.1.toNat ≤ j → j < i_piled.toNat → i_pile j < 30) ∧ TG 1 1 i_nCode i_piled i_nOp i_nArg i_pile i_pileAt o.1 o.2.1 o.2.2.1 o.2.2.2 i_pile i_pileAt) := by
  sorry
