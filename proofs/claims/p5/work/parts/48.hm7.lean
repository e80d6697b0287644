/-! OUR OWN: the pile and the code keep within their rows; a step of the reader -/
def PV (fr nC pd : Int) (pl pa : Nat → Int) : Prop := 0 ≤ nC ∧ 0 ≤ pd ∧ pd ≤ fr ∧ nC + (zN pl pd.toNat : Int) ≤ fr ∧ (∀ i, i < pd.toNat → 20 ≤ pl i ∧ pl i ≤ 31) ∧ ∀ i, i < pd.toNat → (pl i = 28 ∨ pl i = 29) → 0 ≤ pa i ∧ pa i < 400
def TG (c c' : Nat) (nC pd : Int) (op ar pl pa : Nat → Int) (nC' pd' : Int) (op' ar' pl' pa' : Nat → Int) : Prop := ∀ s op0 ar0, PG s op0 ar0 nC.toNat pd.toNat op ar pl pa c → PG s op0 ar0 nC'.toNat pd'.toNat op' ar' pl' pa' c'
theorem TG_r {c : Nat} {nC pd : Int} {op ar pl pa : Nat → Int} : TG c c nC pd op ar pl pa nC pd op ar pl pa := fun _ _ _ h => h
theorem TG_t {a b c : Nat} {n1 p1 n2 p2 n3 p3 : Int} {op1 ar1 pl1 pa1 op2 ar2 pl2 pa2 op3 ar3 pl3 pa3 : Nat → Int} (h : TG a b n1 p1 op1 ar1 pl1 pa1 n2 p2 op2 ar2 pl2 pa2) (g : TG b c n2 p2 op2 ar2 pl2 pa2 n3 p3 op3 ar3 pl3 pa3) : TG a c n1 p1 op1 ar1 pl1 pa1 n3 p3 op3 ar3 pl3 pa3 := fun s o r q => g s o r (h s o r q)
theorem PV_fr {fr fr' nC pd : Int} {pl pa : Nat → Int} (h : PV fr nC pd pl pa) (hf : fr ≤ fr') : PV fr' nC pd pl pa := by
  obtain ⟨h1, h2, h3, h4, h5, h6⟩ := h
  exact ⟨h1, h2, by omega, by omega, h5, h6⟩
theorem PV_pop {fr nC pd : Int} {pl pa : Nat → Int} (h : PV fr nC pd pl pa) (hp : 0 < pd) : PV fr nC (pd - 1) pl pa := by
  obtain ⟨h1, h2, h3, h4, h5, h6⟩ := h
  have e : pd.toNat = (pd - 1).toNat + 1 := by omega
  have z := zN_s pl (pd - 1).toNat
  rw [e] at h4
  exact ⟨h1, by omega, by omega, by omega, fun i hi => h5 i (by omega), fun i hi => h6 i (by omega)⟩
theorem PV_emit {fr nC pd : Int} {pl pa : Nat → Int} (h : PV fr nC pd pl pa) (hp : 0 < pd) (hb : 20 ≤ pl (pd - 1).toNat ∧ pl (pd - 1).toNat ≤ 27) : PV fr (nC + 1) (pd - 1) pl pa := by
  obtain ⟨h1, h2, h3, h4, h5, h6⟩ := h
  have e : pd.toNat = (pd - 1).toNat + 1 := by omega
  have z := zN_s pl (pd - 1).toNat
  rw [e] at h4
  exact ⟨by omega, by omega, by omega, by omega, fun i hi => h5 i (by omega), fun i hi => h6 i (by omega)⟩
theorem PV_push {fr fr' nC nC' pd v w : Int} {pl pa : Nat → Int} (h : PV fr nC pd pl pa) (hf : fr < fr') (hv : 20 ≤ v ∧ v ≤ 31) (hn : (nC' = nC) ∨ (28 ≤ v ∧ nC' = nC + 1)) (hw : (v = 28 ∨ v = 29) → 0 ≤ w ∧ w < 400) : PV fr' nC' (pd + 1) (zu pl pd.toNat v) (zu pa pd.toNat w) := by
  obtain ⟨h1, h2, h3, h4, h5, h6⟩ := h
  have e : (pd + 1).toNat = pd.toNat + 1 := by omega
  have z := zN_s (zu pl pd.toNat v) pd.toNat
  rw [zu_eq, zN_ge (Nat.le_refl _)] at z
  refine ⟨by omega, by omega, by omega, by rw [e]; omega, fun i hi => ?_, fun i hi hq => ?_⟩
  · by_cases q : i = pd.toNat
    · subst q; rw [zu_eq]; exact hv
    · rw [zu_ne _ _ q]; exact h5 i (by omega)
  · by_cases q : i = pd.toNat
    · subst q; rw [zu_eq] at hq ⊢; exact hw hq
    · rw [zu_ne _ _ q] at hq ⊢; exact h6 i (by omega) hq
theorem PS_sub {pl : Nat → Int} {m n : Nat} (h : PS pl m) (hn : n ≤ m) : PS pl n := fun i j a b c => h i j a (by omega) c
theorem NS_sub {pl : Nat → Int} {m n : Nat} (h : NS pl m) (hn : n ≤ m) : NS pl n := fun i a => h i (by omega)
theorem PS_push {pl : Nat → Int} {m : Nat} {v : Int} (h : PS pl m) (hv : (20 ≤ v ∧ v ≤ 23) ∨ v = 31 ∨ NS pl m) : PS (zu pl m v) (m + 1) := by
  intro i j a b c
  rw [zu_ne _ _ (by omega)] at c
  by_cases q : j = m
  · subst q; rw [zu_eq]
    rcases hv with g | g | g
    · exact Or.inl g
    · exact Or.inr g
    · exact absurd c (g i a)
  · rw [zu_ne _ _ q]; exact h i j a (by omega) c
theorem NS_push {pl : Nat → Int} {m : Nat} {v : Int} (h : NS pl m) (hv : v ≠ 31) : NS (zu pl m v) (m + 1) := by
  intro i a
  by_cases q : i = m
  · subst q; rw [zu_eq]; exact hv
  · rw [zu_ne _ _ q]; exact h i (by omega)
/-- what stands on top behind a settling -/
def TOP (x1 pd : Int) (pl : Nat → Int) : Prop := pd ≤ 0 ∨ ((x1 ≤ 5 → ¬ (20 ≤ pl (pd - 1).toNat ∧ pl (pd - 1).toNat ≤ 23)) ∧ (x1 = 1 → 30 ≤ pl (pd - 1).toNat))
theorem s_HM_settle_0 (i_pile i_pileAt : Nat → Int) (fr : Int) (hfr : fr ≤ 400) : ∀ (n : Nat) (x1 i_nCode i_piled : Int) (i_nOp i_nArg : Nat → Int), (1 ≤ x1 ∧ x1 ≤ 6) → PV fr i_nCode i_piled i_pile i_pileAt → i_piled < (n : Int) → zok (f_HM_settle_0 i_pile i_pileAt n x1 i_nCode i_piled i_nOp i_nArg) (fun o => PV fr o.1 o.2.1 i_pile i_pileAt ∧ o.2.1 ≤ i_piled ∧ TOP x1 o.2.1 i_pile ∧ (∀ j, o.2.1.toNat ≤ j → j < i_piled.toNat → i_pile j < 30) ∧ TG 1 1 i_nCode i_piled i_nOp i_nArg i_pile i_pileAt o.1 o.2.1 o.2.2.1 o.2.2.2 i_pile i_pileAt) := by
  intro n
  induction n with
  | zero => intro x1 i_nCode i_piled i_nOp i_nArg hx hp hm; have := hp.2.1; exfalso; omega
  | succ n ih =>
    intro x1 i_nCode i_piled i_nOp i_nArg hx hp hm
    show zok (f_HM_settle_0_b i_pile i_pileAt (f_HM_settle_0 i_pile i_pileAt n) x1 i_nCode i_piled i_nOp i_nArg) _
    unfold f_HM_settle_0_b
    have h1 := hp.1
    have h2 := hp.2.1
    have h3 := hp.2.2.1
    have h4 := hp.2.2.2.1
    refine zk_ifc (zci_ler (by omega)) (fun hc => ?_) (fun hc => ?_)
    · exact zk_ret ⟨hp, Int.le_refl _, Or.inl hc, fun j a b => absurd b (Nat.not_lt.mpr a), TG_r⟩
    · have h5 := hp.2.2.2.2.1 (i_piled - 1).toNat (by omega)
      have h6 := hp.2.2.2.2.2 (i_piled - 1).toNat (by omega)
      have e : i_piled.toNat = (i_piled - 1).toNat + 1 := by omega
      have hz := zN_s i_pile (i_piled - 1).toNat
      rw [e] at h4
      refine zk_n ?_
      refine zk_gv (by omega) (by decide) (fun v2 h_v2 => ?_)
      refine zk_d1 (s_HM_binds _ (by omega)) (fun v3 hb => ?_)
      try dsimp only at hb
      refine zk_ifc (zci_lt (by omega) (by omega)) (fun hc_2 => ?_) (fun hc_2 => ?_)
      · refine zk_ret ⟨hp, Int.le_refl _, Or.inr ⟨fun _ => ?_, fun _ => ?_⟩, fun j a b => absurd b (Nat.not_lt.mpr a), TG_r⟩ <;> (dsimp only; omega)
      · have wait : (v2 = 28 ∨ v2 = 29) → zok (f_HM_settle_63 i_pile i_pileAt (f_HM_settle_0 i_pile i_pileAt n) x1 i_nCode (i_piled - 1) i_nOp i_nArg) (fun o => PV fr o.1 o.2.1 i_pile i_pileAt ∧ o.2.1 ≤ i_piled ∧ TOP x1 o.2.1 i_pile ∧ (∀ j, o.2.1.toNat ≤ j → j < i_piled.toNat → i_pile j < 30) ∧ TG 1 1 i_nCode i_piled i_nOp i_nArg i_pile i_pileAt o.1 o.2.1 o.2.2.1 o.2.2.2 i_pile i_pileAt) := by
          intro hv
          have h7 := h6 (by omega)
          unfold f_HM_settle_63
          refine zk_gv (by omega) (by decide) (fun v1_2 h_v1_2 => ?_)
          refine zk_sv (by omega) (by decide) (fun a2 h_a2 => ?_)
          refine zok_mono (ih _ _ _ _ _ hx (PV_pop hp (by omega)) (by omega)) (fun o ho => ⟨ho.1, by have := ho.2.1; omega, ho.2.2.1, fun j a b => (if q : j = (i_piled - 1).toNat then (by rw [q]; omega) else ho.2.2.2.1 j a (by omega)), TG_t (fun s op0 ar0 hg => ?_) ho.2.2.2.2⟩)
          rw [e] at hg
          have hg2 := PG_andor hg (by omega)
          rw [h_a2, h_v1_2]
          rw [show ((i_nCode.toNat : Nat) : Int) = i_nCode from by omega] at hg2
          exact hg2
        refine zk_n ?_
        refine zk_gv (by omega) (by decide) (fun v5 h_v5 => ?_)
        refine zk_ifc (zci_eq (by omega) (by omega)) (fun hc_3 => ?_) (fun hc_3 => ?_)
        · exact wait (by omega)
        · refine zk_gv (by omega) (by decide) (fun v6 h_v6 => ?_)
          refine zk_ifc (zci_ne (by omega) (by omega)) (fun hc_4 => ?_) (fun hc_4 => ?_)
          · refine zk_gv (by omega) (by decide) (fun v7 h_v7 => ?_)
            refine zk_d3 (s_HM_emit _ _ _ _ _ (by omega)) (fun v8 a9 a10 hq => ?_)
            dsimp only at hq
            obtain ⟨q1, q2, q3⟩ := hq
            refine zok_mono (ih _ _ _ _ _ hx (by rw [q1]; exact PV_emit hp (by omega) (by omega)) (by omega)) (fun o ho => ⟨ho.1, by have := ho.2.1; omega, ho.2.2.1, fun j a b => (if q : j = (i_piled - 1).toNat then (by rw [q]; omega) else ho.2.2.2.1 j a (by omega)), TG_t (fun s op0 ar0 hg => ?_) ho.2.2.2.2⟩)
            rw [e] at hg
            have hg2 := PG_emitop (w := 0) hg (by omega)
            rw [q1, q2, q3, h_v7, show (i_nCode + 1).toNat = i_nCode.toNat + 1 from by omega]
            exact hg2
          · exact wait (by omega)
theorem s_HM_settle (x1 : Int) (i_pile i_pileAt : Nat → Int) (i_nCode i_piled : Int) (i_nOp i_nArg : Nat → Int) (fr : Int) (hfr : fr ≤ 400) (hx : 1 ≤ x1 ∧ x1 ≤ 6) (hp : PV fr i_nCode i_piled i_pile i_pileAt) : zok (f_HM_settle x1 i_pile i_pileAt i_nCode i_piled i_nOp i_nArg) (fun o => PV fr o.1 o.2.1 i_pile i_pileAt ∧ o.2.1 ≤ i_piled ∧ TOP x1 o.2.1 i_pile ∧ (∀ j, o.2.1.toNat ≤ j → j < i_piled.toNat → i_pile j < 30) ∧ TG 1 1 i_nCode i_piled i_nOp i_nArg i_pile i_pileAt o.1 o.2.1 o.2.2.1 o.2.2.2 i_pile i_pileAt) := by
  unfold f_HM_settle
  exact s_HM_settle_0 i_pile i_pileAt fr hfr zfu _ _ _ _ _ hx hp (by have := hp.2.2.1; unfold zfu; omega)
