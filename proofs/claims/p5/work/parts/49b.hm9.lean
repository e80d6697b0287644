def CW (op ar : Nat → Int) (s e : Nat) : Prop := s ≤ e ∧ ∃ D : Nat → Nat, D s = 0 ∧ (∀ k, s ≤ k → k ≤ e → D k ≤ k - s) ∧ ∀ k, s ≤ k → k < e → zcs (fun j => if j % 2 = 0 then op ((j - 98) / 2) else ar ((j - 98) / 2)) D e k
theorem CW_ext {op ar op' ar' : Nat → Int} {s e : Nat} (h : CW op ar s e) (g : ∀ k, k < e → op' k = op k ∧ ar' k = ar k) : CW op' ar' s e := by
  obtain ⟨h1, D, h2, h3, h4⟩ := h
  refine ⟨h1, D, h2, h3, fun k k1 k2 => ?_⟩
  have hz := h4 k k1 k2
  unfold zcs at hz ⊢
  dsimp only at hz ⊢
  rw [show (98 + 2 * k) % 2 = 0 by omega, show (99 + 2 * k) % 2 = 1 by omega, show (98 + 2 * k - 98) / 2 = k by omega, show (99 + 2 * k - 98) / 2 = k by omega] at hz ⊢
  rw [if_pos rfl, if_neg (by decide)] at hz ⊢
  rw [(g k k2).1, (g k k2).2]
  exact hz
theorem CW_nil (op ar : Nat → Int) (s : Nat) : CW op ar s s := ⟨Nat.le_refl _, fun _ => 0, rfl, fun k a b => Nat.zero_le _, fun k a b => absurd a (by omega)⟩
def KI (n nC : Nat) (ncl op ar : Nat → Int) : Prop := ∀ c, c < n → (ncl (8 * c) = 0 ∨ ncl (8 * c) = 1) ∧ ∃ s1 e1 s2 e2 : Nat, ncl (8 * c + 3) = (s1 : Int) ∧ ncl (8 * c + 4) = (e1 : Int) ∧ ncl (8 * c + 5) = (s2 : Int) ∧ ncl (8 * c + 6) = (e2 : Int) ∧ e1 ≤ nC ∧ e2 ≤ nC ∧ CW op ar s1 e1 ∧ CW op ar s2 e2
theorem KI_keep {n nC nC' : Nat} {ncl op ar ncl' op' ar' : Nat → Int} (h : KI n nC ncl op ar) (h1 : ∀ j, j < 8 * n → ncl' j = ncl j) (h2 : ∀ k, k < nC → op' k = op k ∧ ar' k = ar k) (h3 : nC ≤ nC') : KI n nC' ncl' op' ar' := by
  intro c hc
  obtain ⟨q0, s1, e1, s2, e2, q1, q2, q3, q4, q5, q6, q7, q8⟩ := h c hc
  refine ⟨by rw [h1 _ (by omega)]; exact q0, s1, e1, s2, e2, by rw [h1 _ (by omega)]; exact q1, by rw [h1 _ (by omega)]; exact q2, by rw [h1 _ (by omega)]; exact q3, by rw [h1 _ (by omega)]; exact q4, by omega, by omega, CW_ext q7 (fun k hk => h2 k (by omega)), CW_ext q8 (fun k hk => h2 k (by omega))⟩
/-- what an expression leaves -/
theorem z_tail {nC nC' : Int} {op ar pl pa op' ar' pl' pa' : Nat → Int} (h : TG 0 1 nC 0 op ar pl pa nC' 0 op' ar' pl' pa') : nC.toNat ≤ nC'.toNat ∧ (∀ k, k < nC.toNat → op' k = op k ∧ ar' k = ar k) ∧ CW op' ar' nC.toNat nC'.toNat := by
  have g0 : PG nC.toNat op ar nC.toNat (0 : Int).toNat op ar pl pa 0 := ⟨fun _ => 0, ⟨Nat.le_refl _, rfl, fun k _ => ⟨rfl, rfl⟩, fun i hi => absurd hi (Nat.not_lt_zero i), fun k a b => absurd a (by omega)⟩, rfl⟩
  obtain ⟨D, d1, d2, d3, d4, d5⟩ := PG_end (h _ _ _ g0)
  exact ⟨d2, d3, d2, D, d1, d4, d5⟩
def CS (tp fr to so bad nCl nC nL : Int) (ncl op ar : Nat → Int) : Prop := LX tp fr to so ∧ (0 ≤ nL ∧ nL ≤ 50) ∧ (0 ≤ nC ∧ nC ≤ fr) ∧ (0 ≤ nCl ∧ nCl ≤ 12) ∧ (bad = 0 ∨ bad = 1) ∧ (bad = 0 → KI nCl.toNat nC.toNat ncl op ar)
theorem z_c180 (c x2 : Int) (tp : Int) (tape words : Nat → Int) (fr to so wo fa bad nCl nC nL pd opd : Int) (ncl op ar pl pa : Nat → Int) (ht : 0 ≤ tp ∧ tp ≤ 400) (hT : zR tape 0 255) (hc : 0 ≤ c ∧ c ≤ 11) (hn : nCl = c + 1) (hx : x2 = 8 * c) (hl : LX tp fr to so) (hL : 0 ≤ nL ∧ nL ≤ 50) (hC : 0 ≤ nC ∧ nC ≤ fr) (hb : bad = 0 ∨ bad = 1) (hk : bad = 0 → KI c.toNat nC.toNat ncl op ar ∧ (ncl (8 * c.toNat) = 0 ∨ ncl (8 * c.toNat) = 1) ∧ ∃ s1 e1 s2 : Nat, ncl (8 * c.toNat + 3) = (s1 : Int) ∧ ncl (8 * c.toNat + 4) = (e1 : Int) ∧ ncl (8 * c.toNat + 5) = (s2 : Int) ∧ e1 ≤ nC.toNat ∧ CW op ar s1 e1 ∧ CW op ar s2 nC.toNat) : zok (f_HM_readClause_180 tp tape words x2 fr to so wo fa bad nCl nC nL pd opd ncl op ar pl pa) (fun o => CS tp o.1 o.2.1 o.2.2.1 o.2.2.2.2.2.1 o.2.2.2.2.2.2.1 o.2.2.2.2.2.2.2.1 o.2.2.2.2.2.2.2.2.1 o.2.2.2.2.2.2.2.2.2.2.2.1 o.2.2.2.2.2.2.2.2.2.2.2.2.1 o.2.2.2.2.2.2.2.2.2.2.2.2.2.1 ∧ fr ≤ o.1) := by
  unfold f_HM_readClause_180
  refine zk_n ?_
  refine zk_sv (by omega) (by decide) (fun a2 h_a2 => ?_)
  have z := fun j => zu_rd h_a2 j
  refine zk_ret ⟨⟨hl, hL, hC, by dsimp only; omega, hb, fun h => ?_⟩, Int.le_refl _⟩
  obtain ⟨k1, k2, s1, e1, s2, k3, k4, k5, k6, k7, k8⟩ := hk h
  dsimp only
  rw [show nCl.toNat = c.toNat + 1 from by omega]
  intro d hd
  by_cases q : d = c.toNat
  · subst q
    have z0 := z (8 * c.toNat)
    have z3 := z (8 * c.toNat + 3)
    have z4 := z (8 * c.toNat + 4)
    have z5 := z (8 * c.toNat + 5)
    have z6 := z (8 * c.toNat + 6)
    exact ⟨by clear k7 k8; omega, s1, e1, s2, nC.toNat, by clear k7 k8; omega, by clear k7 k8; omega, by clear k7 k8; omega, by clear k7 k8; omega, k6, Nat.le_refl _, k7, k8⟩
  · have kk := KI_keep (ncl' := a2) (op' := op) (ar' := ar) k1 (fun j hj => by have := z j; omega) (fun k _ => ⟨rfl, rfl⟩) (Nat.le_refl _)
    exact kk d (by omega)
theorem z_c130 (c x2 : Int) (tp : Int) (tape words : Nat → Int) (fr to so wo fa bad nCl nC nL pd opd : Int) (ncl op ar pl pa : Nat → Int) (ht : 0 ≤ tp ∧ tp ≤ 400) (hT : zR tape 0 255) (hc : 0 ≤ c ∧ c ≤ 11) (hn : nCl = c + 1) (hx : x2 = 8 * c) (hl : LX tp fr to so) (hL : 0 ≤ nL ∧ nL ≤ 50) (hC : 0 ≤ nC ∧ nC ≤ fr) (hb : bad = 0 ∨ bad = 1) (hk : bad = 0 → KI c.toNat nC.toNat ncl op ar ∧ (ncl (8 * c.toNat) = 0 ∨ ncl (8 * c.toNat) = 1) ∧ ∃ s1 : Nat, ncl (8 * c.toNat + 3) = (s1 : Int) ∧ CW op ar s1 nC.toNat) : zok (f_HM_readClause_130 tp tape words x2 fr to so wo fa bad nCl nC nL pd opd ncl op ar pl pa) (fun o => CS tp o.1 o.2.1 o.2.2.1 o.2.2.2.2.2.1 o.2.2.2.2.2.2.1 o.2.2.2.2.2.2.2.1 o.2.2.2.2.2.2.2.2.1 o.2.2.2.2.2.2.2.2.2.2.2.1 o.2.2.2.2.2.2.2.2.2.2.2.2.1 o.2.2.2.2.2.2.2.2.2.2.2.2.2.1 ∧ fr ≤ o.1) := by
  have l0 := hl
  obtain ⟨l1, l2, l3, l4, l5, l6⟩ := l0
  unfold f_HM_readClause_130
  refine zk_n ?_
  refine zk_sv (by omega) (by decide) (fun a2 h_a2 => ?_)
  refine zk_n ?_
  refine zk_sv (by omega) (by decide) (fun a4 h_a4 => ?_)
  have z := fun j => zu_rd h_a2 j
  have y := fun j => zu_rd h_a4 j
  have hk2 : bad = 0 → KI c.toNat nC.toNat a4 op ar ∧ (a4 (8 * c.toNat) = 0 ∨ a4 (8 * c.toNat) = 1) ∧ ∃ s1 : Nat, a4 (8 * c.toNat + 3) = (s1 : Int) ∧ a4 (8 * c.toNat + 4) = (nC.toNat : Int) ∧ a4 (8 * c.toNat + 5) = (nC.toNat : Int) ∧ CW op ar s1 nC.toNat := by
    intro h
    obtain ⟨k1, k2, s1, k3, k4⟩ := hk h
    have z0 := z (8 * c.toNat)
    have z3 := z (8 * c.toNat + 3)
    have z4 := z (8 * c.toNat + 4)
    have y0 := y (8 * c.toNat)
    have y3 := y (8 * c.toNat + 3)
    have y4 := y (8 * c.toNat + 4)
    have y5 := y (8 * c.toNat + 5)
    refine ⟨KI_keep k1 (fun j hj => by have := z j; have := y j; omega) (fun k _ => ⟨rfl, rfl⟩) (Nat.le_refl _), by clear k4; omega, s1, by clear k4; omega, by clear k4; omega, by clear k4; omega, k4⟩
  have fin : bad = 0 → KI c.toNat nC.toNat a4 op ar ∧ (a4 (8 * c.toNat) = 0 ∨ a4 (8 * c.toNat) = 1) ∧ ∃ s1 e1 s2 : Nat, a4 (8 * c.toNat + 3) = (s1 : Int) ∧ a4 (8 * c.toNat + 4) = (e1 : Int) ∧ a4 (8 * c.toNat + 5) = (s2 : Int) ∧ e1 ≤ nC.toNat ∧ CW op ar s1 e1 ∧ CW op ar s2 nC.toNat := by
    intro h
    obtain ⟨k1, k2, s1, k3, k4, k5, k6⟩ := hk2 h
    exact ⟨k1, k2, s1, nC.toNat, nC.toNat, k3, k4, k5, Nat.le_refl _, k6, CW_nil _ _ _⟩
  refine zk_ifc (zci_ner (by clear hk hk2 fin; omega)) (fun hc1 => ?_) (fun hc1 => ?_)
  · exact z_c180 c x2 tp tape words fr to so wo fa bad nCl nC nL pd opd a4 op ar pl pa ht hT hc hn hx hl hL hC hb fin
  · refine zk_d1 (s_HM_isWord _ _ _ (by omega)) (fun v5 hp => ?_)
    try dsimp only at hp
    refine zk_ifc (zci_eqr (by omega)) (fun hc2 => ?_) (fun hc2 => ?_)
    · exact z_c180 c x2 tp tape words fr to so wo fa bad nCl nC nL pd opd a4 op ar pl pa ht hT hc hn hx hl hL hC hb fin
    · refine zk_d4 (z_next tp tape fr to so wo ht hT hl) (fun w1 w2 w3 w4 hn1 => ?_)
      dsimp only at hn1
      obtain ⟨n1, n2⟩ := hn1
      refine zk_d14 (z_expr 1 tp tape words w1 w2 w3 w4 fa bad nC nL pd opd op ar pl pa (Or.inr rfl) ht hT hb n1 hL (by omega)) (fun u1 u2 u3 u4 u5 u6 u7 u8 u9 u10 a11 a12 a13 a14 hq => ?_)
      dsimp only at hq
      obtain ⟨q1, q2, q3, q4⟩ := hq
      have pv := q1.2.2.2
      have p1 := pv.1
      have p4 := pv.2.2.2.1
      refine zok_mono (z_c180 c x2 tp tape words u1 u2 u3 u4 u5 u6 nCl u7 u8 u9 u10 a4 a11 a12 a13 a14 ht hT hc hn hx q1.1 q1.2.1 (by omega) q2 (fun h => ?_)) (fun o ho => ⟨ho.1, by have := ho.2; omega⟩)
      obtain ⟨r1, r2, r3⟩ := q4 h
      obtain ⟨t1, t2, t3⟩ := z_tail r3
      obtain ⟨k1, k2, s1, k3, k4, k5, k6⟩ := hk2 r1
      exact ⟨KI_keep k1 (fun _ _ => rfl) t2 t1, k2, s1, nC.toNat, nC.toNat, k3, k4, k5, t1, CW_ext k6 t2, t3⟩
theorem z_c71 (c : Int) (hc : 0 ≤ c ∧ c ≤ 11) (tp : Int) (tape words : Nat → Int) (ht : 0 ≤ tp ∧ tp ≤ 400) (hT : zR tape 0 255) : ∀ (n : Nat) (x1 x2 x3 fr to so wo fa bad nCl nC nL pd opd : Int) (ncl op ar pl pa : Nat → Int), (x1 = 0 ∨ x1 = 1) → nCl = c → x2 = 8 * c → (0 ≤ x3 ∧ x3 ≤ 8) → LX tp fr to so → (0 ≤ nL ∧ nL ≤ 50) → (0 ≤ nC ∧ nC ≤ fr) → bad = 0 → KI c.toNat nC.toNat ncl op ar → 9 - x3 ≤ (n : Int) → zok (f_HM_readClause_71 tp tape words n x1 x2 x3 fr to so wo fa bad nCl nC nL pd opd ncl op ar pl pa) (fun o => CS tp o.1 o.2.1 o.2.2.1 o.2.2.2.2.2.1 o.2.2.2.2.2.2.1 o.2.2.2.2.2.2.2.1 o.2.2.2.2.2.2.2.2.1 o.2.2.2.2.2.2.2.2.2.2.2.1 o.2.2.2.2.2.2.2.2.2.2.2.2.1 o.2.2.2.2.2.2.2.2.2.2.2.2.2.1 ∧ fr ≤ o.1) := by
  intro n
  induction n with
  | zero => intro x1 x2 x3 fr to so wo fa bad nCl nC nL pd opd ncl op ar pl pa h1 hn hx h3 hl hL hC hb hk hm; exfalso; omega
  | succ n ih =>
    intro x1 x2 x3 fr to so wo fa bad nCl nC nL pd opd ncl op ar pl pa h1 hn hx h3 hl hL hC hb hk hm
    show zok (f_HM_readClause_71_b tp tape words (f_HM_readClause_71 tp tape words n) x1 x2 x3 fr to so wo fa bad nCl nC nL pd opd ncl op ar pl pa) _
    unfold f_HM_readClause_71_b
    refine zk_ifc (zci_le (by omega) (by omega)) (fun hc1 => ?_) (fun hc1 => ?_)
    · refine zk_sv (by omega) (by decide) (fun a1 h_a1 => ?_)
      refine zk_n ?_
      refine zk_n ?_
      refine zk_sv (by omega) (by decide) (fun a4 h_a4 => ?_)
      have z := fun j => zu_rd h_a1 j
      have y := fun j => zu_rd h_a4 j
      have z0 := z (8 * c.toNat)
      have y0 := y (8 * c.toNat)
      have y3 := y (8 * c.toNat + 3)
      have f0 : a4 (8 * c.toNat) = 0 ∨ a4 (8 * c.toNat) = 1 := by omega
      have f3 : a4 (8 * c.toNat + 3) = (nC.toNat : Int) := by omega
      have kk : KI c.toNat nC.toNat a4 op ar := KI_keep hk (fun j hj => by have := z j; have := y j; omega) (fun k _ => ⟨rfl, rfl⟩) (Nat.le_refl _)
      refine zk_ifc (zci_ner (by omega)) (fun hc2 => ?_) (fun hc2 => ?_)
      · exact z_c130 c x2 tp tape words fr to so wo fa bad (nCl + 1) nC nL pd opd a4 op ar pl pa ht hT hc (by omega) hx hl hL hC (Or.inl hb) (fun _ => ⟨kk, f0, nC.toNat, f3, CW_nil _ _ _⟩)
      · refine zk_d14 (z_expr 0 tp tape words fr to so wo fa bad nC nL pd opd op ar pl pa (Or.inl rfl) ht hT (Or.inl hb) hl hL hC) (fun u1 u2 u3 u4 u5 u6 u7 u8 u9 u10 a11 a12 a13 a14 hq => ?_)
        dsimp only at hq
        obtain ⟨q1, q2, q3, q4⟩ := hq
        have pv := q1.2.2.2
        have p1 := pv.1
        have p4 := pv.2.2.2.1
        refine zok_mono (z_c130 c x2 tp tape words u1 u2 u3 u4 u5 u6 (nCl + 1) u7 u8 u9 u10 a4 a11 a12 a13 a14 ht hT hc (by omega) hx q1.1 q1.2.1 (by omega) q2 (fun h => ?_)) (fun o ho => ⟨ho.1, by have := ho.2; omega⟩)
        obtain ⟨r1, r2, r3⟩ := q4 h
        obtain ⟨t1, t2, t3⟩ := z_tail r3
        exact ⟨KI_keep kk (fun _ _ => rfl) t2 t1, f0, nC.toNat, f3, t3⟩
    · refine zk_n ?_
      refine zk_sv (by omega) (by decide) (fun a20 h_a20 => ?_)
      refine zk_n ?_
      exact ih _ _ _ _ _ _ _ _ _ _ _ _ _ _ _ _ _ _ _ h1 hn hx (by omega) hl hL hC hb (KI_keep hk (fun j hj => by have := zu_rd h_a20 j; omega) (fun k _ => ⟨rfl, rfl⟩) (Nat.le_refl _)) (by omega)
theorem z_clause (tp : Int) (tape words : Nat → Int) (fr to so wo fa bad nCl nC nL pd opd : Int) (ncl op ar pl pa : Nat → Int) (ht : 0 ≤ tp ∧ tp ≤ 400) (hT : zR tape 0 255) (hs : CS tp fr to so bad nCl nC nL ncl op ar) (hb : bad = 0) : zok (f_HM_readClause tp tape words fr to so wo fa bad nCl nC nL pd opd ncl op ar pl pa) (fun o => CS tp o.1 o.2.1 o.2.2.1 o.2.2.2.2.2.1 o.2.2.2.2.2.2.1 o.2.2.2.2.2.2.2.1 o.2.2.2.2.2.2.2.2.1 o.2.2.2.2.2.2.2.2.2.2.2.1 o.2.2.2.2.2.2.2.2.2.2.2.2.1 o.2.2.2.2.2.2.2.2.2.2.2.2.2.1 ∧ fr ≤ o.1) := by
  obtain ⟨hl, hL, hC, hN, _, hk⟩ := hs
  have hk := hk hb
  have l0 := hl
  obtain ⟨l1, l2, l3, l4, l5, l6⟩ := l0
  have k50 : ∀ x1 s1 : Int, (s1 = 0 ∨ (s1 = 1 ∧ (x1 = 0 ∨ x1 = 1) ∧ nCl ≤ 11)) → zok (f_HM_readClause_50 tp tape words x1 s1 fr to so wo fa bad nCl nC nL pd opd ncl op ar pl pa) (fun o => CS tp o.1 o.2.1 o.2.2.1 o.2.2.2.2.2.1 o.2.2.2.2.2.2.1 o.2.2.2.2.2.2.2.1 o.2.2.2.2.2.2.2.2.1 o.2.2.2.2.2.2.2.2.2.2.2.1 o.2.2.2.2.2.2.2.2.2.2.2.2.1 o.2.2.2.2.2.2.2.2.2.2.2.2.2.1 ∧ fr ≤ o.1) := by
    intro x1 s1 h1
    unfold f_HM_readClause_50
    refine zk_d6 (z_must s1 tp tape fr to so wo fa bad (by omega) ht hT hl hb) (fun v1 v2 v3 v4 v5 v6 hp6 => ?_)
    dsimp only at hp6
    obtain ⟨m1, m2⟩ := hp6
    refine zk_ifc (zci_eqr (by omega)) (fun hc => ?_) (fun hc => ?_)
    · refine zk_n ?_
      refine zok_mono (z_c71 nCl (by omega) tp tape words ht hT zfu x1 _ 0 v1 v2 v3 v4 v5 v6 nCl nC nL pd opd ncl op ar pl pa (by omega) rfl rfl (by omega) m1 hL (by omega) hc hk (by unfold zfu; omega)) (fun o ho => ⟨ho.1, by have := ho.2; omega⟩)
    · exact zk_ret ⟨⟨m1, hL, by dsimp only; omega, hN, by dsimp only; omega, fun h => absurd (show v6 = 0 from h) hc⟩, by dsimp only; omega⟩
  have k29 : ∀ x1 : Int, (x1 = -1 ∨ x1 = 0 ∨ x1 = 1) → zok (f_HM_readClause_29 tp tape words x1 fr to so wo fa bad nCl nC nL pd opd ncl op ar pl pa) (fun o => CS tp o.1 o.2.1 o.2.2.1 o.2.2.2.2.2.1 o.2.2.2.2.2.2.1 o.2.2.2.2.2.2.2.1 o.2.2.2.2.2.2.2.2.1 o.2.2.2.2.2.2.2.2.2.2.2.1 o.2.2.2.2.2.2.2.2.2.2.2.2.1 o.2.2.2.2.2.2.2.2.2.2.2.2.2.1 ∧ fr ≤ o.1) := by
    intro x1 h1
    unfold f_HM_readClause_29
    refine zk_ifc (zci_eq (by omega) (by omega)) (fun hc => ?_) (fun hc => ?_)
    · unfold f_HM_readClause_49
      exact k50 _ _ (Or.inl rfl)
    · refine zk_ifc (zci_le (by omega) (by omega)) (fun hc1 => ?_) (fun hc1 => ?_)
      · unfold f_HM_readClause_49
        exact k50 _ _ (Or.inl rfl)
      · exact k50 _ _ (Or.inr ⟨rfl, by omega, by omega⟩)
  unfold f_HM_readClause
  refine zk_d1 (s_HM_isWord _ _ _ (by omega)) (fun v1 hp => ?_)
  try dsimp only at hp
  refine zk_ifc (zci_eqr (by omega)) (fun hc => ?_) (fun hc => ?_)
  · refine zk_d1 (s_HM_isWord _ _ _ (by omega)) (fun v2 hp2 => ?_)
    try dsimp only at hp2
    refine zk_ifc (zci_eqr (by omega)) (fun hc1 => ?_) (fun hc1 => ?_)
    · exact k29 _ (by omega)
    · exact k29 _ (by omega)
  · exact k29 _ (by omega)
/-- what law() leaves: the numbers of laws, the row, by the clauses read -/
def LPP (row0 : Nat → Int) (ans st bad nCl nC : Int) (R ncl op ar : Nat → Int) : Prop :=
  (row0 3 = 6 ∧ ans = -5 ∧ st = -5 ∧ R = row0) ∨ (row0 3 ≠ 6 ∧ bad = 1 ∧ ans = -6 ∧ st = -6 ∧ R = row0) ∨
  (row0 3 ≠ 6 ∧ bad = 0 ∧ ans = row0 3 ∧ st = 0 ∧ R 3 = row0 3 + 1 ∧ (∀ j, j < 180 + 900 * (row0 3).toNat → j ≠ 3 → R j = row0 j) ∧ R (181 + 900 * (row0 3).toNat) = nCl ∧ (∀ j, j < 8 * nCl.toNat → R (182 + 900 * (row0 3).toNat + j) = ncl j) ∧ ∀ k, k < nC.toNat → R (278 + 900 * (row0 3).toNat + 2 * k) = op k ∧ R (279 + 900 * (row0 3).toNat + 2 * k) = ar k)
theorem CWF_of {op ar t : Nat → Int} {s e m : Nat} (h : CW op ar s e) (he : e ≤ m) (hm : m ≤ 400) (g : ∀ k, k < m → t (98 + 2 * k) = op k ∧ t (99 + 2 * k) = ar k) : CWF t s e := by
  obtain ⟨h1, D, h2, h3, h4⟩ := h
  refine ⟨h1, by omega, D, h2, fun k k1 k2 => by have := h3 k k1 k2; omega, fun k k1 k2 => ?_⟩
  have hz := h4 k k1 k2
  unfold zcs at hz ⊢
  dsimp only at hz
  rw [show (98 + 2 * k) % 2 = 0 by omega, show (99 + 2 * k) % 2 = 1 by omega, show (98 + 2 * k - 98) / 2 = k by omega, show (99 + 2 * k - 98) / 2 = k by omega] at hz
  rw [if_pos rfl, if_neg (by decide)] at hz
  rw [(g k (by omega)).1, (g k (by omega)).2]
  exact hz
theorem RI_law {row0 row ncl op ar : Nat → Int} {l nCl nC : Nat} (h0 : RI row0) (hl : row0 3 = (l : Int)) (h5 : l ≤ 5) (hn : nCl ≤ 12) (hc : nC ≤ 400) (hk : KI nCl nC ncl op ar) (h1 : ∀ j, j < 181 + 900 * l → row j = row0 j) (h2 : row (181 + 900 * l) = (nCl : Int)) (h3 : ∀ j, j < 8 * nCl → row (182 + 900 * l + j) = ncl j) (h4 : ∀ k, k < nC → row (278 + 900 * l + 2 * k) = op k ∧ row (279 + 900 * l + 2 * k) = ar k) : RI (zu row 3 ((l : Int) + 1)) := by
  have hb := h0.1
  have hf := h0.2.1
  refine ⟨fun j hj => ?_, ?_, fun k hk2 => ?_⟩
  · by_cases e : j = 3
    · subst e
      rw [zu_eq]
      have e1 : zlo 3 = 0 := rfl
      have e2 : zhi 3 = 6 := rfl
      omega
    · rw [zu_ne _ _ e, h1 j (by omega)]; exact hb j hj
  · rw [zu_eq, zu_ne _ _ (by decide), h1 4 (by omega)]; omega
  · rw [zu_eq] at hk2
    by_cases e : k = l
    · subst e
      refine ⟨?_, ?_, fun c hc2 => ?_⟩
      · show 0 ≤ zu row 3 _ (180 + 900 * k + 1)
        rw [zu_ne _ _ (by omega), show 180 + 900 * k + 1 = 181 + 900 * k by omega, h2]; omega
      · show zu row 3 _ (180 + 900 * k + 1) ≤ 12
        rw [zu_ne _ _ (by omega), show 180 + 900 * k + 1 = 181 + 900 * k by omega, h2]; omega
      · have hc3 : (c : Int) < zu row 3 ((k : Int) + 1) (180 + 900 * k + 1) := hc2
        rw [zu_ne _ _ (by omega), show 180 + 900 * k + 1 = 181 + 900 * k by omega, h2] at hc3
        obtain ⟨q0, s1, e1, s2, e2, q1, q2, q3, q4, q5, q6, q7, q8⟩ := hk c (by omega)
        have g : ∀ i, i < nC → (fun j => zu row 3 ((k : Int) + 1) (180 + 900 * k + j)) (98 + 2 * i) = op i ∧ (fun j => zu row 3 ((k : Int) + 1) (180 + 900 * k + j)) (99 + 2 * i) = ar i := by
          intro i hi
          have a := h4 i hi
          dsimp only
          rw [zu_ne _ _ (by omega), zu_ne _ _ (by omega), show 180 + 900 * k + (98 + 2 * i) = 278 + 900 * k + 2 * i by omega, show 180 + 900 * k + (99 + 2 * i) = 279 + 900 * k + 2 * i by omega]
          exact a
        have w : ∀ i, i < 8 * nCl → zu row 3 ((k : Int) + 1) (180 + 900 * k + (2 + i)) = ncl i := by
          intro i hi
          rw [zu_ne _ _ (by omega), show 180 + 900 * k + (2 + i) = 182 + 900 * k + i by omega]
          exact h3 i hi
        refine ⟨s1, e1, s2, e2, ?_, ?_, ?_, ?_, ?_, CWF_of q7 q5 hc g, CWF_of q8 q6 hc g⟩
        · dsimp only
          rw [w (8 * c) (by omega)]; exact q0
        · dsimp only
          rw [show 5 + 8 * c = 2 + (8 * c + 3) by omega, w _ (by omega)]; exact q1
        · dsimp only
          rw [show 6 + 8 * c = 2 + (8 * c + 4) by omega, w _ (by omega)]; exact q2
        · dsimp only
          rw [show 7 + 8 * c = 2 + (8 * c + 5) by omega, w _ (by omega)]; exact q3
        · dsimp only
          rw [show 8 + 8 * c = 2 + (8 * c + 6) by omega, w _ (by omega)]; exact q4
    · refine LWF_ext (h0.2.2 k (by omega)) (fun j hj => ?_)
      rw [zu_ne _ _ (by omega), h1 _ (by omega)]
theorem z_l180 (tape words row0 ncl op ar : Nat → Int) (l : Nat) (nCl nC : Int) (h0 : RI row0) (hl : row0 3 = (l : Int)) (h5 : l ≤ 5) (hn : 0 ≤ nCl ∧ nCl ≤ 12) (hc : 0 ≤ nC ∧ nC ≤ 400) (hk : KI nCl.toNat nC.toNat ncl op ar) : ∀ (n : Nat) (x1 x2 th st tp fr to so wo fa bad nL pd opd : Int) (rf row pl pa : Nat → Int), x1 = 180 + 900 * (l : Int) → (0 ≤ x2 ∧ x2 ≤ nC) → tp = 0 ∧ bad = 0 → (∀ j, j < 181 + 900 * l → row j = row0 j) → row (181 + 900 * l) = nCl → (∀ j, j < 8 * nCl.toNat → row (182 + 900 * l + j) = ncl j) → (∀ k, k < x2.toNat → row (278 + 900 * l + 2 * k) = op k ∧ row (279 + 900 * l + 2 * k) = ar k) → nC + 1 - x2 ≤ (n : Int) → zok (f_HM_law_180 tape words n x1 x2 th st tp fr to so wo fa bad nCl nC nL pd opd rf row ncl op ar pl pa) (fun o => RI o.2.2.2.2.2.2.2.2.2.2.2.2.2.2.2.2.1 ∧ o.2.2.2.1 = 0 ∧ LPP row0 o.1 o.2.2.1 o.2.2.2.2.2.2.2.2.2.1 o.2.2.2.2.2.2.2.2.2.2.1 o.2.2.2.2.2.2.2.2.2.2.2.1 o.2.2.2.2.2.2.2.2.2.2.2.2.2.2.2.2.1 o.2.2.2.2.2.2.2.2.2.2.2.2.2.2.2.2.2.1 o.2.2.2.2.2.2.2.2.2.2.2.2.2.2.2.2.2.2.1 o.2.2.2.2.2.2.2.2.2.2.2.2.2.2.2.2.2.2.2.1) := by
  intro n
  induction n with
  | zero => intro x1 x2 th st tp fr to so wo fa bad nL pd opd rf row pl pa e1 h2 ht r1 r2 r3 r4 hm; exfalso; omega
  | succ n ih =>
    intro x1 x2 th st tp fr to so wo fa bad nL pd opd rf row pl pa e1 h2 ht r1 r2 r3 r4 hm
    show zok (f_HM_law_180_b tape words (f_HM_law_180 tape words n) x1 x2 th st tp fr to so wo fa bad nCl nC nL pd opd rf row ncl op ar pl pa) _
    unfold f_HM_law_180_b
    refine zk_ifc (zci_le (by omega) (by omega)) (fun hc1 => ?_) (fun hc1 => ?_)
    · have e : x2 = nC := by omega
      subst e
      have r33 := r1 3 (by omega)
      refine zk_gl 3 rfl (by decide) (by decide) (fun v1 h_v1 => ?_)
      have ev : v1 = (l : Int) := by omega
      refine zk_n ?_
      refine zk_sl 3 rfl (by decide) (by decide) (fun a3 h_a3 => ?_)
      have hR : RI a3 := by
        rw [h_a3, ev]
        exact RI_law h0 hl h5 (by omega) (by omega) hk r1 (by omega) r3 r4
      have z3 := zu_rd h_a3 3
      refine zk_gl 3 rfl (by decide) (by decide) (fun v4 h_v4 => ?_)
      refine zk_n ?_
      have hv : v4 - 1 = (l : Int) := by omega
      refine zk_d3 (s_HM_tell _ _ _ (by omega)) (fun v6 v7 a8 hq => ?_)
      try dsimp only at hq
      have er : (row0 3).toNat = l := by omega
      refine zk_ret ⟨hR, ht.1, Or.inr (Or.inr ⟨by omega, ht.2, by dsimp only; omega, by dsimp only; omega, by dsimp only; rw [h_a3, zu_eq]; omega, ?_, ?_, ?_, ?_⟩)⟩
      · intro j h1 h2
        dsimp only
        rw [er] at h1
        have := zu_rd h_a3 j
        have := r1 j (by omega)
        omega
      · dsimp only
        rw [er, h_a3, zu_ne _ _ (by omega)]; exact r2
      · intro j h1
        dsimp only at h1 ⊢
        rw [er, h_a3, zu_ne _ _ (by omega)]; exact r3 j h1
      · intro k h1
        dsimp only at h1 ⊢
        rw [er, h_a3, zu_ne _ _ (by omega), zu_ne _ _ (by omega)]; exact r4 k h1
    · refine zk_n ?_
      refine zk_n ?_
      refine zk_n ?_
      refine zk_gv (by omega) (by decide) (fun v12 h_v12 => ?_)
      refine zk_sv (by omega) (by decide) (fun a13 h_a13 => ?_)
      refine zk_n ?_
      refine zk_n ?_
      refine zk_n ?_
      refine zk_n ?_
      refine zk_gv (by omega) (by decide) (fun v18 h_v18 => ?_)
      refine zk_sv (by omega) (by decide) (fun a19 h_a19 => ?_)
      refine zk_n ?_
      have z := fun j => zu_rd h_a13 j
      have y := fun j => zu_rd h_a19 j
      refine ih _ _ _ _ _ _ _ _ _ _ _ _ _ _ _ _ _ _ e1 (by omega) ht (fun j hj => ?_) ?_ (fun j hj => ?_) (fun k hk3 => ?_) (by omega)
      · have := z j; have := y j; have := r1 j hj; omega
      · have := z (181 + 900 * l); have := y (181 + 900 * l); omega
      · have := z (182 + 900 * l + j); have := y (182 + 900 * l + j); have := r3 j hj; omega
      · by_cases q : k = x2.toNat
        · subst q
          have a1 := z (278 + 900 * l + 2 * x2.toNat)
          have a2 := y (278 + 900 * l + 2 * x2.toNat)
          have a3 := y (279 + 900 * l + 2 * x2.toNat)
          omega
        · have a0 := r4 k (by omega)
          have a1 := z (278 + 900 * l + 2 * k)
          have a2 := y (278 + 900 * l + 2 * k)
          have a3 := y (279 + 900 * l + 2 * k)
          have a4 := z (279 + 900 * l + 2 * k)
          omega
theorem z_l145 (tape words row0 ncl op ar : Nat → Int) (l : Nat) (nCl nC : Int) (h0 : RI row0) (hl : row0 3 = (l : Int)) (h5 : l ≤ 5) (hn : 0 ≤ nCl ∧ nCl ≤ 12) (hc : 0 ≤ nC ∧ nC ≤ 400) (hk : KI nCl.toNat nC.toNat ncl op ar) : ∀ (n : Nat) (x1 x2 th st tp fr to so wo fa bad nL pd opd : Int) (rf row pl pa : Nat → Int), x1 = 180 + 900 * (l : Int) → (0 ≤ x2 ∧ x2 ≤ 8 * nCl) → tp = 0 ∧ bad = 0 → (∀ j, j < 181 + 900 * l → row j = row0 j) → row (181 + 900 * l) = nCl → (∀ j, j < x2.toNat → row (182 + 900 * l + j) = ncl j) → 97 - x2 ≤ (n : Int) → zok (f_HM_law_145 tape words n x1 x2 th st tp fr to so wo fa bad nCl nC nL pd opd rf row ncl op ar pl pa) (fun o => RI o.2.2.2.2.2.2.2.2.2.2.2.2.2.2.2.2.1 ∧ o.2.2.2.1 = 0 ∧ LPP row0 o.1 o.2.2.1 o.2.2.2.2.2.2.2.2.2.1 o.2.2.2.2.2.2.2.2.2.2.1 o.2.2.2.2.2.2.2.2.2.2.2.1 o.2.2.2.2.2.2.2.2.2.2.2.2.2.2.2.2.1 o.2.2.2.2.2.2.2.2.2.2.2.2.2.2.2.2.2.1 o.2.2.2.2.2.2.2.2.2.2.2.2.2.2.2.2.2.2.1 o.2.2.2.2.2.2.2.2.2.2.2.2.2.2.2.2.2.2.2.1) := by
  intro n
  induction n with
  | zero => intro x1 x2 th st tp fr to so wo fa bad nL pd opd rf row pl pa e1 h2 ht r1 r2 r3 hm; exfalso; omega
  | succ n ih =>
    intro x1 x2 th st tp fr to so wo fa bad nL pd opd rf row pl pa e1 h2 ht r1 r2 r3 hm
    show zok (f_HM_law_145_b tape words (f_HM_law_145 tape words n) x1 x2 th st tp fr to so wo fa bad nCl nC nL pd opd rf row ncl op ar pl pa) _
    unfold f_HM_law_145_b
    refine zk_n ?_
    refine zk_ifc (zci_le (by omega) (by omega)) (fun hc1 => ?_) (fun hc1 => ?_)
    · exact z_l180 tape words row0 ncl op ar l nCl nC h0 hl h5 hn hc hk zfu _ _ _ _ _ _ _ _ _ _ _ _ _ _ _ _ _ _ e1 (by omega) ht r1 r2 (fun j hj => r3 j (by omega)) (fun k hk3 => absurd hk3 (Nat.not_lt_zero k)) (by unfold zfu; omega)
    · refine zk_n ?_
      refine zk_n ?_
      refine zk_gv (by omega) (by decide) (fun v4 h_v4 => ?_)
      refine zk_sv (by omega) (by decide) (fun a5 h_a5 => ?_)
      refine zk_n ?_
      have z := fun j => zu_rd h_a5 j
      refine ih _ _ _ _ _ _ _ _ _ _ _ _ _ _ _ _ _ _ e1 (by omega) ht (fun j hj => ?_) ?_ (fun j hj => ?_) (by omega)
      · have := z j; have := r1 j hj; omega
      · have := z (181 + 900 * l); omega
      · by_cases q : j = x2.toNat
        · subst q
          have := z (182 + 900 * l + x2.toNat)
          omega
        · have := z (182 + 900 * l + j); have := r3 j (by omega); omega
theorem z_l97 (tape words : Nat → Int) (th st tp fr to so wo fa bad nCl nC nL pd opd : Int) (rf row ncl op ar pl pa : Nat → Int) (ht : 0 ≤ tp ∧ tp ≤ 400) (hs : CS tp fr to so bad nCl nC nL ncl op ar) (h0 : RI row) (h3 : row 3 ≠ 6) : zok (f_HM_law_97 tape words th st tp fr to so wo fa bad nCl nC nL pd opd rf row ncl op ar pl pa) (fun o => RI o.2.2.2.2.2.2.2.2.2.2.2.2.2.2.2.2.1 ∧ o.2.2.2.1 = 0 ∧ LPP row o.1 o.2.2.1 o.2.2.2.2.2.2.2.2.2.1 o.2.2.2.2.2.2.2.2.2.2.1 o.2.2.2.2.2.2.2.2.2.2.2.1 o.2.2.2.2.2.2.2.2.2.2.2.2.2.2.2.2.1 o.2.2.2.2.2.2.2.2.2.2.2.2.2.2.2.2.2.1 o.2.2.2.2.2.2.2.2.2.2.2.2.2.2.2.2.2.2.1 o.2.2.2.2.2.2.2.2.2.2.2.2.2.2.2.2.2.2.2.1) := by
  obtain ⟨hl, hL, hC, hN, hb, hk⟩ := hs
  have l0 := hl
  obtain ⟨l1, l2, l3, l4, l5, l6⟩ := l0
  have q3 := RI_3 h0
  unfold f_HM_law_97
  refine zk_ifc (zci_eqr (by clear hk; omega)) (fun hc1 => ?_) (fun hc1 => ?_)
  · have hk := hk hc1
    refine zk_gl 3 rfl (by decide) (by decide) (fun v1 h_v1 => ?_)
    refine zk_n ?_
    refine zk_n ?_
    refine zk_n ?_
    refine zk_sv (by omega) (by decide) (fun a5 h_a5 => ?_)
    have z := fun j => zu_rd h_a5 j
    refine z_l145 tape words row ncl op ar v1.toNat nCl nC h0 (by omega) (by omega) hN (by omega) hk zfu _ _ _ _ _ _ _ _ _ _ _ _ _ _ _ _ _ _ (by omega) (by omega) ⟨rfl, hc1⟩ (fun j hj => ?_) ?_ (fun j hj => absurd hj (Nat.not_lt_zero j)) (by unfold zfu; omega)
    · have := z j; omega
    · have := z (181 + 900 * v1.toNat); omega
  · refine zk_d3 (s_HM_tell _ _ _ (by clear hk; omega)) (fun v6 v7 a8 hq => ?_)
    try dsimp only at hq
    clear hk
    exact zk_ret ⟨h0, rfl, Or.inr (Or.inl ⟨h3, by dsimp only; omega, by dsimp only; omega, by dsimp only; omega, rfl⟩)⟩
theorem z_l78 (tape words : Nat → Int) (th st tp fr to so wo fa bad nCl nC nL pd opd : Int) (rf row ncl op ar pl pa : Nat → Int) (ht : 0 ≤ tp ∧ tp ≤ 400) (hT : zR tape 0 255) (hs : CS tp fr to so bad nCl nC nL ncl op ar) (h0 : RI row) (h3 : row 3 ≠ 6) : zok (f_HM_law_78 tape words th st tp fr to so wo fa bad nCl nC nL pd opd rf row ncl op ar pl pa) (fun o => RI o.2.2.2.2.2.2.2.2.2.2.2.2.2.2.2.2.1 ∧ o.2.2.2.1 = 0 ∧ LPP row o.1 o.2.2.1 o.2.2.2.2.2.2.2.2.2.1 o.2.2.2.2.2.2.2.2.2.2.1 o.2.2.2.2.2.2.2.2.2.2.2.1 o.2.2.2.2.2.2.2.2.2.2.2.2.2.2.2.2.1 o.2.2.2.2.2.2.2.2.2.2.2.2.2.2.2.2.2.1 o.2.2.2.2.2.2.2.2.2.2.2.2.2.2.2.2.2.2.1 o.2.2.2.2.2.2.2.2.2.2.2.2.2.2.2.2.2.2.2.1) := by
  have hs0 := hs
  obtain ⟨hl, hL, hC, hN, hb, hk⟩ := hs
  have l0 := hl
  obtain ⟨l1, l2, l3, l4, l5, l6⟩ := l0
  clear hk
  unfold f_HM_law_78
  refine zk_ifc (zci_ner (by omega)) (fun hc1 => ?_) (fun hc1 => ?_)
  · exact z_l97 tape words th st tp fr to so wo fa bad nCl nC nL pd opd rf row ncl op ar pl pa ht hs0 h0 h3
  · refine zk_ifc (zci_eqr (by omega)) (fun hc2 => ?_) (fun hc2 => ?_)
    · exact z_l97 tape words th st tp fr to so wo fa bad nCl nC nL pd opd rf row ncl op ar pl pa ht hs0 h0 h3
    · refine zk_d6 (z_must 0 tp tape fr to so wo fa bad (Or.inl rfl) ht hT hl (by omega)) (fun v1 v2 v3 v4 v5 v6 hp6 => ?_)
      dsimp only at hp6
      obtain ⟨m1, m2⟩ := hp6
      exact z_l97 tape words th st tp v1 v2 v3 v4 v5 v6 nCl nC nL pd opd rf row ncl op ar pl pa ht ⟨m1, hL, by omega, hN, by omega, fun h => absurd h (by omega)⟩ h0 h3
theorem z_l51 (tape words : Nat → Int) (tp : Int) (ht : 0 ≤ tp ∧ tp ≤ 400) (hT : zR tape 0 255) (row : Nat → Int) (h0 : RI row) (h3 : row 3 ≠ 6) : ∀ (n : Nat) (th st fr to so wo fa bad nCl nC nL pd opd : Int) (rf ncl op ar pl pa : Nat → Int), CS tp fr to so bad nCl nC nL ncl op ar → (1 ≤ n ∧ (bad = 1 ∨ tp - fr + 2 ≤ (n : Int))) → zok (f_HM_law_51 tape words n th st tp fr to so wo fa bad nCl nC nL pd opd rf row ncl op ar pl pa) (fun o => RI o.2.2.2.2.2.2.2.2.2.2.2.2.2.2.2.2.1 ∧ o.2.2.2.1 = 0 ∧ LPP row o.1 o.2.2.1 o.2.2.2.2.2.2.2.2.2.1 o.2.2.2.2.2.2.2.2.2.2.1 o.2.2.2.2.2.2.2.2.2.2.2.1 o.2.2.2.2.2.2.2.2.2.2.2.2.2.2.2.2.1 o.2.2.2.2.2.2.2.2.2.2.2.2.2.2.2.2.2.1 o.2.2.2.2.2.2.2.2.2.2.2.2.2.2.2.2.2.2.1 o.2.2.2.2.2.2.2.2.2.2.2.2.2.2.2.2.2.2.2.1) := by
  intro n
  induction n with
  | zero => intro th st fr to so wo fa bad nCl nC nL pd opd rf ncl op ar pl pa hs hm; exact absurd hm.1 (by decide)
  | succ n ih =>
    intro th st fr to so wo fa bad nCl nC nL pd opd rf ncl op ar pl pa hs hm
    show zok (f_HM_law_51_b tape words (f_HM_law_51 tape words n) th st tp fr to so wo fa bad nCl nC nL pd opd rf row ncl op ar pl pa) _
    have hs0 := hs
    obtain ⟨hl, hL, hC, hN, hb, hk⟩ := hs
    have l0 := hl
    obtain ⟨l1, l2, l3, l4, l5, l6⟩ := l0
    unfold f_HM_law_51_b
    refine zk_ifc (zci_ner (by clear hk; omega)) (fun hc1 => ?_) (fun hc1 => ?_)
    · exact z_l78 tape words th st tp fr to so wo fa bad nCl nC nL pd opd rf row ncl op ar pl pa ht hT hs0 h0 h3
    · refine zk_d1 (s_HM_isSign _ _ _ (by omega) (by omega)) (fun v1 hp => ?_)
      try dsimp only at hp
      refine zk_ifc (zci_eqr (by clear hk; omega)) (fun hc2 => ?_) (fun hc2 => ?_)
      · exact z_l78 tape words th st tp fr to so wo fa bad nCl nC nL pd opd rf row ncl op ar pl pa ht hT hs0 h0 h3
      · refine zk_d4 (z_next tp tape fr to so wo ht hT hl) (fun w1 w2 w3 w4 hn1 => ?_)
        dsimp only at hn1
        obtain ⟨n1, n2⟩ := hn1
        refine zk_d16 (z_clause tp tape words w1 w2 w3 w4 fa bad nCl nC nL pd opd ncl op ar pl pa ht hT ⟨n1, hL, by clear hk; omega, hN, hb, hk⟩ (by clear hk; omega)) (fun u1 u2 u3 u4 u5 u6 u7 u8 u9 u10 u11 a1 a2 a3 a4 a5 hq => ?_)
        dsimp only at hq
        obtain ⟨q1, q2⟩ := hq
        have l7 := n1.2.1
        have l8 := n1.2.2.1
        refine ih _ _ _ _ _ _ _ _ _ _ _ _ _ _ _ _ _ _ _ q1 ?_
        clear hk hs0 ih
        omega
theorem s_HM_law (tape words : Nat → Int) (th st tp fr to so wo fa bad nCl nC nL pd opd : Int) (rf row ncl op ar pl pa : Nat → Int) (ht : 0 ≤ tp ∧ tp ≤ 400) (hT : zR tape 0 255) (h0 : RI row) : zok (f_HM_law tape words th st tp fr to so wo fa bad nCl nC nL pd opd rf row ncl op ar pl pa) (fun o => RI o.2.2.2.2.2.2.2.2.2.2.2.2.2.2.2.2.1 ∧ o.2.2.2.1 = 0 ∧ LPP row o.1 o.2.2.1 o.2.2.2.2.2.2.2.2.2.1 o.2.2.2.2.2.2.2.2.2.2.1 o.2.2.2.2.2.2.2.2.2.2.2.1 o.2.2.2.2.2.2.2.2.2.2.2.2.2.2.2.2.1 o.2.2.2.2.2.2.2.2.2.2.2.2.2.2.2.2.2.1 o.2.2.2.2.2.2.2.2.2.2.2.2.2.2.2.2.2.2.1 o.2.2.2.2.2.2.2.2.2.2.2.2.2.2.2.2.2.2.2.1) := by
  have q3 := RI_3 h0
  unfold f_HM_law
  refine zk_gl 3 rfl (by decide) (by decide) (fun v1 h_v1 => ?_)
  refine zk_ifc (zci_ne (by omega) (by omega)) (fun hc1 => ?_) (fun hc1 => ?_)
  · have hb : zok (f_HM_begin tp tape fr to so wo fa bad) (fun o => LX tp o.1 o.2.1 o.2.2.1 ∧ o.2.2.2.2.2 = 0) := by
      unfold f_HM_begin
      refine zk_d4 (s_HM_next tp tape fr 0 so wo (by omega) hT (by omega) (by omega)) (fun w1 w2 w3 w4 hn1 => ?_)
      dsimp only at hn1
      obtain ⟨p0, p1, p2, p3⟩ := hn1
      exact zk_ret ⟨by unfold LX; dsimp only; omega, rfl⟩
    refine zk_d6 hb (fun w1 w2 w3 w4 w5 w6 hq => ?_)
    dsimp only at hq
    obtain ⟨m1, m2⟩ := hq
    have l1 := m1.1
    refine zk_d16 (z_clause tp tape words w1 w2 w3 w4 w5 w6 0 0 0 pd opd ncl op ar pl pa ht hT ⟨m1, by decide, by omega, by decide, Or.inl m2, fun _ c hc => absurd hc (Nat.not_lt_zero c)⟩ m2) (fun u1 u2 u3 u4 u5 u6 u7 u8 u9 u10 u11 a1 a2 a3 a4 a5 hq => ?_)
    dsimp only at hq
    obtain ⟨q1, q2⟩ := hq
    have l2 := q1.1.1
    exact z_l51 tape words tp ht hT row h0 (by omega) zfu _ _ _ _ _ _ _ _ _ _ _ _ _ _ _ _ _ _ _ q1 ⟨by unfold zfu; omega, Or.inr (by unfold zfu; omega)⟩
  · refine zk_d3 (s_HM_tell _ _ _ (by omega)) (fun v6 v7 a8 hq => ?_)
    try dsimp only at hq
    exact zk_ret ⟨h0, rfl, Or.inl ⟨by omega, by dsimp only; omega, by dsimp only; omega, rfl⟩⟩
