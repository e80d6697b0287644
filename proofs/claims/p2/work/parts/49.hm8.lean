section
noncomputable def LX (tp fr to so : Int) : Prop := 0 ≤ fr ∧ fr ≤ to ∧ to ≤ tp ∧ 0 ≤ so ∧ so ≤ 3 ∧ ((so = 0 ∧ fr = tp) ∨ (so ≠ 0 ∧ fr < to))
theorem z_must (x1 tp : Int) (tape : Nat → Int) (fr to so wo fa bad : Int) (hx : x1 = 0 ∨ x1 = 1) (ht : 0 ≤ tp ∧ tp ≤ 400) (hT : zR tape 0 255) (hl : LX tp fr to so) (hb : bad = 0) : zok (f_HM_must x1 tp tape fr to so wo fa bad) (fun o => LX tp o.1 o.2.1 o.2.2.1 ∧ ((o.2.2.2.2.2 = 0 ∧ x1 = 1 ∧ to ≤ o.1) ∨ (o.2.2.2.2.2 = 1 ∧ o.1 = fr))) := by
  obtain ⟨l1, l2, l3, l4, l5, l6⟩ := hl
  refine zok_mono (s_HM_must x1 tp tape fr to so wo fa bad (by omega) (by omega) hT (by omega) (by omega) (by omega) (by omega) (by omega) (by omega)) (fun o ho => ?_)
  obtain ⟨p0, p1, p2, p3, p4⟩ := ho
  unfold LX
  omega
theorem z_next (tp : Int) (tape : Nat → Int) (fr to so wo : Int) (ht : 0 ≤ tp ∧ tp ≤ 400) (hT : zR tape 0 255) (hl : LX tp fr to so) : zok (f_HM_next tp tape fr to so wo) (fun o => LX tp o.1 o.2.1 o.2.2.1 ∧ to ≤ o.1) := by
  obtain ⟨l1, l2, l3, l4, l5, l6⟩ := hl
  refine zok_mono (s_HM_next tp tape fr to so wo (by omega) hT (by omega) (by omega)) (fun o ho => ?_)
  obtain ⟨p0, p1, p2, p3⟩ := ho
  unfold LX
  omega
theorem z_open (x1 tp : Int) (tape : Nat → Int) (fr to so wo fa bad pd opd : Int) (pl pa : Nat → Int) (ht : 0 ≤ tp ∧ tp ≤ 400) (hT : zR tape 0 255) (hl : LX tp fr to so) (hs : so ≠ 0) (hb : bad = 0) (hp : 0 ≤ pd ∧ pd ≤ fr) (ho : -400 ≤ opd ∧ opd ≤ 8) : zok (f_HM_openBracket x1 tp tape fr to so wo fa bad pd opd pl pa) (fun o => LX tp o.1 o.2.1 o.2.2.1 ∧ ((o.2.2.2.2.2.1 = 1 ∧ o.1 = fr ∧ o.2.2.2.2.2.2.1 = pd ∧ o.2.2.2.2.2.2.2.1 = opd ∧ o.2.2.2.2.2.2.2.2.1 = pl ∧ o.2.2.2.2.2.2.2.2.2 = pa) ∨ (o.2.2.2.2.2.1 = 0 ∧ fr < o.1 ∧ o.2.2.2.2.2.2.1 = pd + 1 ∧ o.2.2.2.2.2.2.2.1 = opd + 1 ∧ opd < 8 ∧ o.2.2.2.2.2.2.2.2.1 = zu pl pd.toNat x1 ∧ o.2.2.2.2.2.2.2.2.2 = zu pa pd.toNat 0))) := by
  have key : ∀ s1 : Int, (s1 = 0 ∨ (s1 = 1 ∧ opd < 8)) → zok (f_HM_openBracket_15 tp tape x1 s1 fr to so wo fa bad pd opd pl pa) (fun o => LX tp o.1 o.2.1 o.2.2.1 ∧ ((o.2.2.2.2.2.1 = 1 ∧ o.1 = fr ∧ o.2.2.2.2.2.2.1 = pd ∧ o.2.2.2.2.2.2.2.1 = opd ∧ o.2.2.2.2.2.2.2.2.1 = pl ∧ o.2.2.2.2.2.2.2.2.2 = pa) ∨ (o.2.2.2.2.2.1 = 0 ∧ fr < o.1 ∧ o.2.2.2.2.2.2.1 = pd + 1 ∧ o.2.2.2.2.2.2.2.1 = opd + 1 ∧ opd < 8 ∧ o.2.2.2.2.2.2.2.2.1 = zu pl pd.toNat x1 ∧ o.2.2.2.2.2.2.2.2.2 = zu pa pd.toNat 0))) := by
    intro s1 h1
    unfold f_HM_openBracket_15
    refine zk_d6 (z_must s1 tp tape fr to so wo fa bad (by omega) ht hT hl hb) (fun v1 v2 v3 v4 v5 v6 hp6 => ?_)
    dsimp only at hp6
    obtain ⟨m1, m2⟩ := hp6
    obtain ⟨l1, l2, l3, l4, l5, l6⟩ := hl
    refine zk_ifc (zci_ner (by omega)) (fun hc => ?_) (fun hc => ?_)
    · exact zk_ret ⟨m1, Or.inl ⟨by dsimp only; omega, by dsimp only; omega, rfl, rfl, rfl, rfl⟩⟩
    · refine zk_n ?_
      refine zk_d3 (s_HM_push _ _ _ _ _ (by omega)) (fun v8 a9 a10 hq => ?_)
      dsimp only at hq
      obtain ⟨q1, q2, q3⟩ := hq
      exact zk_ret ⟨m1, Or.inr ⟨by dsimp only; omega, by dsimp only; omega, q1, rfl, by omega, q2, q3⟩⟩
  unfold f_HM_openBracket
  refine zk_ifc (zci_le (by omega) (by omega)) (fun hc => ?_) (fun hc => ?_)
  · exact key 0 (by omega)
  · exact key 1 (by omega)
theorem z_leaf (x1 x2 x3 tp : Int) (tape : Nat → Int) (fr to so wo fa bad nC nL : Int) (op ar : Nat → Int) (ht : 0 ≤ tp ∧ tp ≤ 400) (hT : zR tape 0 255) (hl : LX tp fr to so) (hx : x1 = 0 ∨ (x1 = 1 ∧ so ≠ 0)) (hb : bad = 0) (hn : 0 ≤ nC ∧ nC ≤ fr) (hL : 0 ≤ nL ∧ nL ≤ 50) : zok (f_HM_leaf x1 x2 x3 tp tape fr to so wo fa bad nC nL op ar) (fun o => LX tp o.1 o.2.1 o.2.2.1 ∧ (0 ≤ o.2.2.2.2.2.2.2.1 ∧ o.2.2.2.2.2.2.2.1 ≤ 50) ∧ ((o.2.2.2.2.2.1 = 1 ∧ o.1 = fr ∧ o.2.2.2.2.2.2.1 = nC ∧ o.2.2.2.2.2.2.2.2.1 = op ∧ o.2.2.2.2.2.2.2.2.2 = ar) ∨ (o.2.2.2.2.2.1 = 0 ∧ fr < o.1 ∧ o.2.2.2.2.2.2.1 = nC + 1 ∧ o.2.2.2.2.2.2.2.2.1 = zu op nC.toNat x2 ∧ o.2.2.2.2.2.2.2.2.2 = zu ar nC.toNat x3))) := by
  have key : ∀ s1 : Int, (s1 = 0 ∨ (s1 = 1 ∧ nL < 50 ∧ so ≠ 0)) → zok (f_HM_leaf_19 tp tape x2 x3 s1 fr to so wo fa bad nC nL op ar) (fun o => LX tp o.1 o.2.1 o.2.2.1 ∧ (0 ≤ o.2.2.2.2.2.2.2.1 ∧ o.2.2.2.2.2.2.2.1 ≤ 50) ∧ ((o.2.2.2.2.2.1 = 1 ∧ o.1 = fr ∧ o.2.2.2.2.2.2.1 = nC ∧ o.2.2.2.2.2.2.2.2.1 = op ∧ o.2.2.2.2.2.2.2.2.2 = ar) ∨ (o.2.2.2.2.2.1 = 0 ∧ fr < o.1 ∧ o.2.2.2.2.2.2.1 = nC + 1 ∧ o.2.2.2.2.2.2.2.2.1 = zu op nC.toNat x2 ∧ o.2.2.2.2.2.2.2.2.2 = zu ar nC.toNat x3))) := by
    intro s1 h1
    unfold f_HM_leaf_19
    refine zk_d6 (z_must s1 tp tape fr to so wo fa bad (by omega) ht hT hl hb) (fun v1 v2 v3 v4 v5 v6 hp6 => ?_)
    dsimp only at hp6
    obtain ⟨m1, m2⟩ := hp6
    obtain ⟨l1, l2, l3, l4, l5, l6⟩ := hl
    refine zk_ifc (zci_ner (by omega)) (fun hc => ?_) (fun hc => ?_)
    · exact zk_ret ⟨m1, hL, Or.inl ⟨by dsimp only; omega, by dsimp only; omega, rfl, rfl, rfl⟩⟩
    · refine zk_d3 (s_HM_emit _ _ _ _ _ (by omega)) (fun v8 a9 a10 hq => ?_)
      dsimp only at hq
      obtain ⟨q1, q2, q3⟩ := hq
      refine zk_n ?_
      exact zk_ret ⟨m1, by dsimp only; omega, Or.inr ⟨by dsimp only; omega, by dsimp only; omega, q1, q2, q3⟩⟩
  unfold f_HM_leaf
  refine zk_ifc (zci_eqr (by omega)) (fun hc => ?_) (fun hc => ?_)
  · unfold f_HM_leaf_18
    exact key 0 (by omega)
  · refine zk_ifc (zci_le (by omega) (by omega)) (fun hc_3 => ?_) (fun hc_3 => ?_)
    · unfold f_HM_leaf_18
      exact key 0 (by omega)
    · exact key 1 (by omega)
/-- the reader's state: its place, its code, its pile -/
noncomputable def RS (tp fr to so nC nL pd opd : Int) (pl pa : Nat → Int) : Prop := LX tp fr to so ∧ (0 ≤ nL ∧ nL ≤ 50) ∧ (-fr ≤ opd ∧ opd ≤ 8) ∧ PV fr nC pd pl pa
theorem z_part (tp : Int) (tape words : Nat → Int) (fr to so wo fa bad nC nL pd opd : Int) (op ar pl pa : Nat → Int) (ht : 0 ≤ tp ∧ tp ≤ 400) (hT : zR tape 0 255) (hb : bad = 0) (hr : RS tp fr to so nC nL pd opd pl pa) (hps : PS pl pd.toNat) : zok (f_HM_readPart tp tape words fr to so wo fa bad nC nL pd opd op ar pl pa) (fun o => RS tp o.2.1 o.2.2.1 o.2.2.2.1 o.2.2.2.2.2.2.2.1 o.2.2.2.2.2.2.2.2.1 o.2.2.2.2.2.2.2.2.2.1 o.2.2.2.2.2.2.2.2.2.2.1 o.2.2.2.2.2.2.2.2.2.2.2.2.2.1 o.2.2.2.2.2.2.2.2.2.2.2.2.2.2 ∧ (o.2.2.2.2.2.2.1 = 0 ∨ o.2.2.2.2.2.2.1 = 1) ∧ (0 ≤ o.1 ∧ o.1 ≤ 4) ∧ fr ≤ o.2.1 ∧ (o.2.2.2.2.2.2.1 = 0 → fr < o.2.1 ∧ (o.1 = 1 ∨ o.1 = 3) ∧ PS o.2.2.2.2.2.2.2.2.2.2.2.2.2.1 o.2.2.2.2.2.2.2.2.2.1.toNat ∧ TG 0 (if o.1 = 3 then 1 else 0) nC pd op ar pl pa o.2.2.2.2.2.2.2.1 o.2.2.2.2.2.2.2.2.2.1 o.2.2.2.2.2.2.2.2.2.2.2.1 o.2.2.2.2.2.2.2.2.2.2.2.2.1 o.2.2.2.2.2.2.2.2.2.2.2.2.2.1 o.2.2.2.2.2.2.2.2.2.2.2.2.2.2 ∧ (NS pl pd.toNat → (o.1 = 0 ∨ o.1 = 3) → NS o.2.2.2.2.2.2.2.2.2.2.2.2.2.1 o.2.2.2.2.2.2.2.2.2.1.toNat))) := by
  obtain ⟨hl, hL, ho, hv⟩ := hr
  have l0 := hl
  obtain ⟨l1, l2, l3, l4, l5, l6⟩ := l0
  have v1' := hv.1
  have v2' := hv.2.1
  have v3' := hv.2.2.1
  have v4' := hv.2.2.2.1
  have key : ∀ s1 s2 s3 : Int, (s1 = 0 ∨ (s1 = 1 ∧ so ≠ 0)) → (0 ≤ s2 ∧ s2 ≤ 8) → zok (f_HM_readPart_85 tp tape words s1 s2 s3 fr to so wo fa bad nC nL pd opd op ar pl pa) (fun o => RS tp o.2.1 o.2.2.1 o.2.2.2.1 o.2.2.2.2.2.2.2.1 o.2.2.2.2.2.2.2.2.1 o.2.2.2.2.2.2.2.2.2.1 o.2.2.2.2.2.2.2.2.2.2.1 o.2.2.2.2.2.2.2.2.2.2.2.2.2.1 o.2.2.2.2.2.2.2.2.2.2.2.2.2.2 ∧ (o.2.2.2.2.2.2.1 = 0 ∨ o.2.2.2.2.2.2.1 = 1) ∧ (0 ≤ o.1 ∧ o.1 ≤ 4) ∧ fr ≤ o.2.1 ∧ (o.2.2.2.2.2.2.1 = 0 → fr < o.2.1 ∧ (o.1 = 1 ∨ o.1 = 3) ∧ PS o.2.2.2.2.2.2.2.2.2.2.2.2.2.1 o.2.2.2.2.2.2.2.2.2.1.toNat ∧ TG 0 (if o.1 = 3 then 1 else 0) nC pd op ar pl pa o.2.2.2.2.2.2.2.1 o.2.2.2.2.2.2.2.2.2.1 o.2.2.2.2.2.2.2.2.2.2.2.1 o.2.2.2.2.2.2.2.2.2.2.2.2.1 o.2.2.2.2.2.2.2.2.2.2.2.2.2.1 o.2.2.2.2.2.2.2.2.2.2.2.2.2.2 ∧ (NS pl pd.toNat → (o.1 = 0 ∨ o.1 = 3) → NS o.2.2.2.2.2.2.2.2.2.2.2.2.2.1 o.2.2.2.2.2.2.2.2.2.1.toNat))) := by
    intro s1 s2 s3 h1 h2
    unfold f_HM_readPart_85
    refine zk_d10 (z_leaf s1 s2 s3 tp tape fr to so wo fa bad nC nL op ar ht hT hl h1 hb (by omega) hL) (fun w1 w2 w3 w4 w5 w6 w7 w8 a9 a10 hp => ?_)
    dsimp only at hp
    obtain ⟨m1, m2, m3⟩ := hp
    rcases m3 with ⟨e1, e2, e3, e4, e5⟩ | ⟨e1, e2, e3, e4, e5⟩
    · refine zk_ret ⟨⟨m1, m2, by dsimp only; omega, by dsimp only; rw [e2, e3]; exact hv⟩, Or.inr e1, by dsimp only; omega, by dsimp only; omega, fun h => absurd (show w6 = 0 from h) (by omega)⟩
    · refine zk_ret ⟨⟨m1, m2, by dsimp only; omega, ?_⟩, Or.inl e1, by dsimp only; omega, by dsimp only; omega, fun _ => ⟨e2, Or.inr rfl, hps, ?_, fun g _ => g⟩⟩
      · dsimp only
        rw [e3]
        obtain ⟨u1, u2, u3, u4, u5, u6⟩ := hv
        exact ⟨by omega, u2, by omega, by omega, u5, u6⟩
      · dsimp only
        rw [if_pos rfl, e3, e4, e5]
        intro s o0 r0 g
        rw [show (nC + 1).toNat = nC.toNat + 1 from by omega]
        exact PG_leaf g h2
  have k62 : ∀ y1 y2 s1 : Int, (-1 ≤ y1 ∧ y1 ≤ 8) → (y1 = -1 ∨ 1 ≤ y1) → (y2 = 0 ∨ y2 = 1) → (s1 = 0 ∨ (s1 = 1 ∧ so ≠ 0)) → zok (f_HM_readPart_62 tp tape words y1 y2 s1 fr to so wo fa bad nC nL pd opd op ar pl pa) (fun o => RS tp o.2.1 o.2.2.1 o.2.2.2.1 o.2.2.2.2.2.2.2.1 o.2.2.2.2.2.2.2.2.1 o.2.2.2.2.2.2.2.2.2.1 o.2.2.2.2.2.2.2.2.2.2.1 o.2.2.2.2.2.2.2.2.2.2.2.2.2.1 o.2.2.2.2.2.2.2.2.2.2.2.2.2.2 ∧ (o.2.2.2.2.2.2.1 = 0 ∨ o.2.2.2.2.2.2.1 = 1) ∧ (0 ≤ o.1 ∧ o.1 ≤ 4) ∧ fr ≤ o.2.1 ∧ (o.2.2.2.2.2.2.1 = 0 → fr < o.2.1 ∧ (o.1 = 1 ∨ o.1 = 3) ∧ PS o.2.2.2.2.2.2.2.2.2.2.2.2.2.1 o.2.2.2.2.2.2.2.2.2.1.toNat ∧ TG 0 (if o.1 = 3 then 1 else 0) nC pd op ar pl pa o.2.2.2.2.2.2.2.1 o.2.2.2.2.2.2.2.2.2.1 o.2.2.2.2.2.2.2.2.2.2.2.1 o.2.2.2.2.2.2.2.2.2.2.2.2.1 o.2.2.2.2.2.2.2.2.2.2.2.2.2.1 o.2.2.2.2.2.2.2.2.2.2.2.2.2.2 ∧ (NS pl pd.toNat → (o.1 = 0 ∨ o.1 = 3) → NS o.2.2.2.2.2.2.2.2.2.2.2.2.2.1 o.2.2.2.2.2.2.2.2.2.1.toNat))) := by
    intro y1 y2 s1 h1 h1' h2 h3
    have k72 : ∀ q : Int, (0 ≤ q ∧ q ≤ 8) → zok (f_HM_readPart_72 tp tape words y2 s1 q fr to so wo fa bad nC nL pd opd op ar pl pa) (fun o => RS tp o.2.1 o.2.2.1 o.2.2.2.1 o.2.2.2.2.2.2.2.1 o.2.2.2.2.2.2.2.2.1 o.2.2.2.2.2.2.2.2.2.1 o.2.2.2.2.2.2.2.2.2.2.1 o.2.2.2.2.2.2.2.2.2.2.2.2.2.1 o.2.2.2.2.2.2.2.2.2.2.2.2.2.2 ∧ (o.2.2.2.2.2.2.1 = 0 ∨ o.2.2.2.2.2.2.1 = 1) ∧ (0 ≤ o.1 ∧ o.1 ≤ 4) ∧ fr ≤ o.2.1 ∧ (o.2.2.2.2.2.2.1 = 0 → fr < o.2.1 ∧ (o.1 = 1 ∨ o.1 = 3) ∧ PS o.2.2.2.2.2.2.2.2.2.2.2.2.2.1 o.2.2.2.2.2.2.2.2.2.1.toNat ∧ TG 0 (if o.1 = 3 then 1 else 0) nC pd op ar pl pa o.2.2.2.2.2.2.2.1 o.2.2.2.2.2.2.2.2.2.1 o.2.2.2.2.2.2.2.2.2.2.2.1 o.2.2.2.2.2.2.2.2.2.2.2.2.1 o.2.2.2.2.2.2.2.2.2.2.2.2.2.1 o.2.2.2.2.2.2.2.2.2.2.2.2.2.2 ∧ (NS pl pd.toNat → (o.1 = 0 ∨ o.1 = 3) → NS o.2.2.2.2.2.2.2.2.2.2.2.2.2.1 o.2.2.2.2.2.2.2.2.2.1.toNat))) := by
      intro q hq
      unfold f_HM_readPart_72
      refine zk_ifc (zci_eqr (by omega)) (fun hc => ?_) (fun hc => ?_)
      · exact key _ _ _ h3 hq
      · exact key _ _ _ h3 hq
    unfold f_HM_readPart_62
    refine zk_ifc (zci_ne (by omega) (by omega)) (fun hc => ?_) (fun hc => ?_)
    · exact k72 _ (by omega)
    · exact k72 _ (by omega)
  have k46 : ∀ y1 s0 : Int, (-1 ≤ y1 ∧ y1 ≤ 8) → (y1 = -1 ∨ (1 ≤ y1 ∧ so ≠ 0)) → (s0 = 0 ∨ (s0 = 1 ∧ so ≠ 0)) → zok (f_HM_readPart_46 tp tape words y1 s0 fr to so wo fa bad nC nL pd opd op ar pl pa) (fun o => RS tp o.2.1 o.2.2.1 o.2.2.2.1 o.2.2.2.2.2.2.2.1 o.2.2.2.2.2.2.2.2.1 o.2.2.2.2.2.2.2.2.2.1 o.2.2.2.2.2.2.2.2.2.2.1 o.2.2.2.2.2.2.2.2.2.2.2.2.2.1 o.2.2.2.2.2.2.2.2.2.2.2.2.2.2 ∧ (o.2.2.2.2.2.2.1 = 0 ∨ o.2.2.2.2.2.2.1 = 1) ∧ (0 ≤ o.1 ∧ o.1 ≤ 4) ∧ fr ≤ o.2.1 ∧ (o.2.2.2.2.2.2.1 = 0 → fr < o.2.1 ∧ (o.1 = 1 ∨ o.1 = 3) ∧ PS o.2.2.2.2.2.2.2.2.2.2.2.2.2.1 o.2.2.2.2.2.2.2.2.2.1.toNat ∧ TG 0 (if o.1 = 3 then 1 else 0) nC pd op ar pl pa o.2.2.2.2.2.2.2.1 o.2.2.2.2.2.2.2.2.2.1 o.2.2.2.2.2.2.2.2.2.2.2.1 o.2.2.2.2.2.2.2.2.2.2.2.2.1 o.2.2.2.2.2.2.2.2.2.2.2.2.2.1 o.2.2.2.2.2.2.2.2.2.2.2.2.2.2 ∧ (NS pl pd.toNat → (o.1 = 0 ∨ o.1 = 3) → NS o.2.2.2.2.2.2.2.2.2.2.2.2.2.1 o.2.2.2.2.2.2.2.2.2.1.toNat))) := by
    intro y1 s0 h1 h2 h3
    unfold f_HM_readPart_46
    refine zk_ifc (zci_ne (by omega) (by omega)) (fun hc => ?_) (fun hc => ?_)
    · unfold f_HM_readPart_57
      exact k62 _ _ _ h1 (by omega) (by omega) (by omega)
    · refine zk_ifc (zci_eqr (by omega)) (fun hc_2 => ?_) (fun hc_2 => ?_)
      · exact k62 _ _ _ h1 (by omega) (by omega) (by omega)
      · unfold f_HM_readPart_57
        exact k62 _ _ _ h1 (by omega) (by omega) (by omega)
  unfold f_HM_readPart
  refine zk_d1 (s_HM_isSign _ _ _ (by omega) (by omega)) (fun v1 hp => ?_)
  try dsimp only at hp
  refine zk_ifc (zci_eqr (by omega)) (fun hc => ?_) (fun hc => ?_)
  · refine zk_d1 (s_HM_partAt _ _ _ (by omega)) (fun v2 hp_2 => ?_)
    try dsimp only at hp_2
    refine zk_ifc (zci_ne (by omega) (by omega)) (fun hc_2 => ?_) (fun hc_2 => ?_)
    · unfold f_HM_readPart_45
      exact k46 _ _ (by omega) (by omega) (by omega)
    · refine zk_if (fun hc_14 => ?_) (fun hc_14 => ?_)
      · unfold f_HM_readPart_45
        exact k46 _ _ (by omega) (by omega) (by omega)
      · exact k46 _ _ (by omega) (by omega) (by omega)
  · refine zk_d10 (z_open 31 tp tape fr to so wo fa bad pd opd pl pa ht hT hl (by omega) hb (by omega) (by omega)) (fun w1 w2 w3 w4 w5 w6 w7 w8 a9 a10 hq => ?_)
    dsimp only at hq
    obtain ⟨m1, m3⟩ := hq
    rcases m3 with ⟨e1, e2, e3, e4, e5, e6⟩ | ⟨e1, e2, e3, e4, e7, e5, e6⟩
    · refine zk_ret ⟨⟨m1, hL, by dsimp only; omega, by dsimp only; rw [e2, e3, e5, e6]; exact hv⟩, Or.inr e1, by dsimp only; omega, by dsimp only; omega, fun h => absurd (show w6 = 0 from h) (by omega)⟩
    · refine zk_ret ⟨⟨m1, hL, by dsimp only; omega, by dsimp only; rw [e3, e5, e6]; exact PV_push hv e2 (by omega) (Or.inl rfl) (by omega)⟩, Or.inl e1, by dsimp only; omega, by dsimp only; omega, fun _ => ⟨e2, Or.inl rfl, ?_, ?_, fun _ h => absurd (show (1 : Int) = 0 ∨ (1 : Int) = 3 from h) (by omega)⟩⟩
      · dsimp only
        rw [e3, e5, show (pd + 1).toNat = pd.toNat + 1 from by omega]
        exact PS_push hps (Or.inr (Or.inl rfl))
      · dsimp only
        rw [if_neg (by decide), e3, e5, e6]
        intro s o0 r0 g
        rw [show (pd + 1).toNat = pd.toNat + 1 from by omega]
        exact PG_push g (by omega)
theorem z_inner_4 (pd : Int) (pl : Nat → Int) (hp : 0 ≤ pd ∧ pd ≤ 400) (hv : ∀ i, i < pd.toNat → 20 ≤ pl i ∧ pl i ≤ 31) : ∀ (n : Nat) (x1 x2 : Int), (0 ≤ x2 ∧ x2 ≤ pd) → ((x1 = -1 ∧ ∀ j, j < x2.toNat → pl j < 30) ∨ (∃ i, i < x2.toNat ∧ pl i = x1 ∧ (30 ≤ x1 ∧ x1 ≤ 31) ∧ ∀ j, i < j → j < x2.toNat → pl j < 30)) → 401 - x2 < (n : Int) → zok (f_HM_inner_4 pd pl n x1 x2) (fun o => (o = -1 ∧ ∀ j, j < pd.toNat → pl j < 30) ∨ (∃ i, i < pd.toNat ∧ pl i = o ∧ (30 ≤ o ∧ o ≤ 31) ∧ ∀ j, i < j → j < pd.toNat → pl j < 30)) := by
  intro n
  induction n with
  | zero => intro x1 x2 h2 h1 hm; exfalso; clear h1; omega
  | succ n ih =>
    intro x1 x2 h2 h1 hm
    show zok (f_HM_inner_4_b pd pl (f_HM_inner_4 pd pl n) x1 x2) _
    have b1 : -1 ≤ x1 ∧ x1 ≤ 31 := by
      rcases h1 with ⟨h, _⟩ | ⟨_, _, _, h, _⟩
      · omega
      · omega
    unfold f_HM_inner_4_b
    refine zk_ifc (zci_le (by clear h1; omega) (by clear h1; omega)) (fun hc => ?_) (fun hc => ?_)
    · have e : x2 = pd := by clear h1; omega
      subst e
      exact zk_ret h1
    · have h5 := hv x2.toNat (by clear h1; omega)
      refine zk_gv (by clear h1; omega) (by decide) (fun v1 h_v1 => ?_)
      refine zk_ifc (zci_lt (by clear h1; omega) (by clear h1; omega)) (fun hc_2 => ?_) (fun hc_2 => ?_)
      · unfold f_HM_inner_33
        refine zk_n ?_
        refine ih _ _ (by clear h1; omega) ?_ (by clear h1; omega)
        rcases h1 with ⟨g1, g2⟩ | ⟨i, i1, i2, i3, i4⟩
        · refine Or.inl ⟨g1, fun j hj => ?_⟩
          by_cases q : j = x2.toNat
          · subst q; omega
          · exact g2 j (by omega)
        · refine Or.inr ⟨i, by omega, i2, i3, fun j j1 j2 => ?_⟩
          by_cases q : j = x2.toNat
          · subst q; omega
          · exact i4 j j1 (by omega)
      · refine zk_gv (by clear h1; omega) (by decide) (fun v2 h_v2 => ?_)
        unfold f_HM_inner_33
        refine zk_n ?_
        refine ih _ _ (by clear h1; omega) (Or.inr ⟨x2.toNat, by clear h1; omega, h_v2.symm, by clear h1; omega, fun j j1 j2 => absurd j1 (by clear h1; omega)⟩) (by clear h1; omega)
theorem z_inner (pd : Int) (pl : Nat → Int) (hp : 0 ≤ pd ∧ pd ≤ 400) (hv : ∀ i, i < pd.toNat → 20 ≤ pl i ∧ pl i ≤ 31) : zok (f_HM_inner pd pl) (fun o => (o = -1 ∧ ∀ j, j < pd.toNat → pl j < 30) ∨ (∃ i, i < pd.toNat ∧ pl i = o ∧ (30 ≤ o ∧ o ≤ 31) ∧ ∀ j, i < j → j < pd.toNat → pl j < 30)) := by
  unfold f_HM_inner
  exact z_inner_4 pd pl hp hv zfu _ _ (by omega) (Or.inl ⟨rfl, fun j hj => absurd hj (by omega)⟩) (by unfold zfu; omega)
theorem z_cmp_7 (pd : Int) (pl : Nat → Int) (hp : 0 ≤ pd ∧ pd ≤ 400) (hv : ∀ i, i < pd.toNat → 20 ≤ pl i ∧ pl i ≤ 31) : ∀ (n : Nat) (x1 : Int), (-1 ≤ x1 ∧ x1 < pd) → x1 + 2 ≤ (n : Int) → zok (f_HM_isCompared_7 pd pl n x1) (fun o => o = 0 ∨ o = 1) := by
  intro n
  induction n with
  | zero => intro x1 h1 hm; exfalso; omega
  | succ n ih =>
    intro x1 h1 hm
    show zok (f_HM_isCompared_7_b pd pl (f_HM_isCompared_7 pd pl n) x1) _
    have last : zok (f_HM_isCompared_36 pd pl x1) (fun o => o = 0 ∨ o = 1) := by
      unfold f_HM_isCompared_36
      refine zk_ifc (zci_ltr (by omega)) (fun hc_2 => ?_) (fun hc_2 => ?_)
      · exact zk_ret (Or.inl rfl)
      · have h5 := hv x1.toNat (by omega)
        refine zk_gv (by omega) (by decide) (fun v1 h_v1 => ?_)
        refine zk_nE (fun v2 h_v2 => ?_)
        rw [zwi (by omega)] at h_v2
        refine zk_d1 (s_HM_in _ _ _ (by omega) (by omega) (by omega)) (fun v3 hp => ?_)
        try dsimp only at hp
        refine zk_ifc (zci_eqr (by omega)) (fun hc_3 => ?_) (fun hc_3 => ?_)
        · exact zk_ret (Or.inl rfl)
        · exact zk_ret (Or.inr rfl)
    unfold f_HM_isCompared_7_b
    refine zk_ifc (zci_ltr (by omega)) (fun hc => ?_) (fun hc => ?_)
    · exact last
    · have h5 := hv x1.toNat (by omega)
      refine zk_gv (by omega) (by decide) (fun v1_2 h_v1_2 => ?_)
      refine zk_nE (fun v2_2 h_v2_2 => ?_)
      rw [zwi (by omega)] at h_v2_2
      refine zk_d1 (s_HM_in _ _ _ (by omega) (by omega) (by omega)) (fun v3_2 hp_2 => ?_)
      try dsimp only at hp_2
      refine zk_ifc (zci_eqr (by omega)) (fun hc_4 => ?_) (fun hc_4 => ?_)
      · exact last
      · refine zk_n ?_
        exact ih _ (by omega) (by omega)
theorem z_cmp (pd : Int) (pl : Nat → Int) (hp : 0 ≤ pd ∧ pd ≤ 400) (hv : ∀ i, i < pd.toNat → 20 ≤ pl i ∧ pl i ≤ 31) : zok (f_HM_isCompared pd pl) (fun o => o = 0 ∨ o = 1) := by
  unfold f_HM_isCompared
  refine zk_n ?_
  exact z_cmp_7 pd pl hp hv zfu _ (by omega) (by unfold zfu; omega)
theorem z_plain (tp : Int) (tape words : Nat → Int) (fr to so wo fa bad nC nL pd opd : Int) (op ar pl pa : Nat → Int) (ht : 0 ≤ tp ∧ tp ≤ 400) (hT : zR tape 0 255) (hb : bad = 0) (hr : RS tp fr to so nC nL pd opd pl pa) (hps : PS pl pd.toNat) (hns : NS pl pd.toNat) : zok (f_HM_readPlain tp tape words fr to so wo fa bad nC nL pd opd op ar pl pa) (fun o => RS tp o.2.1 o.2.2.1 o.2.2.2.1 o.2.2.2.2.2.2.2.1 o.2.2.2.2.2.2.2.2.1 o.2.2.2.2.2.2.2.2.2.1 o.2.2.2.2.2.2.2.2.2.2.1 o.2.2.2.2.2.2.2.2.2.2.2.2.2.1 o.2.2.2.2.2.2.2.2.2.2.2.2.2.2 ∧ (o.2.2.2.2.2.2.1 = 0 ∨ o.2.2.2.2.2.2.1 = 1) ∧ (0 ≤ o.1 ∧ o.1 ≤ 4) ∧ fr ≤ o.2.1 ∧ (o.2.2.2.2.2.2.1 = 0 → fr < o.2.1 ∧ (o.1 = 0 ∨ o.1 = 1 ∨ o.1 = 3) ∧ PS o.2.2.2.2.2.2.2.2.2.2.2.2.2.1 o.2.2.2.2.2.2.2.2.2.1.toNat ∧ TG 0 (if o.1 = 3 then 1 else 0) nC pd op ar pl pa o.2.2.2.2.2.2.2.1 o.2.2.2.2.2.2.2.2.2.1 o.2.2.2.2.2.2.2.2.2.2.2.1 o.2.2.2.2.2.2.2.2.2.2.2.2.1 o.2.2.2.2.2.2.2.2.2.2.2.2.2.1 o.2.2.2.2.2.2.2.2.2.2.2.2.2.2 ∧ (NS pl pd.toNat → (o.1 = 0 ∨ o.1 = 3) → NS o.2.2.2.2.2.2.2.2.2.2.2.2.2.1 o.2.2.2.2.2.2.2.2.2.1.toNat))) := by
  have hr0 := hr
  obtain ⟨hl, hL, ho, hv⟩ := hr
  have l0 := hl
  obtain ⟨l1, l2, l3, l4, l5, l6⟩ := l0
  have v1' := hv.1
  have v2' := hv.2.1
  have v3' := hv.2.2.1
  unfold f_HM_readPlain
  refine zk_d1 (s_HM_isWord _ _ _ (by omega)) (fun v1 hp => ?_)
  try dsimp only at hp
  refine zk_ifc (zci_eqr (by omega)) (fun hc => ?_) (fun hc => ?_)
  · refine zk_d1 (s_HM_isSign _ _ _ (by omega) (by omega)) (fun v2 hp_2 => ?_)
    try dsimp only at hp_2
    refine zk_ifc (zci_eqr (by omega)) (fun hc_2 => ?_) (fun hc_2 => ?_)
    · refine zk_d15 (z_part tp tape words fr to so wo fa bad nC nL pd opd op ar pl pa ht hT hb hr0 hps) (fun w1 w2 w3 w4 w5 w6 w7 w8 w9 w10 w11 a12 a13 a14 a15 hq => ?_)
      dsimp only at hq
      obtain ⟨q1, q2, q3, q4, q5⟩ := hq
      exact zk_ret ⟨q1, q2, q3, q4, fun h => ⟨(q5 h).1, Or.inr (q5 h).2.1, (q5 h).2.2⟩⟩
    · refine zk_d10 (z_open 30 tp tape fr to so wo fa bad pd opd pl pa ht hT hl (by omega) hb (by omega) (by omega)) (fun w1 w2 w3 w4 w5 w6 w7 w8 a9 a10 hq => ?_)
      dsimp only at hq
      obtain ⟨m1, m3⟩ := hq
      rcases m3 with ⟨e1, e2, e3, e4, e5, e6⟩ | ⟨e1, e2, e3, e4, e7, e5, e6⟩
      · refine zk_ret ⟨⟨m1, hL, by dsimp only; omega, by dsimp only; rw [e2, e3, e5, e6]; exact hv⟩, Or.inr e1, by dsimp only; omega, by dsimp only; omega, fun h => absurd (show w6 = 0 from h) (by omega)⟩
      · refine zk_ret ⟨⟨m1, hL, by dsimp only; omega, by dsimp only; rw [e3, e5, e6]; exact PV_push hv e2 (by omega) (Or.inl rfl) (by omega)⟩, Or.inl e1, by dsimp only; omega, by dsimp only; omega, fun _ => ⟨e2, Or.inl rfl, ?_, ?_, fun _ _ => ?_⟩⟩
        · dsimp only
          rw [e3, e5, show (pd + 1).toNat = pd.toNat + 1 from by omega]
          exact PS_push hps (Or.inr (Or.inr hns))
        · dsimp only
          rw [if_neg (by decide), e3, e5, e6]
          intro s o0 r0 g
          rw [show (pd + 1).toNat = pd.toNat + 1 from by omega]
          exact PG_push g (by omega)
        · dsimp only
          rw [e3, e5, show (pd + 1).toNat = pd.toNat + 1 from by omega]
          exact NS_push hns (by decide)
  · refine zk_d3 (s_HM_push _ _ _ _ _ (by omega)) (fun v8 a9 a10 hq => ?_)
    dsimp only at hq
    obtain ⟨q1, q2, q3⟩ := hq
    refine zk_d4 (z_next tp tape fr to so wo ht hT hl) (fun w1 w2 w3 w4 hn => ?_)
    dsimp only at hn
    obtain ⟨n1, n2⟩ := hn
    have hf : fr < w1 := by omega
    refine zk_ret ⟨⟨n1, hL, by dsimp only; omega, by dsimp only; rw [q1, q2, q3]; exact PV_push hv hf (by omega) (Or.inl rfl) (by omega)⟩, Or.inl hb, by dsimp only; omega, by dsimp only; omega, fun _ => ⟨hf, Or.inl rfl, ?_, ?_, fun _ _ => ?_⟩⟩
    · dsimp only
      rw [q1, q2, show (pd + 1).toNat = pd.toNat + 1 from by omega]
      exact PS_push hps (Or.inr (Or.inr hns))
    · dsimp only
      rw [if_neg (by decide), q1, q2, q3]
      intro s o0 r0 g
      rw [show (pd + 1).toNat = pd.toNat + 1 from by omega]
      exact PG_push g (by omega)
    · dsimp only
      rw [q1, q2, show (pd + 1).toNat = pd.toNat + 1 from by omega]
      exact NS_push hns (by decide)
theorem z_close (tp : Int) (tape : Nat → Int) (fr to so wo fa bad nC nL pd opd : Int) (op ar pl pa : Nat → Int) (x1 : Int) (hx : x1 = 1 ∨ x1 = 5) (hr : RS tp fr to so nC nL pd opd pl pa) (ht : 0 ≤ tp ∧ tp ≤ 400) (i : Nat) (hi : i < pd.toNat) (hi2 : 30 ≤ pl i) (ha : x1 = 5 → ∀ j, i < j → j < pd.toNat → 20 ≤ pl j ∧ pl j ≤ 23) (fr' to' so' : Int) (hl' : LX tp fr' to' so') (hf : fr < fr') : zok (f_HM_settle x1 pl pa nC pd op ar) (fun q => RS tp fr' to' so' q.1 nL (q.2.1 - 1) (opd - 1) pl pa ∧ (q.2.1 - 1).toNat ≤ pd.toNat ∧ TG 1 1 nC pd op ar pl pa q.1 (q.2.1 - 1) q.2.2.1 q.2.2.2 pl pa) := by
  have hr0 := hr
  obtain ⟨hl, hL, ho, hv⟩ := hr
  have l0 := hl
  obtain ⟨l1, l2, l3, l4, l5, l6⟩ := l0
  have v1' := hv.1
  have v2' := hv.2.1
  have v3' := hv.2.2.1
  have v4' := hv.2.2.2.1
  have v5' := hv.2.2.2.2.1
  refine zok_mono (s_HM_settle x1 pl pa nC pd op ar fr (by omega) (by omega) hv) (fun q hq => ?_)
  obtain ⟨q1, q2, q3, q4, q5⟩ := hq
  have g1 := q1.2.1
  have g0 : i < q.2.1.toNat := by
    apply Classical.byContradiction
    intro h
    have := q4 i (by omega) hi
    omega
  have e : q.2.1.toNat = (q.2.1 - 1).toNat + 1 := by omega
  have top : 30 ≤ pl (q.2.1 - 1).toNat := by
    rcases q3 with h | ⟨t1, t2⟩
    · exfalso; omega
    · rcases hx with h | h
      · exact t2 h
      · by_cases k : i = (q.2.1 - 1).toNat
        · rw [← k]; exact hi2
        · exfalso
          have a := ha h (q.2.1 - 1).toNat (by omega) (by omega)
          exact t1 (by omega) a
  refine ⟨⟨hl', hL, by omega, PV_fr (PV_pop q1 (by omega)) (by omega)⟩, by omega, ?_⟩
  intro s o0 r0 g
  have g2 := q5 s o0 r0 g
  rw [e] at g2
  exact PG_pop g2 top
theorem z_bsum (x1 : Int) (tp : Int) (tape : Nat → Int) (fr to so wo fa bad nC nL pd opd : Int) (op ar pl pa : Nat → Int) (ht : 0 ≤ tp ∧ tp ≤ 400) (hT : zR tape 0 255) (hb : bad = 0) (hr : RS tp fr to so nC nL pd opd pl pa) (hps : PS pl pd.toNat) (hx : x1 = 0 ∨ x1 = 1) : zok (f_HM_behindSum x1 tp tape fr to so wo fa bad nC pd opd op ar pl pa) (fun o => RS tp o.2.1 o.2.2.1 o.2.2.2.1 o.2.2.2.2.2.2.2.1 nL o.2.2.2.2.2.2.2.2.1 o.2.2.2.2.2.2.2.2.2.1 o.2.2.2.2.2.2.2.2.2.2.2.2.1 o.2.2.2.2.2.2.2.2.2.2.2.2.2 ∧ (o.2.2.2.2.2.2.1 = 0 ∨ o.2.2.2.2.2.2.1 = 1) ∧ (0 ≤ o.1 ∧ o.1 ≤ 4) ∧ fr ≤ o.2.1 ∧ (o.2.2.2.2.2.2.1 = 0 → PS o.2.2.2.2.2.2.2.2.2.2.2.2.1 o.2.2.2.2.2.2.2.2.1.toNat ∧ ((o.1 = 1 ∧ fr < o.2.1 ∧ TG 1 0 nC pd op ar pl pa o.2.2.2.2.2.2.2.1 o.2.2.2.2.2.2.2.2.1 o.2.2.2.2.2.2.2.2.2.2.1 o.2.2.2.2.2.2.2.2.2.2.2.1 o.2.2.2.2.2.2.2.2.2.2.2.2.1 o.2.2.2.2.2.2.2.2.2.2.2.2.2) ∨ (o.1 = 3 ∧ fr < o.2.1 ∧ TG 1 1 nC pd op ar pl pa o.2.2.2.2.2.2.2.1 o.2.2.2.2.2.2.2.2.1 o.2.2.2.2.2.2.2.2.2.2.1 o.2.2.2.2.2.2.2.2.2.2.2.1 o.2.2.2.2.2.2.2.2.2.2.2.2.1 o.2.2.2.2.2.2.2.2.2.2.2.2.2) ∨ (o.1 = 4 ∧ TG 1 1 nC pd op ar pl pa o.2.2.2.2.2.2.2.1 o.2.2.2.2.2.2.2.2.1 o.2.2.2.2.2.2.2.2.2.2.1 o.2.2.2.2.2.2.2.2.2.2.2.1 o.2.2.2.2.2.2.2.2.2.2.2.2.1 o.2.2.2.2.2.2.2.2.2.2.2.2.2 ∧ ∀ i, i < o.2.2.2.2.2.2.2.2.1.toNat → o.2.2.2.2.2.2.2.2.2.2.2.2.1 i < 30) ∨ (o.1 = 2 ∧ TG 1 1 nC pd op ar pl pa o.2.2.2.2.2.2.2.1 o.2.2.2.2.2.2.2.2.1 o.2.2.2.2.2.2.2.2.2.2.1 o.2.2.2.2.2.2.2.2.2.2.2.1 o.2.2.2.2.2.2.2.2.2.2.2.2.1 o.2.2.2.2.2.2.2.2.2.2.2.2.2 ∧ NS o.2.2.2.2.2.2.2.2.2.2.2.2.1 o.2.2.2.2.2.2.2.2.1.toNat)))) := by
  have hr0 := hr
  obtain ⟨hl, hL, ho, hv⟩ := hr
  have l0 := hl
  obtain ⟨l1, l2, l3, l4, l5, l6⟩ := l0
  have v1' := hv.1
  have v2' := hv.2.1
  have v3' := hv.2.2.1
  have v4' := hv.2.2.2.1
  have v5' := hv.2.2.2.2.1
  have k210 : ∀ y2 s1 : Int, (24 ≤ y2 ∧ y2 ≤ 26) → (s1 = 0 ∨ (s1 = 1 ∧ so ≠ 0)) → NS pl pd.toNat → zok (f_HM_behindSum_210 tp tape y2 s1 fr to so wo fa bad nC pd opd op ar pl pa) (fun o => RS tp o.2.1 o.2.2.1 o.2.2.2.1 o.2.2.2.2.2.2.2.1 nL o.2.2.2.2.2.2.2.2.1 o.2.2.2.2.2.2.2.2.2.1 o.2.2.2.2.2.2.2.2.2.2.2.2.1 o.2.2.2.2.2.2.2.2.2.2.2.2.2 ∧ (o.2.2.2.2.2.2.1 = 0 ∨ o.2.2.2.2.2.2.1 = 1) ∧ (0 ≤ o.1 ∧ o.1 ≤ 4) ∧ fr ≤ o.2.1 ∧ (o.2.2.2.2.2.2.1 = 0 → PS o.2.2.2.2.2.2.2.2.2.2.2.2.1 o.2.2.2.2.2.2.2.2.1.toNat ∧ ((o.1 = 1 ∧ fr < o.2.1 ∧ TG 1 0 nC pd op ar pl pa o.2.2.2.2.2.2.2.1 o.2.2.2.2.2.2.2.2.1 o.2.2.2.2.2.2.2.2.2.2.1 o.2.2.2.2.2.2.2.2.2.2.2.1 o.2.2.2.2.2.2.2.2.2.2.2.2.1 o.2.2.2.2.2.2.2.2.2.2.2.2.2) ∨ (o.1 = 3 ∧ fr < o.2.1 ∧ TG 1 1 nC pd op ar pl pa o.2.2.2.2.2.2.2.1 o.2.2.2.2.2.2.2.2.1 o.2.2.2.2.2.2.2.2.2.2.1 o.2.2.2.2.2.2.2.2.2.2.2.1 o.2.2.2.2.2.2.2.2.2.2.2.2.1 o.2.2.2.2.2.2.2.2.2.2.2.2.2) ∨ (o.1 = 4 ∧ TG 1 1 nC pd op ar pl pa o.2.2.2.2.2.2.2.1 o.2.2.2.2.2.2.2.2.1 o.2.2.2.2.2.2.2.2.2.2.1 o.2.2.2.2.2.2.2.2.2.2.2.1 o.2.2.2.2.2.2.2.2.2.2.2.2.1 o.2.2.2.2.2.2.2.2.2.2.2.2.2 ∧ ∀ i, i < o.2.2.2.2.2.2.2.2.1.toNat → o.2.2.2.2.2.2.2.2.2.2.2.2.1 i < 30) ∨ (o.1 = 2 ∧ TG 1 1 nC pd op ar pl pa o.2.2.2.2.2.2.2.1 o.2.2.2.2.2.2.2.2.1 o.2.2.2.2.2.2.2.2.2.2.1 o.2.2.2.2.2.2.2.2.2.2.2.1 o.2.2.2.2.2.2.2.2.2.2.2.2.1 o.2.2.2.2.2.2.2.2.2.2.2.2.2 ∧ NS o.2.2.2.2.2.2.2.2.2.2.2.2.1 o.2.2.2.2.2.2.2.2.1.toNat)))) := by
    intro y2 s1 h1 h2 hns
    unfold f_HM_behindSum_210
    refine zk_d6 (z_must s1 tp tape fr to so wo fa bad (by omega) ht hT hl hb) (fun v1 v2 v3 v4 v5 v6 hp6 => ?_)
    dsimp only at hp6
    obtain ⟨m1, m2⟩ := hp6
    refine zk_ifc (zci_ner (by omega)) (fun hc => ?_) (fun hc => ?_)
    · have e : v1 = fr := by omega
      have e6 : v6 = 1 := by omega
      refine zk_ret ⟨⟨m1, hL, by dsimp only; omega, by dsimp only; rw [e]; exact hv⟩, Or.inr e6, by dsimp only; omega, by dsimp only; omega, fun h => absurd (show v6 = 0 from h) (by omega)⟩
    · have hf : fr < v1 := by omega
      refine zk_d4 (s_HM_settle 5 pl pa nC pd op ar fr (by omega) (by omega) hv) (fun w1 w2 a3 a4 hq => ?_)
      dsimp only at hq
      obtain ⟨q1, q2, q3, q4, q5⟩ := hq
      have g1 := q1.2.1
      have g2 := q1.2.2.1
      refine zk_d3 (s_HM_push _ _ _ _ _ (by omega)) (fun v8 a9 a10 hq => ?_)
      dsimp only at hq
      obtain ⟨r1, r2, r3⟩ := hq
      refine zk_ret ⟨⟨m1, hL, by dsimp only; omega, by dsimp only; rw [r1, r2, r3]; exact PV_push q1 hf (by omega) (Or.inl rfl) (by omega)⟩, Or.inl (by dsimp only; omega), by dsimp only; omega, by dsimp only; omega, fun _ => ⟨?_, Or.inl ⟨rfl, hf, ?_⟩⟩⟩
      · dsimp only
        rw [r1, r2, show (w2 + 1).toNat = w2.toNat + 1 from by omega]
        exact PS_push (PS_sub hps (by omega)) (Or.inr (Or.inr (NS_sub hns (by omega))))
      · dsimp only
        rw [r1, r2, r3]
        intro s o0 r0 g
        rw [show (w2 + 1).toNat = w2.toNat + 1 from by omega]
        exact PG_push (q5 s o0 r0 g) (by omega)
  have k188 : ∀ s0 : Int, (24 ≤ s0 ∧ s0 ≤ 26) → (s0 = 26 ∨ so ≠ 0) → NS pl pd.toNat → zok (f_HM_behindSum_188 tp tape s0 fr to so wo fa bad nC pd opd op ar pl pa) (fun o => RS tp o.2.1 o.2.2.1 o.2.2.2.1 o.2.2.2.2.2.2.2.1 nL o.2.2.2.2.2.2.2.2.1 o.2.2.2.2.2.2.2.2.2.1 o.2.2.2.2.2.2.2.2.2.2.2.2.1 o.2.2.2.2.2.2.2.2.2.2.2.2.2 ∧ (o.2.2.2.2.2.2.1 = 0 ∨ o.2.2.2.2.2.2.1 = 1) ∧ (0 ≤ o.1 ∧ o.1 ≤ 4) ∧ fr ≤ o.2.1 ∧ (o.2.2.2.2.2.2.1 = 0 → PS o.2.2.2.2.2.2.2.2.2.2.2.2.1 o.2.2.2.2.2.2.2.2.1.toNat ∧ ((o.1 = 1 ∧ fr < o.2.1 ∧ TG 1 0 nC pd op ar pl pa o.2.2.2.2.2.2.2.1 o.2.2.2.2.2.2.2.2.1 o.2.2.2.2.2.2.2.2.2.2.1 o.2.2.2.2.2.2.2.2.2.2.2.1 o.2.2.2.2.2.2.2.2.2.2.2.2.1 o.2.2.2.2.2.2.2.2.2.2.2.2.2) ∨ (o.1 = 3 ∧ fr < o.2.1 ∧ TG 1 1 nC pd op ar pl pa o.2.2.2.2.2.2.2.1 o.2.2.2.2.2.2.2.2.1 o.2.2.2.2.2.2.2.2.2.2.1 o.2.2.2.2.2.2.2.2.2.2.2.1 o.2.2.2.2.2.2.2.2.2.2.2.2.1 o.2.2.2.2.2.2.2.2.2.2.2.2.2) ∨ (o.1 = 4 ∧ TG 1 1 nC pd op ar pl pa o.2.2.2.2.2.2.2.1 o.2.2.2.2.2.2.2.2.1 o.2.2.2.2.2.2.2.2.2.2.1 o.2.2.2.2.2.2.2.2.2.2.2.1 o.2.2.2.2.2.2.2.2.2.2.2.2.1 o.2.2.2.2.2.2.2.2.2.2.2.2.2 ∧ ∀ i, i < o.2.2.2.2.2.2.2.2.1.toNat → o.2.2.2.2.2.2.2.2.2.2.2.2.1 i < 30) ∨ (o.1 = 2 ∧ TG 1 1 nC pd op ar pl pa o.2.2.2.2.2.2.2.1 o.2.2.2.2.2.2.2.2.1 o.2.2.2.2.2.2.2.2.2.2.1 o.2.2.2.2.2.2.2.2.2.2.2.1 o.2.2.2.2.2.2.2.2.2.2.2.2.1 o.2.2.2.2.2.2.2.2.2.2.2.2.2 ∧ NS o.2.2.2.2.2.2.2.2.2.2.2.2.1 o.2.2.2.2.2.2.2.2.1.toNat)))) := by
    intro s0 h1 h2 hns
    unfold f_HM_behindSum_188
    refine zk_ifc (zci_ne (by omega) (by omega)) (fun hc => ?_) (fun hc => ?_)
    · unfold f_HM_behindSum_205
      exact k210 _ _ h1 (by omega) hns
    · refine zk_d1 (s_HM_isSign _ _ _ (by omega) (by omega)) (fun v1 hp => ?_)
      try dsimp only at hp
      refine zk_ifc (zci_eqr (by omega)) (fun hc_2 => ?_) (fun hc_2 => ?_)
      · exact k210 _ _ h1 (by omega) hns
      · unfold f_HM_behindSum_205
        exact k210 _ _ h1 (by omega) hns
  have k149 : NS pl pd.toNat → zok (f_HM_behindSum_149 tp tape fr to so wo fa bad nC pd opd op ar pl pa) (fun o => RS tp o.2.1 o.2.2.1 o.2.2.2.1 o.2.2.2.2.2.2.2.1 nL o.2.2.2.2.2.2.2.2.1 o.2.2.2.2.2.2.2.2.2.1 o.2.2.2.2.2.2.2.2.2.2.2.2.1 o.2.2.2.2.2.2.2.2.2.2.2.2.2 ∧ (o.2.2.2.2.2.2.1 = 0 ∨ o.2.2.2.2.2.2.1 = 1) ∧ (0 ≤ o.1 ∧ o.1 ≤ 4) ∧ fr ≤ o.2.1 ∧ (o.2.2.2.2.2.2.1 = 0 → PS o.2.2.2.2.2.2.2.2.2.2.2.2.1 o.2.2.2.2.2.2.2.2.1.toNat ∧ ((o.1 = 1 ∧ fr < o.2.1 ∧ TG 1 0 nC pd op ar pl pa o.2.2.2.2.2.2.2.1 o.2.2.2.2.2.2.2.2.1 o.2.2.2.2.2.2.2.2.2.2.1 o.2.2.2.2.2.2.2.2.2.2.2.1 o.2.2.2.2.2.2.2.2.2.2.2.2.1 o.2.2.2.2.2.2.2.2.2.2.2.2.2) ∨ (o.1 = 3 ∧ fr < o.2.1 ∧ TG 1 1 nC pd op ar pl pa o.2.2.2.2.2.2.2.1 o.2.2.2.2.2.2.2.2.1 o.2.2.2.2.2.2.2.2.2.2.1 o.2.2.2.2.2.2.2.2.2.2.2.1 o.2.2.2.2.2.2.2.2.2.2.2.2.1 o.2.2.2.2.2.2.2.2.2.2.2.2.2) ∨ (o.1 = 4 ∧ TG 1 1 nC pd op ar pl pa o.2.2.2.2.2.2.2.1 o.2.2.2.2.2.2.2.2.1 o.2.2.2.2.2.2.2.2.2.2.1 o.2.2.2.2.2.2.2.2.2.2.2.1 o.2.2.2.2.2.2.2.2.2.2.2.2.1 o.2.2.2.2.2.2.2.2.2.2.2.2.2 ∧ ∀ i, i < o.2.2.2.2.2.2.2.2.1.toNat → o.2.2.2.2.2.2.2.2.2.2.2.2.1 i < 30) ∨ (o.1 = 2 ∧ TG 1 1 nC pd op ar pl pa o.2.2.2.2.2.2.2.1 o.2.2.2.2.2.2.2.2.1 o.2.2.2.2.2.2.2.2.2.2.1 o.2.2.2.2.2.2.2.2.2.2.2.1 o.2.2.2.2.2.2.2.2.2.2.2.2.1 o.2.2.2.2.2.2.2.2.2.2.2.2.2 ∧ NS o.2.2.2.2.2.2.2.2.2.2.2.2.1 o.2.2.2.2.2.2.2.2.1.toNat)))) := by
    intro hns
    unfold f_HM_behindSum_149
    refine zk_d1 (z_cmp pd pl (by omega) v5') (fun v1 hp => ?_)
    try dsimp only at hp
    refine zk_ifc (zci_eqr (by omega)) (fun hc_2 => ?_) (fun hc_2 => ?_)
    · refine zk_d1 (s_HM_isSign _ _ _ (by omega) (by omega)) (fun v2 hp2 => ?_)
      try dsimp only at hp2
      refine zk_ifc (zci_eqr (by omega)) (fun hc_3 => ?_) (fun hc_3 => ?_)
      · refine zk_d1 (s_HM_isSign _ _ _ (by omega) (by omega)) (fun v3 hp3 => ?_)
        try dsimp only at hp3
        refine zk_ifc (zci_eqr (by omega)) (fun hc_4 => ?_) (fun hc_4 => ?_)
        · exact k188 _ (by omega) (by omega) hns
        · exact k188 _ (by omega) (by omega) hns
      · exact k188 _ (by omega) (by omega) hns
    · exact zk_ret ⟨hr0, Or.inl hb, by dsimp only; omega, Int.le_refl _, fun _ => ⟨hps, Or.inr (Or.inr (Or.inr ⟨rfl, TG_r, hns⟩))⟩⟩
  have k57 : ∀ s0 : Int, (s0 = -1 ∨ (20 ≤ s0 ∧ s0 ≤ 23 ∧ so ≠ 0)) → zok (f_HM_behindSum_57 tp tape x1 s0 fr to so wo fa bad nC pd opd op ar pl pa) (fun o => RS tp o.2.1 o.2.2.1 o.2.2.2.1 o.2.2.2.2.2.2.2.1 nL o.2.2.2.2.2.2.2.2.1 o.2.2.2.2.2.2.2.2.2.1 o.2.2.2.2.2.2.2.2.2.2.2.2.1 o.2.2.2.2.2.2.2.2.2.2.2.2.2 ∧ (o.2.2.2.2.2.2.1 = 0 ∨ o.2.2.2.2.2.2.1 = 1) ∧ (0 ≤ o.1 ∧ o.1 ≤ 4) ∧ fr ≤ o.2.1 ∧ (o.2.2.2.2.2.2.1 = 0 → PS o.2.2.2.2.2.2.2.2.2.2.2.2.1 o.2.2.2.2.2.2.2.2.1.toNat ∧ ((o.1 = 1 ∧ fr < o.2.1 ∧ TG 1 0 nC pd op ar pl pa o.2.2.2.2.2.2.2.1 o.2.2.2.2.2.2.2.2.1 o.2.2.2.2.2.2.2.2.2.2.1 o.2.2.2.2.2.2.2.2.2.2.2.1 o.2.2.2.2.2.2.2.2.2.2.2.2.1 o.2.2.2.2.2.2.2.2.2.2.2.2.2) ∨ (o.1 = 3 ∧ fr < o.2.1 ∧ TG 1 1 nC pd op ar pl pa o.2.2.2.2.2.2.2.1 o.2.2.2.2.2.2.2.2.1 o.2.2.2.2.2.2.2.2.2.2.1 o.2.2.2.2.2.2.2.2.2.2.2.1 o.2.2.2.2.2.2.2.2.2.2.2.2.1 o.2.2.2.2.2.2.2.2.2.2.2.2.2) ∨ (o.1 = 4 ∧ TG 1 1 nC pd op ar pl pa o.2.2.2.2.2.2.2.1 o.2.2.2.2.2.2.2.2.1 o.2.2.2.2.2.2.2.2.2.2.1 o.2.2.2.2.2.2.2.2.2.2.2.1 o.2.2.2.2.2.2.2.2.2.2.2.2.1 o.2.2.2.2.2.2.2.2.2.2.2.2.2 ∧ ∀ i, i < o.2.2.2.2.2.2.2.2.1.toNat → o.2.2.2.2.2.2.2.2.2.2.2.2.1 i < 30) ∨ (o.1 = 2 ∧ TG 1 1 nC pd op ar pl pa o.2.2.2.2.2.2.2.1 o.2.2.2.2.2.2.2.2.1 o.2.2.2.2.2.2.2.2.2.2.1 o.2.2.2.2.2.2.2.2.2.2.2.1 o.2.2.2.2.2.2.2.2.2.2.2.2.1 o.2.2.2.2.2.2.2.2.2.2.2.2.2 ∧ NS o.2.2.2.2.2.2.2.2.2.2.2.2.1 o.2.2.2.2.2.2.2.2.1.toNat)))) := by
    intro s0 h0
    unfold f_HM_behindSum_57
    refine zk_ifc (zci_eq (by omega) (by omega)) (fun hc => ?_) (fun hc => ?_)
    · refine zk_d1 (z_inner pd pl (by omega) v5') (fun v1 hp => ?_)
      have b1 : -1 ≤ v1 ∧ v1 ≤ 31 := by
        rcases hp with ⟨h, _⟩ | ⟨_, _, _, h, _⟩
        · omega
        · omega
      have hns : v1 ≠ 31 → NS pl pd.toNat := by
        intro hne k hk he
        rcases hp with ⟨_, h⟩ | ⟨i, i1, i2, i3, i4⟩
        · have := h k hk; omega
        · by_cases ki : k = i
          · subst ki; omega
          · by_cases kl : i < k
            · have := i4 k kl hk; omega
            · have := hps k i (by omega) i1 he; omega
      refine zk_ifc (zci_ne (by clear hp; omega) (by clear hp; omega)) (fun hc_2 => ?_) (fun hc_2 => ?_)
      · refine zk_ifc (zci_ne (by clear hp; omega) (by clear hp; omega)) (fun hc_3 => ?_) (fun hc_3 => ?_)
        · exact k149 (hns hc_2)
        · refine zk_ifc (zci_ner (by clear hp; omega)) (fun hc_4 => ?_) (fun hc_4 => ?_)
          · exact k149 (hns hc_2)
          · refine zk_ret ⟨hr0, Or.inl hb, by clear hp; dsimp only; omega, Int.le_refl _, fun _ => ⟨hps, Or.inr (Or.inr (Or.inl ⟨rfl, TG_r, ?_⟩))⟩⟩
            rcases hp with ⟨_, h⟩ | ⟨i, i1, i2, i3, i4⟩
            · exact h
            · exfalso; omega
      · have e31 : v1 = 31 := by clear hp; omega
        have w : ∃ i, i < pd.toNat ∧ 30 ≤ pl i ∧ ∀ j, i < j → j < pd.toNat → 20 ≤ pl j ∧ pl j ≤ 23 := by
          rcases hp with ⟨h, _⟩ | ⟨i, i1, i2, i3, i4⟩
          · exfalso; omega
          · refine ⟨i, i1, by omega, fun j j1 j2 => ?_⟩
            have a := hps i j j1 j2 (by omega)
            have b := i4 j j1 j2
            omega
        clear hp
        obtain ⟨i, i1, i2, i3⟩ := w
        refine zk_d1 (s_HM_isSign _ _ _ (by omega) (by omega)) (fun v2 hp2 => ?_)
        try dsimp only at hp2
        refine zk_d6 (z_must v2 tp tape fr to so wo fa bad (by omega) ht hT hl hb) (fun v1 v2 v3 v4 v5 v6 hp6 => ?_)
        dsimp only at hp6
        obtain ⟨m1, m2⟩ := hp6
        refine zk_ifc (zci_ner (by omega)) (fun hc => ?_) (fun hc => ?_)
        · have e : v1 = fr := by omega
          have e6 : v6 = 1 := by omega
          refine zk_ret ⟨⟨m1, hL, by dsimp only; omega, by dsimp only; rw [e]; exact hv⟩, Or.inr e6, by dsimp only; omega, by dsimp only; omega, fun h => absurd (show v6 = 0 from h) (by omega)⟩
        · have hf : fr < v1 := by omega
          refine zk_d4 (z_close tp tape fr to so wo fa bad nC nL pd opd op ar pl pa 5 (Or.inr rfl) hr0 ht i i1 i2 (fun _ => i3) v1 v2 v3 m1 hf) (fun w1 w2 a3 a4 hq => ?_)
          dsimp only at hq
          obtain ⟨q1, q2, q3⟩ := hq
          refine zk_n ?_
          refine zk_n ?_
          exact zk_ret ⟨q1, Or.inl (by dsimp only; omega), by dsimp only; omega, by dsimp only; omega, fun _ => ⟨PS_sub hps q2, Or.inr (Or.inl ⟨rfl, hf, q3⟩)⟩⟩
    · refine zk_d1 (s_HM_binds _ (by omega)) (fun v15 hb15 => ?_)
      try dsimp only at hb15
      refine zk_d4 (s_HM_settle v15 pl pa nC pd op ar fr (by omega) (by omega) hv) (fun w1 w2 a3 a4 hq => ?_)
      dsimp only at hq
      obtain ⟨q1, q2, q3, q4, q5⟩ := hq
      have g1 := q1.2.1
      have g2 := q1.2.2.1
      refine zk_d3 (s_HM_push _ _ _ _ _ (by omega)) (fun v8 a9 a10 hq => ?_)
      dsimp only at hq
      obtain ⟨r1, r2, r3⟩ := hq
      refine zk_d4 (z_next tp tape fr to so wo ht hT hl) (fun u1 u2 u3 u4 hn => ?_)
      dsimp only at hn
      obtain ⟨n1, n2⟩ := hn
      have hf : fr < u1 := by omega
      refine zk_ret ⟨⟨n1, hL, by dsimp only; omega, by dsimp only; rw [r1, r2, r3]; exact PV_push q1 hf (by omega) (Or.inl rfl) (by omega)⟩, Or.inl hb, by dsimp only; omega, by dsimp only; omega, fun _ => ⟨?_, Or.inl ⟨rfl, hf, ?_⟩⟩⟩
      · dsimp only
        rw [r1, r2, show (w2 + 1).toNat = w2.toNat + 1 from by omega]
        exact PS_push (PS_sub hps (by omega)) (Or.inl (by omega))
      · dsimp only
        rw [r1, r2, r3]
        intro s o0 r0 g
        rw [show (w2 + 1).toNat = w2.toNat + 1 from by omega]
        exact PG_push (q5 s o0 r0 g) (by omega)
  unfold f_HM_behindSum
  refine zk_d1 (s_HM_isSign _ _ _ (by omega) (by omega)) (fun v1 hp1 => ?_)
  try dsimp only at hp1
  refine zk_ifc (zci_eqr (by omega)) (fun hc_1 => ?_) (fun hc_1 => ?_)
  · refine zk_d1 (s_HM_isSign _ _ _ (by omega) (by omega)) (fun v2 hp2 => ?_)
    try dsimp only at hp2
    refine zk_ifc (zci_eqr (by omega)) (fun hc_2 => ?_) (fun hc_2 => ?_)
    · refine zk_d1 (s_HM_isSign _ _ _ (by omega) (by omega)) (fun v3 hp3 => ?_)
      try dsimp only at hp3
      refine zk_ifc (zci_eqr (by omega)) (fun hc_3 => ?_) (fun hc_3 => ?_)
      · refine zk_d1 (s_HM_isSign _ _ _ (by omega) (by omega)) (fun v4 hp4 => ?_)
        try dsimp only at hp4
        refine zk_ifc (zci_eqr (by omega)) (fun hc_4 => ?_) (fun hc_4 => ?_)
        · exact k57 _ (by omega)
        · exact k57 _ (by omega)
      · exact k57 _ (by omega)
    · exact k57 _ (by omega)
  · exact k57 _ (by omega)
theorem z_btest (tp : Int) (tape : Nat → Int) (fr to so wo fa bad nC nL pd opd : Int) (op ar pl pa : Nat → Int) (ht : 0 ≤ tp ∧ tp ≤ 400) (hT : zR tape 0 255) (hb : bad = 0) (hr : RS tp fr to so nC nL pd opd pl pa) (hps : PS pl pd.toNat) (hns : NS pl pd.toNat) : zok (f_HM_behindTest tp tape fr to so wo fa bad nC pd opd op ar pl pa) (fun o => RS tp o.2.1 o.2.2.1 o.2.2.2.1 o.2.2.2.2.2.2.2.1 nL o.2.2.2.2.2.2.2.2.1 o.2.2.2.2.2.2.2.2.2.1 o.2.2.2.2.2.2.2.2.2.2.2.2.1 o.2.2.2.2.2.2.2.2.2.2.2.2.2 ∧ (o.2.2.2.2.2.2.1 = 0 ∨ o.2.2.2.2.2.2.1 = 1) ∧ (0 ≤ o.1 ∧ o.1 ≤ 4) ∧ fr ≤ o.2.1 ∧ (o.2.2.2.2.2.2.1 = 0 → PS o.2.2.2.2.2.2.2.2.2.2.2.2.1 o.2.2.2.2.2.2.2.2.1.toNat ∧ ((o.1 = 0 ∧ fr < o.2.1 ∧ TG 1 0 nC pd op ar pl pa o.2.2.2.2.2.2.2.1 o.2.2.2.2.2.2.2.2.1 o.2.2.2.2.2.2.2.2.2.2.1 o.2.2.2.2.2.2.2.2.2.2.2.1 o.2.2.2.2.2.2.2.2.2.2.2.2.1 o.2.2.2.2.2.2.2.2.2.2.2.2.2 ∧ NS o.2.2.2.2.2.2.2.2.2.2.2.2.1 o.2.2.2.2.2.2.2.2.1.toNat) ∨ (o.1 = 2 ∧ fr < o.2.1 ∧ TG 1 1 nC pd op ar pl pa o.2.2.2.2.2.2.2.1 o.2.2.2.2.2.2.2.2.1 o.2.2.2.2.2.2.2.2.2.2.1 o.2.2.2.2.2.2.2.2.2.2.2.1 o.2.2.2.2.2.2.2.2.2.2.2.2.1 o.2.2.2.2.2.2.2.2.2.2.2.2.2 ∧ NS o.2.2.2.2.2.2.2.2.2.2.2.2.1 o.2.2.2.2.2.2.2.2.1.toNat) ∨ (o.1 = 4 ∧ TG 1 1 nC pd op ar pl pa o.2.2.2.2.2.2.2.1 o.2.2.2.2.2.2.2.2.1 o.2.2.2.2.2.2.2.2.2.2.1 o.2.2.2.2.2.2.2.2.2.2.2.1 o.2.2.2.2.2.2.2.2.2.2.2.2.1 o.2.2.2.2.2.2.2.2.2.2.2.2.2 ∧ ∀ i, i < o.2.2.2.2.2.2.2.2.1.toNat → o.2.2.2.2.2.2.2.2.2.2.2.2.1 i < 30)))) := by
  have hr0 := hr
  obtain ⟨hl, hL, ho, hv⟩ := hr
  have l0 := hl
  obtain ⟨l1, l2, l3, l4, l5, l6⟩ := l0
  have v1' := hv.1
  have v2' := hv.2.1
  have v3' := hv.2.2.1
  have v4' := hv.2.2.2.1
  have v5' := hv.2.2.2.2.1
  have kand : ∀ y1 s1 s2 s3 : Int, (1 ≤ s1 ∧ s1 ≤ 2) → (s2 = 28 ∨ s2 = 29) → s3 = s2 → so ≠ 0 → zok (zd4 (f_HM_settle s1 pl pa nC pd op ar) fun v1 v2 a3 a4 => zd3 (f_HM_push s2 v1 v2 pl pa) fun v5 a6 a7 => f_HM_behindTest_66 tp tape s3 fr to so wo fa bad v1 v5 opd a3 a4 a6 a7) (fun o => RS tp o.2.1 o.2.2.1 o.2.2.2.1 o.2.2.2.2.2.2.2.1 nL o.2.2.2.2.2.2.2.2.1 o.2.2.2.2.2.2.2.2.2.1 o.2.2.2.2.2.2.2.2.2.2.2.2.1 o.2.2.2.2.2.2.2.2.2.2.2.2.2 ∧ (o.2.2.2.2.2.2.1 = 0 ∨ o.2.2.2.2.2.2.1 = 1) ∧ (0 ≤ o.1 ∧ o.1 ≤ 4) ∧ fr ≤ o.2.1 ∧ (o.2.2.2.2.2.2.1 = 0 → PS o.2.2.2.2.2.2.2.2.2.2.2.2.1 o.2.2.2.2.2.2.2.2.1.toNat ∧ ((o.1 = 0 ∧ fr < o.2.1 ∧ TG 1 0 nC pd op ar pl pa o.2.2.2.2.2.2.2.1 o.2.2.2.2.2.2.2.2.1 o.2.2.2.2.2.2.2.2.2.2.1 o.2.2.2.2.2.2.2.2.2.2.2.1 o.2.2.2.2.2.2.2.2.2.2.2.2.1 o.2.2.2.2.2.2.2.2.2.2.2.2.2 ∧ NS o.2.2.2.2.2.2.2.2.2.2.2.2.1 o.2.2.2.2.2.2.2.2.1.toNat) ∨ (o.1 = 2 ∧ fr < o.2.1 ∧ TG 1 1 nC pd op ar pl pa o.2.2.2.2.2.2.2.1 o.2.2.2.2.2.2.2.2.1 o.2.2.2.2.2.2.2.2.2.2.1 o.2.2.2.2.2.2.2.2.2.2.2.1 o.2.2.2.2.2.2.2.2.2.2.2.2.1 o.2.2.2.2.2.2.2.2.2.2.2.2.2 ∧ NS o.2.2.2.2.2.2.2.2.2.2.2.2.1 o.2.2.2.2.2.2.2.2.1.toNat) ∨ (o.1 = 4 ∧ TG 1 1 nC pd op ar pl pa o.2.2.2.2.2.2.2.1 o.2.2.2.2.2.2.2.2.1 o.2.2.2.2.2.2.2.2.2.2.1 o.2.2.2.2.2.2.2.2.2.2.2.1 o.2.2.2.2.2.2.2.2.2.2.2.2.1 o.2.2.2.2.2.2.2.2.2.2.2.2.2 ∧ ∀ i, i < o.2.2.2.2.2.2.2.2.1.toNat → o.2.2.2.2.2.2.2.2.2.2.2.2.1 i < 30)))) := by
    intro y1 s1 s2 s3 h1 h2 h3 h4
    subst h3
    refine zk_d4 (s_HM_settle s1 pl pa nC pd op ar fr (by omega) (by omega) hv) (fun w1 w2 a3 a4 hq => ?_)
    dsimp only at hq
    obtain ⟨q1, q2, q3, q4, q5⟩ := hq
    have g0 := q1.1
    have g1 := q1.2.1
    have g2 := q1.2.2.1
    have g3 := q1.2.2.2.1
    refine zk_d3 (s_HM_push _ _ _ _ _ (by omega)) (fun v8 a9 a10 hq => ?_)
    dsimp only at hq
    obtain ⟨r1, r2, r3⟩ := hq
    unfold f_HM_behindTest_66
    refine zk_d3 (s_HM_emit _ _ _ _ _ (by omega)) (fun e1 e2 e3 hq => ?_)
    dsimp only at hq
    obtain ⟨t1, t2, t3⟩ := hq
    refine zk_d4 (z_next tp tape fr to so wo ht hT hl) (fun u1 u2 u3 u4 hn => ?_)
    dsimp only at hn
    obtain ⟨n1, n2⟩ := hn
    have hf : fr < u1 := by omega
    refine zk_ret ⟨⟨n1, hL, by dsimp only; omega, by dsimp only; rw [r1, r2, r3, t1]; exact PV_push q1 hf (by omega) (Or.inr ⟨by omega, rfl⟩) (by omega)⟩, Or.inl hb, by dsimp only; omega, by dsimp only; omega, fun _ => ⟨?_, Or.inl ⟨rfl, hf, ?_, ?_⟩⟩⟩
    · dsimp only
      rw [r1, r2, show (w2 + 1).toNat = w2.toNat + 1 from by omega]
      exact PS_push (PS_sub hps (by omega)) (Or.inr (Or.inr (NS_sub hns (by omega))))
    · dsimp only
      rw [r1, r2, r3, t1, t2, t3]
      intro s o0 r0 g
      rw [show (w2 + 1).toNat = w2.toNat + 1 from by omega, show (w1 + 1).toNat = w1.toNat + 1 from by omega]
      have g5 := PG_wait (v := s3) (w := 0) (q5 s o0 r0 g) h2
      rw [show ((w1.toNat : Nat) : Int) = w1 from by omega] at g5
      exact g5
    · dsimp only
      rw [r1, r2, show (w2 + 1).toNat = w2.toNat + 1 from by omega]
      exact NS_push (NS_sub hns (by omega)) (by omega)
  have k22 : ∀ y1 : Int, (y1 = 0 ∨ y1 = 1) → so ≠ 0 → zok (f_HM_behindTest_22 tp tape y1 fr to so wo fa bad nC pd opd op ar pl pa) (fun o => RS tp o.2.1 o.2.2.1 o.2.2.2.1 o.2.2.2.2.2.2.2.1 nL o.2.2.2.2.2.2.2.2.1 o.2.2.2.2.2.2.2.2.2.1 o.2.2.2.2.2.2.2.2.2.2.2.2.1 o.2.2.2.2.2.2.2.2.2.2.2.2.2 ∧ (o.2.2.2.2.2.2.1 = 0 ∨ o.2.2.2.2.2.2.1 = 1) ∧ (0 ≤ o.1 ∧ o.1 ≤ 4) ∧ fr ≤ o.2.1 ∧ (o.2.2.2.2.2.2.1 = 0 → PS o.2.2.2.2.2.2.2.2.2.2.2.2.1 o.2.2.2.2.2.2.2.2.1.toNat ∧ ((o.1 = 0 ∧ fr < o.2.1 ∧ TG 1 0 nC pd op ar pl pa o.2.2.2.2.2.2.2.1 o.2.2.2.2.2.2.2.2.1 o.2.2.2.2.2.2.2.2.2.2.1 o.2.2.2.2.2.2.2.2.2.2.2.1 o.2.2.2.2.2.2.2.2.2.2.2.2.1 o.2.2.2.2.2.2.2.2.2.2.2.2.2 ∧ NS o.2.2.2.2.2.2.2.2.2.2.2.2.1 o.2.2.2.2.2.2.2.2.1.toNat) ∨ (o.1 = 2 ∧ fr < o.2.1 ∧ TG 1 1 nC pd op ar pl pa o.2.2.2.2.2.2.2.1 o.2.2.2.2.2.2.2.2.1 o.2.2.2.2.2.2.2.2.2.2.1 o.2.2.2.2.2.2.2.2.2.2.2.1 o.2.2.2.2.2.2.2.2.2.2.2.2.1 o.2.2.2.2.2.2.2.2.2.2.2.2.2 ∧ NS o.2.2.2.2.2.2.2.2.2.2.2.2.1 o.2.2.2.2.2.2.2.2.1.toNat) ∨ (o.1 = 4 ∧ TG 1 1 nC pd op ar pl pa o.2.2.2.2.2.2.2.1 o.2.2.2.2.2.2.2.2.1 o.2.2.2.2.2.2.2.2.2.2.1 o.2.2.2.2.2.2.2.2.2.2.2.1 o.2.2.2.2.2.2.2.2.2.2.2.2.1 o.2.2.2.2.2.2.2.2.2.2.2.2.2 ∧ ∀ i, i < o.2.2.2.2.2.2.2.2.1.toNat → o.2.2.2.2.2.2.2.2.2.2.2.2.1 i < 30)))) := by
    intro y1 h1 h2
    unfold f_HM_behindTest_22
    refine zk_ifc (zci_eqr (by omega)) (fun hc => ?_) (fun hc => ?_)
    · subst hc
      have k := kand 0 1 29 29 (by omega) (by omega) rfl h2
      unfold f_HM_behindTest_32
      unfold f_HM_behindTest_47
      exact k
    · have e : y1 = 1 := by omega
      subst e
      have k := kand 1 2 28 28 (by omega) (by omega) rfl h2
      unfold f_HM_behindTest_32
      unfold f_HM_behindTest_47
      exact k
  unfold f_HM_behindTest
  refine zk_d1 (s_HM_isWord _ _ _ (by omega)) (fun v1 hp1 => ?_)
  try dsimp only at hp1
  refine zk_ifc (zci_ner (by omega)) (fun hc => ?_) (fun hc => ?_)
  · exact k22 _ (by omega) (by omega)
  · refine zk_d1 (s_HM_isWord _ _ _ (by omega)) (fun v2 hp2 => ?_)
    try dsimp only at hp2
    refine zk_ifc (zci_eqr (by omega)) (fun hc_2 => ?_) (fun hc_2 => ?_)
    · refine zk_d1 (z_inner pd pl (by omega) v5') (fun v3 hp => ?_)
      have b1 : -1 ≤ v3 ∧ v3 ≤ 31 := by
        rcases hp with ⟨h, _⟩ | ⟨_, _, _, h, _⟩
        · omega
        · omega
      refine zk_ifc (zci_ne (by clear hp; omega) (by clear hp; omega)) (fun hc_3 => ?_) (fun hc_3 => ?_)
      · have w : ∃ i, i < pd.toNat ∧ 30 ≤ pl i := by
          rcases hp with ⟨h, _⟩ | ⟨i, i1, i2, i3, i4⟩
          · exfalso; omega
          · exact ⟨i, i1, by omega⟩
        clear hp
        obtain ⟨i, i1, i2⟩ := w
        refine zk_d1 (s_HM_isSign _ _ _ (by omega) (by omega)) (fun v4 hp4 => ?_)
        try dsimp only at hp4
        refine zk_d6 (z_must v4 tp tape fr to so wo fa bad (by omega) ht hT hl hb) (fun v1 v2 v3 v4 v5 v6 hp6 => ?_)
        dsimp only at hp6
        obtain ⟨m1, m2⟩ := hp6
        refine zk_ifc (zci_ner (by omega)) (fun hc => ?_) (fun hc => ?_)
        · have e : v1 = fr := by omega
          have e6 : v6 = 1 := by omega
          refine zk_ret ⟨⟨m1, hL, by dsimp only; omega, by dsimp only; rw [e]; exact hv⟩, Or.inr e6, by dsimp only; omega, by dsimp only; omega, fun h => absurd (show v6 = 0 from h) (by omega)⟩
        · have hf : fr < v1 := by omega
          refine zk_d4 (z_close tp tape fr to so wo fa bad nC nL pd opd op ar pl pa 1 (Or.inl rfl) hr0 ht i i1 i2 (fun h => absurd h (by decide)) v1 v2 v3 m1 hf) (fun w1 w2 a3 a4 hq => ?_)
          dsimp only at hq
          obtain ⟨q1, q2, q3⟩ := hq
          refine zk_n ?_
          refine zk_n ?_
          exact zk_ret ⟨q1, Or.inl (by dsimp only; omega), by dsimp only; omega, by dsimp only; omega, fun _ => ⟨PS_sub hps q2, Or.inr (Or.inl ⟨rfl, hf, q3, NS_sub hns q2⟩)⟩⟩
      · refine zk_ret ⟨hr0, Or.inl hb, by clear hp; dsimp only; omega, Int.le_refl _, fun _ => ⟨hps, Or.inr (Or.inr ⟨rfl, TG_r, ?_⟩)⟩⟩
        rcases hp with ⟨_, h⟩ | ⟨i, i1, i2, i3, i4⟩
        · exact h
        · exfalso; omega
    · exact k22 _ (by omega) (by omega)
theorem z_e76 (tp : Int) (tape words : Nat → Int) (fr to so wo fa bad nC nL pd opd : Int) (op ar pl pa : Nat → Int) (ht : 0 ≤ tp ∧ tp ≤ 400) (hr : RS tp fr to so nC nL pd opd pl pa) (hb : bad = 1 ∨ (bad = 0 ∧ ∀ i, i < pd.toNat → pl i < 30)) : zok (f_HM_readExpression_76 tp tape words fr to so wo fa bad nC nL pd opd op ar pl pa) (fun o => RS tp o.1 o.2.1 o.2.2.1 o.2.2.2.2.2.2.1 o.2.2.2.2.2.2.2.1 o.2.2.2.2.2.2.2.2.1 o.2.2.2.2.2.2.2.2.2.1 o.2.2.2.2.2.2.2.2.2.2.2.2.1 o.2.2.2.2.2.2.2.2.2.2.2.2.2 ∧ (o.2.2.2.2.2.1 = 0 ∨ o.2.2.2.2.2.1 = 1) ∧ fr ≤ o.1 ∧ (o.2.2.2.2.2.1 = 0 → bad = 0 ∧ o.2.2.2.2.2.2.2.2.1 = 0 ∧ TG (1) 1 nC pd op ar pl pa o.2.2.2.2.2.2.1 o.2.2.2.2.2.2.2.2.1 o.2.2.2.2.2.2.2.2.2.2.1 o.2.2.2.2.2.2.2.2.2.2.2.1 o.2.2.2.2.2.2.2.2.2.2.2.2.1 o.2.2.2.2.2.2.2.2.2.2.2.2.2)) := by
  obtain ⟨hl, hL, ho, hv⟩ := hr
  have l0 := hl
  obtain ⟨l1, l2, l3, l4, l5, l6⟩ := l0
  unfold f_HM_readExpression_76
  refine zk_d4 (s_HM_settle 1 pl pa nC pd op ar fr (by omega) (by omega) hv) (fun w1 w2 a3 a4 hq => ?_)
  dsimp only at hq
  obtain ⟨q1, q2, q3, q4, q5⟩ := hq
  have g1 := q1.2.1
  refine zk_ret ⟨⟨hl, hL, ho, q1⟩, ?_, Int.le_refl _, fun h => ?_⟩
  · rcases hb with h | ⟨h, _⟩
    · exact Or.inr h
    · exact Or.inl h
  · rcases hb with hb | ⟨hb, hn⟩
    · exfalso
      have h2 : bad = 0 := h
      omega
    · refine ⟨hb, ?_, q5⟩
      show w2 = 0
      rcases q3 with t | ⟨_, t⟩
      · omega
      · apply Classical.byContradiction
        intro ne
        have a := t rfl
        have b := hn (w2 - 1).toNat (by omega)
        omega
theorem z_e20 (tp : Int) (tape words : Nat → Int) (ht : 0 ≤ tp ∧ tp ≤ 400) (hT : zR tape 0 255) : ∀ (n : Nat) (x1 x2 fr to so wo fa bad nC nL pd opd : Int) (op ar pl pa : Nat → Int), (x1 = 0 ∨ x1 = 1) → (0 ≤ x2 ∧ x2 ≤ 4) → (bad = 0 ∨ bad = 1) → RS tp fr to so nC nL pd opd pl pa → (bad = 0 → PS pl pd.toNat ∧ (x2 = 0 → NS pl pd.toNat) ∧ (x2 = 2 → NS pl pd.toNat) ∧ (x2 = 4 → ∀ i, i < pd.toNat → pl i < 30)) → (1 ≤ n ∧ (bad = 1 ∨ x2 = 4 ∨ (2 * (tp - fr) + 2 ≤ (n : Int) ∧ (x2 = 3 → 2 * (tp - fr) + 3 ≤ (n : Int))))) → zok (f_HM_readExpression_20 tp tape words n x1 x2 fr to so wo fa bad nC nL pd opd op ar pl pa) (fun o => RS tp o.1 o.2.1 o.2.2.1 o.2.2.2.2.2.2.1 o.2.2.2.2.2.2.2.1 o.2.2.2.2.2.2.2.2.1 o.2.2.2.2.2.2.2.2.2.1 o.2.2.2.2.2.2.2.2.2.2.2.2.1 o.2.2.2.2.2.2.2.2.2.2.2.2.2 ∧ (o.2.2.2.2.2.1 = 0 ∨ o.2.2.2.2.2.1 = 1) ∧ fr ≤ o.1 ∧ (o.2.2.2.2.2.1 = 0 → bad = 0 ∧ o.2.2.2.2.2.2.2.2.1 = 0 ∧ TG (if x2 = 0 ∨ x2 = 1 then 0 else 1) 1 nC pd op ar pl pa o.2.2.2.2.2.2.1 o.2.2.2.2.2.2.2.2.1 o.2.2.2.2.2.2.2.2.2.2.1 o.2.2.2.2.2.2.2.2.2.2.2.1 o.2.2.2.2.2.2.2.2.2.2.2.2.1 o.2.2.2.2.2.2.2.2.2.2.2.2.2)) := by
  intro n
  induction n with
  | zero => intro x1 x2 fr to so wo fa bad nC nL pd opd op ar pl pa h1 h2 hb hr hs hm; exact absurd hm.1 (by decide)
  | succ n ih =>
    intro x1 x2 fr to so wo fa bad nC nL pd opd op ar pl pa h1 h2 hb hr hs hm
    show zok (f_HM_readExpression_20_b tp tape words (f_HM_readExpression_20 tp tape words n) x1 x2 fr to so wo fa bad nC nL pd opd op ar pl pa) _
    have lf : fr ≤ tp := by
      have := hr.1.2.1
      have := hr.1.2.2.1
      omega
    unfold f_HM_readExpression_20_b
    refine zk_ifc (zci_ner (by omega)) (fun hc => ?_) (fun hc => ?_)
    · refine zok_mono (z_e76 tp tape words fr to so wo fa bad nC nL pd opd op ar pl pa ht hr (Or.inl (by omega))) (fun o ho => ⟨ho.1, ho.2.1, ho.2.2.1, fun h => ?_⟩)
      have := (ho.2.2.2 h).1
      exfalso; omega
    · have hb0 : bad = 0 := by omega
      obtain ⟨s1, s2, s3, s4⟩ := hs hb0
      refine zk_ifc (zci_eq (by omega) (by omega)) (fun hc_2 => ?_) (fun hc_2 => ?_)
      · subst hc_2
        exact z_e76 tp tape words fr to so wo fa bad nC nL pd opd op ar pl pa ht hr (Or.inr ⟨hb0, s4 rfl⟩)
      · refine zk_ifc (zci_ner (by omega)) (fun hc_3 => ?_) (fun hc_3 => ?_)
        · refine zk_ifc (zci_ne (by omega) (by omega)) (fun hc_4 => ?_) (fun hc_4 => ?_)
          · refine zk_ifc (zci_ne (by omega) (by omega)) (fun hc_5 => ?_) (fun hc_5 => ?_)
            · have e : x2 = 2 := by omega
              subst e
              refine zk_d14 (z_btest tp tape fr to so wo fa bad nC nL pd opd op ar pl pa ht hT hb0 hr s1 (s3 rfl)) (fun w1 w2 w3 w4 w5 w6 w7 w8 w9 w10 a11 a12 a13 a14 hq => ?_)
              dsimp only at hq
              obtain ⟨q1, q2, q3, q4, q5⟩ := hq
              unfold f_HM_readExpression_72
              refine zok_mono (ih x1 w1 w2 w3 w4 w5 w6 w7 w8 nL w9 w10 a11 a12 a13 a14 h1 q3 q2 q1 (fun h => ?_) ?_) (fun o ho => ⟨ho.1, ho.2.1, by have := ho.2.2.1; omega, fun h => ?_⟩)
              · obtain ⟨p1, p2⟩ := q5 h
                rcases p2 with ⟨r1, r2, r3, r4⟩ | ⟨r1, r2, r3, r4⟩ | ⟨r1, r3, r4⟩
                · exact ⟨p1, fun _ => r4, fun _ => r4, fun g => absurd g (by omega)⟩
                · exact ⟨p1, fun _ => r4, fun _ => r4, fun g => absurd g (by omega)⟩
                · exact ⟨p1, fun g => absurd g (by omega), fun g => absurd g (by omega), fun _ => r4⟩
              · rcases q2 with g | g
                · obtain ⟨p1, p2⟩ := q5 g
                  have k : (w1 = 4) ∨ (fr < w2 ∧ w1 ≠ 3) := by
                    rcases p2 with ⟨r1, r2, _⟩ | ⟨r1, r2, _⟩ | ⟨r1, _⟩
                    · exact Or.inr ⟨r2, by omega⟩
                    · exact Or.inr ⟨r2, by omega⟩
                    · exact Or.inl r1
                  omega
                · omega
              · obtain ⟨t1, t2, t3⟩ := ho.2.2.2 h
                obtain ⟨p1, p2⟩ := q5 t1
                refine ⟨hb0, t2, TG_t ?_ t3⟩
                rcases p2 with ⟨r1, r2, r3, r4⟩ | ⟨r1, r2, r3, r4⟩ | ⟨r1, r3, r4⟩ <;> (rw [r1]; exact r3)
            · have e5 : x2 = 3 := by omega
              subst e5
              refine zk_d14 (z_bsum x1 tp tape fr to so wo fa bad nC nL pd opd op ar pl pa ht hT hb0 hr s1 h1) (fun w1 w2 w3 w4 w5 w6 w7 w8 w9 w10 a11 a12 a13 a14 hq => ?_)
              dsimp only at hq
              obtain ⟨q1, q2, q3, q4, q5⟩ := hq
              unfold f_HM_readExpression_72
              refine zok_mono (ih x1 w1 w2 w3 w4 w5 w6 w7 w8 nL w9 w10 a11 a12 a13 a14 h1 q3 q2 q1 (fun h => ?_) ?_) (fun o ho => ⟨ho.1, ho.2.1, by have := ho.2.2.1; omega, fun h => ?_⟩)
              · obtain ⟨p1, p2⟩ := q5 h
                rcases p2 with ⟨r1, r2, r3⟩ | ⟨r1, r2, r3⟩ | ⟨r1, r3, r4⟩ | ⟨r1, r3, r4⟩
                · exact ⟨p1, fun g => absurd g (by omega), fun g => absurd g (by omega), fun g => absurd g (by omega)⟩
                · exact ⟨p1, fun g => absurd g (by omega), fun g => absurd g (by omega), fun g => absurd g (by omega)⟩
                · exact ⟨p1, fun g => absurd g (by omega), fun g => absurd g (by omega), fun _ => r4⟩
                · exact ⟨p1, fun g => absurd g (by omega), fun _ => r4, fun g => absurd g (by omega)⟩
              · rcases q2 with g | g
                · obtain ⟨p1, p2⟩ := q5 g
                  have k : (w1 = 4) ∨ (fr < w2) ∨ w1 = 2 := by
                    rcases p2 with ⟨r1, r2, _⟩ | ⟨r1, r2, _⟩ | ⟨r1, _⟩ | ⟨r1, _⟩
                    · exact Or.inr (Or.inl r2)
                    · exact Or.inr (Or.inl r2)
                    · exact Or.inl r1
                    · exact Or.inr (Or.inr r1)
                  omega
                · omega
              · obtain ⟨t1, t2, t3⟩ := ho.2.2.2 h
                obtain ⟨p1, p2⟩ := q5 t1
                refine ⟨hb0, t2, TG_t ?_ t3⟩
                rcases p2 with ⟨r1, r2, r3⟩ | ⟨r1, r2, r3⟩ | ⟨r1, r3, r4⟩ | ⟨r1, r3, r4⟩ <;> (rw [r1]; exact r3)
          · have e4 : x2 = 1 := by omega
            subst e4
            refine zk_d15 (z_part tp tape words fr to so wo fa bad nC nL pd opd op ar pl pa ht hT hb0 hr s1) (fun w1 w2 w3 w4 w5 w6 w7 w8 w9 w10 w11 a11 a12 a13 a14 hq => ?_)
            dsimp only at hq
            obtain ⟨q1, q2, q3, q4, q5⟩ := hq
            unfold f_HM_readExpression_72
            refine zok_mono (ih x1 w1 w2 w3 w4 w5 w6 w7 w8 w9 w10 w11 a11 a12 a13 a14 h1 q3 q2 q1 (fun h => ?_) ?_) (fun o ho => ⟨ho.1, ho.2.1, by have := ho.2.2.1; omega, fun h => ?_⟩)
            · obtain ⟨p1, p2, p3, p4, p5⟩ := q5 h
              exact ⟨p3, fun g => absurd g (by omega), fun g => absurd g (by omega), fun g => absurd g (by omega)⟩
            · rcases q2 with g | g
              · have p1 := (q5 g).1
                omega
              · omega
            · obtain ⟨t1, t2, t3⟩ := ho.2.2.2 h
              obtain ⟨p1, p2, p3, p4, p5⟩ := q5 t1
              refine ⟨hb0, t2, TG_t ?_ t3⟩
              rcases p2 with r1 | r1 <;> (rw [r1] at p4; rw [r1]; exact p4)
        · have e3 : x2 = 0 := by omega
          subst e3
          refine zk_d15 (z_plain tp tape words fr to so wo fa bad nC nL pd opd op ar pl pa ht hT hb0 hr s1 (s2 rfl)) (fun w1 w2 w3 w4 w5 w6 w7 w8 w9 w10 w11 a11 a12 a13 a14 hq => ?_)
          dsimp only at hq
          obtain ⟨q1, q2, q3, q4, q5⟩ := hq
          unfold f_HM_readExpression_72
          refine zok_mono (ih x1 w1 w2 w3 w4 w5 w6 w7 w8 w9 w10 w11 a11 a12 a13 a14 h1 q3 q2 q1 (fun h => ?_) ?_) (fun o ho => ⟨ho.1, ho.2.1, by have := ho.2.2.1; omega, fun h => ?_⟩)
          · obtain ⟨p1, p2, p3, p4, p5⟩ := q5 h
            exact ⟨p3, fun g => p5 (s2 rfl) (Or.inl g), fun g => absurd g (by omega), fun g => absurd g (by omega)⟩
          · rcases q2 with g | g
            · have p1 := (q5 g).1
              omega
            · omega
          · obtain ⟨t1, t2, t3⟩ := ho.2.2.2 h
            obtain ⟨p1, p2, p3, p4, p5⟩ := q5 t1
            refine ⟨hb0, t2, TG_t ?_ t3⟩
            rcases p2 with r1 | r1 | r1 <;> (rw [r1] at p4; rw [r1]; exact p4)
theorem z_expr (x1 tp : Int) (tape words : Nat → Int) (fr to so wo fa bad nC nL pd opd : Int) (op ar pl pa : Nat → Int) (hx : x1 = 0 ∨ x1 = 1) (ht : 0 ≤ tp ∧ tp ≤ 400) (hT : zR tape 0 255) (hb : bad = 0 ∨ bad = 1) (hl : LX tp fr to so) (hL : 0 ≤ nL ∧ nL ≤ 50) (hn : 0 ≤ nC ∧ nC ≤ fr) : zok (f_HM_readExpression x1 tp tape words fr to so wo fa bad nC nL pd opd op ar pl pa) (fun o => RS tp o.1 o.2.1 o.2.2.1 o.2.2.2.2.2.2.1 o.2.2.2.2.2.2.2.1 o.2.2.2.2.2.2.2.2.1 o.2.2.2.2.2.2.2.2.2.1 o.2.2.2.2.2.2.2.2.2.2.2.2.1 o.2.2.2.2.2.2.2.2.2.2.2.2.2 ∧ (o.2.2.2.2.2.1 = 0 ∨ o.2.2.2.2.2.1 = 1) ∧ fr ≤ o.1 ∧ (o.2.2.2.2.2.1 = 0 → bad = 0 ∧ o.2.2.2.2.2.2.2.2.1 = 0 ∧ TG 0 1 nC 0 op ar pl pa o.2.2.2.2.2.2.1 0 o.2.2.2.2.2.2.2.2.2.2.1 o.2.2.2.2.2.2.2.2.2.2.2.1 o.2.2.2.2.2.2.2.2.2.2.2.2.1 o.2.2.2.2.2.2.2.2.2.2.2.2.2)) := by
  have l0 := hl
  obtain ⟨l1, l2, l3, l4, l5, l6⟩ := l0
  have hr : RS tp fr to so nC nL 0 0 pl pa := ⟨hl, hL, by omega, hn.1, Int.le_refl _, l1, by show nC + (zN pl 0 : Int) ≤ fr; show nC + ((0 : Nat) : Int) ≤ fr; omega, fun i hi => absurd hi (Nat.not_lt_zero i), fun i hi => absurd hi (Nat.not_lt_zero i)⟩
  have go : ∀ s0 : Int, (s0 = 0 ∨ s0 = 1) → zok (f_HM_readExpression_19 tp tape words x1 s0 fr to so wo fa bad nC nL 0 0 op ar pl pa) (fun o => RS tp o.1 o.2.1 o.2.2.1 o.2.2.2.2.2.2.1 o.2.2.2.2.2.2.2.1 o.2.2.2.2.2.2.2.2.1 o.2.2.2.2.2.2.2.2.2.1 o.2.2.2.2.2.2.2.2.2.2.2.2.1 o.2.2.2.2.2.2.2.2.2.2.2.2.2 ∧ (o.2.2.2.2.2.1 = 0 ∨ o.2.2.2.2.2.1 = 1) ∧ fr ≤ o.1 ∧ (o.2.2.2.2.2.1 = 0 → bad = 0 ∧ o.2.2.2.2.2.2.2.2.1 = 0 ∧ TG 0 1 nC 0 op ar pl pa o.2.2.2.2.2.2.1 0 o.2.2.2.2.2.2.2.2.2.2.1 o.2.2.2.2.2.2.2.2.2.2.2.1 o.2.2.2.2.2.2.2.2.2.2.2.2.1 o.2.2.2.2.2.2.2.2.2.2.2.2.2)) := by
    intro s0 h0
    unfold f_HM_readExpression_19
    refine zok_mono (z_e20 tp tape words ht hT zfu x1 s0 fr to so wo fa bad nC nL 0 0 op ar pl pa hx (by omega) hb hr (fun _ => ⟨fun i j a b => absurd b (by show ¬ j < 0; omega), fun _ i a => absurd a (by show ¬ i < 0; omega), fun _ i a => absurd a (by show ¬ i < 0; omega), fun _ i a => absurd a (by show ¬ i < 0; omega)⟩) ⟨by unfold zfu; omega, Or.inr (Or.inr (by unfold zfu; omega))⟩) (fun o ho => ⟨ho.1, ho.2.1, ho.2.2.1, fun h => ?_⟩)
    obtain ⟨t1, t2, t3⟩ := ho.2.2.2 h
    rw [if_pos h0, t2] at t3
    exact ⟨t1, t2, t3⟩
  unfold f_HM_readExpression
  refine zk_ifc (zci_eqr (by omega)) (fun hc => ?_) (fun hc => ?_)
  · exact go 1 (Or.inr rfl)
  · exact go 0 (Or.inl rfl)
end
section
noncomputable def CW (op ar : Nat → Int) (s e : Nat) : Prop := s ≤ e ∧ ∃ D : Nat → Nat, D s = 0 ∧ (∀ k, s ≤ k → k ≤ e → D k ≤ k - s) ∧ ∀ k, s ≤ k → k < e → zcs (fun j => if j % 2 = 0 then op ((j - 98) / 2) else ar ((j - 98) / 2)) D e k
theorem CW_ext {op ar op' ar' : Nat → Int} {s e : Nat} (h : CW op ar s e) (g : ∀ k, k < e → op' k = op k ∧ ar' k = ar k) : CW op' ar' s e := by
  obtain ⟨h1, D, h2, h3, h4⟩ := h
  refine ⟨h1, D, h2, h3, fun k k1 k2 => ?_⟩
  have hz := h4 k k1 k2
  unfold zcs at hz ⊢
  dsimp only at hz ⊢
  rw [show (98 + 2 * k) % 2 = 0 by omega, show (99 + 2 * k) % 2 = 1 by omega, show (98 + 2 * k - 98) / 2 = k by omega, show (99 + 2 * k - 98) / 2 = k by omega] at hz ⊢
  rw [if_pos rfl, if_neg (by decide)] at hz ⊢
  rw [(g k k2).1, (g k k2).2]
  exact hz
theorem CW_nil (op ar : Nat → Int) (s : Nat) : CW op ar s s := ⟨Nat.le_refl _, fun _ => 0, rfl, fun k a b => Nat.zero_le _, fun k a b => absurd a (by omega)⟩
noncomputable def KI (n nC : Nat) (ncl op ar : Nat → Int) : Prop := ∀ c, c < n → (ncl (8 * c) = 0 ∨ ncl (8 * c) = 1) ∧ ∃ s1 e1 s2 e2 : Nat, ncl (8 * c + 3) = (s1 : Int) ∧ ncl (8 * c + 4) = (e1 : Int) ∧ ncl (8 * c + 5) = (s2 : Int) ∧ ncl (8 * c + 6) = (e2 : Int) ∧ e1 ≤ nC ∧ e2 ≤ nC ∧ CW op ar s1 e1 ∧ CW op ar s2 e2
theorem KI_keep {n nC nC' : Nat} {ncl op ar ncl' op' ar' : Nat → Int} (h : KI n nC ncl op ar) (h1 : ∀ j, j < 8 * n → ncl' j = ncl j) (h2 : ∀ k, k < nC → op' k = op k ∧ ar' k = ar k) (h3 : nC ≤ nC') : KI n nC' ncl' op' ar' := by
  intro c hc
  obtain ⟨q0, s1, e1, s2, e2, q1, q2, q3, q4, q5, q6, q7, q8⟩ := h c hc
  refine ⟨by rw [h1 _ (by omega)]; exact q0, s1, e1, s2, e2, by rw [h1 _ (by omega)]; exact q1, by rw [h1 _ (by omega)]; exact q2, by rw [h1 _ (by omega)]; exact q3, by rw [h1 _ (by omega)]; exact q4, by omega, by omega, CW_ext q7 (fun k hk => h2 k (by omega)), CW_ext q8 (fun k hk => h2 k (by omega))⟩
/-- what an expression leaves -/
theorem z_tail {nC nC' : Int} {op ar pl pa op' ar' pl' pa' : Nat → Int} (h : TG 0 1 nC 0 op ar pl pa nC' 0 op' ar' pl' pa') : nC.toNat ≤ nC'.toNat ∧ (∀ k, k < nC.toNat → op' k = op k ∧ ar' k = ar k) ∧ CW op' ar' nC.toNat nC'.toNat := by
  have g0 : PG nC.toNat op ar nC.toNat (0 : Int).toNat op ar pl pa 0 := ⟨fun _ => 0, ⟨Nat.le_refl _, rfl, fun k _ => ⟨rfl, rfl⟩, fun i hi => absurd hi (Nat.not_lt_zero i), fun k a b => absurd a (by omega)⟩, rfl⟩
  obtain ⟨D, d1, d2, d3, d4, d5⟩ := PG_end (h _ _ _ g0)
  exact ⟨d2, d3, d2, D, d1, d4, d5⟩
noncomputable def CS (tp fr to so bad nCl nC nL : Int) (ncl op ar : Nat → Int) : Prop := LX tp fr to so ∧ (0 ≤ nL ∧ nL ≤ 50) ∧ (0 ≤ nC ∧ nC ≤ fr) ∧ (0 ≤ nCl ∧ nCl ≤ 12) ∧ (bad = 0 ∨ bad = 1) ∧ (bad = 0 → KI nCl.toNat nC.toNat ncl op ar)
theorem z_c180 (c x2 : Int) (tp : Int) (tape words : Nat → Int) (fr to so wo fa bad nCl nC nL pd opd : Int) (ncl op ar pl pa : Nat → Int) (ht : 0 ≤ tp ∧ tp ≤ 400) (hT : zR tape 0 255) (hc : 0 ≤ c ∧ c ≤ 11) (hn : nCl = c + 1) (hx : x2 = 8 * c) (hl : LX tp fr to so) (hL : 0 ≤ nL ∧ nL ≤ 50) (hC : 0 ≤ nC ∧ nC ≤ fr) (hb : bad = 0 ∨ bad = 1) (hk : bad = 0 → KI c.toNat nC.toNat ncl op ar ∧ (ncl (8 * c.toNat) = 0 ∨ ncl (8 * c.toNat) = 1) ∧ ∃ s1 e1 s2 : Nat, ncl (8 * c.toNat + 3) = (s1 : Int) ∧ ncl (8 * c.toNat + 4) = (e1 : Int) ∧ ncl (8 * c.toNat + 5) = (s2 : Int) ∧ e1 ≤ nC.toNat ∧ CW op ar s1 e1 ∧ CW op ar s2 nC.toNat) : zok (f_HM_readClause_180 tp tape words x2 fr to so wo fa bad nCl nC nL pd opd ncl op ar pl pa) (fun o => CS tp o.1 o.2.1 o.2.2.1 o.2.2.2.2.2.1 o.2.2.2.2.2.2.1 o.2.2.2.2.2.2.2.1 o.2.2.2.2.2.2.2.2.1 o.2.2.2.2.2.2.2.2.2.2.2.1 o.2.2.2.2.2.2.2.2.2.2.2.2.1 o.2.2.2.2.2.2.2.2.2.2.2.2.2.1 ∧ fr ≤ o.1) := by
  unfold f_HM_readClause_180
  refine zk_n ?_
  refine zk_sv (by omega) (by decide) (fun a2 h_a2 => ?_)
  have z := fun j => zu_rd h_a2 j
  refine zk_ret ⟨⟨hl, hL, hC, by dsimp only; omega, hb, fun h => ?_⟩, Int.le_refl _⟩
  obtain ⟨k1, k2, s1, e1, s2, k3, k4, k5, k6, k7, k8⟩ := hk h
  dsimp only
  rw [show nCl.toNat = c.toNat + 1 from by omega]
  intro d hd
  by_cases q : d = c.toNat
  · subst q
    have z0 := z (8 * c.toNat)
    have z3 := z (8 * c.toNat + 3)
    have z4 := z (8 * c.toNat + 4)
    have z5 := z (8 * c.toNat + 5)
    have z6 := z (8 * c.toNat + 6)
    exact ⟨by clear k7 k8; omega, s1, e1, s2, nC.toNat, by clear k7 k8; omega, by clear k7 k8; omega, by clear k7 k8; omega, by clear k7 k8; omega, k6, Nat.le_refl _, k7, k8⟩
  · have kk := KI_keep (ncl' := a2) (op' := op) (ar' := ar) k1 (fun j hj => by have := z j; omega) (fun k _ => ⟨rfl, rfl⟩) (Nat.le_refl _)
    exact kk d (by omega)
theorem z_c130 (c x2 : Int) (tp : Int) (tape words : Nat → Int) (fr to so wo fa bad nCl nC nL pd opd : Int) (ncl op ar pl pa : Nat → Int) (ht : 0 ≤ tp ∧ tp ≤ 400) (hT : zR tape 0 255) (hc : 0 ≤ c ∧ c ≤ 11) (hn : nCl = c + 1) (hx : x2 = 8 * c) (hl : LX tp fr to so) (hL : 0 ≤ nL ∧ nL ≤ 50) (hC : 0 ≤ nC ∧ nC ≤ fr) (hb : bad = 0 ∨ bad = 1) (hk : bad = 0 → KI c.toNat nC.toNat ncl op ar ∧ (ncl (8 * c.toNat) = 0 ∨ ncl (8 * c.toNat) = 1) ∧ ∃ s1 : Nat, ncl (8 * c.toNat + 3) = (s1 : Int) ∧ CW op ar s1 nC.toNat) : zok (f_HM_readClause_130 tp tape words x2 fr to so wo fa bad nCl nC nL pd opd ncl op ar pl pa) (fun o => CS tp o.1 o.2.1 o.2.2.1 o.2.2.2.2.2.1 o.2.2.2.2.2.2.1 o.2.2.2.2.2.2.2.1 o.2.2.2.2.2.2.2.2.1 o.2.2.2.2.2.2.2.2.2.2.2.1 o.2.2.2.2.2.2.2.2.2.2.2.2.1 o.2.2.2.2.2.2.2.2.2.2.2.2.2.1 ∧ fr ≤ o.1) := by
  have l0 := hl
  obtain ⟨l1, l2, l3, l4, l5, l6⟩ := l0
  unfold f_HM_readClause_130
  refine zk_n ?_
  refine zk_sv (by omega) (by decide) (fun a2 h_a2 => ?_)
  refine zk_n ?_
  refine zk_sv (by omega) (by decide) (fun a4 h_a4 => ?_)
  have z := fun j => zu_rd h_a2 j
  have y := fun j => zu_rd h_a4 j
  have hk2 : bad = 0 → KI c.toNat nC.toNat a4 op ar ∧ (a4 (8 * c.toNat) = 0 ∨ a4 (8 * c.toNat) = 1) ∧ ∃ s1 : Nat, a4 (8 * c.toNat + 3) = (s1 : Int) ∧ a4 (8 * c.toNat + 4) = (nC.toNat : Int) ∧ a4 (8 * c.toNat + 5) = (nC.toNat : Int) ∧ CW op ar s1 nC.toNat := by
    intro h
    obtain ⟨k1, k2, s1, k3, k4⟩ := hk h
    have z0 := z (8 * c.toNat)
    have z3 := z (8 * c.toNat + 3)
    have z4 := z (8 * c.toNat + 4)
    have y0 := y (8 * c.toNat)
    have y3 := y (8 * c.toNat + 3)
    have y4 := y (8 * c.toNat + 4)
    have y5 := y (8 * c.toNat + 5)
    refine ⟨KI_keep k1 (fun j hj => by have := z j; have := y j; omega) (fun k _ => ⟨rfl, rfl⟩) (Nat.le_refl _), by clear k4; omega, s1, by clear k4; omega, by clear k4; omega, by clear k4; omega, k4⟩
  have fin : bad = 0 → KI c.toNat nC.toNat a4 op ar ∧ (a4 (8 * c.toNat) = 0 ∨ a4 (8 * c.toNat) = 1) ∧ ∃ s1 e1 s2 : Nat, a4 (8 * c.toNat + 3) = (s1 : Int) ∧ a4 (8 * c.toNat + 4) = (e1 : Int) ∧ a4 (8 * c.toNat + 5) = (s2 : Int) ∧ e1 ≤ nC.toNat ∧ CW op ar s1 e1 ∧ CW op ar s2 nC.toNat := by
    intro h
    obtain ⟨k1, k2, s1, k3, k4, k5, k6⟩ := hk2 h
    exact ⟨k1, k2, s1, nC.toNat, nC.toNat, k3, k4, k5, Nat.le_refl _, k6, CW_nil _ _ _⟩
  refine zk_ifc (zci_ner (by clear hk hk2 fin; omega)) (fun hc1 => ?_) (fun hc1 => ?_)
  · exact z_c180 c x2 tp tape words fr to so wo fa bad nCl nC nL pd opd a4 op ar pl pa ht hT hc hn hx hl hL hC hb fin
  · refine zk_d1 (s_HM_isWord _ _ _ (by omega)) (fun v5 hp => ?_)
    try dsimp only at hp
    refine zk_ifc (zci_eqr (by omega)) (fun hc2 => ?_) (fun hc2 => ?_)
    · exact z_c180 c x2 tp tape words fr to so wo fa bad nCl nC nL pd opd a4 op ar pl pa ht hT hc hn hx hl hL hC hb fin
    · refine zk_d4 (z_next tp tape fr to so wo ht hT hl) (fun w1 w2 w3 w4 hn1 => ?_)
      dsimp only at hn1
      obtain ⟨n1, n2⟩ := hn1
      refine zk_d14 (z_expr 1 tp tape words w1 w2 w3 w4 fa bad nC nL pd opd op ar pl pa (Or.inr rfl) ht hT hb n1 hL (by omega)) (fun u1 u2 u3 u4 u5 u6 u7 u8 u9 u10 a11 a12 a13 a14 hq => ?_)
      dsimp only at hq
      obtain ⟨q1, q2, q3, q4⟩ := hq
      have pv := q1.2.2.2
      have p1 := pv.1
      have p4 := pv.2.2.2.1
      refine zok_mono (z_c180 c x2 tp tape words u1 u2 u3 u4 u5 u6 nCl u7 u8 u9 u10 a4 a11 a12 a13 a14 ht hT hc hn hx q1.1 q1.2.1 (by omega) q2 (fun h => ?_)) (fun o ho => ⟨ho.1, by have := ho.2; omega⟩)
      obtain ⟨r1, r2, r3⟩ := q4 h
      obtain ⟨t1, t2, t3⟩ := z_tail r3
      obtain ⟨k1, k2, s1, k3, k4, k5, k6⟩ := hk2 r1
      exact ⟨KI_keep k1 (fun _ _ => rfl) t2 t1, k2, s1, nC.toNat, nC.toNat, k3, k4, k5, t1, CW_ext k6 t2, t3⟩
theorem z_c71 (c : Int) (hc : 0 ≤ c ∧ c ≤ 11) (tp : Int) (tape words : Nat → Int) (ht : 0 ≤ tp ∧ tp ≤ 400) (hT : zR tape 0 255) : ∀ (n : Nat) (x1 x2 x3 fr to so wo fa bad nCl nC nL pd opd : Int) (ncl op ar pl pa : Nat → Int), (x1 = 0 ∨ x1 = 1) → nCl = c → x2 = 8 * c → (0 ≤ x3 ∧ x3 ≤ 8) → LX tp fr to so → (0 ≤ nL ∧ nL ≤ 50) → (0 ≤ nC ∧ nC ≤ fr) → bad = 0 → KI c.toNat nC.toNat ncl op ar → 9 - x3 ≤ (n : Int) → zok (f_HM_readClause_71 tp tape words n x1 x2 x3 fr to so wo fa bad nCl nC nL pd opd ncl op ar pl pa) (fun o => CS tp o.1 o.2.1 o.2.2.1 o.2.2.2.2.2.1 o.2.2.2.2.2.2.1 o.2.2.2.2.2.2.2.1 o.2.2.2.2.2.2.2.2.1 o.2.2.2.2.2.2.2.2.2.2.2.1 o.2.2.2.2.2.2.2.2.2.2.2.2.1 o.2.2.2.2.2.2.2.2.2.2.2.2.2.1 ∧ fr ≤ o.1) := by
  intro n
  induction n with
  | zero => intro x1 x2 x3 fr to so wo fa bad nCl nC nL pd opd ncl op ar pl pa h1 hn hx h3 hl hL hC hb hk hm; exfalso; omega
  | succ n ih =>
    intro x1 x2 x3 fr to so wo fa bad nCl nC nL pd opd ncl op ar pl pa h1 hn hx h3 hl hL hC hb hk hm
    show zok (f_HM_readClause_71_b tp tape words (f_HM_readClause_71 tp tape words n) x1 x2 x3 fr to so wo fa bad nCl nC nL pd opd ncl op ar pl pa) _
    unfold f_HM_readClause_71_b
    refine zk_ifc (zci_le (by omega) (by omega)) (fun hc1 => ?_) (fun hc1 => ?_)
    · refine zk_sv (by omega) (by decide) (fun a1 h_a1 => ?_)
      refine zk_n ?_
      refine zk_n ?_
      refine zk_sv (by omega) (by decide) (fun a4 h_a4 => ?_)
      have z := fun j => zu_rd h_a1 j
      have y := fun j => zu_rd h_a4 j
      have z0 := z (8 * c.toNat)
      have y0 := y (8 * c.toNat)
      have y3 := y (8 * c.toNat + 3)
      have f0 : a4 (8 * c.toNat) = 0 ∨ a4 (8 * c.toNat) = 1 := by omega
      have f3 : a4 (8 * c.toNat + 3) = (nC.toNat : Int) := by omega
      have kk : KI c.toNat nC.toNat a4 op ar := KI_keep hk (fun j hj => by have := z j; have := y j; omega) (fun k _ => ⟨rfl, rfl⟩) (Nat.le_refl _)
      refine zk_ifc (zci_ner (by omega)) (fun hc2 => ?_) (fun hc2 => ?_)
      · exact z_c130 c x2 tp tape words fr to so wo fa bad (nCl + 1) nC nL pd opd a4 op ar pl pa ht hT hc (by omega) hx hl hL hC (Or.inl hb) (fun _ => ⟨kk, f0, nC.toNat, f3, CW_nil _ _ _⟩)
      · refine zk_d14 (z_expr 0 tp tape words fr to so wo fa bad nC nL pd opd op ar pl pa (Or.inl rfl) ht hT (Or.inl hb) hl hL hC) (fun u1 u2 u3 u4 u5 u6 u7 u8 u9 u10 a11 a12 a13 a14 hq => ?_)
        dsimp only at hq
        obtain ⟨q1, q2, q3, q4⟩ := hq
        have pv := q1.2.2.2
        have p1 := pv.1
        have p4 := pv.2.2.2.1
        refine zok_mono (z_c130 c x2 tp tape words u1 u2 u3 u4 u5 u6 (nCl + 1) u7 u8 u9 u10 a4 a11 a12 a13 a14 ht hT hc (by omega) hx q1.1 q1.2.1 (by omega) q2 (fun h => ?_)) (fun o ho => ⟨ho.1, by have := ho.2; omega⟩)
        obtain ⟨r1, r2, r3⟩ := q4 h
        obtain ⟨t1, t2, t3⟩ := z_tail r3
        exact ⟨KI_keep kk (fun _ _ => rfl) t2 t1, f0, nC.toNat, f3, t3⟩
    · refine zk_n ?_
      refine zk_sv (by omega) (by decide) (fun a20 h_a20 => ?_)
      refine zk_n ?_
      exact ih _ _ _ _ _ _ _ _ _ _ _ _ _ _ _ _ _ _ _ h1 hn hx (by omega) hl hL hC hb (KI_keep hk (fun j hj => by have := zu_rd h_a20 j; omega) (fun k _ => ⟨rfl, rfl⟩) (Nat.le_refl _)) (by omega)
theorem z_clause (tp : Int) (tape words : Nat → Int) (fr to so wo fa bad nCl nC nL pd opd : Int) (ncl op ar pl pa : Nat → Int) (ht : 0 ≤ tp ∧ tp ≤ 400) (hT : zR tape 0 255) (hs : CS tp fr to so bad nCl nC nL ncl op ar) (hb : bad = 0) : zok (f_HM_readClause tp tape words fr to so wo fa bad nCl nC nL pd opd ncl op ar pl pa) (fun o => CS tp o.1 o.2.1 o.2.2.1 o.2.2.2.2.2.1 o.2.2.2.2.2.2.1 o.2.2.2.2.2.2.2.1 o.2.2.2.2.2.2.2.2.1 o.2.2.2.2.2.2.2.2.2.2.2.1 o.2.2.2.2.2.2.2.2.2.2.2.2.1 o.2.2.2.2.2.2.2.2.2.2.2.2.2.1 ∧ fr ≤ o.1) := by
  obtain ⟨hl, hL, hC, hN, _, hk⟩ := hs
  have hk := hk hb
  have l0 := hl
  obtain ⟨l1, l2, l3, l4, l5, l6⟩ := l0
  have k50 : ∀ x1 s1 : Int, (s1 = 0 ∨ (s1 = 1 ∧ (x1 = 0 ∨ x1 = 1) ∧ nCl ≤ 11)) → zok (f_HM_readClause_50 tp tape words x1 s1 fr to so wo fa bad nCl nC nL pd opd ncl op ar pl pa) (fun o => CS tp o.1 o.2.1 o.2.2.1 o.2.2.2.2.2.1 o.2.2.2.2.2.2.1 o.2.2.2.2.2.2.2.1 o.2.2.2.2.2.2.2.2.1 o.2.2.2.2.2.2.2.2.2.2.2.1 o.2.2.2.2.2.2.2.2.2.2.2.2.1 o.2.2.2.2.2.2.2.2.2.2.2.2.2.1 ∧ fr ≤ o.1) := by
    intro x1 s1 h1
    unfold f_HM_readClause_50
    refine zk_d6 (z_must s1 tp tape fr to so wo fa bad (by omega) ht hT hl hb) (fun v1 v2 v3 v4 v5 v6 hp6 => ?_)
    dsimp only at hp6
    obtain ⟨m1, m2⟩ := hp6
    refine zk_ifc (zci_eqr (by omega)) (fun hc => ?_) (fun hc => ?_)
    · refine zk_n ?_
      refine zok_mono (z_c71 nCl (by omega) tp tape words ht hT zfu x1 _ 0 v1 v2 v3 v4 v5 v6 nCl nC nL pd opd ncl op ar pl pa (by omega) rfl rfl (by omega) m1 hL (by omega) hc hk (by unfold zfu; omega)) (fun o ho => ⟨ho.1, by have := ho.2; omega⟩)
    · exact zk_ret ⟨⟨m1, hL, by dsimp only; omega, hN, by dsimp only; omega, fun h => absurd (show v6 = 0 from h) hc⟩, by dsimp only; omega⟩
  have k29 : ∀ x1 : Int, (x1 = -1 ∨ x1 = 0 ∨ x1 = 1) → zok (f_HM_readClause_29 tp tape words x1 fr to so wo fa bad nCl nC nL pd opd ncl op ar pl pa) (fun o => CS tp o.1 o.2.1 o.2.2.1 o.2.2.2.2.2.1 o.2.2.2.2.2.2.1 o.2.2.2.2.2.2.2.1 o.2.2.2.2.2.2.2.2.1 o.2.2.2.2.2.2.2.2.2.2.2.1 o.2.2.2.2.2.2.2.2.2.2.2.2.1 o.2.2.2.2.2.2.2.2.2.2.2.2.2.1 ∧ fr ≤ o.1) := by
    intro x1 h1
    unfold f_HM_readClause_29
    refine zk_ifc (zci_eq (by omega) (by omega)) (fun hc => ?_) (fun hc => ?_)
    · unfold f_HM_readClause_49
      exact k50 _ _ (Or.inl rfl)
    · refine zk_ifc (zci_le (by omega) (by omega)) (fun hc1 => ?_) (fun hc1 => ?_)
      · unfold f_HM_readClause_49
        exact k50 _ _ (Or.inl rfl)
      · exact k50 _ _ (Or.inr ⟨rfl, by omega, by omega⟩)
  unfold f_HM_readClause
  refine zk_d1 (s_HM_isWord _ _ _ (by omega)) (fun v1 hp => ?_)
  try dsimp only at hp
  refine zk_ifc (zci_eqr (by omega)) (fun hc => ?_) (fun hc => ?_)
  · refine zk_d1 (s_HM_isWord _ _ _ (by omega)) (fun v2 hp2 => ?_)
    try dsimp only at hp2
    refine zk_ifc (zci_eqr (by omega)) (fun hc1 => ?_) (fun hc1 => ?_)
    · exact k29 _ (by omega)
    · exact k29 _ (by omega)
  · exact k29 _ (by omega)
/-- what law() leaves: the numbers of laws, the row, by the clauses read -/
noncomputable def LPP (row0 : Nat → Int) (ans st bad nCl nC : Int) (R ncl op ar : Nat → Int) : Prop :=
  (row0 3 = 6 ∧ ans = -5 ∧ st = -5 ∧ R = row0) ∨ (row0 3 ≠ 6 ∧ bad = 1 ∧ ans = -6 ∧ st = -6 ∧ R = row0) ∨
  (row0 3 ≠ 6 ∧ bad = 0 ∧ ans = row0 3 ∧ st = 0 ∧ R 3 = row0 3 + 1 ∧ (∀ j, j < 180 + 900 * (row0 3).toNat → j ≠ 3 → R j = row0 j) ∧ R (181 + 900 * (row0 3).toNat) = nCl ∧ (∀ j, j < 8 * nCl.toNat → R (182 + 900 * (row0 3).toNat + j) = ncl j) ∧ ∀ k, k < nC.toNat → R (278 + 900 * (row0 3).toNat + 2 * k) = op k ∧ R (279 + 900 * (row0 3).toNat + 2 * k) = ar k)
theorem CWF_of {op ar t : Nat → Int} {s e m : Nat} (h : CW op ar s e) (he : e ≤ m) (hm : m ≤ 400) (g : ∀ k, k < m → t (98 + 2 * k) = op k ∧ t (99 + 2 * k) = ar k) : CWF t s e := by
  obtain ⟨h1, D, h2, h3, h4⟩ := h
  refine ⟨h1, by omega, D, h2, fun k k1 k2 => by have := h3 k k1 k2; omega, fun k k1 k2 => ?_⟩
  have hz := h4 k k1 k2
  unfold zcs at hz ⊢
  dsimp only at hz
  rw [show (98 + 2 * k) % 2 = 0 by omega, show (99 + 2 * k) % 2 = 1 by omega, show (98 + 2 * k - 98) / 2 = k by omega, show (99 + 2 * k - 98) / 2 = k by omega] at hz
  rw [if_pos rfl, if_neg (by decide)] at hz
  rw [(g k (by omega)).1, (g k (by omega)).2]
  exact hz
theorem RI_law {row0 row ncl op ar : Nat → Int} {l nCl nC : Nat} (h0 : RI row0) (hl : row0 3 = (l : Int)) (h5 : l ≤ 5) (hn : nCl ≤ 12) (hc : nC ≤ 400) (hk : KI nCl nC ncl op ar) (h1 : ∀ j, j < 181 + 900 * l → row j = row0 j) (h2 : row (181 + 900 * l) = (nCl : Int)) (h3 : ∀ j, j < 8 * nCl → row (182 + 900 * l + j) = ncl j) (h4 : ∀ k, k < nC → row (278 + 900 * l + 2 * k) = op k ∧ row (279 + 900 * l + 2 * k) = ar k) : RI (zu row 3 ((l : Int) + 1)) := by
  have hb := h0.1
  have hf := h0.2.1
  refine ⟨fun j hj => ?_, ?_, fun k hk2 => ?_⟩
  · by_cases e : j = 3
    · subst e
      rw [zu_eq]
      have e1 : zlo 3 = 0 := rfl
      have e2 : zhi 3 = 6 := rfl
      omega
    · rw [zu_ne _ _ e, h1 j (by omega)]; exact hb j hj
  · rw [zu_eq, zu_ne _ _ (by decide), h1 4 (by omega)]; omega
  · rw [zu_eq] at hk2
    by_cases e : k = l
    · subst e
      refine ⟨?_, ?_, fun c hc2 => ?_⟩
      · show 0 ≤ zu row 3 _ (180 + 900 * k + 1)
        rw [zu_ne _ _ (by omega), show 180 + 900 * k + 1 = 181 + 900 * k by omega, h2]; omega
      · show zu row 3 _ (180 + 900 * k + 1) ≤ 12
        rw [zu_ne _ _ (by omega), show 180 + 900 * k + 1 = 181 + 900 * k by omega, h2]; omega
      · have hc3 : (c : Int) < zu row 3 ((k : Int) + 1) (180 + 900 * k + 1) := hc2
        rw [zu_ne _ _ (by omega), show 180 + 900 * k + 1 = 181 + 900 * k by omega, h2] at hc3
        obtain ⟨q0, s1, e1, s2, e2, q1, q2, q3, q4, q5, q6, q7, q8⟩ := hk c (by omega)
        have g : ∀ i, i < nC → (fun j => zu row 3 ((k : Int) + 1) (180 + 900 * k + j)) (98 + 2 * i) = op i ∧ (fun j => zu row 3 ((k : Int) + 1) (180 + 900 * k + j)) (99 + 2 * i) = ar i := by
          intro i hi
          have a := h4 i hi
          dsimp only
          rw [zu_ne _ _ (by omega), zu_ne _ _ (by omega), show 180 + 900 * k + (98 + 2 * i) = 278 + 900 * k + 2 * i by omega, show 180 + 900 * k + (99 + 2 * i) = 279 + 900 * k + 2 * i by omega]
          exact a
        have w : ∀ i, i < 8 * nCl → zu row 3 ((k : Int) + 1) (180 + 900 * k + (2 + i)) = ncl i := by
          intro i hi
          rw [zu_ne _ _ (by omega), show 180 + 900 * k + (2 + i) = 182 + 900 * k + i by omega]
          exact h3 i hi
        refine ⟨s1, e1, s2, e2, ?_, ?_, ?_, ?_, ?_, CWF_of q7 q5 hc g, CWF_of q8 q6 hc g⟩
        · dsimp only
          rw [w (8 * c) (by omega)]; exact q0
        · dsimp only
          rw [show 5 + 8 * c = 2 + (8 * c + 3) by omega, w _ (by omega)]; exact q1
        · dsimp only
          rw [show 6 + 8 * c = 2 + (8 * c + 4) by omega, w _ (by omega)]; exact q2
        · dsimp only
          rw [show 7 + 8 * c = 2 + (8 * c + 5) by omega, w _ (by omega)]; exact q3
        · dsimp only
          rw [show 8 + 8 * c = 2 + (8 * c + 6) by omega, w _ (by omega)]; exact q4
    · refine LWF_ext (h0.2.2 k (by omega)) (fun j hj => ?_)
      rw [zu_ne _ _ (by omega), h1 _ (by omega)]
theorem z_l180 (tape words row0 ncl op ar : Nat → Int) (l : Nat) (nCl nC : Int) (h0 : RI row0) (hl : row0 3 = (l : Int)) (h5 : l ≤ 5) (hn : 0 ≤ nCl ∧ nCl ≤ 12) (hc : 0 ≤ nC ∧ nC ≤ 400) (hk : KI nCl.toNat nC.toNat ncl op ar) : ∀ (n : Nat) (x1 x2 th st tp fr to so wo fa bad nL pd opd : Int) (rf row pl pa : Nat → Int), x1 = 180 + 900 * (l : Int) → (0 ≤ x2 ∧ x2 ≤ nC) → tp = 0 ∧ bad = 0 → (∀ j, j < 181 + 900 * l → row j = row0 j) → row (181 + 900 * l) = nCl → (∀ j, j < 8 * nCl.toNat → row (182 + 900 * l + j) = ncl j) → (∀ k, k < x2.toNat → row (278 + 900 * l + 2 * k) = op k ∧ row (279 + 900 * l + 2 * k) = ar k) → nC + 1 - x2 ≤ (n : Int) → zok (f_HM_law_180 tape words n x1 x2 th st tp fr to so wo fa bad nCl nC nL pd opd rf row ncl op ar pl pa) (fun o => RI o.2.2.2.2.2.2.2.2.2.2.2.2.2.2.2.2.1 ∧ o.2.2.2.1 = 0 ∧ LPP row0 o.1 o.2.2.1 o.2.2.2.2.2.2.2.2.2.1 o.2.2.2.2.2.2.2.2.2.2.1 o.2.2.2.2.2.2.2.2.2.2.2.1 o.2.2.2.2.2.2.2.2.2.2.2.2.2.2.2.2.1 o.2.2.2.2.2.2.2.2.2.2.2.2.2.2.2.2.2.1 o.2.2.2.2.2.2.2.2.2.2.2.2.2.2.2.2.2.2.1 o.2.2.2.2.2.2.2.2.2.2.2.2.2.2.2.2.2.2.2.1) := by
  intro n
  induction n with
  | zero => intro x1 x2 th st tp fr to so wo fa bad nL pd opd rf row pl pa e1 h2 ht r1 r2 r3 r4 hm; exfalso; omega
  | succ n ih =>
    intro x1 x2 th st tp fr to so wo fa bad nL pd opd rf row pl pa e1 h2 ht r1 r2 r3 r4 hm
    show zok (f_HM_law_180_b tape words (f_HM_law_180 tape words n) x1 x2 th st tp fr to so wo fa bad nCl nC nL pd opd rf row ncl op ar pl pa) _
    unfold f_HM_law_180_b
    refine zk_ifc (zci_le (by omega) (by omega)) (fun hc1 => ?_) (fun hc1 => ?_)
    · have e : x2 = nC := by omega
      subst e
      have r33 := r1 3 (by omega)
      refine zk_gl 3 rfl (by decide) (by decide) (fun v1 h_v1 => ?_)
      have ev : v1 = (l : Int) := by omega
      refine zk_n ?_
      refine zk_sl 3 rfl (by decide) (by decide) (fun a3 h_a3 => ?_)
      have hR : RI a3 := by
        rw [h_a3, ev]
        exact RI_law h0 hl h5 (by omega) (by omega) hk r1 (by omega) r3 r4
      have z3 := zu_rd h_a3 3
      refine zk_gl 3 rfl (by decide) (by decide) (fun v4 h_v4 => ?_)
      refine zk_n ?_
      have hv : v4 - 1 = (l : Int) := by omega
      refine zk_d3 (s_HM_tell _ _ _ (by omega)) (fun v6 v7 a8 hq => ?_)
      try dsimp only at hq
      have er : (row0 3).toNat = l := by omega
      refine zk_ret ⟨hR, ht.1, Or.inr (Or.inr ⟨by omega, ht.2, by dsimp only; omega, by dsimp only; omega, by dsimp only; rw [h_a3, zu_eq]; omega, ?_, ?_, ?_, ?_⟩)⟩
      · intro j h1 h2
        dsimp only
        rw [er] at h1
        have := zu_rd h_a3 j
        have := r1 j (by omega)
        omega
      · dsimp only
        rw [er, h_a3, zu_ne _ _ (by omega)]; exact r2
      · intro j h1
        dsimp only at h1 ⊢
        rw [er, h_a3, zu_ne _ _ (by omega)]; exact r3 j h1
      · intro k h1
        dsimp only at h1 ⊢
        rw [er, h_a3, zu_ne _ _ (by omega), zu_ne _ _ (by omega)]; exact r4 k h1
    · refine zk_n ?_
      refine zk_n ?_
      refine zk_n ?_
      refine zk_gv (by omega) (by decide) (fun v12 h_v12 => ?_)
      refine zk_sv (by omega) (by decide) (fun a13 h_a13 => ?_)
      refine zk_n ?_
      refine zk_n ?_
      refine zk_n ?_
      refine zk_n ?_
      refine zk_gv (by omega) (by decide) (fun v18 h_v18 => ?_)
      refine zk_sv (by omega) (by decide) (fun a19 h_a19 => ?_)
      refine zk_n ?_
      have z := fun j => zu_rd h_a13 j
      have y := fun j => zu_rd h_a19 j
      refine ih _ _ _ _ _ _ _ _ _ _ _ _ _ _ _ _ _ _ e1 (by omega) ht (fun j hj => ?_) ?_ (fun j hj => ?_) (fun k hk3 => ?_) (by omega)
      · have := z j; have := y j; have := r1 j hj; omega
      · have := z (181 + 900 * l); have := y (181 + 900 * l); omega
      · have := z (182 + 900 * l + j); have := y (182 + 900 * l + j); have := r3 j hj; omega
      · by_cases q : k = x2.toNat
        · subst q
          have a1 := z (278 + 900 * l + 2 * x2.toNat)
          have a2 := y (278 + 900 * l + 2 * x2.toNat)
          have a3 := y (279 + 900 * l + 2 * x2.toNat)
          omega
        · have a0 := r4 k (by omega)
          have a1 := z (278 + 900 * l + 2 * k)
          have a2 := y (278 + 900 * l + 2 * k)
          have a3 := y (279 + 900 * l + 2 * k)
          have a4 := z (279 + 900 * l + 2 * k)
          omega
theorem z_l145 (tape words row0 ncl op ar : Nat → Int) (l : Nat) (nCl nC : Int) (h0 : RI row0) (hl : row0 3 = (l : Int)) (h5 : l ≤ 5) (hn : 0 ≤ nCl ∧ nCl ≤ 12) (hc : 0 ≤ nC ∧ nC ≤ 400) (hk : KI nCl.toNat nC.toNat ncl op ar) : ∀ (n : Nat) (x1 x2 th st tp fr to so wo fa bad nL pd opd : Int) (rf row pl pa : Nat → Int), x1 = 180 + 900 * (l : Int) → (0 ≤ x2 ∧ x2 ≤ 8 * nCl) → tp = 0 ∧ bad = 0 → (∀ j, j < 181 + 900 * l → row j = row0 j) → row (181 + 900 * l) = nCl → (∀ j, j < x2.toNat → row (182 + 900 * l + j) = ncl j) → 97 - x2 ≤ (n : Int) → zok (f_HM_law_145 tape words n x1 x2 th st tp fr to so wo fa bad nCl nC nL pd opd rf row ncl op ar pl pa) (fun o => RI o.2.2.2.2.2.2.2.2.2.2.2.2.2.2.2.2.1 ∧ o.2.2.2.1 = 0 ∧ LPP row0 o.1 o.2.2.1 o.2.2.2.2.2.2.2.2.2.1 o.2.2.2.2.2.2.2.2.2.2.1 o.2.2.2.2.2.2.2.2.2.2.2.1 o.2.2.2.2.2.2.2.2.2.2.2.2.2.2.2.2.1 o.2.2.2.2.2.2.2.2.2.2.2.2.2.2.2.2.2.1 o.2.2.2.2.2.2.2.2.2.2.2.2.2.2.2.2.2.2.1 o.2.2.2.2.2.2.2.2.2.2.2.2.2.2.2.2.2.2.2.1) := by
  intro n
  induction n with
  | zero => intro x1 x2 th st tp fr to so wo fa bad nL pd opd rf row pl pa e1 h2 ht r1 r2 r3 hm; exfalso; omega
  | succ n ih =>
    intro x1 x2 th st tp fr to so wo fa bad nL pd opd rf row pl pa e1 h2 ht r1 r2 r3 hm
    show zok (f_HM_law_145_b tape words (f_HM_law_145 tape words n) x1 x2 th st tp fr to so wo fa bad nCl nC nL pd opd rf row ncl op ar pl pa) _
    unfold f_HM_law_145_b
    refine zk_n ?_
    refine zk_ifc (zci_le (by omega) (by omega)) (fun hc1 => ?_) (fun hc1 => ?_)
    · exact z_l180 tape words row0 ncl op ar l nCl nC h0 hl h5 hn hc hk zfu _ _ _ _ _ _ _ _ _ _ _ _ _ _ _ _ _ _ e1 (by omega) ht r1 r2 (fun j hj => r3 j (by omega)) (fun k hk3 => absurd hk3 (Nat.not_lt_zero k)) (by unfold zfu; omega)
    · refine zk_n ?_
      refine zk_n ?_
      refine zk_gv (by omega) (by decide) (fun v4 h_v4 => ?_)
      refine zk_sv (by omega) (by decide) (fun a5 h_a5 => ?_)
      refine zk_n ?_
      have z := fun j => zu_rd h_a5 j
      refine ih _ _ _ _ _ _ _ _ _ _ _ _ _ _ _ _ _ _ e1 (by omega) ht (fun j hj => ?_) ?_ (fun j hj => ?_) (by omega)
      · have := z j; have := r1 j hj; omega
      · have := z (181 + 900 * l); omega
      · by_cases q : j = x2.toNat
        · subst q
          have := z (182 + 900 * l + x2.toNat)
          omega
        · have := z (182 + 900 * l + j); have := r3 j (by omega); omega
theorem z_l97 (tape words : Nat → Int) (th st tp fr to so wo fa bad nCl nC nL pd opd : Int) (rf row ncl op ar pl pa : Nat → Int) (ht : 0 ≤ tp ∧ tp ≤ 400) (hs : CS tp fr to so bad nCl nC nL ncl op ar) (h0 : RI row) (h3 : row 3 ≠ 6) : zok (f_HM_law_97 tape words th st tp fr to so wo fa bad nCl nC nL pd opd rf row ncl op ar pl pa) (fun o => RI o.2.2.2.2.2.2.2.2.2.2.2.2.2.2.2.2.1 ∧ o.2.2.2.1 = 0 ∧ LPP row o.1 o.2.2.1 o.2.2.2.2.2.2.2.2.2.1 o.2.2.2.2.2.2.2.2.2.2.1 o.2.2.2.2.2.2.2.2.2.2.2.1 o.2.2.2.2.2.2.2.2.2.2.2.2.2.2.2.2.1 o.2.2.2.2.2.2.2.2.2.2.2.2.2.2.2.2.2.1 o.2.2.2.2.2.2.2.2.2.2.2.2.2.2.2.2.2.2.1 o.2.2.2.2.2.2.2.2.2.2.2.2.2.2.2.2.2.2.2.1) := by
  obtain ⟨hl, hL, hC, hN, hb, hk⟩ := hs
  have l0 := hl
  obtain ⟨l1, l2, l3, l4, l5, l6⟩ := l0
  have q3 := RI_3 h0
  unfold f_HM_law_97
  refine zk_ifc (zci_eqr (by clear hk; omega)) (fun hc1 => ?_) (fun hc1 => ?_)
  · have hk := hk hc1
    refine zk_gl 3 rfl (by decide) (by decide) (fun v1 h_v1 => ?_)
    refine zk_n ?_
    refine zk_n ?_
    refine zk_n ?_
    refine zk_sv (by omega) (by decide) (fun a5 h_a5 => ?_)
    have z := fun j => zu_rd h_a5 j
    refine z_l145 tape words row ncl op ar v1.toNat nCl nC h0 (by omega) (by omega) hN (by omega) hk zfu _ _ _ _ _ _ _ _ _ _ _ _ _ _ _ _ _ _ (by omega) (by omega) ⟨rfl, hc1⟩ (fun j hj => ?_) ?_ (fun j hj => absurd hj (Nat.not_lt_zero j)) (by unfold zfu; omega)
    · have := z j; omega
    · have := z (181 + 900 * v1.toNat); omega
  · refine zk_d3 (s_HM_tell _ _ _ (by clear hk; omega)) (fun v6 v7 a8 hq => ?_)
    try dsimp only at hq
    clear hk
    exact zk_ret ⟨h0, rfl, Or.inr (Or.inl ⟨h3, by dsimp only; omega, by dsimp only; omega, by dsimp only; omega, rfl⟩)⟩
theorem z_l78 (tape words : Nat → Int) (th st tp fr to so wo fa bad nCl nC nL pd opd : Int) (rf row ncl op ar pl pa : Nat → Int) (ht : 0 ≤ tp ∧ tp ≤ 400) (hT : zR tape 0 255) (hs : CS tp fr to so bad nCl nC nL ncl op ar) (h0 : RI row) (h3 : row 3 ≠ 6) : zok (f_HM_law_78 tape words th st tp fr to so wo fa bad nCl nC nL pd opd rf row ncl op ar pl pa) (fun o => RI o.2.2.2.2.2.2.2.2.2.2.2.2.2.2.2.2.1 ∧ o.2.2.2.1 = 0 ∧ LPP row o.1 o.2.2.1 o.2.2.2.2.2.2.2.2.2.1 o.2.2.2.2.2.2.2.2.2.2.1 o.2.2.2.2.2.2.2.2.2.2.2.1 o.2.2.2.2.2.2.2.2.2.2.2.2.2.2.2.2.1 o.2.2.2.2.2.2.2.2.2.2.2.2.2.2.2.2.2.1 o.2.2.2.2.2.2.2.2.2.2.2.2.2.2.2.2.2.2.1 o.2.2.2.2.2.2.2.2.2.2.2.2.2.2.2.2.2.2.2.1) := by
  have hs0 := hs
  obtain ⟨hl, hL, hC, hN, hb, hk⟩ := hs
  have l0 := hl
  obtain ⟨l1, l2, l3, l4, l5, l6⟩ := l0
  clear hk
  unfold f_HM_law_78
  refine zk_ifc (zci_ner (by omega)) (fun hc1 => ?_) (fun hc1 => ?_)
  · exact z_l97 tape words th st tp fr to so wo fa bad nCl nC nL pd opd rf row ncl op ar pl pa ht hs0 h0 h3
  · refine zk_ifc (zci_eqr (by omega)) (fun hc2 => ?_) (fun hc2 => ?_)
    · exact z_l97 tape words th st tp fr to so wo fa bad nCl nC nL pd opd rf row ncl op ar pl pa ht hs0 h0 h3
    · refine zk_d6 (z_must 0 tp tape fr to so wo fa bad (Or.inl rfl) ht hT hl (by omega)) (fun v1 v2 v3 v4 v5 v6 hp6 => ?_)
      dsimp only at hp6
      obtain ⟨m1, m2⟩ := hp6
      exact z_l97 tape words th st tp v1 v2 v3 v4 v5 v6 nCl nC nL pd opd rf row ncl op ar pl pa ht ⟨m1, hL, by omega, hN, by omega, fun h => absurd h (by omega)⟩ h0 h3
theorem z_l51 (tape words : Nat → Int) (tp : Int) (ht : 0 ≤ tp ∧ tp ≤ 400) (hT : zR tape 0 255) (row : Nat → Int) (h0 : RI row) (h3 : row 3 ≠ 6) : ∀ (n : Nat) (th st fr to so wo fa bad nCl nC nL pd opd : Int) (rf ncl op ar pl pa : Nat → Int), CS tp fr to so bad nCl nC nL ncl op ar → (1 ≤ n ∧ (bad = 1 ∨ tp - fr + 2 ≤ (n : Int))) → zok (f_HM_law_51 tape words n th st tp fr to so wo fa bad nCl nC nL pd opd rf row ncl op ar pl pa) (fun o => RI o.2.2.2.2.2.2.2.2.2.2.2.2.2.2.2.2.1 ∧ o.2.2.2.1 = 0 ∧ LPP row o.1 o.2.2.1 o.2.2.2.2.2.2.2.2.2.1 o.2.2.2.2.2.2.2.2.2.2.1 o.2.2.2.2.2.2.2.2.2.2.2.1 o.2.2.2.2.2.2.2.2.2.2.2.2.2.2.2.2.1 o.2.2.2.2.2.2.2.2.2.2.2.2.2.2.2.2.2.1 o.2.2.2.2.2.2.2.2.2.2.2.2.2.2.2.2.2.2.1 o.2.2.2.2.2.2.2.2.2.2.2.2.2.2.2.2.2.2.2.1) := by
  intro n
  induction n with
  | zero => intro th st fr to so wo fa bad nCl nC nL pd opd rf ncl op ar pl pa hs hm; exact absurd hm.1 (by decide)
  | succ n ih =>
    intro th st fr to so wo fa bad nCl nC nL pd opd rf ncl op ar pl pa hs hm
    show zok (f_HM_law_51_b tape words (f_HM_law_51 tape words n) th st tp fr to so wo fa bad nCl nC nL pd opd rf row ncl op ar pl pa) _
    have hs0 := hs
    obtain ⟨hl, hL, hC, hN, hb, hk⟩ := hs
    have l0 := hl
    obtain ⟨l1, l2, l3, l4, l5, l6⟩ := l0
    unfold f_HM_law_51_b
    refine zk_ifc (zci_ner (by clear hk; omega)) (fun hc1 => ?_) (fun hc1 => ?_)
    · exact z_l78 tape words th st tp fr to so wo fa bad nCl nC nL pd opd rf row ncl op ar pl pa ht hT hs0 h0 h3
    · refine zk_d1 (s_HM_isSign _ _ _ (by omega) (by omega)) (fun v1 hp => ?_)
      try dsimp only at hp
      refine zk_ifc (zci_eqr (by clear hk; omega)) (fun hc2 => ?_) (fun hc2 => ?_)
      · exact z_l78 tape words th st tp fr to so wo fa bad nCl nC nL pd opd rf row ncl op ar pl pa ht hT hs0 h0 h3
      · refine zk_d4 (z_next tp tape fr to so wo ht hT hl) (fun w1 w2 w3 w4 hn1 => ?_)
        dsimp only at hn1
        obtain ⟨n1, n2⟩ := hn1
        refine zk_d16 (z_clause tp tape words w1 w2 w3 w4 fa bad nCl nC nL pd opd ncl op ar pl pa ht hT ⟨n1, hL, by clear hk; omega, hN, hb, hk⟩ (by clear hk; omega)) (fun u1 u2 u3 u4 u5 u6 u7 u8 u9 u10 u11 a1 a2 a3 a4 a5 hq => ?_)
        dsimp only at hq
        obtain ⟨q1, q2⟩ := hq
        have l7 := n1.2.1
        have l8 := n1.2.2.1
        refine ih _ _ _ _ _ _ _ _ _ _ _ _ _ _ _ _ _ _ _ q1 ?_
        clear hk hs0 ih
        omega
theorem s_HM_law (tape words : Nat → Int) (th st tp fr to so wo fa bad nCl nC nL pd opd : Int) (rf row ncl op ar pl pa : Nat → Int) (ht : 0 ≤ tp ∧ tp ≤ 400) (hT : zR tape 0 255) (h0 : RI row) : zok (f_HM_law tape words th st tp fr to so wo fa bad nCl nC nL pd opd rf row ncl op ar pl pa) (fun o => RI o.2.2.2.2.2.2.2.2.2.2.2.2.2.2.2.2.1 ∧ o.2.2.2.1 = 0 ∧ LPP row o.1 o.2.2.1 o.2.2.2.2.2.2.2.2.2.1 o.2.2.2.2.2.2.2.2.2.2.1 o.2.2.2.2.2.2.2.2.2.2.2.1 o.2.2.2.2.2.2.2.2.2.2.2.2.2.2.2.2.1 o.2.2.2.2.2.2.2.2.2.2.2.2.2.2.2.2.2.1 o.2.2.2.2.2.2.2.2.2.2.2.2.2.2.2.2.2.2.1 o.2.2.2.2.2.2.2.2.2.2.2.2.2.2.2.2.2.2.2.1) := by
  have q3 := RI_3 h0
  unfold f_HM_law
  refine zk_gl 3 rfl (by decide) (by decide) (fun v1 h_v1 => ?_)
  refine zk_ifc (zci_ne (by omega) (by omega)) (fun hc1 => ?_) (fun hc1 => ?_)
  · have hb : zok (f_HM_begin tp tape fr to so wo fa bad) (fun o => LX tp o.1 o.2.1 o.2.2.1 ∧ o.2.2.2.2.2 = 0) := by
      unfold f_HM_begin
      refine zk_d4 (s_HM_next tp tape fr 0 so wo (by omega) hT (by omega) (by omega)) (fun w1 w2 w3 w4 hn1 => ?_)
      dsimp only at hn1
      obtain ⟨p0, p1, p2, p3⟩ := hn1
      exact zk_ret ⟨by unfold LX; dsimp only; omega, rfl⟩
    refine zk_d6 hb (fun w1 w2 w3 w4 w5 w6 hq => ?_)
    dsimp only at hq
    obtain ⟨m1, m2⟩ := hq
    have l1 := m1.1
    refine zk_d16 (z_clause tp tape words w1 w2 w3 w4 w5 w6 0 0 0 pd opd ncl op ar pl pa ht hT ⟨m1, by decide, by omega, by decide, Or.inl m2, fun _ c hc => absurd hc (Nat.not_lt_zero c)⟩ m2) (fun u1 u2 u3 u4 u5 u6 u7 u8 u9 u10 u11 a1 a2 a3 a4 a5 hq => ?_)
    dsimp only at hq
    obtain ⟨q1, q2⟩ := hq
    have l2 := q1.1.1
    exact z_l51 tape words tp ht hT row h0 (by omega) zfu _ _ _ _ _ _ _ _ _ _ _ _ _ _ _ _ _ _ _ q1 ⟨by unfold zfu; omega, Or.inr (by unfold zfu; omega)⟩
  · refine zk_d3 (s_HM_tell _ _ _ (by omega)) (fun v6 v7 a8 hq => ?_)
    try dsimp only at hq
    exact zk_ret ⟨h0, rfl, Or.inl ⟨by omega, by dsimp only; omega, by dsimp only; omega, rfl⟩⟩
end
