theorem zmv_perm {n : Nat} {sm ta sm' ta' : Nat → Int} (h : zSm n sm ta) {f t : Nat} (hf : f < 4) (ht : t < 4) (hft : f ≠ t) (hh : 1 ≤ ta f) (h1 : ta' f = ta f - 1) (h2 : ta' t = ta t + 1) (h3 : ∀ c, c ≠ f → c ≠ t → ta' c = ta c) (h4 : ∀ i, i ≠ 5 * t + (ta t).toNat → sm' i = sm i) (h5 : sm' (5 * t + (ta t).toNat) = sm (5 * f + ((ta f).toNat - 1))) : zSm n sm' ta' := by
  have cf := zSm_c h hf
  have ct := zSm_c h ht
  have cs : ta f + ta t ≤ 5 := by
    have s := zSm_t h
    have s1 := h.1
    have s2 := h.2.1
    have u1 : f = 0 ∨ f = 1 ∨ f = 2 ∨ f = 3 := by omega
    have u2 : t = 0 ∨ t = 1 ∨ t = 2 ∨ t = 3 := by omega
    rcases u1 with q | q | q | q <;> subst q <;> rcases u2 with q | q | q | q <;> subst q <;> omega
  obtain ⟨k, hk⟩ : ∃ k : Nat, (ta f).toNat = k + 1 := ⟨(ta f).toNat - 1, by omega⟩
  have gf : ∀ a : Int, (zcol sm f (ta f).toNat).count a = (zcol sm' f (ta' f).toNat).count a + ([sm (5 * f + k) + 1] : List Int).count a := by
    intro a
    have e : (ta' f).toNat = k := by omega
    have e2 : zcol sm' f k = zcol sm f k := zcol_ext (fun i hi => h4 _ (by omega))
    rw [hk, e, e2, zcol_s, List.count_append]
  have gt : ∀ a : Int, (zcol sm' t (ta' t).toNat).count a = (zcol sm t (ta t).toNat).count a + ([sm (5 * f + k) + 1] : List Int).count a := by
    intro a
    have e : (ta' t).toNat = (ta t).toNat + 1 := by omega
    have e2 : zcol sm' t (ta t).toNat = zcol sm t (ta t).toNat := zcol_ext (fun i hi => h4 _ (by omega))
    have e3 : (ta f).toNat - 1 = k := by omega
    rw [e, zcol_s, e2, h5, e3, List.count_append]
  have go : ∀ c, c < 4 → c ≠ f → c ≠ t → ∀ a : Int, (zcol sm' c (ta' c).toNat).count a = (zcol sm c (ta c).toNat).count a := by
    intro c hc q1 q2 a
    have cc := zSm_c h hc
    rw [h3 c q1 q2, zcol_ext (sm := sm) (sm' := sm') (fun i hi => h4 _ (by omega))]
  have hp : (zdig sm' ta').Perm (zdig sm ta) := by
    rw [List.perm_iff_count]
    intro a
    rw [zdig_count, zdig_count]
    have a1 := gf a
    have a2 := gt a
    have b0 := fun q1 q2 => go 0 (by decide) q1 q2 a
    have b1 := fun q1 q2 => go 1 (by decide) q1 q2 a
    have b2 := fun q1 q2 => go 2 (by decide) q1 q2 a
    have b3 := fun q1 q2 => go 3 (by decide) q1 q2 a
    clear gf gt go h5 hk
    have u1 : f = 0 ∨ f = 1 ∨ f = 2 ∨ f = 3 := by omega
    have u2 : t = 0 ∨ t = 1 ∨ t = 2 ∨ t = 3 := by omega
    rcases u1 with q | q | q | q <;> subst q <;> rcases u2 with q | q | q | q <;> subst q
    all_goals first
      | exact absurd rfl hft
      | (have c0 := b0 (by decide) (by decide); have c1 := b1 (by decide) (by decide); omega)
      | (have c0 := b0 (by decide) (by decide); have c2 := b2 (by decide) (by decide); omega)
      | (have c0 := b0 (by decide) (by decide); have c3 := b3 (by decide) (by decide); omega)
      | (have c1 := b1 (by decide) (by decide); have c2 := b2 (by decide) (by decide); omega)
      | (have c1 := b1 (by decide) (by decide); have c3 := b3 (by decide) (by decide); omega)
      | (have c2 := b2 (by decide) (by decide); have c3 := b3 (by decide) (by decide); omega)
  have nn : ∀ c, c < 4 → 0 ≤ ta' c := by
    intro c hc
    have cc := zSm_c h hc
    by_cases q1 : c = f
    · subst q1; omega
    · by_cases q2 : c = t
      · subst q2; omega
      · rw [h3 c q1 q2]; exact cc.1
  exact ⟨h.1, ⟨nn 0 (by decide), nn 1 (by decide), nn 2 (by decide), nn 3 (by decide)⟩, hp.trans h.2.2⟩
theorem z_moved {n N : Nat} {sm ta st tb row : Nat → Int} (h : zSm n sm ta) (hT : TI n N st tb) (h0 : RI row) (x1 x2 : Int) (e2 : x2 = (N : Int)) (hm : zMv row ta x1) : zok (f_HM_moved x1 x2 st tb sm ta) (fun o => ∃ c, zNP n N st c (o.1, o.2.1, o.2.2.1, o.2.2.2.1)) := by
  obtain ⟨f, t, m1, m2, m3, m4, m5, m6, m7⟩ := hm
  have cf := zSm_c h m2
  have ct := zSm_c h m3
  have cs : ta f + ta t ≤ 5 := by
    have s := zSm_t h
    have s1 := h.1
    have s2 := h.2.1
    have u1 : f = 0 ∨ f = 1 ∨ f = 2 ∨ f = 3 := by omega
    have u2 : t = 0 ∨ t = 1 ∨ t = 2 ∨ t = 3 := by omega
    rcases u1 with q | q | q | q <;> subst q <;> rcases u2 with q | q | q | q <;> subst q <;> omega
  unfold f_HM_moved
  refine zk_g0zi_w (by omega) ?_
  refine zk_nE (fun v1 q1 => ?_)
  rw [zi_div_n (by omega) (by omega)] at q1
  refine zk_g0zi_w (by omega) ?_
  refine zk_nE (fun v2 q2 => ?_)
  rw [zi_rem_n (by omega) (by omega)] at q2
  refine zk_d1 (z_smallTop h v1 f m2 (by omega) m7) (fun v3 p3 => ?_)
  refine zk_gl f (by omega) m2 (by decide) (fun v4 q4 => ?_)
  refine zk_nE (fun v5 q5 => ?_)
  refine zk_sl f (by omega) m2 (by decide) (fun a6 q6 => ?_)
  have r6 := zu_rd q6
  refine zk_nE (fun v7 q7 => ?_)
  refine zk_gl t (by omega) m3 (by decide) (fun v8 q8 => ?_)
  have r8 := r6 t
  refine zk_nE (fun v9 q9 => ?_)
  refine zk_sl (5 * t + (ta t).toNat) (by omega) (by omega) (by decide) (fun a10 q10 => ?_)
  have r10 := zu_rd q10
  refine zk_gl t (by omega) m3 (by decide) (fun v11 q11 => ?_)
  refine zk_nE (fun v12 q12 => ?_)
  refine zk_sl t (by omega) m3 (by decide) (fun a13 q13 => ?_)
  have r13 := zu_rd q13
  have hS : zSm n a10 a13 := by
    refine zmv_perm h m2 m3 m4 m7 ?_ ?_ ?_ ?_ ?_
    · have := r13 f; have := r6 f; omega
    · have := r13 t; omega
    · intro c u1 u2; have := r13 c; have := r6 c; omega
    · intro i hi; have := r10 i; omega
    · have := r10 (5 * t + (ta t).toNat); have := p3.1; omega
  refine zk_d1 (z_codeOfSmall hS) (fun v14 p14 => ?_)
  refine zk_d4 (z_numberOf h.1 hT hS.2.2 v14 x2 p14 e2) (fun v15 v16 a17 a18 p15 => ?_)
  exact zk_ret ⟨v14, p15⟩

