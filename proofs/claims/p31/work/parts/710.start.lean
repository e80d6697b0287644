/-! THE START: the classes, the array classes, what lies beside the worlds -/
theorem zst_AC {s : State} {args : Array Value} {ty : FieldType} (hp : ∀ C, ty ≠ .object C) (h : (Cond.arrayClass ty).before args s = true) : ∃ c : ClassId, ArrOfT s c ty ∧ va_RA s c ty := by
  obtain ⟨c, k, comp, h1, h2, h3⟩ := Cond.arrayClass_spec h
  refine ⟨c, fun n z => ⟨(fun k h => by cases h), k, h2, comp, h3⟩, ?_⟩
  cases ty with
  | object C => exact absurd rfl (hp C)
  | _ => exact h1
theorem zst_AO {s : State} {args : Array Value} {C : String} (h : (Cond.arrayOver (.object C)).before args s = true) : ∃ c : ClassId, ArrOfT s c (.object C) ∧ va_RA s c (.object C) := by
  obtain ⟨comp, c, k, h1, h2, h3, h4, h5⟩ := Cond.arrayOver_spec h
  exact ⟨c, fun n z => ⟨(fun k h => by cases h), k, h3, comp, h4⟩, k, comp, h3, h4, h1, h5⟩
theorem zisN_of {w : Cond} (h : zisN w = true) {A : Array Value} {U : State} (hb : w.before A U = true) : va_Nw w U := by
  cases w <;> first | (cases h; done) | exact va_Nw.of rfl hb | (rename_i ty; cases ty <;> first | (cases h; done) | exact va_AO.of hb)
theorem zSz_of {args : Array Value} {s : State} {tm : Term} {t N : Nat} {A : Nat → Prop} (hN : N < 2147483648) (ht : tm.eval args s none [] s = some (.ref t)) (h : (Term.length tm).eval args s none [] s = some (.int (Int32.ofNat N))) (hA : ∀ a : Nat, a < s.heap.size → ¬ A a) : zSz t N A s.heap := by
  simp only [Term.eval, Option.bind_eq_bind] at h
  rw [ht] at h
  simp only [Option.bind_some] at h
  obtain ⟨cell, hcell, h⟩ := Option.bind_eq_some_iff.mp h
  obtain ⟨hc, -, -, -⟩ := State.arrayAt?_spec hcell
  by_cases hn : cell.slots.size < 2147483648
  · rw [if_pos hn] at h
    have e : cell.slots.size.toInt32 = Int32.ofNat N := Value.int.inj (Option.some.inj h)
    have e2 : (Int32.ofNat cell.slots.size).toNatClampNeg = (Int32.ofNat N).toNatClampNeg := congrArg Int32.toNatClampNeg e
    rw [Int32.toNatClampNeg_ofNat_of_lt hn, Int32.toNatClampNeg_ofNat_of_lt hN] at e2
    exact ⟨cell, hc, e2, hA t (Array.getElem?_eq_some_iff.mp hc).1⟩
  · rw [if_neg hn] at h; cases h
def zgiv : List Cond := flatC (Jvm.Cond.and given_1 narrow_1)
theorem zg_ex : ∀ i : Fin 14, Cond.exactly (.string "HillSchool$LawReader" (zix.getD i.val 0)) "java/lang/String" ∈ zgiv := by decide +kernel
theorem zg_co : ∀ i : Fin 14, Cond.eq (.field (.string "HillSchool$LawReader" (zix.getD i.val 0)) "java/lang/String" "coder" "B") (.int 0) ∈ zgiv := by decide +kernel
theorem zg_ar : ∀ i : Fin 14, Cond.arrayOf (.field (.string "HillSchool$LawReader" (zix.getD i.val 0)) "java/lang/String" "value" "[B") .byte ∈ zgiv := by decide +kernel
theorem zg_le : ∀ i : Fin 14, Cond.eq (.length (.field (.string "HillSchool$LawReader" (zix.getD i.val 0)) "java/lang/String" "value" "[B")) (.int (Int32.ofNat (zlen.getD i.val 0))) ∈ zgiv := by decide +kernel
theorem zg_el : ∀ i : Fin 14, ∀ j : Fin 8, j.val < zlen.getD i.val 0 → Cond.eq (.elem (.field (.string "HillSchool$LawReader" (zix.getD i.val 0)) "java/lang/String" "value" "[B") (.int (Int32.ofNat j.val))) (.int ((zbyt.getD i.val []).getD j.val 0)) ∈ zgiv := by decide +kernel
theorem zg_ne1 : ∀ i : Fin 14, i.val < 1 → Cond.not (Cond.eq (.string "HillSchool$LawReader" (zix.getD i.val 0)) (.string "HillSchool$LawReader" (zix.getD 1 0))) ∈ zgiv := by decide +kernel
theorem zg_ne2 : ∀ i : Fin 14, i.val < 2 → Cond.not (Cond.eq (.string "HillSchool$LawReader" (zix.getD i.val 0)) (.string "HillSchool$LawReader" (zix.getD 2 0))) ∈ zgiv := by decide +kernel
theorem zg_ne3 : ∀ i : Fin 14, i.val < 3 → Cond.not (Cond.eq (.string "HillSchool$LawReader" (zix.getD i.val 0)) (.string "HillSchool$LawReader" (zix.getD 3 0))) ∈ zgiv := by decide +kernel
theorem zg_ne4 : ∀ i : Fin 14, i.val < 4 → Cond.not (Cond.eq (.string "HillSchool$LawReader" (zix.getD i.val 0)) (.string "HillSchool$LawReader" (zix.getD 4 0))) ∈ zgiv := by decide +kernel
theorem zg_ne5 : ∀ i : Fin 14, i.val < 5 → Cond.not (Cond.eq (.string "HillSchool$LawReader" (zix.getD i.val 0)) (.string "HillSchool$LawReader" (zix.getD 5 0))) ∈ zgiv := by decide +kernel
theorem zg_ne6 : ∀ i : Fin 14, i.val < 6 → Cond.not (Cond.eq (.string "HillSchool$LawReader" (zix.getD i.val 0)) (.string "HillSchool$LawReader" (zix.getD 6 0))) ∈ zgiv := by decide +kernel
theorem zg_ne7 : ∀ i : Fin 14, i.val < 7 → Cond.not (Cond.eq (.string "HillSchool$LawReader" (zix.getD i.val 0)) (.string "HillSchool$LawReader" (zix.getD 7 0))) ∈ zgiv := by decide +kernel
theorem zg_ne8 : ∀ i : Fin 14, i.val < 8 → Cond.not (Cond.eq (.string "HillSchool$LawReader" (zix.getD i.val 0)) (.string "HillSchool$LawReader" (zix.getD 8 0))) ∈ zgiv := by decide +kernel
theorem zg_ne9 : ∀ i : Fin 14, i.val < 9 → Cond.not (Cond.eq (.string "HillSchool$LawReader" (zix.getD i.val 0)) (.string "HillSchool$LawReader" (zix.getD 9 0))) ∈ zgiv := by decide +kernel
theorem zg_ne10 : ∀ i : Fin 14, i.val < 10 → Cond.not (Cond.eq (.string "HillSchool$LawReader" (zix.getD i.val 0)) (.string "HillSchool$LawReader" (zix.getD 10 0))) ∈ zgiv := by decide +kernel
theorem zg_ne11 : ∀ i : Fin 14, i.val < 11 → Cond.not (Cond.eq (.string "HillSchool$LawReader" (zix.getD i.val 0)) (.string "HillSchool$LawReader" (zix.getD 11 0))) ∈ zgiv := by decide +kernel
theorem zg_ne12 : ∀ i : Fin 14, i.val < 12 → Cond.not (Cond.eq (.string "HillSchool$LawReader" (zix.getD i.val 0)) (.string "HillSchool$LawReader" (zix.getD 12 0))) ∈ zgiv := by decide +kernel
theorem zg_ne13 : ∀ i : Fin 14, i.val < 13 → Cond.not (Cond.eq (.string "HillSchool$LawReader" (zix.getD i.val 0)) (.string "HillSchool$LawReader" (zix.getD 13 0))) ∈ zgiv := by decide +kernel
theorem zg_lt : ∀ i j : Fin 14, i.val < j.val → Cond.not (Cond.eq (.string "HillSchool$LawReader" (zix.getD i.val 0)) (.string "HillSchool$LawReader" (zix.getD j.val 0))) ∈ zgiv := fun i j h => match j, h with
  | ⟨0, _⟩, h => absurd h (Nat.not_lt_zero _)
  | ⟨1, _⟩, h => zg_ne1 i h
  | ⟨2, _⟩, h => zg_ne2 i h
  | ⟨3, _⟩, h => zg_ne3 i h
  | ⟨4, _⟩, h => zg_ne4 i h
  | ⟨5, _⟩, h => zg_ne5 i h
  | ⟨6, _⟩, h => zg_ne6 i h
  | ⟨7, _⟩, h => zg_ne7 i h
  | ⟨8, _⟩, h => zg_ne8 i h
  | ⟨9, _⟩, h => zg_ne9 i h
  | ⟨10, _⟩, h => zg_ne10 i h
  | ⟨11, _⟩, h => zg_ne11 i h
  | ⟨12, _⟩, h => zg_ne12 i h
  | ⟨13, _⟩, h => zg_ne13 i h
theorem zg_ln : ∀ i : Fin 14, zlen.getD i.val 0 ≤ 8 := by decide +kernel
theorem zg_ta : ∀ i : Fin 3, Cond.arrayOf (.static "HillSchool" (zcname.getD i.val "") "[I") .int ∈ zgiv ∧ Cond.eq (.length (.static "HillSchool" (zcname.getD i.val "") "[I")) (.int (Int32.ofNat 4)) ∈ zgiv ∧ Cond.exactly (.static "HillSchool" (zcname.getD i.val "") "[I") "[I" ∈ zgiv := by decide +kernel
theorem zg_te : ∀ i : Fin 3, ∀ j : Fin 4, Cond.eq (.elem (.static "HillSchool" (zcname.getD i.val "") "[I") (.int (Int32.ofNat j.val))) (.int (za (zk i.val) j.val)) ∈ zgiv := by decide +kernel
theorem zg_cs : Cond.eq (.static "java/lang/String" "COMPACT_STRINGS" "Z") (.int 1) ∈ zgiv ∧ Cond.isRef (.static "jdk/internal/util/Preconditions" "SIOOBE_FORMATTER" "Ljava/util/function/BiFunction;") ∈ zgiv := by decide +kernel
/-- what lies beside the worlds, at the start -/
theorem zE_start {s : State} {args : Array Value} {A : Nat → Prop} (hA : ∀ a : Nat, a < s.heap.size → ¬ A a) (hts : ∀ w ∈ lw_tbl, w.before args s = true) (hgv : (Jvm.Cond.and given_1 narrow_1).before args s = true)
    (hR : ∀ i : Fin 14, Cond.stringRef "HillSchool$LawReader" (zix.getD i.val 0) (ztx.getD i.val "") ∈ lw_tbl) (hL : ∀ i : Fin 3, Cond.laysStatic "HillSchool" (zcname.getD i.val "") "[I" ∈ lw_tbl) (hI : Cond.initialized "HillSchool" ∈ lw_tbl)
    (hC1 : Cond.laysStatic "java/lang/String" "COMPACT_STRINGS" "Z" ∈ lw_tbl) (hC2 : Cond.initialized "java/lang/String" ∈ lw_tbl) (hS1 : Cond.laysStatic "jdk/internal/util/Preconditions" "SIOOBE_FORMATTER" "Ljava/util/function/BiFunction;" ∈ lw_tbl) (hS2 : Cond.initialized "jdk/internal/util/Preconditions" ∈ lw_tbl) : ∃ ev : zEv, zE ev A s s.heap := by
  have hs : ∀ c ∈ zgiv, c.before args s = true := flat_of_before _ hgv
  obtain ⟨adK, adV, hS, hev⟩ := vk_Sof (args := args) (s := s) (N := 14) (tm := fun i => .string "HillSchool$LawReader" (zix.getD i 0)) (len := zlen) (byt := zbyt) (A := A)
    (fun i hi => Nat.lt_of_le_of_lt (zg_ln ⟨i, hi⟩) (by decide)) (fun i hi => hs _ (zg_ex ⟨i, hi⟩)) (fun i hi => hs _ (zg_co ⟨i, hi⟩)) (fun i hi => hs _ (zg_ar ⟨i, hi⟩)) (fun i hi => hs _ (zg_le ⟨i, hi⟩))
    (fun i hi j hj => hs _ (zg_el ⟨i, hi⟩ ⟨j, Nat.lt_of_lt_of_le hj (zg_ln ⟨i, hi⟩)⟩ hj))
    (fun i j hi hj hij => by
      rcases Nat.lt_or_gt_of_ne hij with h | h
      · exact Or.inl (hs _ (zg_lt ⟨i, hi⟩ ⟨j, hj⟩ h))
      · exact Or.inr (hs _ (zg_lt ⟨j, hj⟩ ⟨i, hi⟩ h))) hA
  have hT : ∀ i : Nat, ∃ t : Nat, i < 3 → (va_Z "HillSchool" (zcname.getD i "") "[I" (.ref t) A s s.heap ∧ va_T .int t 4 (fun j => .int (za (zk i) j)) A s s.heap ∧ va_O "[I" t A s s.heap ∧ zSz t 4 A s.heap) := by
    intro i
    by_cases hi : i < 3
    · obtain ⟨h1, h2, h3⟩ := zg_ta ⟨i, hi⟩
      have hlen := va_eqt (hs _ h2)
      obtain ⟨t, ht, hT⟩ := va_Tof (f := fun j => .int (za (zk i) j)) (A := A) (N := 4) (by decide) (hs _ h1) hlen (fun j hj => va_eqt (hs _ (zg_te ⟨i, hi⟩ ⟨j, hj⟩))) hA
      exact ⟨t, fun _ => ⟨va_Zof (hts _ (hL ⟨i, hi⟩)) (hts _ hI) ht hA, hT, va_Oof (hs _ h3) ht hA, zSz_of (by decide) ht hlen hA⟩⟩
    · exact ⟨0, fun h => absurd h hi⟩
  obtain ⟨tf, htf⟩ := Classical.axiomOfChoice hT
  exact ⟨(tf, adK, adV), ⟨fun w hw => zisN_of (znest_is w hw) (hts _ (List.mem_filter.mp hw).1), fun i hi => vk_R.of (hts _ (hR ⟨i, hi⟩)) (hev i hi)⟩, htf, va_Zof (hts _ hC1) (hts _ hC2) (va_eqi (hs _ zg_cs.1)) hA, va_Zqof (hts _ hS1) (hts _ hS2) (hs _ zg_cs.2) hA, hS⟩
