section
/-! THE START: the classes, the array classes, what lies beside the worlds -/
theorem zst_AC {s : State} {args : Array Value} {ty : FieldType} (hp : ∀ C, ty ≠ .object C) (h : (Cond.arrayClass ty).before args s = true) : ∃ c : ClassId, ArrOfT s c ty ∧ va_RA s c ty := by
  obtain ⟨c, k, comp, h1, h2, h3⟩ := Cond.arrayClass_spec h
  refine ⟨c, fun n z => ⟨(fun k h => by cases h), k, h2, comp, h3⟩, ?_⟩
  cases ty with
  | object C => exact absurd rfl (hp C)
  | _ => exact h1
theorem zst_AO {s : State} {args : Array Value} {C : String} (h : (Cond.arrayOver (.object C)).before args s = true) : ∃ c : ClassId, ArrOfT s c (.object C) ∧ va_RA s c (.object C) := by
  obtain ⟨comp, c, k, h1, h2, h3, h4, h5⟩ := Cond.arrayOver_spec h
  exact ⟨c, fun n z => ⟨(fun k h => by cases h), k, h3, comp, h4⟩, k, comp, h3, h4, h1, h5⟩
theorem zisN_of {w : Cond} (h : zisN w = true) {A : Array Value} {U : State} (hb : w.before A U = true) : va_Nw w U := by
  cases w <;> first | (cases h; done) | exact va_Nw.of rfl hb | (rename_i ty; cases ty <;> first | (cases h; done) | exact va_AO.of hb)
theorem zSz_of {args : Array Value} {s : State} {tm : Term} {t N : Nat} {A : Nat → Prop} (hN : N < 2147483648) (ht : tm.eval args s none [] s = some (.ref t)) (h : (Term.length tm).eval args s none [] s = some (.int (Int32.ofNat N))) (hA : ∀ a : Nat, a < s.heap.size → ¬ A a) : zSz t N A s.heap := by
  simp only [Term.eval, Option.bind_eq_bind] at h
  rw [ht] at h
  simp only [Option.bind_some] at h
  obtain ⟨cell, hcell, h⟩ := Option.bind_eq_some_iff.mp h
  obtain ⟨hc, -, -, -⟩ := State.arrayAt?_spec hcell
  by_cases hn : cell.slots.size < 2147483648
  · rw [if_pos hn] at h
    have e : cell.slots.size.toInt32 = Int32.ofNat N := Value.int.inj (Option.some.inj h)
    have e2 : (Int32.ofNat cell.slots.size).toNatClampNeg = (Int32.ofNat N).toNatClampNeg := congrArg Int32.toNatClampNeg e
    rw [Int32.toNatClampNeg_ofNat_of_lt hn, Int32.toNatClampNeg_ofNat_of_lt hN] at e2
    exact ⟨cell, hc, e2, hA t (Array.getElem?_eq_some_iff.mp hc).1⟩
  · rw [if_neg hn] at h; cases h
noncomputable def zgiv : List Cond := flatC (Jvm.Cond.and given_1 narrow_1)
noncomputable def zgl : List Cond := [(Jvm.Cond.count (1 : Nat)),
  (Jvm.Cond.isRef (Jvm.Term.arg (0 : Nat))),
  (Jvm.Cond.arrayOf (Jvm.Term.arg (0 : Nat)) Jvm.ClassFile.FieldType.int),
  (Jvm.Cond.le (Jvm.Term.length (Jvm.Term.arg (0 : Nat))) (Jvm.Term.int (3072 : Int32))),
  (Jvm.Cond.isRef (Jvm.Term.static "HillSchool" "FIRST_TERMS" "[I")),
  (Jvm.Cond.arrayOf (Jvm.Term.static "HillSchool" "FIRST_TERMS" "[I") Jvm.ClassFile.FieldType.int),
  (Jvm.Cond.eq (Jvm.Term.length (Jvm.Term.static "HillSchool" "FIRST_TERMS" "[I")) (Jvm.Term.int (4 : Int32))),
  (Jvm.Cond.eq (Jvm.Term.elem (Jvm.Term.static "HillSchool" "FIRST_TERMS" "[I") (Jvm.Term.int (0 : Int32))) (Jvm.Term.int (0 : Int32))),
  (Jvm.Cond.eq (Jvm.Term.elem (Jvm.Term.static "HillSchool" "FIRST_TERMS" "[I") (Jvm.Term.int (1 : Int32))) (Jvm.Term.int (1 : Int32))),
  (Jvm.Cond.eq (Jvm.Term.elem (Jvm.Term.static "HillSchool" "FIRST_TERMS" "[I") (Jvm.Term.int (2 : Int32))) (Jvm.Term.int (3 : Int32))),
  (Jvm.Cond.eq (Jvm.Term.elem (Jvm.Term.static "HillSchool" "FIRST_TERMS" "[I") (Jvm.Term.int (3 : Int32))) (Jvm.Term.int (1 : Int32))),
  (Jvm.Cond.isRef (Jvm.Term.static "HillSchool" "LEAST_TERMS" "[I")),
  (Jvm.Cond.arrayOf (Jvm.Term.static "HillSchool" "LEAST_TERMS" "[I") Jvm.ClassFile.FieldType.int),
  (Jvm.Cond.eq (Jvm.Term.length (Jvm.Term.static "HillSchool" "LEAST_TERMS" "[I")) (Jvm.Term.int (4 : Int32))),
  (Jvm.Cond.eq (Jvm.Term.elem (Jvm.Term.static "HillSchool" "LEAST_TERMS" "[I") (Jvm.Term.int (0 : Int32))) (Jvm.Term.int (0 : Int32))),
  (Jvm.Cond.eq (Jvm.Term.elem (Jvm.Term.static "HillSchool" "LEAST_TERMS" "[I") (Jvm.Term.int (1 : Int32))) (Jvm.Term.int (1 : Int32))),
  (Jvm.Cond.eq (Jvm.Term.elem (Jvm.Term.static "HillSchool" "LEAST_TERMS" "[I") (Jvm.Term.int (2 : Int32))) (Jvm.Term.int (1 : Int32))),
  (Jvm.Cond.eq (Jvm.Term.elem (Jvm.Term.static "HillSchool" "LEAST_TERMS" "[I") (Jvm.Term.int (3 : Int32))) (Jvm.Term.int (0 : Int32))),
  (Jvm.Cond.isRef (Jvm.Term.static "HillSchool" "MOST_TERMS" "[I")),
  (Jvm.Cond.arrayOf (Jvm.Term.static "HillSchool" "MOST_TERMS" "[I") Jvm.ClassFile.FieldType.int),
  (Jvm.Cond.eq (Jvm.Term.length (Jvm.Term.static "HillSchool" "MOST_TERMS" "[I")) (Jvm.Term.int (4 : Int32))),
  (Jvm.Cond.eq (Jvm.Term.elem (Jvm.Term.static "HillSchool" "MOST_TERMS" "[I") (Jvm.Term.int (0 : Int32))) (Jvm.Term.int (99 : Int32))),
  (Jvm.Cond.eq (Jvm.Term.elem (Jvm.Term.static "HillSchool" "MOST_TERMS" "[I") (Jvm.Term.int (1 : Int32))) (Jvm.Term.int (9 : Int32))),
  (Jvm.Cond.eq (Jvm.Term.elem (Jvm.Term.static "HillSchool" "MOST_TERMS" "[I") (Jvm.Term.int (2 : Int32))) (Jvm.Term.int (9 : Int32))),
  (Jvm.Cond.eq (Jvm.Term.elem (Jvm.Term.static "HillSchool" "MOST_TERMS" "[I") (Jvm.Term.int (3 : Int32))) (Jvm.Term.int (30 : Int32))),
  (Jvm.Cond.eq (Jvm.Term.static "java/lang/String" "COMPACT_STRINGS" "Z") (Jvm.Term.int (1 : Int32))),
  (Jvm.Cond.isRef (Jvm.Term.static "jdk/internal/util/Preconditions" "SIOOBE_FORMATTER" "Ljava/util/function/BiFunction;")),
  (Jvm.Cond.eq (Jvm.Term.static "java/lang/StringUTF16" "$assertionsDisabled" "Z") (Jvm.Term.int (1 : Int32))),
  (Jvm.Cond.eq (Jvm.Term.static "java/lang/StringUTF16" "HI_BYTE_SHIFT" "I") (Jvm.Term.int (0 : Int32))),
  (Jvm.Cond.eq (Jvm.Term.static "java/lang/StringUTF16" "LO_BYTE_SHIFT" "I") (Jvm.Term.int (8 : Int32))),
  (Jvm.Cond.not (Jvm.Cond.castable "HillSchool" "HillSchool$Hill")),
  (Jvm.Cond.not (Jvm.Cond.castable "HillSchool$Columns" "HillSchool$Hill")),
  (Jvm.Cond.not (Jvm.Cond.castable "HillSchool$LawReader" "HillSchool$Hill")),
  (Jvm.Cond.not (Jvm.Cond.castable "HillSchool$Judge" "HillSchool$Hill")),
  (Jvm.Cond.not (Jvm.Cond.castable "HillSchool$Carriers" "HillSchool$Hill")),
  (Jvm.Cond.not (Jvm.Cond.castable "HillSchool$Planner" "HillSchool$Hill")),
  (Jvm.Cond.not (Jvm.Cond.castable "HillSchool$Plan" "HillSchool$Hill")),
  (Jvm.Cond.not (Jvm.Cond.castable "HillSchool$Schools" "HillSchool$Hill")),
  (Jvm.Cond.not (Jvm.Cond.castable "HillSchool$Scales" "HillSchool$Hill")),
  (Jvm.Cond.not (Jvm.Cond.castable "HillSchool$Paper" "HillSchool$Hill")),
  (Jvm.Cond.not (Jvm.Cond.castable "HillSchoolModel" "HillSchool$Hill")),
  (Jvm.Cond.not (Jvm.Cond.castable "java/lang/String" "HillSchool$Hill")),
  (Jvm.Cond.not (Jvm.Cond.castable "HillSchool" "HillSchool$Plan")),
  (Jvm.Cond.not (Jvm.Cond.castable "HillSchool$Hill" "HillSchool$Plan")),
  (Jvm.Cond.not (Jvm.Cond.castable "HillSchool$Columns" "HillSchool$Plan")),
  (Jvm.Cond.not (Jvm.Cond.castable "HillSchool$LawReader" "HillSchool$Plan")),
  (Jvm.Cond.not (Jvm.Cond.castable "HillSchool$Judge" "HillSchool$Plan")),
  (Jvm.Cond.not (Jvm.Cond.castable "HillSchool$Carriers" "HillSchool$Plan")),
  (Jvm.Cond.not (Jvm.Cond.castable "HillSchool$Planner" "HillSchool$Plan")),
  (Jvm.Cond.not (Jvm.Cond.castable "HillSchool$Schools" "HillSchool$Plan")),
  (Jvm.Cond.not (Jvm.Cond.castable "HillSchool$Scales" "HillSchool$Plan")),
  (Jvm.Cond.not (Jvm.Cond.castable "HillSchool$Paper" "HillSchool$Plan")),
  (Jvm.Cond.not (Jvm.Cond.castable "HillSchoolModel" "HillSchool$Plan")),
  (Jvm.Cond.not (Jvm.Cond.castable "java/lang/String" "HillSchool$Plan")),
  (Jvm.Cond.exactly (Jvm.Term.string "HillSchool$LawReader" (98 : Nat)) "java/lang/String"),
  (Jvm.Cond.eq (Jvm.Term.field (Jvm.Term.string "HillSchool$LawReader" (98 : Nat)) "java/lang/String" "coder" "B") (Jvm.Term.int (0 : Int32))),
  (Jvm.Cond.arrayOf (Jvm.Term.field (Jvm.Term.string "HillSchool$LawReader" (98 : Nat)) "java/lang/String" "value" "[B") Jvm.ClassFile.FieldType.byte),
  (Jvm.Cond.eq (Jvm.Term.length (Jvm.Term.field (Jvm.Term.string "HillSchool$LawReader" (98 : Nat)) "java/lang/String" "value" "[B")) (Jvm.Term.int (5 : Int32))),
  (Jvm.Cond.eq (Jvm.Term.elem (Jvm.Term.field (Jvm.Term.string "HillSchool$LawReader" (98 : Nat)) "java/lang/String" "value" "[B") (Jvm.Term.int (0 : Int32))) (Jvm.Term.int (99 : Int32))),
  (Jvm.Cond.eq (Jvm.Term.elem (Jvm.Term.field (Jvm.Term.string "HillSchool$LawReader" (98 : Nat)) "java/lang/String" "value" "[B") (Jvm.Term.int (1 : Int32))) (Jvm.Term.int (104 : Int32))),
  (Jvm.Cond.eq (Jvm.Term.elem (Jvm.Term.field (Jvm.Term.string "HillSchool$LawReader" (98 : Nat)) "java/lang/String" "value" "[B") (Jvm.Term.int (2 : Int32))) (Jvm.Term.int (105 : Int32))),
  (Jvm.Cond.eq (Jvm.Term.elem (Jvm.Term.field (Jvm.Term.string "HillSchool$LawReader" (98 : Nat)) "java/lang/String" "value" "[B") (Jvm.Term.int (3 : Int32))) (Jvm.Term.int (108 : Int32))),
  (Jvm.Cond.eq (Jvm.Term.elem (Jvm.Term.field (Jvm.Term.string "HillSchool$LawReader" (98 : Nat)) "java/lang/String" "value" "[B") (Jvm.Term.int (4 : Int32))) (Jvm.Term.int (100 : Int32))),
  (Jvm.Cond.exactly (Jvm.Term.string "HillSchool$LawReader" (106 : Nat)) "java/lang/String"),
  (Jvm.Cond.eq (Jvm.Term.field (Jvm.Term.string "HillSchool$LawReader" (106 : Nat)) "java/lang/String" "coder" "B") (Jvm.Term.int (0 : Int32))),
  (Jvm.Cond.arrayOf (Jvm.Term.field (Jvm.Term.string "HillSchool$LawReader" (106 : Nat)) "java/lang/String" "value" "[B") Jvm.ClassFile.FieldType.byte),
  (Jvm.Cond.eq (Jvm.Term.length (Jvm.Term.field (Jvm.Term.string "HillSchool$LawReader" (106 : Nat)) "java/lang/String" "value" "[B")) (Jvm.Term.int (8 : Int32))),
  (Jvm.Cond.eq (Jvm.Term.elem (Jvm.Term.field (Jvm.Term.string "HillSchool$LawReader" (106 : Nat)) "java/lang/String" "value" "[B") (Jvm.Term.int (0 : Int32))) (Jvm.Term.int (115 : Int32))),
  (Jvm.Cond.eq (Jvm.Term.elem (Jvm.Term.field (Jvm.Term.string "HillSchool$LawReader" (106 : Nat)) "java/lang/String" "value" "[B") (Jvm.Term.int (1 : Int32))) (Jvm.Term.int (116 : Int32))),
  (Jvm.Cond.eq (Jvm.Term.elem (Jvm.Term.field (Jvm.Term.string "HillSchool$LawReader" (106 : Nat)) "java/lang/String" "value" "[B") (Jvm.Term.int (2 : Int32))) (Jvm.Term.int (114 : Int32))),
  (Jvm.Cond.eq (Jvm.Term.elem (Jvm.Term.field (Jvm.Term.string "HillSchool$LawReader" (106 : Nat)) "java/lang/String" "value" "[B") (Jvm.Term.int (3 : Int32))) (Jvm.Term.int (101 : Int32))),
  (Jvm.Cond.eq (Jvm.Term.elem (Jvm.Term.field (Jvm.Term.string "HillSchool$LawReader" (106 : Nat)) "java/lang/String" "value" "[B") (Jvm.Term.int (4 : Int32))) (Jvm.Term.int (110 : Int32))),
  (Jvm.Cond.eq (Jvm.Term.elem (Jvm.Term.field (Jvm.Term.string "HillSchool$LawReader" (106 : Nat)) "java/lang/String" "value" "[B") (Jvm.Term.int (5 : Int32))) (Jvm.Term.int (103 : Int32))),
  (Jvm.Cond.eq (Jvm.Term.elem (Jvm.Term.field (Jvm.Term.string "HillSchool$LawReader" (106 : Nat)) "java/lang/String" "value" "[B") (Jvm.Term.int (6 : Int32))) (Jvm.Term.int (116 : Int32))),
  (Jvm.Cond.eq (Jvm.Term.elem (Jvm.Term.field (Jvm.Term.string "HillSchool$LawReader" (106 : Nat)) "java/lang/String" "value" "[B") (Jvm.Term.int (7 : Int32))) (Jvm.Term.int (104 : Int32))),
  (Jvm.Cond.not (Jvm.Cond.eq (Jvm.Term.string "HillSchool$LawReader" (98 : Nat)) (Jvm.Term.string "HillSchool$LawReader" (106 : Nat)))),
  (Jvm.Cond.exactly (Jvm.Term.string "HillSchool$LawReader" (108 : Nat)) "java/lang/String"),
  (Jvm.Cond.eq (Jvm.Term.field (Jvm.Term.string "HillSchool$LawReader" (108 : Nat)) "java/lang/String" "coder" "B") (Jvm.Term.int (0 : Int32))),
  (Jvm.Cond.arrayOf (Jvm.Term.field (Jvm.Term.string "HillSchool$LawReader" (108 : Nat)) "java/lang/String" "value" "[B") Jvm.ClassFile.FieldType.byte),
  (Jvm.Cond.eq (Jvm.Term.length (Jvm.Term.field (Jvm.Term.string "HillSchool$LawReader" (108 : Nat)) "java/lang/String" "value" "[B")) (Jvm.Term.int (6 : Int32))),
  (Jvm.Cond.eq (Jvm.Term.elem (Jvm.Term.field (Jvm.Term.string "HillSchool$LawReader" (108 : Nat)) "java/lang/String" "value" "[B") (Jvm.Term.int (0 : Int32))) (Jvm.Term.int (119 : Int32))),
  (Jvm.Cond.eq (Jvm.Term.elem (Jvm.Term.field (Jvm.Term.string "HillSchool$LawReader" (108 : Nat)) "java/lang/String" "value" "[B") (Jvm.Term.int (1 : Int32))) (Jvm.Term.int (101 : Int32))),
  (Jvm.Cond.eq (Jvm.Term.elem (Jvm.Term.field (Jvm.Term.string "HillSchool$LawReader" (108 : Nat)) "java/lang/String" "value" "[B") (Jvm.Term.int (2 : Int32))) (Jvm.Term.int (105 : Int32))),
  (Jvm.Cond.eq (Jvm.Term.elem (Jvm.Term.field (Jvm.Term.string "HillSchool$LawReader" (108 : Nat)) "java/lang/String" "value" "[B") (Jvm.Term.int (3 : Int32))) (Jvm.Term.int (103 : Int32))),
  (Jvm.Cond.eq (Jvm.Term.elem (Jvm.Term.field (Jvm.Term.string "HillSchool$LawReader" (108 : Nat)) "java/lang/String" "value" "[B") (Jvm.Term.int (4 : Int32))) (Jvm.Term.int (104 : Int32))),
  (Jvm.Cond.eq (Jvm.Term.elem (Jvm.Term.field (Jvm.Term.string "HillSchool$LawReader" (108 : Nat)) "java/lang/String" "value" "[B") (Jvm.Term.int (5 : Int32))) (Jvm.Term.int (116 : Int32))),
  (Jvm.Cond.not (Jvm.Cond.eq (Jvm.Term.string "HillSchool$LawReader" (98 : Nat)) (Jvm.Term.string "HillSchool$LawReader" (108 : Nat)))),
  (Jvm.Cond.not (Jvm.Cond.eq (Jvm.Term.string "HillSchool$LawReader" (106 : Nat)) (Jvm.Term.string "HillSchool$LawReader" (108 : Nat)))),
  (Jvm.Cond.exactly (Jvm.Term.string "HillSchool$LawReader" (110 : Nat)) "java/lang/String"),
  (Jvm.Cond.eq (Jvm.Term.field (Jvm.Term.string "HillSchool$LawReader" (110 : Nat)) "java/lang/String" "coder" "B") (Jvm.Term.int (0 : Int32))),
  (Jvm.Cond.arrayOf (Jvm.Term.field (Jvm.Term.string "HillSchool$LawReader" (110 : Nat)) "java/lang/String" "value" "[B") Jvm.ClassFile.FieldType.byte),
  (Jvm.Cond.eq (Jvm.Term.length (Jvm.Term.field (Jvm.Term.string "HillSchool$LawReader" (110 : Nat)) "java/lang/String" "value" "[B")) (Jvm.Term.int (4 : Int32))),
  (Jvm.Cond.eq (Jvm.Term.elem (Jvm.Term.field (Jvm.Term.string "HillSchool$LawReader" (110 : Nat)) "java/lang/String" "value" "[B") (Jvm.Term.int (0 : Int32))) (Jvm.Term.int (102 : Int32))),
  (Jvm.Cond.eq (Jvm.Term.elem (Jvm.Term.field (Jvm.Term.string "HillSchool$LawReader" (110 : Nat)) "java/lang/String" "value" "[B") (Jvm.Term.int (1 : Int32))) (Jvm.Term.int (114 : Int32))),
  (Jvm.Cond.eq (Jvm.Term.elem (Jvm.Term.field (Jvm.Term.string "HillSchool$LawReader" (110 : Nat)) "java/lang/String" "value" "[B") (Jvm.Term.int (2 : Int32))) (Jvm.Term.int (111 : Int32))),
  (Jvm.Cond.eq (Jvm.Term.elem (Jvm.Term.field (Jvm.Term.string "HillSchool$LawReader" (110 : Nat)) "java/lang/String" "value" "[B") (Jvm.Term.int (3 : Int32))) (Jvm.Term.int (109 : Int32))),
  (Jvm.Cond.not (Jvm.Cond.eq (Jvm.Term.string "HillSchool$LawReader" (98 : Nat)) (Jvm.Term.string "HillSchool$LawReader" (110 : Nat)))),
  (Jvm.Cond.not (Jvm.Cond.eq (Jvm.Term.string "HillSchool$LawReader" (106 : Nat)) (Jvm.Term.string "HillSchool$LawReader" (110 : Nat)))),
  (Jvm.Cond.not (Jvm.Cond.eq (Jvm.Term.string "HillSchool$LawReader" (108 : Nat)) (Jvm.Term.string "HillSchool$LawReader" (110 : Nat)))),
  (Jvm.Cond.exactly (Jvm.Term.string "HillSchool$LawReader" (112 : Nat)) "java/lang/String"),
  (Jvm.Cond.eq (Jvm.Term.field (Jvm.Term.string "HillSchool$LawReader" (112 : Nat)) "java/lang/String" "coder" "B") (Jvm.Term.int (0 : Int32))),
  (Jvm.Cond.arrayOf (Jvm.Term.field (Jvm.Term.string "HillSchool$LawReader" (112 : Nat)) "java/lang/String" "value" "[B") Jvm.ClassFile.FieldType.byte),
  (Jvm.Cond.eq (Jvm.Term.length (Jvm.Term.field (Jvm.Term.string "HillSchool$LawReader" (112 : Nat)) "java/lang/String" "value" "[B")) (Jvm.Term.int (2 : Int32))),
  (Jvm.Cond.eq (Jvm.Term.elem (Jvm.Term.field (Jvm.Term.string "HillSchool$LawReader" (112 : Nat)) "java/lang/String" "value" "[B") (Jvm.Term.int (0 : Int32))) (Jvm.Term.int (116 : Int32))),
  (Jvm.Cond.eq (Jvm.Term.elem (Jvm.Term.field (Jvm.Term.string "HillSchool$LawReader" (112 : Nat)) "java/lang/String" "value" "[B") (Jvm.Term.int (1 : Int32))) (Jvm.Term.int (111 : Int32))),
  (Jvm.Cond.not (Jvm.Cond.eq (Jvm.Term.string "HillSchool$LawReader" (98 : Nat)) (Jvm.Term.string "HillSchool$LawReader" (112 : Nat)))),
  (Jvm.Cond.not (Jvm.Cond.eq (Jvm.Term.string "HillSchool$LawReader" (106 : Nat)) (Jvm.Term.string "HillSchool$LawReader" (112 : Nat)))),
  (Jvm.Cond.not (Jvm.Cond.eq (Jvm.Term.string "HillSchool$LawReader" (108 : Nat)) (Jvm.Term.string "HillSchool$LawReader" (112 : Nat)))),
  (Jvm.Cond.not (Jvm.Cond.eq (Jvm.Term.string "HillSchool$LawReader" (110 : Nat)) (Jvm.Term.string "HillSchool$LawReader" (112 : Nat)))),
  (Jvm.Cond.exactly (Jvm.Term.string "HillSchool$LawReader" (114 : Nat)) "java/lang/String"),
  (Jvm.Cond.eq (Jvm.Term.field (Jvm.Term.string "HillSchool$LawReader" (114 : Nat)) "java/lang/String" "coder" "B") (Jvm.Term.int (0 : Int32))),
  (Jvm.Cond.arrayOf (Jvm.Term.field (Jvm.Term.string "HillSchool$LawReader" (114 : Nat)) "java/lang/String" "value" "[B") Jvm.ClassFile.FieldType.byte),
  (Jvm.Cond.eq (Jvm.Term.length (Jvm.Term.field (Jvm.Term.string "HillSchool$LawReader" (114 : Nat)) "java/lang/String" "value" "[B")) (Jvm.Term.int (4 : Int32))),
  (Jvm.Cond.eq (Jvm.Term.elem (Jvm.Term.field (Jvm.Term.string "HillSchool$LawReader" (114 : Nat)) "java/lang/String" "value" "[B") (Jvm.Term.int (0 : Int32))) (Jvm.Term.int (104 : Int32))),
  (Jvm.Cond.eq (Jvm.Term.elem (Jvm.Term.field (Jvm.Term.string "HillSchool$LawReader" (114 : Nat)) "java/lang/String" "value" "[B") (Jvm.Term.int (1 : Int32))) (Jvm.Term.int (105 : Int32))),
  (Jvm.Cond.eq (Jvm.Term.elem (Jvm.Term.field (Jvm.Term.string "HillSchool$LawReader" (114 : Nat)) "java/lang/String" "value" "[B") (Jvm.Term.int (2 : Int32))) (Jvm.Term.int (103 : Int32))),
  (Jvm.Cond.eq (Jvm.Term.elem (Jvm.Term.field (Jvm.Term.string "HillSchool$LawReader" (114 : Nat)) "java/lang/String" "value" "[B") (Jvm.Term.int (3 : Int32))) (Jvm.Term.int (104 : Int32))),
  (Jvm.Cond.not (Jvm.Cond.eq (Jvm.Term.string "HillSchool$LawReader" (98 : Nat)) (Jvm.Term.string "HillSchool$LawReader" (114 : Nat)))),
  (Jvm.Cond.not (Jvm.Cond.eq (Jvm.Term.string "HillSchool$LawReader" (106 : Nat)) (Jvm.Term.string "HillSchool$LawReader" (114 : Nat)))),
  (Jvm.Cond.not (Jvm.Cond.eq (Jvm.Term.string "HillSchool$LawReader" (108 : Nat)) (Jvm.Term.string "HillSchool$LawReader" (114 : Nat)))),
  (Jvm.Cond.not (Jvm.Cond.eq (Jvm.Term.string "HillSchool$LawReader" (110 : Nat)) (Jvm.Term.string "HillSchool$LawReader" (114 : Nat)))),
  (Jvm.Cond.not (Jvm.Cond.eq (Jvm.Term.string "HillSchool$LawReader" (112 : Nat)) (Jvm.Term.string "HillSchool$LawReader" (114 : Nat)))),
  (Jvm.Cond.exactly (Jvm.Term.string "HillSchool$LawReader" (116 : Nat)) "java/lang/String"),
  (Jvm.Cond.eq (Jvm.Term.field (Jvm.Term.string "HillSchool$LawReader" (116 : Nat)) "java/lang/String" "coder" "B") (Jvm.Term.int (0 : Int32))),
  (Jvm.Cond.arrayOf (Jvm.Term.field (Jvm.Term.string "HillSchool$LawReader" (116 : Nat)) "java/lang/String" "value" "[B") Jvm.ClassFile.FieldType.byte),
  (Jvm.Cond.eq (Jvm.Term.length (Jvm.Term.field (Jvm.Term.string "HillSchool$LawReader" (116 : Nat)) "java/lang/String" "value" "[B")) (Jvm.Term.int (3 : Int32))),
  (Jvm.Cond.eq (Jvm.Term.elem (Jvm.Term.field (Jvm.Term.string "HillSchool$LawReader" (116 : Nat)) "java/lang/String" "value" "[B") (Jvm.Term.int (0 : Int32))) (Jvm.Term.int (108 : Int32))),
  (Jvm.Cond.eq (Jvm.Term.elem (Jvm.Term.field (Jvm.Term.string "HillSchool$LawReader" (116 : Nat)) "java/lang/String" "value" "[B") (Jvm.Term.int (1 : Int32))) (Jvm.Term.int (111 : Int32))),
  (Jvm.Cond.eq (Jvm.Term.elem (Jvm.Term.field (Jvm.Term.string "HillSchool$LawReader" (116 : Nat)) "java/lang/String" "value" "[B") (Jvm.Term.int (2 : Int32))) (Jvm.Term.int (119 : Int32))),
  (Jvm.Cond.not (Jvm.Cond.eq (Jvm.Term.string "HillSchool$LawReader" (98 : Nat)) (Jvm.Term.string "HillSchool$LawReader" (116 : Nat)))),
  (Jvm.Cond.not (Jvm.Cond.eq (Jvm.Term.string "HillSchool$LawReader" (106 : Nat)) (Jvm.Term.string "HillSchool$LawReader" (116 : Nat)))),
  (Jvm.Cond.not (Jvm.Cond.eq (Jvm.Term.string "HillSchool$LawReader" (108 : Nat)) (Jvm.Term.string "HillSchool$LawReader" (116 : Nat)))),
  (Jvm.Cond.not (Jvm.Cond.eq (Jvm.Term.string "HillSchool$LawReader" (110 : Nat)) (Jvm.Term.string "HillSchool$LawReader" (116 : Nat)))),
  (Jvm.Cond.not (Jvm.Cond.eq (Jvm.Term.string "HillSchool$LawReader" (112 : Nat)) (Jvm.Term.string "HillSchool$LawReader" (116 : Nat)))),
  (Jvm.Cond.not (Jvm.Cond.eq (Jvm.Term.string "HillSchool$LawReader" (114 : Nat)) (Jvm.Term.string "HillSchool$LawReader" (116 : Nat)))),
  (Jvm.Cond.exactly (Jvm.Term.string "HillSchool$LawReader" (118 : Nat)) "java/lang/String"),
  (Jvm.Cond.eq (Jvm.Term.field (Jvm.Term.string "HillSchool$LawReader" (118 : Nat)) "java/lang/String" "coder" "B") (Jvm.Term.int (0 : Int32))),
  (Jvm.Cond.arrayOf (Jvm.Term.field (Jvm.Term.string "HillSchool$LawReader" (118 : Nat)) "java/lang/String" "value" "[B") Jvm.ClassFile.FieldType.byte),
  (Jvm.Cond.eq (Jvm.Term.length (Jvm.Term.field (Jvm.Term.string "HillSchool$LawReader" (118 : Nat)) "java/lang/String" "value" "[B")) (Jvm.Term.int (4 : Int32))),
  (Jvm.Cond.eq (Jvm.Term.elem (Jvm.Term.field (Jvm.Term.string "HillSchool$LawReader" (118 : Nat)) "java/lang/String" "value" "[B") (Jvm.Term.int (0 : Int32))) (Jvm.Term.int (116 : Int32))),
  (Jvm.Cond.eq (Jvm.Term.elem (Jvm.Term.field (Jvm.Term.string "HillSchool$LawReader" (118 : Nat)) "java/lang/String" "value" "[B") (Jvm.Term.int (1 : Int32))) (Jvm.Term.int (101 : Int32))),
  (Jvm.Cond.eq (Jvm.Term.elem (Jvm.Term.field (Jvm.Term.string "HillSchool$LawReader" (118 : Nat)) "java/lang/String" "value" "[B") (Jvm.Term.int (2 : Int32))) (Jvm.Term.int (114 : Int32))),
  (Jvm.Cond.eq (Jvm.Term.elem (Jvm.Term.field (Jvm.Term.string "HillSchool$LawReader" (118 : Nat)) "java/lang/String" "value" "[B") (Jvm.Term.int (3 : Int32))) (Jvm.Term.int (109 : Int32))),
  (Jvm.Cond.not (Jvm.Cond.eq (Jvm.Term.string "HillSchool$LawReader" (98 : Nat)) (Jvm.Term.string "HillSchool$LawReader" (118 : Nat)))),
  (Jvm.Cond.not (Jvm.Cond.eq (Jvm.Term.string "HillSchool$LawReader" (106 : Nat)) (Jvm.Term.string "HillSchool$LawReader" (118 : Nat)))),
  (Jvm.Cond.not (Jvm.Cond.eq (Jvm.Term.string "HillSchool$LawReader" (108 : Nat)) (Jvm.Term.string "HillSchool$LawReader" (118 : Nat)))),
  (Jvm.Cond.not (Jvm.Cond.eq (Jvm.Term.string "HillSchool$LawReader" (110 : Nat)) (Jvm.Term.string "HillSchool$LawReader" (118 : Nat)))),
  (Jvm.Cond.not (Jvm.Cond.eq (Jvm.Term.string "HillSchool$LawReader" (112 : Nat)) (Jvm.Term.string "HillSchool$LawReader" (118 : Nat)))),
  (Jvm.Cond.not (Jvm.Cond.eq (Jvm.Term.string "HillSchool$LawReader" (114 : Nat)) (Jvm.Term.string "HillSchool$LawReader" (118 : Nat)))),
  (Jvm.Cond.not (Jvm.Cond.eq (Jvm.Term.string "HillSchool$LawReader" (116 : Nat)) (Jvm.Term.string "HillSchool$LawReader" (118 : Nat)))),
  (Jvm.Cond.exactly (Jvm.Term.string "HillSchool$LawReader" (120 : Nat)) "java/lang/String"),
  (Jvm.Cond.eq (Jvm.Term.field (Jvm.Term.string "HillSchool$LawReader" (120 : Nat)) "java/lang/String" "coder" "B") (Jvm.Term.int (0 : Int32))),
  (Jvm.Cond.arrayOf (Jvm.Term.field (Jvm.Term.string "HillSchool$LawReader" (120 : Nat)) "java/lang/String" "value" "[B") Jvm.ClassFile.FieldType.byte),
  (Jvm.Cond.eq (Jvm.Term.length (Jvm.Term.field (Jvm.Term.string "HillSchool$LawReader" (120 : Nat)) "java/lang/String" "value" "[B")) (Jvm.Term.int (5 : Int32))),
  (Jvm.Cond.eq (Jvm.Term.elem (Jvm.Term.field (Jvm.Term.string "HillSchool$LawReader" (120 : Nat)) "java/lang/String" "value" "[B") (Jvm.Term.int (0 : Int32))) (Jvm.Term.int (116 : Int32))),
  (Jvm.Cond.eq (Jvm.Term.elem (Jvm.Term.field (Jvm.Term.string "HillSchool$LawReader" (120 : Nat)) "java/lang/String" "value" "[B") (Jvm.Term.int (1 : Int32))) (Jvm.Term.int (105 : Int32))),
  (Jvm.Cond.eq (Jvm.Term.elem (Jvm.Term.field (Jvm.Term.string "HillSchool$LawReader" (120 : Nat)) "java/lang/String" "value" "[B") (Jvm.Term.int (2 : Int32))) (Jvm.Term.int (114 : Int32))),
  (Jvm.Cond.eq (Jvm.Term.elem (Jvm.Term.field (Jvm.Term.string "HillSchool$LawReader" (120 : Nat)) "java/lang/String" "value" "[B") (Jvm.Term.int (3 : Int32))) (Jvm.Term.int (101 : Int32))),
  (Jvm.Cond.eq (Jvm.Term.elem (Jvm.Term.field (Jvm.Term.string "HillSchool$LawReader" (120 : Nat)) "java/lang/String" "value" "[B") (Jvm.Term.int (4 : Int32))) (Jvm.Term.int (115 : Int32))),
  (Jvm.Cond.not (Jvm.Cond.eq (Jvm.Term.string "HillSchool$LawReader" (98 : Nat)) (Jvm.Term.string "HillSchool$LawReader" (120 : Nat)))),
  (Jvm.Cond.not (Jvm.Cond.eq (Jvm.Term.string "HillSchool$LawReader" (106 : Nat)) (Jvm.Term.string "HillSchool$LawReader" (120 : Nat)))),
  (Jvm.Cond.not (Jvm.Cond.eq (Jvm.Term.string "HillSchool$LawReader" (108 : Nat)) (Jvm.Term.string "HillSchool$LawReader" (120 : Nat)))),
  (Jvm.Cond.not (Jvm.Cond.eq (Jvm.Term.string "HillSchool$LawReader" (110 : Nat)) (Jvm.Term.string "HillSchool$LawReader" (120 : Nat)))),
  (Jvm.Cond.not (Jvm.Cond.eq (Jvm.Term.string "HillSchool$LawReader" (112 : Nat)) (Jvm.Term.string "HillSchool$LawReader" (120 : Nat)))),
  (Jvm.Cond.not (Jvm.Cond.eq (Jvm.Term.string "HillSchool$LawReader" (114 : Nat)) (Jvm.Term.string "HillSchool$LawReader" (120 : Nat)))),
  (Jvm.Cond.not (Jvm.Cond.eq (Jvm.Term.string "HillSchool$LawReader" (116 : Nat)) (Jvm.Term.string "HillSchool$LawReader" (120 : Nat)))),
  (Jvm.Cond.not (Jvm.Cond.eq (Jvm.Term.string "HillSchool$LawReader" (118 : Nat)) (Jvm.Term.string "HillSchool$LawReader" (120 : Nat)))),
  (Jvm.Cond.exactly (Jvm.Term.string "HillSchool$LawReader" (122 : Nat)) "java/lang/String"),
  (Jvm.Cond.eq (Jvm.Term.field (Jvm.Term.string "HillSchool$LawReader" (122 : Nat)) "java/lang/String" "coder" "B") (Jvm.Term.int (0 : Int32))),
  (Jvm.Cond.arrayOf (Jvm.Term.field (Jvm.Term.string "HillSchool$LawReader" (122 : Nat)) "java/lang/String" "value" "[B") Jvm.ClassFile.FieldType.byte),
  (Jvm.Cond.eq (Jvm.Term.length (Jvm.Term.field (Jvm.Term.string "HillSchool$LawReader" (122 : Nat)) "java/lang/String" "value" "[B")) (Jvm.Term.int (4 : Int32))),
  (Jvm.Cond.eq (Jvm.Term.elem (Jvm.Term.field (Jvm.Term.string "HillSchool$LawReader" (122 : Nat)) "java/lang/String" "value" "[B") (Jvm.Term.int (0 : Int32))) (Jvm.Term.int (98 : Int32))),
  (Jvm.Cond.eq (Jvm.Term.elem (Jvm.Term.field (Jvm.Term.string "HillSchool$LawReader" (122 : Nat)) "java/lang/String" "value" "[B") (Jvm.Term.int (1 : Int32))) (Jvm.Term.int (97 : Int32))),
  (Jvm.Cond.eq (Jvm.Term.elem (Jvm.Term.field (Jvm.Term.string "HillSchool$LawReader" (122 : Nat)) "java/lang/String" "value" "[B") (Jvm.Term.int (2 : Int32))) (Jvm.Term.int (114 : Int32))),
  (Jvm.Cond.eq (Jvm.Term.elem (Jvm.Term.field (Jvm.Term.string "HillSchool$LawReader" (122 : Nat)) "java/lang/String" "value" "[B") (Jvm.Term.int (3 : Int32))) (Jvm.Term.int (115 : Int32))),
  (Jvm.Cond.not (Jvm.Cond.eq (Jvm.Term.string "HillSchool$LawReader" (98 : Nat)) (Jvm.Term.string "HillSchool$LawReader" (122 : Nat)))),
  (Jvm.Cond.not (Jvm.Cond.eq (Jvm.Term.string "HillSchool$LawReader" (106 : Nat)) (Jvm.Term.string "HillSchool$LawReader" (122 : Nat)))),
  (Jvm.Cond.not (Jvm.Cond.eq (Jvm.Term.string "HillSchool$LawReader" (108 : Nat)) (Jvm.Term.string "HillSchool$LawReader" (122 : Nat)))),
  (Jvm.Cond.not (Jvm.Cond.eq (Jvm.Term.string "HillSchool$LawReader" (110 : Nat)) (Jvm.Term.string "HillSchool$LawReader" (122 : Nat)))),
  (Jvm.Cond.not (Jvm.Cond.eq (Jvm.Term.string "HillSchool$LawReader" (112 : Nat)) (Jvm.Term.string "HillSchool$LawReader" (122 : Nat)))),
  (Jvm.Cond.not (Jvm.Cond.eq (Jvm.Term.string "HillSchool$LawReader" (114 : Nat)) (Jvm.Term.string "HillSchool$LawReader" (122 : Nat)))),
  (Jvm.Cond.not (Jvm.Cond.eq (Jvm.Term.string "HillSchool$LawReader" (116 : Nat)) (Jvm.Term.string "HillSchool$LawReader" (122 : Nat)))),
  (Jvm.Cond.not (Jvm.Cond.eq (Jvm.Term.string "HillSchool$LawReader" (118 : Nat)) (Jvm.Term.string "HillSchool$LawReader" (122 : Nat)))),
  (Jvm.Cond.not (Jvm.Cond.eq (Jvm.Term.string "HillSchool$LawReader" (120 : Nat)) (Jvm.Term.string "HillSchool$LawReader" (122 : Nat)))),
  (Jvm.Cond.exactly (Jvm.Term.string "HillSchool$LawReader" (124 : Nat)) "java/lang/String"),
  (Jvm.Cond.eq (Jvm.Term.field (Jvm.Term.string "HillSchool$LawReader" (124 : Nat)) "java/lang/String" "coder" "B") (Jvm.Term.int (0 : Int32))),
  (Jvm.Cond.arrayOf (Jvm.Term.field (Jvm.Term.string "HillSchool$LawReader" (124 : Nat)) "java/lang/String" "value" "[B") Jvm.ClassFile.FieldType.byte),
  (Jvm.Cond.eq (Jvm.Term.length (Jvm.Term.field (Jvm.Term.string "HillSchool$LawReader" (124 : Nat)) "java/lang/String" "value" "[B")) (Jvm.Term.int (2 : Int32))),
  (Jvm.Cond.eq (Jvm.Term.elem (Jvm.Term.field (Jvm.Term.string "HillSchool$LawReader" (124 : Nat)) "java/lang/String" "value" "[B") (Jvm.Term.int (0 : Int32))) (Jvm.Term.int (105 : Int32))),
  (Jvm.Cond.eq (Jvm.Term.elem (Jvm.Term.field (Jvm.Term.string "HillSchool$LawReader" (124 : Nat)) "java/lang/String" "value" "[B") (Jvm.Term.int (1 : Int32))) (Jvm.Term.int (102 : Int32))),
  (Jvm.Cond.not (Jvm.Cond.eq (Jvm.Term.string "HillSchool$LawReader" (98 : Nat)) (Jvm.Term.string "HillSchool$LawReader" (124 : Nat)))),
  (Jvm.Cond.not (Jvm.Cond.eq (Jvm.Term.string "HillSchool$LawReader" (106 : Nat)) (Jvm.Term.string "HillSchool$LawReader" (124 : Nat)))),
  (Jvm.Cond.not (Jvm.Cond.eq (Jvm.Term.string "HillSchool$LawReader" (108 : Nat)) (Jvm.Term.string "HillSchool$LawReader" (124 : Nat)))),
  (Jvm.Cond.not (Jvm.Cond.eq (Jvm.Term.string "HillSchool$LawReader" (110 : Nat)) (Jvm.Term.string "HillSchool$LawReader" (124 : Nat)))),
  (Jvm.Cond.not (Jvm.Cond.eq (Jvm.Term.string "HillSchool$LawReader" (112 : Nat)) (Jvm.Term.string "HillSchool$LawReader" (124 : Nat)))),
  (Jvm.Cond.not (Jvm.Cond.eq (Jvm.Term.string "HillSchool$LawReader" (114 : Nat)) (Jvm.Term.string "HillSchool$LawReader" (124 : Nat)))),
  (Jvm.Cond.not (Jvm.Cond.eq (Jvm.Term.string "HillSchool$LawReader" (116 : Nat)) (Jvm.Term.string "HillSchool$LawReader" (124 : Nat)))),
  (Jvm.Cond.not (Jvm.Cond.eq (Jvm.Term.string "HillSchool$LawReader" (118 : Nat)) (Jvm.Term.string "HillSchool$LawReader" (124 : Nat)))),
  (Jvm.Cond.not (Jvm.Cond.eq (Jvm.Term.string "HillSchool$LawReader" (120 : Nat)) (Jvm.Term.string "HillSchool$LawReader" (124 : Nat)))),
  (Jvm.Cond.not (Jvm.Cond.eq (Jvm.Term.string "HillSchool$LawReader" (122 : Nat)) (Jvm.Term.string "HillSchool$LawReader" (124 : Nat)))),
  (Jvm.Cond.exactly (Jvm.Term.string "HillSchool$LawReader" (126 : Nat)) "java/lang/String"),
  (Jvm.Cond.eq (Jvm.Term.field (Jvm.Term.string "HillSchool$LawReader" (126 : Nat)) "java/lang/String" "coder" "B") (Jvm.Term.int (0 : Int32))),
  (Jvm.Cond.arrayOf (Jvm.Term.field (Jvm.Term.string "HillSchool$LawReader" (126 : Nat)) "java/lang/String" "value" "[B") Jvm.ClassFile.FieldType.byte),
  (Jvm.Cond.eq (Jvm.Term.length (Jvm.Term.field (Jvm.Term.string "HillSchool$LawReader" (126 : Nat)) "java/lang/String" "value" "[B")) (Jvm.Term.int (2 : Int32))),
  (Jvm.Cond.eq (Jvm.Term.elem (Jvm.Term.field (Jvm.Term.string "HillSchool$LawReader" (126 : Nat)) "java/lang/String" "value" "[B") (Jvm.Term.int (0 : Int32))) (Jvm.Term.int (111 : Int32))),
  (Jvm.Cond.eq (Jvm.Term.elem (Jvm.Term.field (Jvm.Term.string "HillSchool$LawReader" (126 : Nat)) "java/lang/String" "value" "[B") (Jvm.Term.int (1 : Int32))) (Jvm.Term.int (114 : Int32))),
  (Jvm.Cond.not (Jvm.Cond.eq (Jvm.Term.string "HillSchool$LawReader" (98 : Nat)) (Jvm.Term.string "HillSchool$LawReader" (126 : Nat)))),
  (Jvm.Cond.not (Jvm.Cond.eq (Jvm.Term.string "HillSchool$LawReader" (106 : Nat)) (Jvm.Term.string "HillSchool$LawReader" (126 : Nat)))),
  (Jvm.Cond.not (Jvm.Cond.eq (Jvm.Term.string "HillSchool$LawReader" (108 : Nat)) (Jvm.Term.string "HillSchool$LawReader" (126 : Nat)))),
  (Jvm.Cond.not (Jvm.Cond.eq (Jvm.Term.string "HillSchool$LawReader" (110 : Nat)) (Jvm.Term.string "HillSchool$LawReader" (126 : Nat)))),
  (Jvm.Cond.not (Jvm.Cond.eq (Jvm.Term.string "HillSchool$LawReader" (112 : Nat)) (Jvm.Term.string "HillSchool$LawReader" (126 : Nat)))),
  (Jvm.Cond.not (Jvm.Cond.eq (Jvm.Term.string "HillSchool$LawReader" (114 : Nat)) (Jvm.Term.string "HillSchool$LawReader" (126 : Nat)))),
  (Jvm.Cond.not (Jvm.Cond.eq (Jvm.Term.string "HillSchool$LawReader" (116 : Nat)) (Jvm.Term.string "HillSchool$LawReader" (126 : Nat)))),
  (Jvm.Cond.not (Jvm.Cond.eq (Jvm.Term.string "HillSchool$LawReader" (118 : Nat)) (Jvm.Term.string "HillSchool$LawReader" (126 : Nat)))),
  (Jvm.Cond.not (Jvm.Cond.eq (Jvm.Term.string "HillSchool$LawReader" (120 : Nat)) (Jvm.Term.string "HillSchool$LawReader" (126 : Nat)))),
  (Jvm.Cond.not (Jvm.Cond.eq (Jvm.Term.string "HillSchool$LawReader" (122 : Nat)) (Jvm.Term.string "HillSchool$LawReader" (126 : Nat)))),
  (Jvm.Cond.not (Jvm.Cond.eq (Jvm.Term.string "HillSchool$LawReader" (124 : Nat)) (Jvm.Term.string "HillSchool$LawReader" (126 : Nat)))),
  (Jvm.Cond.exactly (Jvm.Term.string "HillSchool$LawReader" (128 : Nat)) "java/lang/String"),
  (Jvm.Cond.eq (Jvm.Term.field (Jvm.Term.string "HillSchool$LawReader" (128 : Nat)) "java/lang/String" "coder" "B") (Jvm.Term.int (0 : Int32))),
  (Jvm.Cond.arrayOf (Jvm.Term.field (Jvm.Term.string "HillSchool$LawReader" (128 : Nat)) "java/lang/String" "value" "[B") Jvm.ClassFile.FieldType.byte),
  (Jvm.Cond.eq (Jvm.Term.length (Jvm.Term.field (Jvm.Term.string "HillSchool$LawReader" (128 : Nat)) "java/lang/String" "value" "[B")) (Jvm.Term.int (3 : Int32))),
  (Jvm.Cond.eq (Jvm.Term.elem (Jvm.Term.field (Jvm.Term.string "HillSchool$LawReader" (128 : Nat)) "java/lang/String" "value" "[B") (Jvm.Term.int (0 : Int32))) (Jvm.Term.int (97 : Int32))),
  (Jvm.Cond.eq (Jvm.Term.elem (Jvm.Term.field (Jvm.Term.string "HillSchool$LawReader" (128 : Nat)) "java/lang/String" "value" "[B") (Jvm.Term.int (1 : Int32))) (Jvm.Term.int (110 : Int32))),
  (Jvm.Cond.eq (Jvm.Term.elem (Jvm.Term.field (Jvm.Term.string "HillSchool$LawReader" (128 : Nat)) "java/lang/String" "value" "[B") (Jvm.Term.int (2 : Int32))) (Jvm.Term.int (100 : Int32))),
  (Jvm.Cond.not (Jvm.Cond.eq (Jvm.Term.string "HillSchool$LawReader" (98 : Nat)) (Jvm.Term.string "HillSchool$LawReader" (128 : Nat)))),
  (Jvm.Cond.not (Jvm.Cond.eq (Jvm.Term.string "HillSchool$LawReader" (106 : Nat)) (Jvm.Term.string "HillSchool$LawReader" (128 : Nat)))),
  (Jvm.Cond.not (Jvm.Cond.eq (Jvm.Term.string "HillSchool$LawReader" (108 : Nat)) (Jvm.Term.string "HillSchool$LawReader" (128 : Nat)))),
  (Jvm.Cond.not (Jvm.Cond.eq (Jvm.Term.string "HillSchool$LawReader" (110 : Nat)) (Jvm.Term.string "HillSchool$LawReader" (128 : Nat)))),
  (Jvm.Cond.not (Jvm.Cond.eq (Jvm.Term.string "HillSchool$LawReader" (112 : Nat)) (Jvm.Term.string "HillSchool$LawReader" (128 : Nat)))),
  (Jvm.Cond.not (Jvm.Cond.eq (Jvm.Term.string "HillSchool$LawReader" (114 : Nat)) (Jvm.Term.string "HillSchool$LawReader" (128 : Nat)))),
  (Jvm.Cond.not (Jvm.Cond.eq (Jvm.Term.string "HillSchool$LawReader" (116 : Nat)) (Jvm.Term.string "HillSchool$LawReader" (128 : Nat)))),
  (Jvm.Cond.not (Jvm.Cond.eq (Jvm.Term.string "HillSchool$LawReader" (118 : Nat)) (Jvm.Term.string "HillSchool$LawReader" (128 : Nat)))),
  (Jvm.Cond.not (Jvm.Cond.eq (Jvm.Term.string "HillSchool$LawReader" (120 : Nat)) (Jvm.Term.string "HillSchool$LawReader" (128 : Nat)))),
  (Jvm.Cond.not (Jvm.Cond.eq (Jvm.Term.string "HillSchool$LawReader" (122 : Nat)) (Jvm.Term.string "HillSchool$LawReader" (128 : Nat)))),
  (Jvm.Cond.not (Jvm.Cond.eq (Jvm.Term.string "HillSchool$LawReader" (124 : Nat)) (Jvm.Term.string "HillSchool$LawReader" (128 : Nat)))),
  (Jvm.Cond.not (Jvm.Cond.eq (Jvm.Term.string "HillSchool$LawReader" (126 : Nat)) (Jvm.Term.string "HillSchool$LawReader" (128 : Nat)))),
  (Jvm.Cond.exactly (Jvm.Term.string "HillSchool$LawReader" (130 : Nat)) "java/lang/String"),
  (Jvm.Cond.eq (Jvm.Term.field (Jvm.Term.string "HillSchool$LawReader" (130 : Nat)) "java/lang/String" "coder" "B") (Jvm.Term.int (0 : Int32))),
  (Jvm.Cond.arrayOf (Jvm.Term.field (Jvm.Term.string "HillSchool$LawReader" (130 : Nat)) "java/lang/String" "value" "[B") Jvm.ClassFile.FieldType.byte),
  (Jvm.Cond.eq (Jvm.Term.length (Jvm.Term.field (Jvm.Term.string "HillSchool$LawReader" (130 : Nat)) "java/lang/String" "value" "[B")) (Jvm.Term.int (3 : Int32))),
  (Jvm.Cond.eq (Jvm.Term.elem (Jvm.Term.field (Jvm.Term.string "HillSchool$LawReader" (130 : Nat)) "java/lang/String" "value" "[B") (Jvm.Term.int (0 : Int32))) (Jvm.Term.int (110 : Int32))),
  (Jvm.Cond.eq (Jvm.Term.elem (Jvm.Term.field (Jvm.Term.string "HillSchool$LawReader" (130 : Nat)) "java/lang/String" "value" "[B") (Jvm.Term.int (1 : Int32))) (Jvm.Term.int (111 : Int32))),
  (Jvm.Cond.eq (Jvm.Term.elem (Jvm.Term.field (Jvm.Term.string "HillSchool$LawReader" (130 : Nat)) "java/lang/String" "value" "[B") (Jvm.Term.int (2 : Int32))) (Jvm.Term.int (116 : Int32))),
  (Jvm.Cond.not (Jvm.Cond.eq (Jvm.Term.string "HillSchool$LawReader" (98 : Nat)) (Jvm.Term.string "HillSchool$LawReader" (130 : Nat)))),
  (Jvm.Cond.not (Jvm.Cond.eq (Jvm.Term.string "HillSchool$LawReader" (106 : Nat)) (Jvm.Term.string "HillSchool$LawReader" (130 : Nat)))),
  (Jvm.Cond.not (Jvm.Cond.eq (Jvm.Term.string "HillSchool$LawReader" (108 : Nat)) (Jvm.Term.string "HillSchool$LawReader" (130 : Nat)))),
  (Jvm.Cond.not (Jvm.Cond.eq (Jvm.Term.string "HillSchool$LawReader" (110 : Nat)) (Jvm.Term.string "HillSchool$LawReader" (130 : Nat)))),
  (Jvm.Cond.not (Jvm.Cond.eq (Jvm.Term.string "HillSchool$LawReader" (112 : Nat)) (Jvm.Term.string "HillSchool$LawReader" (130 : Nat)))),
  (Jvm.Cond.not (Jvm.Cond.eq (Jvm.Term.string "HillSchool$LawReader" (114 : Nat)) (Jvm.Term.string "HillSchool$LawReader" (130 : Nat)))),
  (Jvm.Cond.not (Jvm.Cond.eq (Jvm.Term.string "HillSchool$LawReader" (116 : Nat)) (Jvm.Term.string "HillSchool$LawReader" (130 : Nat)))),
  (Jvm.Cond.not (Jvm.Cond.eq (Jvm.Term.string "HillSchool$LawReader" (118 : Nat)) (Jvm.Term.string "HillSchool$LawReader" (130 : Nat)))),
  (Jvm.Cond.not (Jvm.Cond.eq (Jvm.Term.string "HillSchool$LawReader" (120 : Nat)) (Jvm.Term.string "HillSchool$LawReader" (130 : Nat)))),
  (Jvm.Cond.not (Jvm.Cond.eq (Jvm.Term.string "HillSchool$LawReader" (122 : Nat)) (Jvm.Term.string "HillSchool$LawReader" (130 : Nat)))),
  (Jvm.Cond.not (Jvm.Cond.eq (Jvm.Term.string "HillSchool$LawReader" (124 : Nat)) (Jvm.Term.string "HillSchool$LawReader" (130 : Nat)))),
  (Jvm.Cond.not (Jvm.Cond.eq (Jvm.Term.string "HillSchool$LawReader" (126 : Nat)) (Jvm.Term.string "HillSchool$LawReader" (130 : Nat)))),
  (Jvm.Cond.not (Jvm.Cond.eq (Jvm.Term.string "HillSchool$LawReader" (128 : Nat)) (Jvm.Term.string "HillSchool$LawReader" (130 : Nat)))),
  (Jvm.Cond.not (Jvm.Cond.eq (Jvm.Term.arg (0 : Nat)) (Jvm.Term.static "HillSchool" "FIRST_TERMS" "[I"))),
  (Jvm.Cond.not (Jvm.Cond.eq (Jvm.Term.arg (0 : Nat)) (Jvm.Term.static "HillSchool" "LEAST_TERMS" "[I"))),
  (Jvm.Cond.not (Jvm.Cond.eq (Jvm.Term.arg (0 : Nat)) (Jvm.Term.static "HillSchool" "MOST_TERMS" "[I"))),
  (Jvm.Cond.exactly (Jvm.Term.static "HillSchool" "FIRST_TERMS" "[I") "[I"),
  (Jvm.Cond.exactly (Jvm.Term.static "HillSchool" "LEAST_TERMS" "[I") "[I"),
  (Jvm.Cond.exactly (Jvm.Term.static "HillSchool" "MOST_TERMS" "[I") "[I")]
set_option maxRecDepth 100000 in
theorem zgl_eq : zgiv = zgl := by decide +kernel
theorem zgl_in {k : Nat} {c : Cond} (h : zgl[k]? = some c) : c ∈ zgiv := by rw [zgl_eq]; exact List.mem_of_getElem? h
theorem zgx_ex : ∀ i : Fin 14, zgl[([54, 63, 76, 88, 99, 109, 122, 135, 150, 167, 184, 200, 217, 236] : List Nat).getD i.val 0]? = some (Cond.exactly (.string "HillSchool$LawReader" (zix.getD i.val 0)) "java/lang/String") := by decide +kernel
theorem zg_ex : ∀ i : Fin 14, Cond.exactly (.string "HillSchool$LawReader" (zix.getD i.val 0)) "java/lang/String" ∈ zgiv := fun i => zgl_in (zgx_ex i)
theorem zgx_co : ∀ i : Fin 14, zgl[([55, 64, 77, 89, 100, 110, 123, 136, 151, 168, 185, 201, 218, 237] : List Nat).getD i.val 0]? = some (Cond.eq (.field (.string "HillSchool$LawReader" (zix.getD i.val 0)) "java/lang/String" "coder" "B") (.int 0)) := by decide +kernel
theorem zg_co : ∀ i : Fin 14, Cond.eq (.field (.string "HillSchool$LawReader" (zix.getD i.val 0)) "java/lang/String" "coder" "B") (.int 0) ∈ zgiv := fun i => zgl_in (zgx_co i)
theorem zgx_ar : ∀ i : Fin 14, zgl[([56, 65, 78, 90, 101, 111, 124, 137, 152, 169, 186, 202, 219, 238] : List Nat).getD i.val 0]? = some (Cond.arrayOf (.field (.string "HillSchool$LawReader" (zix.getD i.val 0)) "java/lang/String" "value" "[B") .byte) := by decide +kernel
theorem zg_ar : ∀ i : Fin 14, Cond.arrayOf (.field (.string "HillSchool$LawReader" (zix.getD i.val 0)) "java/lang/String" "value" "[B") .byte ∈ zgiv := fun i => zgl_in (zgx_ar i)
theorem zgx_le : ∀ i : Fin 14, zgl[([57, 66, 79, 91, 102, 112, 125, 138, 153, 170, 187, 203, 220, 239] : List Nat).getD i.val 0]? = some (Cond.eq (.length (.field (.string "HillSchool$LawReader" (zix.getD i.val 0)) "java/lang/String" "value" "[B")) (.int (Int32.ofNat (zlen.getD i.val 0)))) := by decide +kernel
theorem zg_le : ∀ i : Fin 14, Cond.eq (.length (.field (.string "HillSchool$LawReader" (zix.getD i.val 0)) "java/lang/String" "value" "[B")) (.int (Int32.ofNat (zlen.getD i.val 0))) ∈ zgiv := fun i => zgl_in (zgx_le i)
theorem zgx_el : ∀ i : Fin 14, ∀ j : Fin 8, j.val < zlen.getD i.val 0 → zgl[(([[58, 59, 60, 61, 62], [67, 68, 69, 70, 71, 72, 73, 74], [80, 81, 82, 83, 84, 85], [92, 93, 94, 95], [103, 104], [113, 114, 115, 116], [126, 127, 128], [139, 140, 141, 142], [154, 155, 156, 157, 158], [171, 172, 173, 174], [188, 189], [204, 205], [221, 222, 223], [240, 241, 242]] : List (List Nat)).getD i.val []).getD j.val 0]? = some (Cond.eq (.elem (.field (.string "HillSchool$LawReader" (zix.getD i.val 0)) "java/lang/String" "value" "[B") (.int (Int32.ofNat j.val))) (.int ((zbyt.getD i.val []).getD j.val 0))) := by decide +kernel
theorem zg_el : ∀ i : Fin 14, ∀ j : Fin 8, j.val < zlen.getD i.val 0 → Cond.eq (.elem (.field (.string "HillSchool$LawReader" (zix.getD i.val 0)) "java/lang/String" "value" "[B") (.int (Int32.ofNat j.val))) (.int ((zbyt.getD i.val []).getD j.val 0)) ∈ zgiv := fun i j h => zgl_in (zgx_el i j h)
theorem zgx_ne1 : ∀ i : Fin 14, i.val < 1 → zgl[([75] : List Nat).getD i.val 0]? = some (Cond.not (Cond.eq (.string "HillSchool$LawReader" (zix.getD i.val 0)) (.string "HillSchool$LawReader" (zix.getD 1 0)))) := by decide +kernel
theorem zg_ne1 : ∀ i : Fin 14, i.val < 1 → Cond.not (Cond.eq (.string "HillSchool$LawReader" (zix.getD i.val 0)) (.string "HillSchool$LawReader" (zix.getD 1 0))) ∈ zgiv := fun i h => zgl_in (zgx_ne1 i h)
theorem zgx_ne2 : ∀ i : Fin 14, i.val < 2 → zgl[([86, 87] : List Nat).getD i.val 0]? = some (Cond.not (Cond.eq (.string "HillSchool$LawReader" (zix.getD i.val 0)) (.string "HillSchool$LawReader" (zix.getD 2 0)))) := by decide +kernel
theorem zg_ne2 : ∀ i : Fin 14, i.val < 2 → Cond.not (Cond.eq (.string "HillSchool$LawReader" (zix.getD i.val 0)) (.string "HillSchool$LawReader" (zix.getD 2 0))) ∈ zgiv := fun i h => zgl_in (zgx_ne2 i h)
theorem zgx_ne3 : ∀ i : Fin 14, i.val < 3 → zgl[([96, 97, 98] : List Nat).getD i.val 0]? = some (Cond.not (Cond.eq (.string "HillSchool$LawReader" (zix.getD i.val 0)) (.string "HillSchool$LawReader" (zix.getD 3 0)))) := by decide +kernel
theorem zg_ne3 : ∀ i : Fin 14, i.val < 3 → Cond.not (Cond.eq (.string "HillSchool$LawReader" (zix.getD i.val 0)) (.string "HillSchool$LawReader" (zix.getD 3 0))) ∈ zgiv := fun i h => zgl_in (zgx_ne3 i h)
theorem zgx_ne4 : ∀ i : Fin 14, i.val < 4 → zgl[([105, 106, 107, 108] : List Nat).getD i.val 0]? = some (Cond.not (Cond.eq (.string "HillSchool$LawReader" (zix.getD i.val 0)) (.string "HillSchool$LawReader" (zix.getD 4 0)))) := by decide +kernel
theorem zg_ne4 : ∀ i : Fin 14, i.val < 4 → Cond.not (Cond.eq (.string "HillSchool$LawReader" (zix.getD i.val 0)) (.string "HillSchool$LawReader" (zix.getD 4 0))) ∈ zgiv := fun i h => zgl_in (zgx_ne4 i h)
theorem zgx_ne5 : ∀ i : Fin 14, i.val < 5 → zgl[([117, 118, 119, 120, 121] : List Nat).getD i.val 0]? = some (Cond.not (Cond.eq (.string "HillSchool$LawReader" (zix.getD i.val 0)) (.string "HillSchool$LawReader" (zix.getD 5 0)))) := by decide +kernel
theorem zg_ne5 : ∀ i : Fin 14, i.val < 5 → Cond.not (Cond.eq (.string "HillSchool$LawReader" (zix.getD i.val 0)) (.string "HillSchool$LawReader" (zix.getD 5 0))) ∈ zgiv := fun i h => zgl_in (zgx_ne5 i h)
theorem zgx_ne6 : ∀ i : Fin 14, i.val < 6 → zgl[([129, 130, 131, 132, 133, 134] : List Nat).getD i.val 0]? = some (Cond.not (Cond.eq (.string "HillSchool$LawReader" (zix.getD i.val 0)) (.string "HillSchool$LawReader" (zix.getD 6 0)))) := by decide +kernel
theorem zg_ne6 : ∀ i : Fin 14, i.val < 6 → Cond.not (Cond.eq (.string "HillSchool$LawReader" (zix.getD i.val 0)) (.string "HillSchool$LawReader" (zix.getD 6 0))) ∈ zgiv := fun i h => zgl_in (zgx_ne6 i h)
theorem zgx_ne7 : ∀ i : Fin 14, i.val < 7 → zgl[([143, 144, 145, 146, 147, 148, 149] : List Nat).getD i.val 0]? = some (Cond.not (Cond.eq (.string "HillSchool$LawReader" (zix.getD i.val 0)) (.string "HillSchool$LawReader" (zix.getD 7 0)))) := by decide +kernel
theorem zg_ne7 : ∀ i : Fin 14, i.val < 7 → Cond.not (Cond.eq (.string "HillSchool$LawReader" (zix.getD i.val 0)) (.string "HillSchool$LawReader" (zix.getD 7 0))) ∈ zgiv := fun i h => zgl_in (zgx_ne7 i h)
theorem zgx_ne8 : ∀ i : Fin 14, i.val < 8 → zgl[([159, 160, 161, 162, 163, 164, 165, 166] : List Nat).getD i.val 0]? = some (Cond.not (Cond.eq (.string "HillSchool$LawReader" (zix.getD i.val 0)) (.string "HillSchool$LawReader" (zix.getD 8 0)))) := by decide +kernel
theorem zg_ne8 : ∀ i : Fin 14, i.val < 8 → Cond.not (Cond.eq (.string "HillSchool$LawReader" (zix.getD i.val 0)) (.string "HillSchool$LawReader" (zix.getD 8 0))) ∈ zgiv := fun i h => zgl_in (zgx_ne8 i h)
theorem zgx_ne9 : ∀ i : Fin 14, i.val < 9 → zgl[([175, 176, 177, 178, 179, 180, 181, 182, 183] : List Nat).getD i.val 0]? = some (Cond.not (Cond.eq (.string "HillSchool$LawReader" (zix.getD i.val 0)) (.string "HillSchool$LawReader" (zix.getD 9 0)))) := by decide +kernel
theorem zg_ne9 : ∀ i : Fin 14, i.val < 9 → Cond.not (Cond.eq (.string "HillSchool$LawReader" (zix.getD i.val 0)) (.string "HillSchool$LawReader" (zix.getD 9 0))) ∈ zgiv := fun i h => zgl_in (zgx_ne9 i h)
theorem zgx_ne10 : ∀ i : Fin 14, i.val < 10 → zgl[([190, 191, 192, 193, 194, 195, 196, 197, 198, 199] : List Nat).getD i.val 0]? = some (Cond.not (Cond.eq (.string "HillSchool$LawReader" (zix.getD i.val 0)) (.string "HillSchool$LawReader" (zix.getD 10 0)))) := by decide +kernel
theorem zg_ne10 : ∀ i : Fin 14, i.val < 10 → Cond.not (Cond.eq (.string "HillSchool$LawReader" (zix.getD i.val 0)) (.string "HillSchool$LawReader" (zix.getD 10 0))) ∈ zgiv := fun i h => zgl_in (zgx_ne10 i h)
theorem zgx_ne11 : ∀ i : Fin 14, i.val < 11 → zgl[([206, 207, 208, 209, 210, 211, 212, 213, 214, 215, 216] : List Nat).getD i.val 0]? = some (Cond.not (Cond.eq (.string "HillSchool$LawReader" (zix.getD i.val 0)) (.string "HillSchool$LawReader" (zix.getD 11 0)))) := by decide +kernel
theorem zg_ne11 : ∀ i : Fin 14, i.val < 11 → Cond.not (Cond.eq (.string "HillSchool$LawReader" (zix.getD i.val 0)) (.string "HillSchool$LawReader" (zix.getD 11 0))) ∈ zgiv := fun i h => zgl_in (zgx_ne11 i h)
theorem zgx_ne12 : ∀ i : Fin 14, i.val < 12 → zgl[([224, 225, 226, 227, 228, 229, 230, 231, 232, 233, 234, 235] : List Nat).getD i.val 0]? = some (Cond.not (Cond.eq (.string "HillSchool$LawReader" (zix.getD i.val 0)) (.string "HillSchool$LawReader" (zix.getD 12 0)))) := by decide +kernel
theorem zg_ne12 : ∀ i : Fin 14, i.val < 12 → Cond.not (Cond.eq (.string "HillSchool$LawReader" (zix.getD i.val 0)) (.string "HillSchool$LawReader" (zix.getD 12 0))) ∈ zgiv := fun i h => zgl_in (zgx_ne12 i h)
theorem zgx_ne13 : ∀ i : Fin 14, i.val < 13 → zgl[([243, 244, 245, 246, 247, 248, 249, 250, 251, 252, 253, 254, 255] : List Nat).getD i.val 0]? = some (Cond.not (Cond.eq (.string "HillSchool$LawReader" (zix.getD i.val 0)) (.string "HillSchool$LawReader" (zix.getD 13 0)))) := by decide +kernel
theorem zg_ne13 : ∀ i : Fin 14, i.val < 13 → Cond.not (Cond.eq (.string "HillSchool$LawReader" (zix.getD i.val 0)) (.string "HillSchool$LawReader" (zix.getD 13 0))) ∈ zgiv := fun i h => zgl_in (zgx_ne13 i h)
theorem zg_lt : ∀ i j : Fin 14, i.val < j.val → Cond.not (Cond.eq (.string "HillSchool$LawReader" (zix.getD i.val 0)) (.string "HillSchool$LawReader" (zix.getD j.val 0))) ∈ zgiv := fun i j h => match j, h with
  | ⟨0, _⟩, h => absurd h (Nat.not_lt_zero _)
  | ⟨1, _⟩, h => zg_ne1 i h
  | ⟨2, _⟩, h => zg_ne2 i h
  | ⟨3, _⟩, h => zg_ne3 i h
  | ⟨4, _⟩, h => zg_ne4 i h
  | ⟨5, _⟩, h => zg_ne5 i h
  | ⟨6, _⟩, h => zg_ne6 i h
  | ⟨7, _⟩, h => zg_ne7 i h
  | ⟨8, _⟩, h => zg_ne8 i h
  | ⟨9, _⟩, h => zg_ne9 i h
  | ⟨10, _⟩, h => zg_ne10 i h
  | ⟨11, _⟩, h => zg_ne11 i h
  | ⟨12, _⟩, h => zg_ne12 i h
  | ⟨13, _⟩, h => zg_ne13 i h
theorem zg_ln : ∀ i : Fin 14, zlen.getD i.val 0 ≤ 8 := by decide +kernel
theorem zgx_ta0 : ∀ i : Fin 3, zgl[([12, 19, 5] : List Nat).getD i.val 0]? = some (Cond.arrayOf (.static "HillSchool" (zcname.getD i.val "") "[I") .int) := by decide +kernel
theorem zgx_ta1 : ∀ i : Fin 3, zgl[([13, 20, 6] : List Nat).getD i.val 0]? = some (Cond.eq (.length (.static "HillSchool" (zcname.getD i.val "") "[I")) (.int (Int32.ofNat 4))) := by decide +kernel
theorem zgx_ta2 : ∀ i : Fin 3, zgl[([260, 261, 259] : List Nat).getD i.val 0]? = some (Cond.exactly (.static "HillSchool" (zcname.getD i.val "") "[I") "[I") := by decide +kernel
theorem zg_ta : ∀ i : Fin 3, Cond.arrayOf (.static "HillSchool" (zcname.getD i.val "") "[I") .int ∈ zgiv ∧ Cond.eq (.length (.static "HillSchool" (zcname.getD i.val "") "[I")) (.int (Int32.ofNat 4)) ∈ zgiv ∧ Cond.exactly (.static "HillSchool" (zcname.getD i.val "") "[I") "[I" ∈ zgiv := fun i => ⟨zgl_in (zgx_ta0 i), zgl_in (zgx_ta1 i), zgl_in (zgx_ta2 i)⟩
theorem zgx_te : ∀ i : Fin 3, ∀ j : Fin 4, zgl[(([[14, 15, 16, 17], [21, 22, 23, 24], [7, 8, 9, 10]] : List (List Nat)).getD i.val []).getD j.val 0]? = some (Cond.eq (.elem (.static "HillSchool" (zcname.getD i.val "") "[I") (.int (Int32.ofNat j.val))) (.int (za (zk i.val) j.val))) := by decide +kernel
theorem zg_te : ∀ i : Fin 3, ∀ j : Fin 4, Cond.eq (.elem (.static "HillSchool" (zcname.getD i.val "") "[I") (.int (Int32.ofNat j.val))) (.int (za (zk i.val) j.val)) ∈ zgiv := fun i j => zgl_in (zgx_te i j)
theorem zgx_cs0 : zgl[(25 : Nat)]? = some (Cond.eq (.static "java/lang/String" "COMPACT_STRINGS" "Z") (.int 1)) := by decide +kernel
theorem zgx_cs1 : zgl[(26 : Nat)]? = some (Cond.isRef (.static "jdk/internal/util/Preconditions" "SIOOBE_FORMATTER" "Ljava/util/function/BiFunction;")) := by decide +kernel
theorem zg_cs : Cond.eq (.static "java/lang/String" "COMPACT_STRINGS" "Z") (.int 1) ∈ zgiv ∧ Cond.isRef (.static "jdk/internal/util/Preconditions" "SIOOBE_FORMATTER" "Ljava/util/function/BiFunction;") ∈ zgiv := ⟨zgl_in zgx_cs0, zgl_in zgx_cs1⟩
/-- what lies beside the worlds, at the start -/
theorem zE_start {s : State} {args : Array Value} {A : Nat → Prop} (hA : ∀ a : Nat, a < s.heap.size → ¬ A a) (hts : ∀ w ∈ lw_tbl, w.before args s = true) (hgv : (Jvm.Cond.and given_1 narrow_1).before args s = true)
    (hR : ∀ i : Fin 14, Cond.stringRef "HillSchool$LawReader" (zix.getD i.val 0) (ztx.getD i.val "") ∈ lw_tbl) (hL : ∀ i : Fin 3, Cond.laysStatic "HillSchool" (zcname.getD i.val "") "[I" ∈ lw_tbl) (hI : Cond.initialized "HillSchool" ∈ lw_tbl)
    (hC1 : Cond.laysStatic "java/lang/String" "COMPACT_STRINGS" "Z" ∈ lw_tbl) (hC2 : Cond.initialized "java/lang/String" ∈ lw_tbl) (hS1 : Cond.laysStatic "jdk/internal/util/Preconditions" "SIOOBE_FORMATTER" "Ljava/util/function/BiFunction;" ∈ lw_tbl) (hS2 : Cond.initialized "jdk/internal/util/Preconditions" ∈ lw_tbl) : ∃ ev : zEv, zE ev A s s.heap := by
  have hs : ∀ c ∈ zgiv, c.before args s = true := flat_of_before _ hgv
  obtain ⟨adK, adV, hS, hev⟩ := vk_Sof (args := args) (s := s) (N := 14) (tm := fun i => .string "HillSchool$LawReader" (zix.getD i 0)) (len := zlen) (byt := zbyt) (A := A)
    (fun i hi => Nat.lt_of_le_of_lt (zg_ln ⟨i, hi⟩) (by decide)) (fun i hi => hs _ (zg_ex ⟨i, hi⟩)) (fun i hi => hs _ (zg_co ⟨i, hi⟩)) (fun i hi => hs _ (zg_ar ⟨i, hi⟩)) (fun i hi => hs _ (zg_le ⟨i, hi⟩))
    (fun i hi j hj => hs _ (zg_el ⟨i, hi⟩ ⟨j, Nat.lt_of_lt_of_le hj (zg_ln ⟨i, hi⟩)⟩ hj))
    (fun i j hi hj hij => by
      rcases Nat.lt_or_gt_of_ne hij with h | h
      · exact Or.inl (hs _ (zg_lt ⟨i, hi⟩ ⟨j, hj⟩ h))
      · exact Or.inr (hs _ (zg_lt ⟨j, hj⟩ ⟨i, hi⟩ h))) hA
  have hT : ∀ i : Nat, ∃ t : Nat, i < 3 → (va_Z "HillSchool" (zcname.getD i "") "[I" (.ref t) A s s.heap ∧ va_T .int t 4 (fun j => .int (za (zk i) j)) A s s.heap ∧ va_O "[I" t A s s.heap ∧ zSz t 4 A s.heap) := by
    intro i
    by_cases hi : i < 3
    · obtain ⟨h1, h2, h3⟩ := zg_ta ⟨i, hi⟩
      have hlen := va_eqt (hs _ h2)
      obtain ⟨t, ht, hT⟩ := va_Tof (f := fun j => .int (za (zk i) j)) (A := A) (N := 4) (by decide) (hs _ h1) hlen (fun j hj => va_eqt (hs _ (zg_te ⟨i, hi⟩ ⟨j, hj⟩))) hA
      exact ⟨t, fun _ => ⟨va_Zof (hts _ (hL ⟨i, hi⟩)) (hts _ hI) ht hA, hT, va_Oof (hs _ h3) ht hA, zSz_of (by decide) ht hlen hA⟩⟩
    · exact ⟨0, fun h => absurd h hi⟩
  obtain ⟨tf, htf⟩ := Classical.axiomOfChoice hT
  exact ⟨(tf, adK, adV), ⟨fun w hw => zisN_of (znest_is w hw) (hts _ (List.mem_filter.mp hw).1), fun i hi => vk_R.of (hts _ (hR ⟨i, hi⟩)) (hev i hi)⟩, htf, va_Zof (hts _ hC1) (hts _ hC2) (va_eqi (hs _ zg_cs.1)) hA, va_Zqof (hts _ hS1) (hts _ hS2) (hs _ zg_cs.2) hA, hS⟩
end
section
noncomputable def zst_s0 : Nat → Int := fun k => ([0, (-1), 0, 0, 0, 0, 0, 0, 0, 0, 0, 0, (-1), 0, 0, 0, 0, 0, 0, 0, 0, 0, 0, 0, 0, 0, 0, 0, 0, (-1), 0, 0, 0, 0, 0, 0, 0, 0, 0, 0, (-1), 0, 0, 0, (-1), 0, 0, 0, 0, 0, 0, 0, 0, (-1), 0, 0, 0, 0, (-1), 0, 0, 0, 0, 0, (-1), (-1), (-1), (-1), (-1), (-1), (-1), (-1), (-1)] : List Int).getD k 0
noncomputable def zst_t0 : Nat → Nat → Int := fun k => ([(fun _ => 0), (fun _ => 0), (fun _ => 0), (fun _ => 0), (zu (zu (zu (zu (fun _ => 0) 4 (-1)) 6 1) 7 3) 8 1), (fun _ => 0), (fun _ => 0), (fun _ => 0), (fun _ => 0), (fun _ => 0), (fun _ => 0), (fun _ => 0), (fun _ => 0), (zu (zu (zu (zu (zu (zu (zu (zu (fun _ => 0) 0 3417476) 1 674919554696) 2 777297172) 3 215533) 4 655) 5 271592) 6 12791) 7 661069), (fun _ => 0), (fun _ => 0), (fun _ => 0), (fun _ => 0), (fun _ => 0), (fun _ => 0), (fun _ => 0), (fun _ => 0), (fun _ => 0), (fun _ => 0), (fun _ => 0), (fun _ => 0), (fun _ => 0), (fun _ => 0), (fun _ => 0), (fun _ => 0), (fun _ => 0), (fun _ => 0), (fun _ => 0), (fun _ => 0), (fun _ => 0), (fun _ => 0), (fun _ => 0), (fun _ => 0), (zk 2), (fun _ => 0), (fun _ => 0), (fun _ => 0), (fun _ => 0), (fun _ => 0), (fun _ => 0), (fun _ => 0), (fun _ => 0), (fun _ => 0), (fun _ => 0), (fun _ => 0), (fun _ => 0), (fun _ => 0), (fun _ => 0), (fun _ => 0), (fun _ => 0), (fun _ => 0), (fun _ => 0), (fun _ => 0), (fun _ => 0), (fun _ => 0), (fun _ => 0), (fun _ => 0), (fun _ => 0), (fun _ => 0), (fun _ => 0), (fun _ => 0), (fun _ => 0), (fun _ => 0), (fun _ => 0), (zk 2), (fun _ => 0), (fun _ => 0), (fun _ => 0), (fun _ => 0), (fun _ => 0), (fun _ => 0), (fun _ => 0), (zk 2), (fun _ => 0), (fun _ => 0), (fun _ => 0), (fun _ => 0), (fun _ => 0), (fun _ => 0), (fun _ => 0), (fun _ => 0), (fun _ => 0), (fun _ => 0), (fun _ => 0), (fun _ => 0), (fun _ => 0), (fun _ => 0)] : List (Nat → Int)).getD k (fun _ => 0)
theorem zst_RI : RI (zst_t0 4) := by
  have zst_k : ∀ j : Fin 177, zlo j.val ≤ zst_t0 4 j.val ∧ zst_t0 4 j.val ≤ zhi j.val := by decide +kernel
  exact ⟨fun j hj => zst_k ⟨j, hj⟩, by decide, fun l hl => absurd hl (by have zst_e : zst_t0 4 3 = 0 := rfl; omega)⟩
set_option maxHeartbeats 4000000 in
set_option maxRecDepth 10000 in
theorem INV_start : INV 0 zst_s0 zst_t0 := ⟨by decide,
  by decide,
  by decide,
  by decide,
  by decide,
  by decide,
  by decide,
  by decide,
  by decide,
  by decide,
  by decide,
  by decide,
  by decide,
  by decide,
  by decide,
  by decide,
  by decide,
  by decide,
  by decide,
  by decide,
  by decide,
  by decide,
  by decide,
  by decide,
  by decide,
  by decide,
  by decide,
  by decide,
  by decide,
  by decide,
  by decide,
  by decide,
  by decide,
  by decide,
  by decide,
  by decide,
  by decide,
  by decide,
  by decide,
  by decide,
  by decide,
  by decide,
  by decide,
  (show zR (fun _ => (0 : Int)) 0 1 from zR_c (by decide)),
  (show zR (fun _ => (0 : Int)) 0 255 from zR_c (by decide)),
  (show zR (fun _ => (0 : Int)) 0 60 from zR_c (by decide)),
  (show zR (fun _ => (0 : Int)) 0 1 from zR_c (by decide)),
  (show zR (fun _ => (0 : Int)) 0 20 from zR_c (by decide)),
  (show zR (fun _ => (0 : Int)) 0 11 from zR_c (by decide)),
  (fun j => zk_r 2 j),
  (show zR (fun _ => (0 : Int)) (-1) 10 from zR_c (by decide)),
  (show zR (fun _ => (0 : Int)) (-2147483648) 2147483647 from zR_c (by decide)),
  (show zR (fun _ => (0 : Int)) 0 424 from zR_c (by decide)),
  (show zR (fun _ => (0 : Int)) (-2147483648) 2147483647 from zR_c (by decide)),
  (show zR (fun _ => (0 : Int)) 0 265 from zR_c (by decide)),
  (show zR (fun _ => (0 : Int)) 0 400 from zR_c (by decide)),
  (show zR (fun _ => (0 : Int)) 0 99 from zR_c (by decide)),
  (show zR (fun _ => (0 : Int)) (-2147483648) 2147483647 from zR_c (by decide)),
  (show zR (fun _ => (0 : Int)) 0 6720 from zR_c (by decide)),
  (show zR (fun _ => (0 : Int)) (-9223372036854775808) 9223372036854775807 from zR_c (by decide)),
  (show zR (fun _ => (0 : Int)) (-1) 6719 from zR_c (by decide)),
  (show zR (fun _ => (0 : Int)) 0 150 from zR_c (by decide)),
  (show zR (fun _ => (0 : Int)) 0 6719 from zR_c (by decide)),
  (show zR (fun _ => (0 : Int)) 0 6719 from zR_c (by decide)),
  (show zR (fun _ => (0 : Int)) 0 30 from zR_c (by decide)),
  (show zR (fun _ => (0 : Int)) 0 5 from zR_c (by decide)),
  (show zR (fun _ => (0 : Int)) 0 7 from zR_c (by decide)),
  (show zR (fun _ => (0 : Int)) (-1) 11 from zR_c (by decide)),
  (show zR (fun _ => (0 : Int)) (-1) 11 from zR_c (by decide)),
  (show zR (fun _ => (0 : Int)) 0 1000000000 from zR_c (by decide)),
  (show zR (fun _ => (0 : Int)) 0 10 from zR_c (by decide)),
  (show zR (fun _ => (0 : Int)) 0 30 from zR_c (by decide)),
  (show zR (fun _ => (0 : Int)) 0 60 from zR_c (by decide)),
  (show zR (fun _ => (0 : Int)) 0 1 from zR_c (by decide)),
  (show zR (fun _ => (0 : Int)) 0 20 from zR_c (by decide)),
  (show zR (fun _ => (0 : Int)) 0 11 from zR_c (by decide)),
  (fun j => zk_r 2 j),
  (show zR (fun _ => (0 : Int)) (-1) 10 from zR_c (by decide)),
  (show zR (fun _ => (0 : Int)) (-2147483648) 2147483647 from zR_c (by decide)),
  (show zR (fun _ => (0 : Int)) 0 424 from zR_c (by decide)),
  (show zR (fun _ => (0 : Int)) 0 60 from zR_c (by decide)),
  (show zR (fun _ => (0 : Int)) 0 1 from zR_c (by decide)),
  (show zR (fun _ => (0 : Int)) 0 20 from zR_c (by decide)),
  (show zR (fun _ => (0 : Int)) 0 11 from zR_c (by decide)),
  (fun j => zk_r 2 j),
  (show zR (fun _ => (0 : Int)) (-1) 10 from zR_c (by decide)),
  (show zR (fun _ => (0 : Int)) (-2147483648) 2147483647 from zR_c (by decide)),
  (show zR (fun _ => (0 : Int)) 0 424 from zR_c (by decide)),
  (show zR (fun _ => (0 : Int)) 0 10 from zR_c (by decide)),
  (show zR (fun _ => (0 : Int)) 0 30 from zR_c (by decide)),
  (show zR (fun _ => (0 : Int)) 0 10 from zR_c (by decide)),
  (show zR (fun _ => (0 : Int)) 0 30 from zR_c (by decide)),
  (show zR (fun _ => (0 : Int)) 0 10 from zR_c (by decide)),
  (show zR (fun _ => (0 : Int)) 0 30 from zR_c (by decide)),
  (show zR (fun _ => (0 : Int)) 0 10 from zR_c (by decide)),
  (show zR (fun _ => (0 : Int)) 0 30 from zR_c (by decide)),
  (show zR (fun _ => (0 : Int)) 0 150 from zR_c (by decide)),
  (show zR (fun _ => (0 : Int)) 0 150 from zR_c (by decide)),
  (show zR (fun _ => (0 : Int)) 0 150 from zR_c (by decide)),
  zst_RI,
  by decide,
  by decide,
  (show zR (fun _ => (0 : Int)) 0 255 from zR_c (by decide)),
  (show zR (fun _ => (0 : Int)) 0 1 from zR_c (by decide)),
  (show zR (fun _ => (0 : Int)) 0 10 from zR_c (by decide)),
  (show zR (fun _ => (0 : Int)) 0 30 from zR_c (by decide)),
  (show zR (fun _ => (0 : Int)) 0 1000000000 from zR_c (by decide)),
  (show zR (fun _ => (0 : Int)) (-1) 17 from zR_c (by decide)),
  (show zR (fun _ => (0 : Int)) (-1000) 60 from zR_c (by decide)),
  (show zR (fun _ => (0 : Int)) (-1) 17 from zR_c (by decide)),
  (show zR (fun _ => (0 : Int)) 0 30 from zR_c (by decide)),
  (show zR (fun _ => (0 : Int)) (-1) 99 from zR_c (by decide)),
  (fun k hk h => absurd rfl h),
  by decide,
  by decide,
  by decide,
  (fun c hc => absurd hc (by have zst_e : zst_s0 26 = 0 := rfl; omega)),
  (fun c hc => absurd hc (by have zst_e : zst_s0 26 = 0 := rfl; omega)),
  (fun c hc => absurd hc (by have zst_e : zst_s0 26 = 0 := rfl; omega)),
  (fun c hc => absurd hc (by have zst_e : zst_s0 27 = 0 := rfl; omega)),
  (fun c hc => (show ∀ j : Fin 4, zst_t0 38 j.val = zst_t0 4 (5 + 1 * j.val) from by decide) ⟨c, by omega⟩),
  (fun c hc => absurd hc (by have zst_e : zst_s0 49 = 0 := rfl; omega)),
  by decide,
  by decide,
  (fun h => absurd rfl h),
  (fun h => absurd rfl h)⟩
end
section

theorem zl_299 : (Jvm.Cond.instantiable "HillSchool$Carriers" (3 : Nat)) ∈ lw_tbl := zmj_1 196 rfl
theorem zl_138 : (Jvm.Cond.instantiable "HillSchool$Columns" (3 : Nat)) ∈ lw_tbl := zmj_1 35 rfl
theorem zl_132 : (Jvm.Cond.instantiable "HillSchool$Hill" (14 : Nat)) ∈ lw_tbl := zmj_1 29 rfl
theorem zl_274 : (Jvm.Cond.instantiable "HillSchool$Judge" (6 : Nat)) ∈ lw_tbl := zmj_1 171 rfl
theorem zl_243 : (Jvm.Cond.instantiable "HillSchool$LawReader" (7 : Nat)) ∈ lw_tbl := zmj_1 140 rfl
theorem zl_465 : (Jvm.Cond.instantiable "HillSchool$Paper" (1 : Nat)) ∈ lw_tbl := zmj_2 122 rfl
theorem zl_323 : (Jvm.Cond.instantiable "HillSchool$Plan" (4 : Nat)) ∈ lw_tbl := zmj_1 220 rfl
theorem zl_316 : (Jvm.Cond.instantiable "HillSchool$Planner" (16 : Nat)) ∈ lw_tbl := zmj_1 213 rfl
theorem zl_434 : (Jvm.Cond.instantiable "HillSchool$Scales" (8 : Nat)) ∈ lw_tbl := zmj_2 91 rfl
theorem zl_398 : (Jvm.Cond.instantiable "HillSchool$Schools" (9 : Nat)) ∈ lw_tbl := zmj_2 55 rfl
theorem zl_124 : (Jvm.Cond.instantiable "HillSchool" (16 : Nat)) ∈ lw_tbl := zmj_1 21 rfl
theorem zl_1151 : (Jvm.Cond.instantiable "HillSchoolModel" (53 : Nat)) ∈ lw_tbl := zmj_5 88 rfl
theorem zl_158 : (Jvm.Cond.arrayClass Jvm.ClassFile.FieldType.int) ∈ lw_tbl := zmj_1 55 rfl
theorem zl_272 : (Jvm.Cond.arrayClass Jvm.ClassFile.FieldType.boolean) ∈ lw_tbl := zmj_1 169 rfl
theorem zl_396 : (Jvm.Cond.arrayClass Jvm.ClassFile.FieldType.long) ∈ lw_tbl := zmj_2 53 rfl
theorem zl_241 : (Jvm.Cond.arrayOver (Jvm.ClassFile.FieldType.object "HillSchool$Hill")) ∈ lw_tbl := zmj_1 138 rfl
theorem zl_322 : (Jvm.Cond.arrayOver (Jvm.ClassFile.FieldType.object "HillSchool$Plan")) ∈ lw_tbl := zmj_1 219 rfl
theorem zl_104 : (Jvm.Cond.initialized "HillSchool") ∈ lw_tbl := zmj_1 1 rfl
theorem zl_689 : (Jvm.Cond.laysStatic "java/lang/String" "COMPACT_STRINGS" "Z") ∈ lw_tbl := zmj_3 106 rfl
theorem zl_117 : (Jvm.Cond.initialized "java/lang/String") ∈ lw_tbl := zmj_1 14 rfl
theorem zl_705 : (Jvm.Cond.laysStatic "jdk/internal/util/Preconditions" "SIOOBE_FORMATTER" "Ljava/util/function/BiFunction;") ∈ lw_tbl := zmj_3 122 rfl
theorem zl_119 : (Jvm.Cond.initialized "jdk/internal/util/Preconditions") ∈ lw_tbl := zmj_1 16 rfl
theorem zl_676 : (Jvm.Cond.stringRef "HillSchool$LawReader" (98 : Nat) "child") ∈ lw_tbl := zmj_3 93 rfl
theorem zl_728 : (Jvm.Cond.stringRef "HillSchool$LawReader" (106 : Nat) "strength") ∈ lw_tbl := zmj_3 145 rfl
theorem zl_729 : (Jvm.Cond.stringRef "HillSchool$LawReader" (108 : Nat) "weight") ∈ lw_tbl := zmj_3 146 rfl
theorem zl_730 : (Jvm.Cond.stringRef "HillSchool$LawReader" (110 : Nat) "from") ∈ lw_tbl := zmj_3 147 rfl
theorem zl_731 : (Jvm.Cond.stringRef "HillSchool$LawReader" (112 : Nat) "to") ∈ lw_tbl := zmj_3 148 rfl
theorem zl_732 : (Jvm.Cond.stringRef "HillSchool$LawReader" (114 : Nat) "high") ∈ lw_tbl := zmj_3 149 rfl
theorem zl_733 : (Jvm.Cond.stringRef "HillSchool$LawReader" (116 : Nat) "low") ∈ lw_tbl := zmj_3 150 rfl
theorem zl_734 : (Jvm.Cond.stringRef "HillSchool$LawReader" (118 : Nat) "term") ∈ lw_tbl := zmj_3 151 rfl
theorem zl_738 : (Jvm.Cond.stringRef "HillSchool$LawReader" (120 : Nat) "tires") ∈ lw_tbl := zmj_3 155 rfl
theorem zl_739 : (Jvm.Cond.stringRef "HillSchool$LawReader" (122 : Nat) "bars") ∈ lw_tbl := zmj_3 156 rfl
theorem zl_740 : (Jvm.Cond.stringRef "HillSchool$LawReader" (124 : Nat) "if") ∈ lw_tbl := zmj_3 157 rfl
theorem zl_741 : (Jvm.Cond.stringRef "HillSchool$LawReader" (126 : Nat) "or") ∈ lw_tbl := zmj_3 158 rfl
theorem zl_742 : (Jvm.Cond.stringRef "HillSchool$LawReader" (128 : Nat) "and") ∈ lw_tbl := zmj_3 159 rfl
theorem zl_743 : (Jvm.Cond.stringRef "HillSchool$LawReader" (130 : Nat) "not") ∈ lw_tbl := zmj_3 160 rfl
theorem zst_hR : ∀ i : Fin 14, Cond.stringRef "HillSchool$LawReader" (zix.getD i.val 0) (ztx.getD i.val "") ∈ lw_tbl := fun i => match i with
  | ⟨0, _⟩ => zl_676
  | ⟨1, _⟩ => zl_728
  | ⟨2, _⟩ => zl_729
  | ⟨3, _⟩ => zl_730
  | ⟨4, _⟩ => zl_731
  | ⟨5, _⟩ => zl_732
  | ⟨6, _⟩ => zl_733
  | ⟨7, _⟩ => zl_734
  | ⟨8, _⟩ => zl_738
  | ⟨9, _⟩ => zl_739
  | ⟨10, _⟩ => zl_740
  | ⟨11, _⟩ => zl_741
  | ⟨12, _⟩ => zl_742
  | ⟨13, _⟩ => zl_743
theorem zl_619 : (Jvm.Cond.laysStatic "HillSchool" "LEAST_TERMS" "[I") ∈ lw_tbl := zmj_3 36 rfl
theorem zl_621 : (Jvm.Cond.laysStatic "HillSchool" "MOST_TERMS" "[I") ∈ lw_tbl := zmj_3 38 rfl
theorem zl_160 : (Jvm.Cond.laysStatic "HillSchool" "FIRST_TERMS" "[I") ∈ lw_tbl := zmj_1 57 rfl
theorem zst_hL : ∀ i : Fin 3, Cond.laysStatic "HillSchool" (zcname.getD i.val "") "[I" ∈ lw_tbl := fun i => match i with
  | ⟨0, _⟩ => zl_619
  | ⟨1, _⟩ => zl_621
  | ⟨2, _⟩ => zl_160
theorem zdf_X10 : ∀ j, j < 16 → defaultValue (tyX10 j) = vp_V [.null, .null, .null, .null, .int (Int32.ofInt 0), .int (Int32.ofInt 0), .int (Int32.ofInt 0), .null, .int (Int32.ofInt 0), .null, .null, .null, .null, .null, .null, .null] j := by decide +kernel
theorem zl_123 : (Jvm.Cond.classLink "HillSchoolLaw" (7 : Nat) "HillSchool") ∈ lw_tbl := zmj_1 20 rfl
theorem zl_125 : (Jvm.Cond.methodLink "HillSchoolLaw" (9 : Nat) ({ cls := "HillSchool", name := "<init>", desc := "()V" } : Jvm.MethodName)) ∈ lw_tbl := zmj_1 22 rfl
theorem zl_126 : (Jvm.Cond.instanceMethod ({ cls := "HillSchool", name := "<init>", desc := "()V" } : Jvm.MethodName)) ∈ lw_tbl := zmj_1 23 rfl
theorem zdf_X11 : ∀ j, j < 53 → defaultValue (tyX11 j) = vp_V [.int (Int32.ofInt 0), .int (Int32.ofInt 0), .null, .null, .null, .null, .int (Int32.ofInt 0), .null, .int (Int32.ofInt 0), .int (Int32.ofInt 0), .int (Int32.ofInt 0), .int (Int32.ofInt 0), .long (Int64.ofInt 0), .int (Int32.ofInt 0), .int (Int32.ofInt 0), .int (Int32.ofInt 0), .null, .int (Int32.ofInt 0), .null, .null, .int (Int32.ofInt 0), .null, .null, .int (Int32.ofInt 0), .int (Int32.ofInt 0), .null, .int (Int32.ofInt 0), .null, .null, .int (Int32.ofInt 0), .long (Int64.ofInt 0), .long (Int64.ofInt 0), .null, .null, .null, .null, .null, .int (Int32.ofInt 0), .null, .null, .null, .null, .null, .null, .null, .null, .null, .null, .null, .null, .long (Int64.ofInt 0), .null, .int (Int32.ofInt 0)] j := by decide +kernel
theorem zl_1150 : (Jvm.Cond.classLink "HillSchoolLaw" (10 : Nat) "HillSchoolModel") ∈ lw_tbl := zmj_5 87 rfl
theorem zl_115 : (Jvm.Cond.initialized "HillSchoolModel") ∈ lw_tbl := zmj_1 12 rfl
theorem zl_1152 : (Jvm.Cond.methodLink "HillSchoolLaw" (12 : Nat) ({ cls := "HillSchoolModel", name := "<init>", desc := "()V" } : Jvm.MethodName)) ∈ lw_tbl := zmj_5 89 rfl
theorem zl_1153 : (Jvm.Cond.instanceMethod ({ cls := "HillSchoolModel", name := "<init>", desc := "()V" } : Jvm.MethodName)) ∈ lw_tbl := zmj_5 90 rfl
set_option maxHeartbeats 40000000 in
set_option maxRecDepth 100000 in
theorem whole_start {p : Program} {e : Env} {s : State} {m : MethodId} {below : List Frame} {meth : Method} {c : Code} (l : Launch) (hflags : l.flags = flags0) {b L : Nat} {xs : Nat → Int32} (hL : L ≤ 3072) (C0 : lw_At p s m meth c b L xs) : W p l e room_1 s m #[Value.ref b] below meth c s.heap [] 0 0 (lw_Z below #[Value.ref b] s) (entryFrame m ([Value.ref b] : List Value).toArray 4) := by
  obtain ⟨hx, hb, hr, hml, hown, hts, hX, hbl, hlocks, hgv⟩ := id C0
  have hown : s.vm.findClass "HillSchoolLaw" = some m.cls := hown
  have hz : ∀ w ∈ zall, w.before #[Value.ref b] s = true := fun w h => hts w (zall_in w h)
  obtain ⟨A, hA, hA2⟩ : ∃ A : Nat → Prop, (∀ q : Nat, s.heap.size ≤ q → A q) ∧ ∀ q : Nat, A q → s.heap.size ≤ q := ⟨fun q => s.heap.size ≤ q, fun _ h => h, fun _ h => h⟩
  have hbA : ¬ A b := fun h => Nat.not_le.mpr hbl (hA2 b h)
  obtain ⟨c0, iS0, hKn0⟩ := u_known (C := RX0) (T := TX0) (N := 3) hts (fun w hw => zall_in w (zi_X0 w hw)) (hts _ zl_299)
  obtain ⟨c1, iS1, hKn1⟩ := u_known (C := RX1) (T := TX1) (N := 3) hts (fun w hw => zall_in w (zi_X1 w hw)) (hts _ zl_138)
  obtain ⟨c2, iS2, hKn2⟩ := u_known (C := RX2) (T := TX2) (N := 14) hts (fun w hw => zall_in w (zi_X2 w hw)) (hts _ zl_132)
  obtain ⟨c3, iS3, hKn3⟩ := u_known (C := RX3) (T := TX3) (N := 6) hts (fun w hw => zall_in w (zi_X3 w hw)) (hts _ zl_274)
  obtain ⟨c4, iS4, hKn4⟩ := u_known (C := RX4) (T := TX4) (N := 7) hts (fun w hw => zall_in w (zi_X4 w hw)) (hts _ zl_243)
  obtain ⟨c5, iS5, hKn5⟩ := u_known (C := RX5) (T := TX5) (N := 1) hts (fun w hw => zall_in w (zi_X5 w hw)) (hts _ zl_465)
  obtain ⟨c6, iS6, hKn6⟩ := u_known (C := RX6) (T := TX6) (N := 4) hts (fun w hw => zall_in w (zi_X6 w hw)) (hts _ zl_323)
  obtain ⟨c7, iS7, hKn7⟩ := u_known (C := RX7) (T := TX7) (N := 16) hts (fun w hw => zall_in w (zi_X7 w hw)) (hts _ zl_316)
  obtain ⟨c8, iS8, hKn8⟩ := u_known (C := RX8) (T := TX8) (N := 8) hts (fun w hw => zall_in w (zi_X8 w hw)) (hts _ zl_434)
  obtain ⟨c9, iS9, hKn9⟩ := u_known (C := RX9) (T := TX9) (N := 9) hts (fun w hw => zall_in w (zi_X9 w hw)) (hts _ zl_398)
  obtain ⟨c10, iS10, hKn10⟩ := u_known (C := RX10) (T := TX10) (N := 16) hts (fun w hw => zall_in w (zi_X10 w hw)) (hts _ zl_124)
  obtain ⟨c11, iS11, hKn11⟩ := u_known (C := RX11) (T := TX11) (N := 53) hts (fun w hw => zall_in w (zi_X11 w hw)) (hts _ zl_1151)
  obtain ⟨dC, dI, hKc⟩ : ∃ (dC : Nat → ClassId) (dI : Nat → Nat → Nat), ∀ (k : Nat) (q : vw_C), vwCl[k]? = some q → u_Kn s q.1 q.2.1 q.2.2 (dC k) (dI k) := by
    refine ⟨fun k => match k with | 0 => c0 | 1 => c1 | 2 => c2 | 3 => c3 | 4 => c4 | 5 => c5 | 6 => c6 | 7 => c7 | 8 => c8 | 9 => c9 | 10 => c10 | _ => c11, fun k => match k with | 0 => iS0 | 1 => iS1 | 2 => iS2 | 3 => iS3 | 4 => iS4 | 5 => iS5 | 6 => iS6 | 7 => iS7 | 8 => iS8 | 9 => iS9 | 10 => iS10 | _ => iS11, ?_⟩
    intro k q hq
    match k, hq with
    | 0, hq => cases hq; exact hKn0
    | 1, hq => cases hq; exact hKn1
    | 2, hq => cases hq; exact hKn2
    | 3, hq => cases hq; exact hKn3
    | 4, hq => cases hq; exact hKn4
    | 5, hq => cases hq; exact hKn5
    | 6, hq => cases hq; exact hKn6
    | 7, hq => cases hq; exact hKn7
    | 8, hq => cases hq; exact hKn8
    | 9, hq => cases hq; exact hKn9
    | 10, hq => cases hq; exact hKn10
    | 11, hq => cases hq; exact hKn11
    | k + 12, hq => simp [vwCl] at hq
  obtain ⟨a0, hAr0⟩ := zst_AC (fun C h => by cases h) (hts _ zl_158)
  obtain ⟨a1, hAr1⟩ := zst_AC (fun C h => by cases h) (hts _ zl_272)
  obtain ⟨a2, hAr2⟩ := zst_AC (fun C h => by cases h) (hts _ zl_396)
  obtain ⟨a3, hAr3⟩ := zst_AO (hts _ zl_241)
  obtain ⟨a4, hAr4⟩ := zst_AO (hts _ zl_322)
  obtain ⟨cA, hcA⟩ : ∃ cA : Nat → ClassId, ∀ (k : Nat) (q : ClassId × FieldType), (tyl cA)[k]? = some q → ArrOfT s q.1 q.2 ∧ va_RA s q.1 q.2 := by
    refine ⟨fun k => match k with | 0 => a0 | 1 => a1 | 2 => a2 | 3 => a3 | _ => a4, ?_⟩
    intro k q hq
    match k, hq with
    | 0, hq => cases hq; exact hAr0
    | 1, hq => cases hq; exact hAr1
    | 2, hq => cases hq; exact hAr2
    | 3, hq => cases hq; exact hAr3
    | 4, hq => cases hq; exact hAr4
    | k + 5, hq => simp [tyl] at hq
  obtain ⟨ev, hE⟩ := zE_start (A := A) (fun a h g => Nat.not_le.mpr h (hA2 a g)) hts hgv zst_hR zst_hL zl_104 zl_689 zl_117 zl_705 zl_119
  have hS : va_S A s.heap s.heap [] := va_S.rf
  have hK : va_K (dC, dI) vwCl (tyl cA) s := ⟨hKc, hcA⟩
  have hP : va_P (dC, dI) vwCl [] s.heap := fun k q h => by simp at h
  have hD : va_D A [] := ⟨fun i j p q h => by simp at h, fun k q h => by simp at h⟩
  have hl := lv_entry ([.ref b]) (n := 4) (Nat.le_of_ble_eq_true rfl)
  rw [lg_entry_eq]
  generalize (lg_sl ([.ref b]) ++ List.replicate (4 - (lg_sl ([.ref b])).length) Slot.unset).toArray = ls at hl ⊢
  have hl : lv_has ls 4 [(0, .ref b)] := hl
  generalize hlocs : ([] : List Loc) = locs at hS ⊢
  refine va_new (ci := 10) (fs := [.null, .null, .null, .null, .int (Int32.ofInt 0), .int (Int32.ofInt 0), .int (Int32.ofInt 0), .null, .int (Int32.ofInt 0), .null, .null, .null, .null, .null, .null, .null]) (C := RX10) (T := TX10) (N := 16) hx hb hz zi_X10 tyX10 tyX10_ok hown (hts _ zl_123) (hts _ zl_124) (hts _ zl_104) hK hP hD hS hA rfl (zdf_X10) (Nat.le_of_ble_eq_true rfl) (Nat.le_of_ble_eq_true rfl) (zdt zkL_law 0 rfl) (fun q1 H hP hD hS => ?_)
  refine xw_PD [(q1, .inr (10, [.null, .null, .null, .null, .int (Int32.ofInt 0), .int (Int32.ofInt 0), .int (Int32.ofInt 0), .null, .int (Int32.ofInt 0), .null, .null, .null, .null, .null, .null, .null]))] hP hD (fun hP hD => ?_)
  refine lv_dup hx hb (zdt zkL_law 3 rfl) rfl ?_
  have hC : ([0] : List Nat).map (fun i => ([(q1, .inr (10, [.null, .null, .null, .null, .int (Int32.ofInt 0), .int (Int32.ofInt 0), .int (Int32.ofInt 0), .null, .int (Int32.ofInt 0), .null, .null, .null, .null, .null, .null, .null]))] : va_W)[i]?) = ([(q1, .inr (10, [.null, .null, .null, .null, .int (Int32.ofInt 0), .int (Int32.ofInt 0), .int (Int32.ofInt 0), .null, .int (Int32.ofInt 0), .null, .null, .null, .null, .null, .null, .null]))] : va_W).map some := rfl
  have hF := va_free hD hS hA [0] hC
  refine va_callv (va_runI (As := []) (rest := [.ref q1]) ⟨hx, hb, hml, hown, hts⟩ (n_HS l ev dC dI cA q1 H.size) (cwI 0 hts (zgAL zw_127) rfl rfl rfl (hts _ zl_104) (hts _ zl_125) (hts _ zl_126) rfl (by decide +kernel) ⟨Nat.le_of_ble_eq_true rfl, Nat.le_of_ble_eq_true rfl⟩) (xv_preS hE hA hS hK hP hD (isC := [0]) (by decide +kernel) hC) rfl rfl hl.1 rfl (lv_room (Nat.le_of_ble_eq_true rfl)) (zdt zkL_law 4 rfl) ⟨Nat.le_of_ble_eq_true rfl, Nat.le_of_ble_eq_true rfl⟩) hS (fun q _ h => hF q h) hF (fun u t H1 locs ht hvm hw hB hz1 hk1 hS => ?_)
  refine Exists.elim hB fun q2 hB => Exists.elim hB fun q3 hB => Exists.elim hB fun q4 hB => Exists.elim hB fun q5 hB => Exists.elim hB fun q6 hB => Exists.elim hB fun q7 hB => Exists.elim hB fun q8 hB => Exists.elim hB fun q9 hB => Exists.elim hB fun q10 hB => Exists.elim hB fun q11 hB => Exists.elim hB fun q12 hB => Exists.elim hB fun q13 hB => Exists.elim hB fun q14 hB => Exists.elim hB fun q15 hB => Exists.elim hB fun q16 hB => Exists.elim hB fun q17 hB => Exists.elim hB fun q18 hB => Exists.elim hB fun q19 hB => Exists.elim hB fun q20 hB => Exists.elim hB fun q21 hB => Exists.elim hB fun q22 hB => Exists.elim hB fun q23 hB => Exists.elim hB fun q24 hB => Exists.elim hB fun q25 hB => Exists.elim hB fun q26 hB => Exists.elim hB fun q27 hB => Exists.elim hB fun q28 hB => Exists.elim hB fun q29 hB => Exists.elim hB fun q30 hB => Exists.elim hB fun q31 hB => Exists.elim hB fun q32 hB => Exists.elim hB fun q33 hB => Exists.elim hB fun q34 hB => Exists.elim hB fun q35 hB => Exists.elim hB fun q36 hB => Exists.elim hB fun q37 hB => Exists.elim hB fun q38 hB => Exists.elim hB fun q39 hB => Exists.elim hB fun q40 hB => Exists.elim hB fun q41 hB => Exists.elim hB fun q42 hB => Exists.elim hB fun q43 hB => Exists.elim hB fun q44 hB => Exists.elim hB fun q45 hB => Exists.elim hB fun q46 hB => Exists.elim hB fun q47 hB => Exists.elim hB fun q48 hB => Exists.elim hB fun q49 hB => Exists.elim hB fun q50 hB => Exists.elim hB fun q51 hB => Exists.elim hB fun q52 hB => Exists.elim hB fun q53 hB => Exists.elim hB fun q54 hB => Exists.elim hB fun q55 hB => Exists.elim hB fun q56 hB => Exists.elim hB fun q57 hB => Exists.elim hB fun q58 hB => Exists.elim hB fun q59 hB => Exists.elim hB fun q60 hB => Exists.elim hB fun q61 hB => Exists.elim hB fun q62 hB => Exists.elim hB fun q63 hB => Exists.elim hB fun q64 hB => Exists.elim hB fun q65 hB => Exists.elim hB fun q66 hB => Exists.elim hB fun q67 hB => Exists.elim hB fun q68 hB => Exists.elim hB fun q69 hB => Exists.elim hB fun q70 hB => Exists.elim hB fun q71 hB => Exists.elim hB fun q72 hB => Exists.elim hB fun q73 hB => Exists.elim hB fun q74 hB => Exists.elim hB fun q75 hB => Exists.elim hB fun q76 hB => Exists.elim hB fun q77 hB => Exists.elim hB fun q78 hB => Exists.elim hB fun q79 hB => Exists.elim hB fun q80 hB => Exists.elim hB fun q81 hB => Exists.elim hB fun q82 hB => ?_
  have hP1 := hB.1
  have hD1 := hB.2
  rw [ht] at hP1
  obtain ⟨hP, hD⟩ := va_join (wr := []) (w1 := [(q1, .inr (10, [.ref q2, .ref q14, .ref q39, .ref q40, .int (Int32.ofInt 0), .int (Int32.ofInt (-1)), .int (Int32.ofInt 0), .ref q41, .int (Int32.ofInt 0), .ref q42, .ref q47, .ref q50, .ref q52, .ref q70, .ref q76, .ref q79])), (q2, .inr (2, [.ref q3, .int (Int32.ofInt 0), .ref q6, .ref q7, .ref q8, .int (Int32.ofInt 0), .ref q9, .ref q10, .ref q11, .int (Int32.ofInt 0), .ref q12, .ref q13, .int (Int32.ofInt (-1)), .int (Int32.ofInt 0)])), (q3, .inr (1, [.int (Int32.ofInt 0), .ref q4, .ref q5])), (q4, .inl (cA 0, 12, .inl (za (fun _ => 0)))), (q5, .inl (cA 0, 120, .inl (za (fun _ => 0)))), (q6, .inl (cA 0, 6, .inl (za (fun _ => 0)))), (q7, .inl (cA 0, 6, .inl (za (fun _ => 0)))), (q8, .inl (cA 0, 6, .inl (za (fun _ => 0)))), (q9, .inl (cA 0, 6, .inl (za (fun _ => 0)))), (q10, .inl (cA 0, 4, .inl (za (zk 2)))), (q11, .inl (cA 0, 12, .inl (za (fun _ => 0)))), (q12, .inl (cA 0, 2544, .inl (za (fun _ => 0)))), (q13, .inl (cA 0, 6, .inl (za (fun _ => 0)))), (q14, .inl (cA 3, 2, .inr (.inr (.inr (.inr (zr [q15, q27])))))), (q15, .inr (2, [.ref q16, .int (Int32.ofInt 0), .ref q19, .ref q20, .ref q21, .int (Int32.ofInt 0), .ref q22, .ref q23, .ref q24, .int (Int32.ofInt 0), .ref q25, .ref q26, .int (Int32.ofInt (-1)), .int (Int32.ofInt 0)])), (q16, .inr (1, [.int (Int32.ofInt 0), .ref q17, .ref q18])), (q17, .inl (cA 0, 12, .inl (za (fun _ => 0)))), (q18, .inl (cA 0, 120, .inl (za (fun _ => 0)))), (q19, .inl (cA 0, 6, .inl (za (fun _ => 0)))), (q20, .inl (cA 0, 6, .inl (za (fun _ => 0)))), (q21, .inl (cA 0, 6, .inl (za (fun _ => 0)))), (q22, .inl (cA 0, 6, .inl (za (fun _ => 0)))), (q23, .inl (cA 0, 4, .inl (za (zk 2)))), (q24, .inl (cA 0, 12, .inl (za (fun _ => 0)))), (q25, .inl (cA 0, 2544, .inl (za (fun _ => 0)))), (q26, .inl (cA 0, 6, .inl (za (fun _ => 0)))), (q27, .inr (2, [.ref q28, .int (Int32.ofInt 0), .ref q31, .ref q32, .ref q33, .int (Int32.ofInt 0), .ref q34, .ref q35, .ref q36, .int (Int32.ofInt 0), .ref q37, .ref q38, .int (Int32.ofInt (-1)), .int (Int32.ofInt 0)])), (q28, .inr (1, [.int (Int32.ofInt 0), .ref q29, .ref q30])), (q29, .inl (cA 0, 12, .inl (za (fun _ => 0)))), (q30, .inl (cA 0, 120, .inl (za (fun _ => 0)))), (q31, .inl (cA 0, 6, .inl (za (fun _ => 0)))), (q32, .inl (cA 0, 6, .inl (za (fun _ => 0)))), (q33, .inl (cA 0, 6, .inl (za (fun _ => 0)))), (q34, .inl (cA 0, 6, .inl (za (fun _ => 0)))), (q35, .inl (cA 0, 4, .inl (za (zk 2)))), (q36, .inl (cA 0, 12, .inl (za (fun _ => 0)))), (q37, .inl (cA 0, 2544, .inl (za (fun _ => 0)))), (q38, .inl (cA 0, 6, .inl (za (fun _ => 0)))), (q39, .inl (cA 1, 2, .inl (za (fun _ => 0)))), (q40, .inl (cA 0, 400, .inl (za (fun _ => 0)))), (q41, .inl (cA 0, 7, .inl (za (fun _ => 0)))), (q42, .inr (4, [.ref q43, .int (Int32.ofInt 0), .ref q44, .ref q45, .ref q46, .int (Int32.ofInt 0), .int (Int32.ofInt 0)])), (q43, .inl (cA 0, 424, .inl (za (fun _ => 0)))), (q44, .inl (cA 0, 401, .inl (za (fun _ => 0)))), (q45, .inl (cA 0, 401, .inl (za (fun _ => 0)))), (q46, .inl (cA 0, 401, .inl (za (fun _ => 0)))), (q47, .inr (3, [.ref q2, .ref q48, .ref q49, .int (Int32.ofInt 0), .int (Int32.ofInt 0), .int (Int32.ofInt 0)])), (q48, .inl (cA 0, 8, .inl (za (fun _ => 0)))), (q49, .inl (cA 0, 32, .inl (za (fun _ => 0)))), (q50, .inr (0, [.ref q2, .ref q47, .ref q51])), (q51, .inl (cA 0, 48000, .inl (za (fun _ => 0)))), (q52, .inr (7, [.ref q2, .ref q50, .ref q53, .ref q60, .ref q61, .ref q62, .ref q63, .ref q64, .ref q65, .ref q66, .ref q67, .ref q68, .ref q69, .int (Int32.ofInt 0), .int (Int32.ofInt 0), .int (Int32.ofInt 0)])), (q53, .inl (cA 4, 3, .inr (.inr (.inr (.inr (zr [q54, q56, q58])))))), (q54, .inr (6, [.int (Int32.ofInt (-1)), .int (Int32.ofInt (-1)), .int (Int32.ofInt (-1)), .ref q55])), (q55, .inl (cA 0, 6720, .inl (za (fun _ => 0)))), (q56, .inr (6, [.int (Int32.ofInt (-1)), .int (Int32.ofInt (-1)), .int (Int32.ofInt (-1)), .ref q57])), (q57, .inl (cA 0, 6720, .inl (za (fun _ => 0)))), (q58, .inr (6, [.int (Int32.ofInt (-1)), .int (Int32.ofInt (-1)), .int (Int32.ofInt (-1)), .ref q59])), (q59, .inl (cA 0, 6720, .inl (za (fun _ => 0)))), (q60, .inl (cA 0, 16384, .inl (za (fun _ => 0)))), (q61, .inl (cA 2, 6720, .inr (.inl (zl (fun _ => 0))))), (q62, .inl (cA 2, 6720, .inr (.inl (zl (fun _ => 0))))), (q63, .inl (cA 0, 6720, .inl (za (fun _ => 0)))), (q64, .inl (cA 0, 6720, .inl (za (fun _ => 0)))), (q65, .inl (cA 0, 6720, .inl (za (fun _ => 0)))), (q66, .inl (cA 0, 6720, .inl (za (fun _ => 0)))), (q67, .inl (cA 0, 6, .inl (za (fun _ => 0)))), (q68, .inl (cA 0, 4, .inl (za (fun _ => 0)))), (q69, .inl (cA 0, 4, .inl (za (fun _ => 0)))), (q70, .inr (9, [.ref q2, .ref q50, .ref q71, .ref q74, .ref q75, .int (Int32.ofInt (-1)), .int (Int32.ofInt 0), .int (Int32.ofInt 0), .int (Int32.ofInt 0)])), (q71, .inr (1, [.int (Int32.ofInt 0), .ref q72, .ref q73])), (q72, .inl (cA 0, 12, .inl (za (fun _ => 0)))), (q73, .inl (cA 0, 120, .inl (za (fun _ => 0)))), (q74, .inl (cA 0, 5, .inl (za (fun _ => 0)))), (q75, .inl (cA 0, 5, .inl (za (fun _ => 0)))), (q76, .inr (8, [.ref q2, .ref q77, .int (Int32.ofInt (-1)), .int (Int32.ofInt 0), .int (Int32.ofInt 0), .int (Int32.ofInt 0), .int (Int32.ofInt 0), .ref q78])), (q77, .inl (cA 0, 3601, .inl (za (fun _ => 0)))), (q78, .inl (cA 0, 6, .inl (za (fun _ => 0)))), (q79, .inr (5, [.ref q80])), (q80, .inr (1, [.int (Int32.ofInt 0), .ref q81, .ref q82])), (q81, .inl (cA 0, 12, .inl (za (fun _ => 0)))), (q82, .inl (cA 0, 120, .inl (za (fun _ => 0))))]) hP hD [0] [] hC rfl (by decide +kernel) (by decide +kernel) hk1 hF hP1 hD1
  generalize H1 = H at hP hS ⊢
  refine xw_PD [(q1, .inr (10, [.ref q2, .ref q14, .ref q39, .ref q40, .int (Int32.ofInt 0), .int (Int32.ofInt (-1)), .int (Int32.ofInt 0), .ref q41, .int (Int32.ofInt 0), .ref q42, .ref q47, .ref q50, .ref q52, .ref q70, .ref q76, .ref q79])), (q2, .inr (2, [.ref q3, .int (Int32.ofInt 0), .ref q6, .ref q7, .ref q8, .int (Int32.ofInt 0), .ref q9, .ref q10, .ref q11, .int (Int32.ofInt 0), .ref q12, .ref q13, .int (Int32.ofInt (-1)), .int (Int32.ofInt 0)])), (q3, .inr (1, [.int (Int32.ofInt 0), .ref q4, .ref q5])), (q4, .inl (cA 0, 12, .inl (za (fun _ => 0)))), (q5, .inl (cA 0, 120, .inl (za (fun _ => 0)))), (q6, .inl (cA 0, 6, .inl (za (fun _ => 0)))), (q7, .inl (cA 0, 6, .inl (za (fun _ => 0)))), (q8, .inl (cA 0, 6, .inl (za (fun _ => 0)))), (q9, .inl (cA 0, 6, .inl (za (fun _ => 0)))), (q10, .inl (cA 0, 4, .inl (za (zk 2)))), (q11, .inl (cA 0, 12, .inl (za (fun _ => 0)))), (q12, .inl (cA 0, 2544, .inl (za (fun _ => 0)))), (q13, .inl (cA 0, 6, .inl (za (fun _ => 0)))), (q14, .inl (cA 3, 2, .inr (.inr (.inr (.inr (zr [q15, q27])))))), (q15, .inr (2, [.ref q16, .int (Int32.ofInt 0), .ref q19, .ref q20, .ref q21, .int (Int32.ofInt 0), .ref q22, .ref q23, .ref q24, .int (Int32.ofInt 0), .ref q25, .ref q26, .int (Int32.ofInt (-1)), .int (Int32.ofInt 0)])), (q16, .inr (1, [.int (Int32.ofInt 0), .ref q17, .ref q18])), (q17, .inl (cA 0, 12, .inl (za (fun _ => 0)))), (q18, .inl (cA 0, 120, .inl (za (fun _ => 0)))), (q19, .inl (cA 0, 6, .inl (za (fun _ => 0)))), (q20, .inl (cA 0, 6, .inl (za (fun _ => 0)))), (q21, .inl (cA 0, 6, .inl (za (fun _ => 0)))), (q22, .inl (cA 0, 6, .inl (za (fun _ => 0)))), (q23, .inl (cA 0, 4, .inl (za (zk 2)))), (q24, .inl (cA 0, 12, .inl (za (fun _ => 0)))), (q25, .inl (cA 0, 2544, .inl (za (fun _ => 0)))), (q26, .inl (cA 0, 6, .inl (za (fun _ => 0)))), (q27, .inr (2, [.ref q28, .int (Int32.ofInt 0), .ref q31, .ref q32, .ref q33, .int (Int32.ofInt 0), .ref q34, .ref q35, .ref q36, .int (Int32.ofInt 0), .ref q37, .ref q38, .int (Int32.ofInt (-1)), .int (Int32.ofInt 0)])), (q28, .inr (1, [.int (Int32.ofInt 0), .ref q29, .ref q30])), (q29, .inl (cA 0, 12, .inl (za (fun _ => 0)))), (q30, .inl (cA 0, 120, .inl (za (fun _ => 0)))), (q31, .inl (cA 0, 6, .inl (za (fun _ => 0)))), (q32, .inl (cA 0, 6, .inl (za (fun _ => 0)))), (q33, .inl (cA 0, 6, .inl (za (fun _ => 0)))), (q34, .inl (cA 0, 6, .inl (za (fun _ => 0)))), (q35, .inl (cA 0, 4, .inl (za (zk 2)))), (q36, .inl (cA 0, 12, .inl (za (fun _ => 0)))), (q37, .inl (cA 0, 2544, .inl (za (fun _ => 0)))), (q38, .inl (cA 0, 6, .inl (za (fun _ => 0)))), (q39, .inl (cA 1, 2, .inl (za (fun _ => 0)))), (q40, .inl (cA 0, 400, .inl (za (fun _ => 0)))), (q41, .inl (cA 0, 7, .inl (za (fun _ => 0)))), (q42, .inr (4, [.ref q43, .int (Int32.ofInt 0), .ref q44, .ref q45, .ref q46, .int (Int32.ofInt 0), .int (Int32.ofInt 0)])), (q43, .inl (cA 0, 424, .inl (za (fun _ => 0)))), (q44, .inl (cA 0, 401, .inl (za (fun _ => 0)))), (q45, .inl (cA 0, 401, .inl (za (fun _ => 0)))), (q46, .inl (cA 0, 401, .inl (za (fun _ => 0)))), (q47, .inr (3, [.ref q2, .ref q48, .ref q49, .int (Int32.ofInt 0), .int (Int32.ofInt 0), .int (Int32.ofInt 0)])), (q48, .inl (cA 0, 8, .inl (za (fun _ => 0)))), (q49, .inl (cA 0, 32, .inl (za (fun _ => 0)))), (q50, .inr (0, [.ref q2, .ref q47, .ref q51])), (q51, .inl (cA 0, 48000, .inl (za (fun _ => 0)))), (q52, .inr (7, [.ref q2, .ref q50, .ref q53, .ref q60, .ref q61, .ref q62, .ref q63, .ref q64, .ref q65, .ref q66, .ref q67, .ref q68, .ref q69, .int (Int32.ofInt 0), .int (Int32.ofInt 0), .int (Int32.ofInt 0)])), (q53, .inl (cA 4, 3, .inr (.inr (.inr (.inr (zr [q54, q56, q58])))))), (q54, .inr (6, [.int (Int32.ofInt (-1)), .int (Int32.ofInt (-1)), .int (Int32.ofInt (-1)), .ref q55])), (q55, .inl (cA 0, 6720, .inl (za (fun _ => 0)))), (q56, .inr (6, [.int (Int32.ofInt (-1)), .int (Int32.ofInt (-1)), .int (Int32.ofInt (-1)), .ref q57])), (q57, .inl (cA 0, 6720, .inl (za (fun _ => 0)))), (q58, .inr (6, [.int (Int32.ofInt (-1)), .int (Int32.ofInt (-1)), .int (Int32.ofInt (-1)), .ref q59])), (q59, .inl (cA 0, 6720, .inl (za (fun _ => 0)))), (q60, .inl (cA 0, 16384, .inl (za (fun _ => 0)))), (q61, .inl (cA 2, 6720, .inr (.inl (zl (fun _ => 0))))), (q62, .inl (cA 2, 6720, .inr (.inl (zl (fun _ => 0))))), (q63, .inl (cA 0, 6720, .inl (za (fun _ => 0)))), (q64, .inl (cA 0, 6720, .inl (za (fun _ => 0)))), (q65, .inl (cA 0, 6720, .inl (za (fun _ => 0)))), (q66, .inl (cA 0, 6720, .inl (za (fun _ => 0)))), (q67, .inl (cA 0, 6, .inl (za (fun _ => 0)))), (q68, .inl (cA 0, 4, .inl (za (fun _ => 0)))), (q69, .inl (cA 0, 4, .inl (za (fun _ => 0)))), (q70, .inr (9, [.ref q2, .ref q50, .ref q71, .ref q74, .ref q75, .int (Int32.ofInt (-1)), .int (Int32.ofInt 0), .int (Int32.ofInt 0), .int (Int32.ofInt 0)])), (q71, .inr (1, [.int (Int32.ofInt 0), .ref q72, .ref q73])), (q72, .inl (cA 0, 12, .inl (za (fun _ => 0)))), (q73, .inl (cA 0, 120, .inl (za (fun _ => 0)))), (q74, .inl (cA 0, 5, .inl (za (fun _ => 0)))), (q75, .inl (cA 0, 5, .inl (za (fun _ => 0)))), (q76, .inr (8, [.ref q2, .ref q77, .int (Int32.ofInt (-1)), .int (Int32.ofInt 0), .int (Int32.ofInt 0), .int (Int32.ofInt 0), .int (Int32.ofInt 0), .ref q78])), (q77, .inl (cA 0, 3601, .inl (za (fun _ => 0)))), (q78, .inl (cA 0, 6, .inl (za (fun _ => 0)))), (q79, .inr (5, [.ref q80])), (q80, .inr (1, [.int (Int32.ofInt 0), .ref q81, .ref q82])), (q81, .inl (cA 0, 12, .inl (za (fun _ => 0)))), (q82, .inl (cA 0, 120, .inl (za (fun _ => 0))))] hP hD (fun hP hD => ?_)
  refine lv_astore_n (lv' := [(1, .ref q1), (0, .ref b)]) hx hb (zdt zkL_law 7 rfl) rfl hl (by decide) rfl (fun ls hl => ?_)
  refine va_new (ci := 11) (fs := [.int (Int32.ofInt 0), .int (Int32.ofInt 0), .null, .null, .null, .null, .int (Int32.ofInt 0), .null, .int (Int32.ofInt 0), .int (Int32.ofInt 0), .int (Int32.ofInt 0), .int (Int32.ofInt 0), .long (Int64.ofInt 0), .int (Int32.ofInt 0), .int (Int32.ofInt 0), .int (Int32.ofInt 0), .null, .int (Int32.ofInt 0), .null, .null, .int (Int32.ofInt 0), .null, .null, .int (Int32.ofInt 0), .int (Int32.ofInt 0), .null, .int (Int32.ofInt 0), .null, .null, .int (Int32.ofInt 0), .long (Int64.ofInt 0), .long (Int64.ofInt 0), .null, .null, .null, .null, .null, .int (Int32.ofInt 0), .null, .null, .null, .null, .null, .null, .null, .null, .null, .null, .null, .null, .long (Int64.ofInt 0), .null, .int (Int32.ofInt 0)]) (C := RX11) (T := TX11) (N := 53) hx hb hz zi_X11 tyX11 tyX11_ok hown (hts _ zl_1150) (hts _ zl_1151) (hts _ zl_115) hK hP hD hS hA rfl (zdf_X11) (Nat.le_of_ble_eq_true rfl) (Nat.le_of_ble_eq_true rfl) (zdt zkL_law 8 rfl) (fun q83 H hP hD hS => ?_)
  refine xw_PD [(q1, .inr (10, [.ref q2, .ref q14, .ref q39, .ref q40, .int (Int32.ofInt 0), .int (Int32.ofInt (-1)), .int (Int32.ofInt 0), .ref q41, .int (Int32.ofInt 0), .ref q42, .ref q47, .ref q50, .ref q52, .ref q70, .ref q76, .ref q79])), (q2, .inr (2, [.ref q3, .int (Int32.ofInt 0), .ref q6, .ref q7, .ref q8, .int (Int32.ofInt 0), .ref q9, .ref q10, .ref q11, .int (Int32.ofInt 0), .ref q12, .ref q13, .int (Int32.ofInt (-1)), .int (Int32.ofInt 0)])), (q3, .inr (1, [.int (Int32.ofInt 0), .ref q4, .ref q5])), (q4, .inl (cA 0, 12, .inl (za (fun _ => 0)))), (q5, .inl (cA 0, 120, .inl (za (fun _ => 0)))), (q6, .inl (cA 0, 6, .inl (za (fun _ => 0)))), (q7, .inl (cA 0, 6, .inl (za (fun _ => 0)))), (q8, .inl (cA 0, 6, .inl (za (fun _ => 0)))), (q9, .inl (cA 0, 6, .inl (za (fun _ => 0)))), (q10, .inl (cA 0, 4, .inl (za (zk 2)))), (q11, .inl (cA 0, 12, .inl (za (fun _ => 0)))), (q12, .inl (cA 0, 2544, .inl (za (fun _ => 0)))), (q13, .inl (cA 0, 6, .inl (za (fun _ => 0)))), (q14, .inl (cA 3, 2, .inr (.inr (.inr (.inr (zr [q15, q27])))))), (q15, .inr (2, [.ref q16, .int (Int32.ofInt 0), .ref q19, .ref q20, .ref q21, .int (Int32.ofInt 0), .ref q22, .ref q23, .ref q24, .int (Int32.ofInt 0), .ref q25, .ref q26, .int (Int32.ofInt (-1)), .int (Int32.ofInt 0)])), (q16, .inr (1, [.int (Int32.ofInt 0), .ref q17, .ref q18])), (q17, .inl (cA 0, 12, .inl (za (fun _ => 0)))), (q18, .inl (cA 0, 120, .inl (za (fun _ => 0)))), (q19, .inl (cA 0, 6, .inl (za (fun _ => 0)))), (q20, .inl (cA 0, 6, .inl (za (fun _ => 0)))), (q21, .inl (cA 0, 6, .inl (za (fun _ => 0)))), (q22, .inl (cA 0, 6, .inl (za (fun _ => 0)))), (q23, .inl (cA 0, 4, .inl (za (zk 2)))), (q24, .inl (cA 0, 12, .inl (za (fun _ => 0)))), (q25, .inl (cA 0, 2544, .inl (za (fun _ => 0)))), (q26, .inl (cA 0, 6, .inl (za (fun _ => 0)))), (q27, .inr (2, [.ref q28, .int (Int32.ofInt 0), .ref q31, .ref q32, .ref q33, .int (Int32.ofInt 0), .ref q34, .ref q35, .ref q36, .int (Int32.ofInt 0), .ref q37, .ref q38, .int (Int32.ofInt (-1)), .int (Int32.ofInt 0)])), (q28, .inr (1, [.int (Int32.ofInt 0), .ref q29, .ref q30])), (q29, .inl (cA 0, 12, .inl (za (fun _ => 0)))), (q30, .inl (cA 0, 120, .inl (za (fun _ => 0)))), (q31, .inl (cA 0, 6, .inl (za (fun _ => 0)))), (q32, .inl (cA 0, 6, .inl (za (fun _ => 0)))), (q33, .inl (cA 0, 6, .inl (za (fun _ => 0)))), (q34, .inl (cA 0, 6, .inl (za (fun _ => 0)))), (q35, .inl (cA 0, 4, .inl (za (zk 2)))), (q36, .inl (cA 0, 12, .inl (za (fun _ => 0)))), (q37, .inl (cA 0, 2544, .inl (za (fun _ => 0)))), (q38, .inl (cA 0, 6, .inl (za (fun _ => 0)))), (q39, .inl (cA 1, 2, .inl (za (fun _ => 0)))), (q40, .inl (cA 0, 400, .inl (za (fun _ => 0)))), (q41, .inl (cA 0, 7, .inl (za (fun _ => 0)))), (q42, .inr (4, [.ref q43, .int (Int32.ofInt 0), .ref q44, .ref q45, .ref q46, .int (Int32.ofInt 0), .int (Int32.ofInt 0)])), (q43, .inl (cA 0, 424, .inl (za (fun _ => 0)))), (q44, .inl (cA 0, 401, .inl (za (fun _ => 0)))), (q45, .inl (cA 0, 401, .inl (za (fun _ => 0)))), (q46, .inl (cA 0, 401, .inl (za (fun _ => 0)))), (q47, .inr (3, [.ref q2, .ref q48, .ref q49, .int (Int32.ofInt 0), .int (Int32.ofInt 0), .int (Int32.ofInt 0)])), (q48, .inl (cA 0, 8, .inl (za (fun _ => 0)))), (q49, .inl (cA 0, 32, .inl (za (fun _ => 0)))), (q50, .inr (0, [.ref q2, .ref q47, .ref q51])), (q51, .inl (cA 0, 48000, .inl (za (fun _ => 0)))), (q52, .inr (7, [.ref q2, .ref q50, .ref q53, .ref q60, .ref q61, .ref q62, .ref q63, .ref q64, .ref q65, .ref q66, .ref q67, .ref q68, .ref q69, .int (Int32.ofInt 0), .int (Int32.ofInt 0), .int (Int32.ofInt 0)])), (q53, .inl (cA 4, 3, .inr (.inr (.inr (.inr (zr [q54, q56, q58])))))), (q54, .inr (6, [.int (Int32.ofInt (-1)), .int (Int32.ofInt (-1)), .int (Int32.ofInt (-1)), .ref q55])), (q55, .inl (cA 0, 6720, .inl (za (fun _ => 0)))), (q56, .inr (6, [.int (Int32.ofInt (-1)), .int (Int32.ofInt (-1)), .int (Int32.ofInt (-1)), .ref q57])), (q57, .inl (cA 0, 6720, .inl (za (fun _ => 0)))), (q58, .inr (6, [.int (Int32.ofInt (-1)), .int (Int32.ofInt (-1)), .int (Int32.ofInt (-1)), .ref q59])), (q59, .inl (cA 0, 6720, .inl (za (fun _ => 0)))), (q60, .inl (cA 0, 16384, .inl (za (fun _ => 0)))), (q61, .inl (cA 2, 6720, .inr (.inl (zl (fun _ => 0))))), (q62, .inl (cA 2, 6720, .inr (.inl (zl (fun _ => 0))))), (q63, .inl (cA 0, 6720, .inl (za (fun _ => 0)))), (q64, .inl (cA 0, 6720, .inl (za (fun _ => 0)))), (q65, .inl (cA 0, 6720, .inl (za (fun _ => 0)))), (q66, .inl (cA 0, 6720, .inl (za (fun _ => 0)))), (q67, .inl (cA 0, 6, .inl (za (fun _ => 0)))), (q68, .inl (cA 0, 4, .inl (za (fun _ => 0)))), (q69, .inl (cA 0, 4, .inl (za (fun _ => 0)))), (q70, .inr (9, [.ref q2, .ref q50, .ref q71, .ref q74, .ref q75, .int (Int32.ofInt (-1)), .int (Int32.ofInt 0), .int (Int32.ofInt 0), .int (Int32.ofInt 0)])), (q71, .inr (1, [.int (Int32.ofInt 0), .ref q72, .ref q73])), (q72, .inl (cA 0, 12, .inl (za (fun _ => 0)))), (q73, .inl (cA 0, 120, .inl (za (fun _ => 0)))), (q74, .inl (cA 0, 5, .inl (za (fun _ => 0)))), (q75, .inl (cA 0, 5, .inl (za (fun _ => 0)))), (q76, .inr (8, [.ref q2, .ref q77, .int (Int32.ofInt (-1)), .int (Int32.ofInt 0), .int (Int32.ofInt 0), .int (Int32.ofInt 0), .int (Int32.ofInt 0), .ref q78])), (q77, .inl (cA 0, 3601, .inl (za (fun _ => 0)))), (q78, .inl (cA 0, 6, .inl (za (fun _ => 0)))), (q79, .inr (5, [.ref q80])), (q80, .inr (1, [.int (Int32.ofInt 0), .ref q81, .ref q82])), (q81, .inl (cA 0, 12, .inl (za (fun _ => 0)))), (q82, .inl (cA 0, 120, .inl (za (fun _ => 0)))), (q83, .inr (11, [.int (Int32.ofInt 0), .int (Int32.ofInt 0), .null, .null, .null, .null, .int (Int32.ofInt 0), .null, .int (Int32.ofInt 0), .int (Int32.ofInt 0), .int (Int32.ofInt 0), .int (Int32.ofInt 0), .long (Int64.ofInt 0), .int (Int32.ofInt 0), .int (Int32.ofInt 0), .int (Int32.ofInt 0), .null, .int (Int32.ofInt 0), .null, .null, .int (Int32.ofInt 0), .null, .null, .int (Int32.ofInt 0), .int (Int32.ofInt 0), .null, .int (Int32.ofInt 0), .null, .null, .int (Int32.ofInt 0), .long (Int64.ofInt 0), .long (Int64.ofInt 0), .null, .null, .null, .null, .null, .int (Int32.ofInt 0), .null, .null, .null, .null, .null, .null, .null, .null, .null, .null, .null, .null, .long (Int64.ofInt 0), .null, .int (Int32.ofInt 0)]))] hP hD (fun hP hD => ?_)
  refine lv_dup hx hb (zdt zkL_law 11 rfl) rfl ?_
  have hC : ([82] : List Nat).map (fun i => ([(q1, .inr (10, [.ref q2, .ref q14, .ref q39, .ref q40, .int (Int32.ofInt 0), .int (Int32.ofInt (-1)), .int (Int32.ofInt 0), .ref q41, .int (Int32.ofInt 0), .ref q42, .ref q47, .ref q50, .ref q52, .ref q70, .ref q76, .ref q79])), (q2, .inr (2, [.ref q3, .int (Int32.ofInt 0), .ref q6, .ref q7, .ref q8, .int (Int32.ofInt 0), .ref q9, .ref q10, .ref q11, .int (Int32.ofInt 0), .ref q12, .ref q13, .int (Int32.ofInt (-1)), .int (Int32.ofInt 0)])), (q3, .inr (1, [.int (Int32.ofInt 0), .ref q4, .ref q5])), (q4, .inl (cA 0, 12, .inl (za (fun _ => 0)))), (q5, .inl (cA 0, 120, .inl (za (fun _ => 0)))), (q6, .inl (cA 0, 6, .inl (za (fun _ => 0)))), (q7, .inl (cA 0, 6, .inl (za (fun _ => 0)))), (q8, .inl (cA 0, 6, .inl (za (fun _ => 0)))), (q9, .inl (cA 0, 6, .inl (za (fun _ => 0)))), (q10, .inl (cA 0, 4, .inl (za (zk 2)))), (q11, .inl (cA 0, 12, .inl (za (fun _ => 0)))), (q12, .inl (cA 0, 2544, .inl (za (fun _ => 0)))), (q13, .inl (cA 0, 6, .inl (za (fun _ => 0)))), (q14, .inl (cA 3, 2, .inr (.inr (.inr (.inr (zr [q15, q27])))))), (q15, .inr (2, [.ref q16, .int (Int32.ofInt 0), .ref q19, .ref q20, .ref q21, .int (Int32.ofInt 0), .ref q22, .ref q23, .ref q24, .int (Int32.ofInt 0), .ref q25, .ref q26, .int (Int32.ofInt (-1)), .int (Int32.ofInt 0)])), (q16, .inr (1, [.int (Int32.ofInt 0), .ref q17, .ref q18])), (q17, .inl (cA 0, 12, .inl (za (fun _ => 0)))), (q18, .inl (cA 0, 120, .inl (za (fun _ => 0)))), (q19, .inl (cA 0, 6, .inl (za (fun _ => 0)))), (q20, .inl (cA 0, 6, .inl (za (fun _ => 0)))), (q21, .inl (cA 0, 6, .inl (za (fun _ => 0)))), (q22, .inl (cA 0, 6, .inl (za (fun _ => 0)))), (q23, .inl (cA 0, 4, .inl (za (zk 2)))), (q24, .inl (cA 0, 12, .inl (za (fun _ => 0)))), (q25, .inl (cA 0, 2544, .inl (za (fun _ => 0)))), (q26, .inl (cA 0, 6, .inl (za (fun _ => 0)))), (q27, .inr (2, [.ref q28, .int (Int32.ofInt 0), .ref q31, .ref q32, .ref q33, .int (Int32.ofInt 0), .ref q34, .ref q35, .ref q36, .int (Int32.ofInt 0), .ref q37, .ref q38, .int (Int32.ofInt (-1)), .int (Int32.ofInt 0)])), (q28, .inr (1, [.int (Int32.ofInt 0), .ref q29, .ref q30])), (q29, .inl (cA 0, 12, .inl (za (fun _ => 0)))), (q30, .inl (cA 0, 120, .inl (za (fun _ => 0)))), (q31, .inl (cA 0, 6, .inl (za (fun _ => 0)))), (q32, .inl (cA 0, 6, .inl (za (fun _ => 0)))), (q33, .inl (cA 0, 6, .inl (za (fun _ => 0)))), (q34, .inl (cA 0, 6, .inl (za (fun _ => 0)))), (q35, .inl (cA 0, 4, .inl (za (zk 2)))), (q36, .inl (cA 0, 12, .inl (za (fun _ => 0)))), (q37, .inl (cA 0, 2544, .inl (za (fun _ => 0)))), (q38, .inl (cA 0, 6, .inl (za (fun _ => 0)))), (q39, .inl (cA 1, 2, .inl (za (fun _ => 0)))), (q40, .inl (cA 0, 400, .inl (za (fun _ => 0)))), (q41, .inl (cA 0, 7, .inl (za (fun _ => 0)))), (q42, .inr (4, [.ref q43, .int (Int32.ofInt 0), .ref q44, .ref q45, .ref q46, .int (Int32.ofInt 0), .int (Int32.ofInt 0)])), (q43, .inl (cA 0, 424, .inl (za (fun _ => 0)))), (q44, .inl (cA 0, 401, .inl (za (fun _ => 0)))), (q45, .inl (cA 0, 401, .inl (za (fun _ => 0)))), (q46, .inl (cA 0, 401, .inl (za (fun _ => 0)))), (q47, .inr (3, [.ref q2, .ref q48, .ref q49, .int (Int32.ofInt 0), .int (Int32.ofInt 0), .int (Int32.ofInt 0)])), (q48, .inl (cA 0, 8, .inl (za (fun _ => 0)))), (q49, .inl (cA 0, 32, .inl (za (fun _ => 0)))), (q50, .inr (0, [.ref q2, .ref q47, .ref q51])), (q51, .inl (cA 0, 48000, .inl (za (fun _ => 0)))), (q52, .inr (7, [.ref q2, .ref q50, .ref q53, .ref q60, .ref q61, .ref q62, .ref q63, .ref q64, .ref q65, .ref q66, .ref q67, .ref q68, .ref q69, .int (Int32.ofInt 0), .int (Int32.ofInt 0), .int (Int32.ofInt 0)])), (q53, .inl (cA 4, 3, .inr (.inr (.inr (.inr (zr [q54, q56, q58])))))), (q54, .inr (6, [.int (Int32.ofInt (-1)), .int (Int32.ofInt (-1)), .int (Int32.ofInt (-1)), .ref q55])), (q55, .inl (cA 0, 6720, .inl (za (fun _ => 0)))), (q56, .inr (6, [.int (Int32.ofInt (-1)), .int (Int32.ofInt (-1)), .int (Int32.ofInt (-1)), .ref q57])), (q57, .inl (cA 0, 6720, .inl (za (fun _ => 0)))), (q58, .inr (6, [.int (Int32.ofInt (-1)), .int (Int32.ofInt (-1)), .int (Int32.ofInt (-1)), .ref q59])), (q59, .inl (cA 0, 6720, .inl (za (fun _ => 0)))), (q60, .inl (cA 0, 16384, .inl (za (fun _ => 0)))), (q61, .inl (cA 2, 6720, .inr (.inl (zl (fun _ => 0))))), (q62, .inl (cA 2, 6720, .inr (.inl (zl (fun _ => 0))))), (q63, .inl (cA 0, 6720, .inl (za (fun _ => 0)))), (q64, .inl (cA 0, 6720, .inl (za (fun _ => 0)))), (q65, .inl (cA 0, 6720, .inl (za (fun _ => 0)))), (q66, .inl (cA 0, 6720, .inl (za (fun _ => 0)))), (q67, .inl (cA 0, 6, .inl (za (fun _ => 0)))), (q68, .inl (cA 0, 4, .inl (za (fun _ => 0)))), (q69, .inl (cA 0, 4, .inl (za (fun _ => 0)))), (q70, .inr (9, [.ref q2, .ref q50, .ref q71, .ref q74, .ref q75, .int (Int32.ofInt (-1)), .int (Int32.ofInt 0), .int (Int32.ofInt 0), .int (Int32.ofInt 0)])), (q71, .inr (1, [.int (Int32.ofInt 0), .ref q72, .ref q73])), (q72, .inl (cA 0, 12, .inl (za (fun _ => 0)))), (q73, .inl (cA 0, 120, .inl (za (fun _ => 0)))), (q74, .inl (cA 0, 5, .inl (za (fun _ => 0)))), (q75, .inl (cA 0, 5, .inl (za (fun _ => 0)))), (q76, .inr (8, [.ref q2, .ref q77, .int (Int32.ofInt (-1)), .int (Int32.ofInt 0), .int (Int32.ofInt 0), .int (Int32.ofInt 0), .int (Int32.ofInt 0), .ref q78])), (q77, .inl (cA 0, 3601, .inl (za (fun _ => 0)))), (q78, .inl (cA 0, 6, .inl (za (fun _ => 0)))), (q79, .inr (5, [.ref q80])), (q80, .inr (1, [.int (Int32.ofInt 0), .ref q81, .ref q82])), (q81, .inl (cA 0, 12, .inl (za (fun _ => 0)))), (q82, .inl (cA 0, 120, .inl (za (fun _ => 0)))), (q83, .inr (11, [.int (Int32.ofInt 0), .int (Int32.ofInt 0), .null, .null, .null, .null, .int (Int32.ofInt 0), .null, .int (Int32.ofInt 0), .int (Int32.ofInt 0), .int (Int32.ofInt 0), .int (Int32.ofInt 0), .long (Int64.ofInt 0), .int (Int32.ofInt 0), .int (Int32.ofInt 0), .int (Int32.ofInt 0), .null, .int (Int32.ofInt 0), .null, .null, .int (Int32.ofInt 0), .null, .null, .int (Int32.ofInt 0), .int (Int32.ofInt 0), .null, .int (Int32.ofInt 0), .null, .null, .int (Int32.ofInt 0), .long (Int64.ofInt 0), .long (Int64.ofInt 0), .null, .null, .null, .null, .null, .int (Int32.ofInt 0), .null, .null, .null, .null, .null, .null, .null, .null, .null, .null, .null, .null, .long (Int64.ofInt 0), .null, .int (Int32.ofInt 0)]))] : va_W)[i]?) = ([(q83, .inr (11, [.int (Int32.ofInt 0), .int (Int32.ofInt 0), .null, .null, .null, .null, .int (Int32.ofInt 0), .null, .int (Int32.ofInt 0), .int (Int32.ofInt 0), .int (Int32.ofInt 0), .int (Int32.ofInt 0), .long (Int64.ofInt 0), .int (Int32.ofInt 0), .int (Int32.ofInt 0), .int (Int32.ofInt 0), .null, .int (Int32.ofInt 0), .null, .null, .int (Int32.ofInt 0), .null, .null, .int (Int32.ofInt 0), .int (Int32.ofInt 0), .null, .int (Int32.ofInt 0), .null, .null, .int (Int32.ofInt 0), .long (Int64.ofInt 0), .long (Int64.ofInt 0), .null, .null, .null, .null, .null, .int (Int32.ofInt 0), .null, .null, .null, .null, .null, .null, .null, .null, .null, .null, .null, .null, .long (Int64.ofInt 0), .null, .int (Int32.ofInt 0)]))] : va_W).map some := rfl
  have hF := va_free hD hS hA [82] hC
  refine va_callv (va_runI (As := []) (rest := [.ref q83]) ⟨hx, hb, hml, hown, hts⟩ (n_HM l ev dC dI cA q83 H.size) (cwI 0 hts (zgAL zw_1154) rfl rfl rfl (hts _ zl_115) (hts _ zl_1152) (hts _ zl_1153) rfl (by decide +kernel) ⟨Nat.le_of_ble_eq_true rfl, Nat.le_of_ble_eq_true rfl⟩) (xv_preS hE hA hS hK hP hD (isC := [82]) (by decide +kernel) hC) rfl rfl hl.1 rfl (lv_room (Nat.le_of_ble_eq_true rfl)) (zdt zkL_law 12 rfl) ⟨Nat.le_of_ble_eq_true rfl, Nat.le_of_ble_eq_true rfl⟩) hS (fun q _ h => hF q h) hF (fun u t H1 locs ht hvm hw hB hz1 hk1 hS => ?_)
  refine Exists.elim hB fun q84 hB => Exists.elim hB fun q85 hB => Exists.elim hB fun q86 hB => Exists.elim hB fun q87 hB => Exists.elim hB fun q88 hB => Exists.elim hB fun q89 hB => Exists.elim hB fun q90 hB => Exists.elim hB fun q91 hB => Exists.elim hB fun q92 hB => Exists.elim hB fun q93 hB => Exists.elim hB fun q94 hB => Exists.elim hB fun q95 hB => Exists.elim hB fun q96 hB => Exists.elim hB fun q97 hB => Exists.elim hB fun q98 hB => Exists.elim hB fun q99 hB => Exists.elim hB fun q100 hB => Exists.elim hB fun q101 hB => Exists.elim hB fun q102 hB => Exists.elim hB fun q103 hB => Exists.elim hB fun q104 hB => Exists.elim hB fun q105 hB => Exists.elim hB fun q106 hB => Exists.elim hB fun q107 hB => Exists.elim hB fun q108 hB => Exists.elim hB fun q109 hB => Exists.elim hB fun q110 hB => Exists.elim hB fun q111 hB => Exists.elim hB fun q112 hB => Exists.elim hB fun q113 hB => Exists.elim hB fun q114 hB => ?_
  have hP1 := hB.1
  have hD1 := hB.2
  rw [ht] at hP1
  obtain ⟨hP, hD⟩ := va_join (wr := [(q1, .inr (10, [.ref q2, .ref q14, .ref q39, .ref q40, .int (Int32.ofInt 0), .int (Int32.ofInt (-1)), .int (Int32.ofInt 0), .ref q41, .int (Int32.ofInt 0), .ref q42, .ref q47, .ref q50, .ref q52, .ref q70, .ref q76, .ref q79])), (q2, .inr (2, [.ref q3, .int (Int32.ofInt 0), .ref q6, .ref q7, .ref q8, .int (Int32.ofInt 0), .ref q9, .ref q10, .ref q11, .int (Int32.ofInt 0), .ref q12, .ref q13, .int (Int32.ofInt (-1)), .int (Int32.ofInt 0)])), (q3, .inr (1, [.int (Int32.ofInt 0), .ref q4, .ref q5])), (q4, .inl (cA 0, 12, .inl (za (fun _ => 0)))), (q5, .inl (cA 0, 120, .inl (za (fun _ => 0)))), (q6, .inl (cA 0, 6, .inl (za (fun _ => 0)))), (q7, .inl (cA 0, 6, .inl (za (fun _ => 0)))), (q8, .inl (cA 0, 6, .inl (za (fun _ => 0)))), (q9, .inl (cA 0, 6, .inl (za (fun _ => 0)))), (q10, .inl (cA 0, 4, .inl (za (zk 2)))), (q11, .inl (cA 0, 12, .inl (za (fun _ => 0)))), (q12, .inl (cA 0, 2544, .inl (za (fun _ => 0)))), (q13, .inl (cA 0, 6, .inl (za (fun _ => 0)))), (q14, .inl (cA 3, 2, .inr (.inr (.inr (.inr (zr [q15, q27])))))), (q15, .inr (2, [.ref q16, .int (Int32.ofInt 0), .ref q19, .ref q20, .ref q21, .int (Int32.ofInt 0), .ref q22, .ref q23, .ref q24, .int (Int32.ofInt 0), .ref q25, .ref q26, .int (Int32.ofInt (-1)), .int (Int32.ofInt 0)])), (q16, .inr (1, [.int (Int32.ofInt 0), .ref q17, .ref q18])), (q17, .inl (cA 0, 12, .inl (za (fun _ => 0)))), (q18, .inl (cA 0, 120, .inl (za (fun _ => 0)))), (q19, .inl (cA 0, 6, .inl (za (fun _ => 0)))), (q20, .inl (cA 0, 6, .inl (za (fun _ => 0)))), (q21, .inl (cA 0, 6, .inl (za (fun _ => 0)))), (q22, .inl (cA 0, 6, .inl (za (fun _ => 0)))), (q23, .inl (cA 0, 4, .inl (za (zk 2)))), (q24, .inl (cA 0, 12, .inl (za (fun _ => 0)))), (q25, .inl (cA 0, 2544, .inl (za (fun _ => 0)))), (q26, .inl (cA 0, 6, .inl (za (fun _ => 0)))), (q27, .inr (2, [.ref q28, .int (Int32.ofInt 0), .ref q31, .ref q32, .ref q33, .int (Int32.ofInt 0), .ref q34, .ref q35, .ref q36, .int (Int32.ofInt 0), .ref q37, .ref q38, .int (Int32.ofInt (-1)), .int (Int32.ofInt 0)])), (q28, .inr (1, [.int (Int32.ofInt 0), .ref q29, .ref q30])), (q29, .inl (cA 0, 12, .inl (za (fun _ => 0)))), (q30, .inl (cA 0, 120, .inl (za (fun _ => 0)))), (q31, .inl (cA 0, 6, .inl (za (fun _ => 0)))), (q32, .inl (cA 0, 6, .inl (za (fun _ => 0)))), (q33, .inl (cA 0, 6, .inl (za (fun _ => 0)))), (q34, .inl (cA 0, 6, .inl (za (fun _ => 0)))), (q35, .inl (cA 0, 4, .inl (za (zk 2)))), (q36, .inl (cA 0, 12, .inl (za (fun _ => 0)))), (q37, .inl (cA 0, 2544, .inl (za (fun _ => 0)))), (q38, .inl (cA 0, 6, .inl (za (fun _ => 0)))), (q39, .inl (cA 1, 2, .inl (za (fun _ => 0)))), (q40, .inl (cA 0, 400, .inl (za (fun _ => 0)))), (q41, .inl (cA 0, 7, .inl (za (fun _ => 0)))), (q42, .inr (4, [.ref q43, .int (Int32.ofInt 0), .ref q44, .ref q45, .ref q46, .int (Int32.ofInt 0), .int (Int32.ofInt 0)])), (q43, .inl (cA 0, 424, .inl (za (fun _ => 0)))), (q44, .inl (cA 0, 401, .inl (za (fun _ => 0)))), (q45, .inl (cA 0, 401, .inl (za (fun _ => 0)))), (q46, .inl (cA 0, 401, .inl (za (fun _ => 0)))), (q47, .inr (3, [.ref q2, .ref q48, .ref q49, .int (Int32.ofInt 0), .int (Int32.ofInt 0), .int (Int32.ofInt 0)])), (q48, .inl (cA 0, 8, .inl (za (fun _ => 0)))), (q49, .inl (cA 0, 32, .inl (za (fun _ => 0)))), (q50, .inr (0, [.ref q2, .ref q47, .ref q51])), (q51, .inl (cA 0, 48000, .inl (za (fun _ => 0)))), (q52, .inr (7, [.ref q2, .ref q50, .ref q53, .ref q60, .ref q61, .ref q62, .ref q63, .ref q64, .ref q65, .ref q66, .ref q67, .ref q68, .ref q69, .int (Int32.ofInt 0), .int (Int32.ofInt 0), .int (Int32.ofInt 0)])), (q53, .inl (cA 4, 3, .inr (.inr (.inr (.inr (zr [q54, q56, q58])))))), (q54, .inr (6, [.int (Int32.ofInt (-1)), .int (Int32.ofInt (-1)), .int (Int32.ofInt (-1)), .ref q55])), (q55, .inl (cA 0, 6720, .inl (za (fun _ => 0)))), (q56, .inr (6, [.int (Int32.ofInt (-1)), .int (Int32.ofInt (-1)), .int (Int32.ofInt (-1)), .ref q57])), (q57, .inl (cA 0, 6720, .inl (za (fun _ => 0)))), (q58, .inr (6, [.int (Int32.ofInt (-1)), .int (Int32.ofInt (-1)), .int (Int32.ofInt (-1)), .ref q59])), (q59, .inl (cA 0, 6720, .inl (za (fun _ => 0)))), (q60, .inl (cA 0, 16384, .inl (za (fun _ => 0)))), (q61, .inl (cA 2, 6720, .inr (.inl (zl (fun _ => 0))))), (q62, .inl (cA 2, 6720, .inr (.inl (zl (fun _ => 0))))), (q63, .inl (cA 0, 6720, .inl (za (fun _ => 0)))), (q64, .inl (cA 0, 6720, .inl (za (fun _ => 0)))), (q65, .inl (cA 0, 6720, .inl (za (fun _ => 0)))), (q66, .inl (cA 0, 6720, .inl (za (fun _ => 0)))), (q67, .inl (cA 0, 6, .inl (za (fun _ => 0)))), (q68, .inl (cA 0, 4, .inl (za (fun _ => 0)))), (q69, .inl (cA 0, 4, .inl (za (fun _ => 0)))), (q70, .inr (9, [.ref q2, .ref q50, .ref q71, .ref q74, .ref q75, .int (Int32.ofInt (-1)), .int (Int32.ofInt 0), .int (Int32.ofInt 0), .int (Int32.ofInt 0)])), (q71, .inr (1, [.int (Int32.ofInt 0), .ref q72, .ref q73])), (q72, .inl (cA 0, 12, .inl (za (fun _ => 0)))), (q73, .inl (cA 0, 120, .inl (za (fun _ => 0)))), (q74, .inl (cA 0, 5, .inl (za (fun _ => 0)))), (q75, .inl (cA 0, 5, .inl (za (fun _ => 0)))), (q76, .inr (8, [.ref q2, .ref q77, .int (Int32.ofInt (-1)), .int (Int32.ofInt 0), .int (Int32.ofInt 0), .int (Int32.ofInt 0), .int (Int32.ofInt 0), .ref q78])), (q77, .inl (cA 0, 3601, .inl (za (fun _ => 0)))), (q78, .inl (cA 0, 6, .inl (za (fun _ => 0)))), (q79, .inr (5, [.ref q80])), (q80, .inr (1, [.int (Int32.ofInt 0), .ref q81, .ref q82])), (q81, .inl (cA 0, 12, .inl (za (fun _ => 0)))), (q82, .inl (cA 0, 120, .inl (za (fun _ => 0))))]) (w1 := [(q83, .inr (11, [.int (Int32.ofInt 0), .int (Int32.ofInt 0), .ref q84, .ref q85, .ref q86, .ref q87, .int (Int32.ofInt 0), .ref q88, .int (Int32.ofInt 0), .int (Int32.ofInt 0), .int (Int32.ofInt 0), .int (Int32.ofInt 0), .long (Int64.ofInt 0), .int (Int32.ofInt (-1)), .int (Int32.ofInt 0), .int (Int32.ofInt 0), .ref q89, .int (Int32.ofInt 0), .ref q90, .ref q91, .int (Int32.ofInt 0), .ref q92, .ref q93, .int (Int32.ofInt 0), .int (Int32.ofInt 0), .ref q94, .int (Int32.ofInt 0), .ref q95, .ref q96, .int (Int32.ofInt 0), .long (Int64.ofInt 0), .long (Int64.ofInt 0), .ref q97, .ref q98, .ref q99, .ref q100, .ref q101, .int (Int32.ofInt 0), .ref q102, .ref q103, .ref q104, .ref q105, .ref q106, .ref q107, .ref q108, .ref q109, .ref q110, .ref q111, .ref q112, .ref q113, .long (Int64.ofInt 0), .ref q114, .int (Int32.ofInt 0)])), (q84, .inl (cA 0, 7, .inl (za (fun _ => 0)))), (q85, .inl (cA 0, 5580, .inl (za (zu (zu (zu (zu (fun _ => 0) 4 (-1)) 6 1) 7 3) 8 1)))), (q86, .inl (cA 0, 11160, .inl (za (fun _ => 0)))), (q87, .inl (cA 1, 2, .inl (za (fun _ => 0)))), (q88, .inl (cA 0, 400, .inl (za (fun _ => 0)))), (q89, .inl (cA 0, 96, .inl (za (fun _ => 0)))), (q90, .inl (cA 0, 400, .inl (za (fun _ => 0)))), (q91, .inl (cA 0, 400, .inl (za (fun _ => 0)))), (q92, .inl (cA 0, 400, .inl (za (fun _ => 0)))), (q93, .inl (cA 0, 400, .inl (za (fun _ => 0)))), (q94, .inl (cA 2, 8, .inr (.inl (zl (zu (zu (zu (zu (zu (zu (zu (zu (fun _ => 0) 0 3417476) 1 674919554696) 2 777297172) 3 215533) 4 655) 5 271592) 6 12791) 7 661069))))), (q95, .inl (cA 2, 13, .inr (.inl (zl (fun _ => 0))))), (q96, .inl (cA 2, 400, .inr (.inl (zl (fun _ => 0))))), (q97, .inl (cA 0, 12, .inl (za (fun _ => 0)))), (q98, .inl (cA 0, 120, .inl (za (fun _ => 0)))), (q99, .inl (cA 0, 5, .inl (za (fun _ => 0)))), (q100, .inl (cA 0, 6720, .inl (za (fun _ => 0)))), (q101, .inl (cA 0, 16384, .inl (za (fun _ => 0)))), (q102, .inl (cA 0, 107520, .inl (za (fun _ => 0)))), (q103, .inl (cA 2, 6720, .inr (.inl (zl (fun _ => 0))))), (q104, .inl (cA 0, 12000, .inl (za (fun _ => 0)))), (q105, .inl (cA 0, 20, .inl (za (fun _ => 0)))), (q106, .inl (cA 0, 4, .inl (za (fun _ => 0)))), (q107, .inl (cA 1, 6720, .inl (za (fun _ => 0)))), (q108, .inl (cA 2, 107520, .inr (.inl (zl (fun _ => 0))))), (q109, .inl (cA 2, 3601, .inr (.inl (zl (fun _ => 0))))), (q110, .inl (cA 0, 6, .inl (za (fun _ => 0)))), (q111, .inl (cA 0, 5, .inl (za (fun _ => 0)))), (q112, .inl (cA 0, 5, .inl (za (fun _ => 0)))), (q113, .inl (cA 0, 5, .inl (za (fun _ => 0)))), (q114, .inl (cA 0, 24, .inl (za (fun _ => 0))))]) hP hD [82] [0, 1, 2, 3, 4, 5, 6, 7, 8, 9, 10, 11, 12, 13, 14, 15, 16, 17, 18, 19, 20, 21, 22, 23, 24, 25, 26, 27, 28, 29, 30, 31, 32, 33, 34, 35, 36, 37, 38, 39, 40, 41, 42, 43, 44, 45, 46, 47, 48, 49, 50, 51, 52, 53, 54, 55, 56, 57, 58, 59, 60, 61, 62, 63, 64, 65, 66, 67, 68, 69, 70, 71, 72, 73, 74, 75, 76, 77, 78, 79, 80, 81] hC rfl (by decide +kernel) (by decide +kernel) hk1 hF hP1 hD1
  generalize H1 = H at hP hS ⊢
  refine xw_PD [(q1, .inr (10, [.ref q2, .ref q14, .ref q39, .ref q40, .int (Int32.ofInt 0), .int (Int32.ofInt (-1)), .int (Int32.ofInt 0), .ref q41, .int (Int32.ofInt 0), .ref q42, .ref q47, .ref q50, .ref q52, .ref q70, .ref q76, .ref q79])), (q2, .inr (2, [.ref q3, .int (Int32.ofInt 0), .ref q6, .ref q7, .ref q8, .int (Int32.ofInt 0), .ref q9, .ref q10, .ref q11, .int (Int32.ofInt 0), .ref q12, .ref q13, .int (Int32.ofInt (-1)), .int (Int32.ofInt 0)])), (q3, .inr (1, [.int (Int32.ofInt 0), .ref q4, .ref q5])), (q4, .inl (cA 0, 12, .inl (za (fun _ => 0)))), (q5, .inl (cA 0, 120, .inl (za (fun _ => 0)))), (q6, .inl (cA 0, 6, .inl (za (fun _ => 0)))), (q7, .inl (cA 0, 6, .inl (za (fun _ => 0)))), (q8, .inl (cA 0, 6, .inl (za (fun _ => 0)))), (q9, .inl (cA 0, 6, .inl (za (fun _ => 0)))), (q10, .inl (cA 0, 4, .inl (za (zk 2)))), (q11, .inl (cA 0, 12, .inl (za (fun _ => 0)))), (q12, .inl (cA 0, 2544, .inl (za (fun _ => 0)))), (q13, .inl (cA 0, 6, .inl (za (fun _ => 0)))), (q14, .inl (cA 3, 2, .inr (.inr (.inr (.inr (zr [q15, q27])))))), (q15, .inr (2, [.ref q16, .int (Int32.ofInt 0), .ref q19, .ref q20, .ref q21, .int (Int32.ofInt 0), .ref q22, .ref q23, .ref q24, .int (Int32.ofInt 0), .ref q25, .ref q26, .int (Int32.ofInt (-1)), .int (Int32.ofInt 0)])), (q16, .inr (1, [.int (Int32.ofInt 0), .ref q17, .ref q18])), (q17, .inl (cA 0, 12, .inl (za (fun _ => 0)))), (q18, .inl (cA 0, 120, .inl (za (fun _ => 0)))), (q19, .inl (cA 0, 6, .inl (za (fun _ => 0)))), (q20, .inl (cA 0, 6, .inl (za (fun _ => 0)))), (q21, .inl (cA 0, 6, .inl (za (fun _ => 0)))), (q22, .inl (cA 0, 6, .inl (za (fun _ => 0)))), (q23, .inl (cA 0, 4, .inl (za (zk 2)))), (q24, .inl (cA 0, 12, .inl (za (fun _ => 0)))), (q25, .inl (cA 0, 2544, .inl (za (fun _ => 0)))), (q26, .inl (cA 0, 6, .inl (za (fun _ => 0)))), (q27, .inr (2, [.ref q28, .int (Int32.ofInt 0), .ref q31, .ref q32, .ref q33, .int (Int32.ofInt 0), .ref q34, .ref q35, .ref q36, .int (Int32.ofInt 0), .ref q37, .ref q38, .int (Int32.ofInt (-1)), .int (Int32.ofInt 0)])), (q28, .inr (1, [.int (Int32.ofInt 0), .ref q29, .ref q30])), (q29, .inl (cA 0, 12, .inl (za (fun _ => 0)))), (q30, .inl (cA 0, 120, .inl (za (fun _ => 0)))), (q31, .inl (cA 0, 6, .inl (za (fun _ => 0)))), (q32, .inl (cA 0, 6, .inl (za (fun _ => 0)))), (q33, .inl (cA 0, 6, .inl (za (fun _ => 0)))), (q34, .inl (cA 0, 6, .inl (za (fun _ => 0)))), (q35, .inl (cA 0, 4, .inl (za (zk 2)))), (q36, .inl (cA 0, 12, .inl (za (fun _ => 0)))), (q37, .inl (cA 0, 2544, .inl (za (fun _ => 0)))), (q38, .inl (cA 0, 6, .inl (za (fun _ => 0)))), (q39, .inl (cA 1, 2, .inl (za (fun _ => 0)))), (q40, .inl (cA 0, 400, .inl (za (fun _ => 0)))), (q41, .inl (cA 0, 7, .inl (za (fun _ => 0)))), (q42, .inr (4, [.ref q43, .int (Int32.ofInt 0), .ref q44, .ref q45, .ref q46, .int (Int32.ofInt 0), .int (Int32.ofInt 0)])), (q43, .inl (cA 0, 424, .inl (za (fun _ => 0)))), (q44, .inl (cA 0, 401, .inl (za (fun _ => 0)))), (q45, .inl (cA 0, 401, .inl (za (fun _ => 0)))), (q46, .inl (cA 0, 401, .inl (za (fun _ => 0)))), (q47, .inr (3, [.ref q2, .ref q48, .ref q49, .int (Int32.ofInt 0), .int (Int32.ofInt 0), .int (Int32.ofInt 0)])), (q48, .inl (cA 0, 8, .inl (za (fun _ => 0)))), (q49, .inl (cA 0, 32, .inl (za (fun _ => 0)))), (q50, .inr (0, [.ref q2, .ref q47, .ref q51])), (q51, .inl (cA 0, 48000, .inl (za (fun _ => 0)))), (q52, .inr (7, [.ref q2, .ref q50, .ref q53, .ref q60, .ref q61, .ref q62, .ref q63, .ref q64, .ref q65, .ref q66, .ref q67, .ref q68, .ref q69, .int (Int32.ofInt 0), .int (Int32.ofInt 0), .int (Int32.ofInt 0)])), (q53, .inl (cA 4, 3, .inr (.inr (.inr (.inr (zr [q54, q56, q58])))))), (q54, .inr (6, [.int (Int32.ofInt (-1)), .int (Int32.ofInt (-1)), .int (Int32.ofInt (-1)), .ref q55])), (q55, .inl (cA 0, 6720, .inl (za (fun _ => 0)))), (q56, .inr (6, [.int (Int32.ofInt (-1)), .int (Int32.ofInt (-1)), .int (Int32.ofInt (-1)), .ref q57])), (q57, .inl (cA 0, 6720, .inl (za (fun _ => 0)))), (q58, .inr (6, [.int (Int32.ofInt (-1)), .int (Int32.ofInt (-1)), .int (Int32.ofInt (-1)), .ref q59])), (q59, .inl (cA 0, 6720, .inl (za (fun _ => 0)))), (q60, .inl (cA 0, 16384, .inl (za (fun _ => 0)))), (q61, .inl (cA 2, 6720, .inr (.inl (zl (fun _ => 0))))), (q62, .inl (cA 2, 6720, .inr (.inl (zl (fun _ => 0))))), (q63, .inl (cA 0, 6720, .inl (za (fun _ => 0)))), (q64, .inl (cA 0, 6720, .inl (za (fun _ => 0)))), (q65, .inl (cA 0, 6720, .inl (za (fun _ => 0)))), (q66, .inl (cA 0, 6720, .inl (za (fun _ => 0)))), (q67, .inl (cA 0, 6, .inl (za (fun _ => 0)))), (q68, .inl (cA 0, 4, .inl (za (fun _ => 0)))), (q69, .inl (cA 0, 4, .inl (za (fun _ => 0)))), (q70, .inr (9, [.ref q2, .ref q50, .ref q71, .ref q74, .ref q75, .int (Int32.ofInt (-1)), .int (Int32.ofInt 0), .int (Int32.ofInt 0), .int (Int32.ofInt 0)])), (q71, .inr (1, [.int (Int32.ofInt 0), .ref q72, .ref q73])), (q72, .inl (cA 0, 12, .inl (za (fun _ => 0)))), (q73, .inl (cA 0, 120, .inl (za (fun _ => 0)))), (q74, .inl (cA 0, 5, .inl (za (fun _ => 0)))), (q75, .inl (cA 0, 5, .inl (za (fun _ => 0)))), (q76, .inr (8, [.ref q2, .ref q77, .int (Int32.ofInt (-1)), .int (Int32.ofInt 0), .int (Int32.ofInt 0), .int (Int32.ofInt 0), .int (Int32.ofInt 0), .ref q78])), (q77, .inl (cA 0, 3601, .inl (za (fun _ => 0)))), (q78, .inl (cA 0, 6, .inl (za (fun _ => 0)))), (q79, .inr (5, [.ref q80])), (q80, .inr (1, [.int (Int32.ofInt 0), .ref q81, .ref q82])), (q81, .inl (cA 0, 12, .inl (za (fun _ => 0)))), (q82, .inl (cA 0, 120, .inl (za (fun _ => 0)))), (q83, .inr (11, [.int (Int32.ofInt 0), .int (Int32.ofInt 0), .ref q84, .ref q85, .ref q86, .ref q87, .int (Int32.ofInt 0), .ref q88, .int (Int32.ofInt 0), .int (Int32.ofInt 0), .int (Int32.ofInt 0), .int (Int32.ofInt 0), .long (Int64.ofInt 0), .int (Int32.ofInt (-1)), .int (Int32.ofInt 0), .int (Int32.ofInt 0), .ref q89, .int (Int32.ofInt 0), .ref q90, .ref q91, .int (Int32.ofInt 0), .ref q92, .ref q93, .int (Int32.ofInt 0), .int (Int32.ofInt 0), .ref q94, .int (Int32.ofInt 0), .ref q95, .ref q96, .int (Int32.ofInt 0), .long (Int64.ofInt 0), .long (Int64.ofInt 0), .ref q97, .ref q98, .ref q99, .ref q100, .ref q101, .int (Int32.ofInt 0), .ref q102, .ref q103, .ref q104, .ref q105, .ref q106, .ref q107, .ref q108, .ref q109, .ref q110, .ref q111, .ref q112, .ref q113, .long (Int64.ofInt 0), .ref q114, .int (Int32.ofInt 0)])), (q84, .inl (cA 0, 7, .inl (za (fun _ => 0)))), (q85, .inl (cA 0, 5580, .inl (za (zu (zu (zu (zu (fun _ => 0) 4 (-1)) 6 1) 7 3) 8 1)))), (q86, .inl (cA 0, 11160, .inl (za (fun _ => 0)))), (q87, .inl (cA 1, 2, .inl (za (fun _ => 0)))), (q88, .inl (cA 0, 400, .inl (za (fun _ => 0)))), (q89, .inl (cA 0, 96, .inl (za (fun _ => 0)))), (q90, .inl (cA 0, 400, .inl (za (fun _ => 0)))), (q91, .inl (cA 0, 400, .inl (za (fun _ => 0)))), (q92, .inl (cA 0, 400, .inl (za (fun _ => 0)))), (q93, .inl (cA 0, 400, .inl (za (fun _ => 0)))), (q94, .inl (cA 2, 8, .inr (.inl (zl (zu (zu (zu (zu (zu (zu (zu (zu (fun _ => 0) 0 3417476) 1 674919554696) 2 777297172) 3 215533) 4 655) 5 271592) 6 12791) 7 661069))))), (q95, .inl (cA 2, 13, .inr (.inl (zl (fun _ => 0))))), (q96, .inl (cA 2, 400, .inr (.inl (zl (fun _ => 0))))), (q97, .inl (cA 0, 12, .inl (za (fun _ => 0)))), (q98, .inl (cA 0, 120, .inl (za (fun _ => 0)))), (q99, .inl (cA 0, 5, .inl (za (fun _ => 0)))), (q100, .inl (cA 0, 6720, .inl (za (fun _ => 0)))), (q101, .inl (cA 0, 16384, .inl (za (fun _ => 0)))), (q102, .inl (cA 0, 107520, .inl (za (fun _ => 0)))), (q103, .inl (cA 2, 6720, .inr (.inl (zl (fun _ => 0))))), (q104, .inl (cA 0, 12000, .inl (za (fun _ => 0)))), (q105, .inl (cA 0, 20, .inl (za (fun _ => 0)))), (q106, .inl (cA 0, 4, .inl (za (fun _ => 0)))), (q107, .inl (cA 1, 6720, .inl (za (fun _ => 0)))), (q108, .inl (cA 2, 107520, .inr (.inl (zl (fun _ => 0))))), (q109, .inl (cA 2, 3601, .inr (.inl (zl (fun _ => 0))))), (q110, .inl (cA 0, 6, .inl (za (fun _ => 0)))), (q111, .inl (cA 0, 5, .inl (za (fun _ => 0)))), (q112, .inl (cA 0, 5, .inl (za (fun _ => 0)))), (q113, .inl (cA 0, 5, .inl (za (fun _ => 0)))), (q114, .inl (cA 0, 24, .inl (za (fun _ => 0))))] hP hD (fun hP hD => ?_)
  refine lv_astore_n (lv' := [(2, .ref q83), (1, .ref q1), (0, .ref b)]) hx hb (zdt zkL_law 15 rfl) rfl hl (by decide) rfl (fun ls hl => ?_)
  refine lv_iconst (v := Int32.ofInt 0) hx hb (zdt zkL_law 16 rfl) rfl ?_
  refine lv_istore_n (lv' := [(3, .int (Int32.ofInt 0)), (2, .ref q83), (1, .ref q1), (0, .ref b)]) hx hb (zdt zkL_law 17 rfl) rfl hl (by decide) rfl (fun ls hl => ?_)
  obtain ⟨qa, hqa⟩ : ∃ qa : Nat → Nat, qa = (fun k => ([q1, q2, q14, q39, q40, q41, q42, q47, q50, q52, q70, q76, q79, q83, q84, q85, q86, q87, q88, q89, q90, q91, q92, q93, q94, q95, q96, q97, q98, q99, q100, q101, q102, q103, q104, q105, q106, q107, q108, q109, q110, q111, q112, q113, q114, q3, q6, q7, q8, q9, q10, q11, q12, q13, q15, q27, q43, q44, q45, q46, q48, q49, q51, q53, q60, q61, q62, q63, q64, q65, q66, q67, q68, q69, q71, q74, q75, q77, q78, q80, q4, q5, q16, q19, q20, q21, q22, q23, q24, q25, q26, q28, q31, q32, q33, q34, q35, q36, q37, q38, q54, q56, q58, q72, q73, q81, q82, q17, q18, q29, q30, q55, q57, q59] : List Nat).getD k 0) := ⟨_, rfl⟩
  have hP2 : va_P (dC, dI) vwCl (wd_LW_law cA qa zst_s0 zst_t0) H := by
    rw [hqa]
    exact hP.sub [0, 82, 1, 13, 38, 39, 40, 41, 46, 49, 51, 69, 75, 78, 83, 84, 85, 86, 87, 88, 89, 90, 91, 92, 93, 94, 95, 96, 97, 98, 99, 100, 101, 102, 103, 104, 105, 106, 107, 108, 109, 110, 111, 112, 113, 2, 5, 6, 7, 8, 9, 10, 11, 12, 14, 26, 42, 43, 44, 45, 47, 48, 50, 52, 59, 60, 61, 62, 63, 64, 65, 66, 67, 68, 70, 73, 74, 76, 77, 79, 3, 4, 15, 18, 19, 20, 21, 22, 23, 24, 25, 27, 30, 31, 32, 33, 34, 35, 36, 37, 53, 55, 57, 71, 72, 80, 81, 16, 17, 28, 29, 54, 56, 58] rfl
  have hD2 : va_D A (wd_LW_law cA qa zst_s0 zst_t0) := by
    rw [hqa]
    exact hD.sub [0, 82, 1, 13, 38, 39, 40, 41, 46, 49, 51, 69, 75, 78, 83, 84, 85, 86, 87, 88, 89, 90, 91, 92, 93, 94, 95, 96, 97, 98, 99, 100, 101, 102, 103, 104, 105, 106, 107, 108, 109, 110, 111, 112, 113, 2, 5, 6, 7, 8, 9, 10, 11, 12, 14, 26, 42, 43, 44, 45, 47, 48, 50, 52, 59, 60, 61, 62, 63, 64, 65, 66, 67, 68, 70, 73, 74, 76, 77, 79, 3, 4, 15, 18, 19, 20, 21, 22, 23, 24, 25, 27, 30, 31, 32, 33, 34, 35, 36, 37, 53, 55, 57, 71, 72, 80, 81, 16, 17, 28, 29, 54, 56, 58] (by decide) rfl
  have hl2 : lv_has ls 4 [(0, .ref b), (1, .ref (qa 0)), (2, .ref (qa 13)), (3, .int (Int32.ofInt 0))] := by
    rw [hqa]
    exact lv_sub hl [3, 2, 1, 0] rfl
  refine W.widen (k := 600000) (n := 7302250) (Nat.le_of_ble_eq_true rfl) (Nat.le_of_ble_eq_true rfl) ?_
  obtain ⟨o, he, ho⟩ := law_all L (fun j => (xs j).toInt) hL (fun j => zi_I (xs j)) zfu 0 zst_s0 zst_t0 ⟨Int.le_refl 0, Int.natCast_nonneg L⟩ INV_start (by unfold zfu; omega)
  subst ho
  exact law_loop C0 hK hA hA2 hbA hE qa zfu 0 zst_s0 zst_t0 H locs ls he hP2 hD2 hS hl2
end
