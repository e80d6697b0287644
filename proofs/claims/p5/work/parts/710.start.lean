/-! THE START: the classes, the array classes, what lies beside the worlds -/
theorem zst_AC {s : State} {args : Array Value} {ty : FieldType} (hp : ∀ C, ty ≠ .object C) (h : (Cond.arrayClass ty).before args s = true) : ∃ c : ClassId, ArrOfT s c ty ∧ va_RA s c ty := by
  obtain ⟨c, k, comp, h1, h2, h3⟩ := Cond.arrayClass_spec h
  refine ⟨c, fun n z => ⟨(fun k h => by cases h), k, h2, comp, h3⟩, ?_⟩
  cases ty with
  | object C => exact absurd rfl (hp C)
  | _ => exact h1
theorem zst_AO {s : State} {args : Array Value} {C : String} (h : (Cond.arrayOver (.object C)).before args s = true) : ∃ c : ClassId, ArrOfT s c (.object C) ∧ va_RA s c (.object C) := by
  obtain ⟨comp, c, k, h1, h2, h3, h4, h5⟩ := Cond.arrayOver_spec h
  exact ⟨c, fun n z => ⟨(fun k h => by cases h), k, h3, comp, h4⟩, k, comp, h3, h4, h1, h5⟩
theorem zisN_of {w : Cond} (h : zisN w = true) {A : Array Value} {U : State} (hb : w.before A U = true) : va_Nw w U := by
  cases w <;> first | (cases h; done) | exact va_Nw.of rfl hb | (rename_i ty; cases ty <;> first | (cases h; done) | exact va_AO.of hb)
theorem zSz_of {args : Array Value} {s : State} {tm : Term} {t N : Nat} {A : Nat → Prop} (hN : N < 2147483648) (ht : tm.eval args s none [] s = some (.ref t)) (h : (Term.length tm).eval args s none [] s = some (.int (Int32.ofNat N))) (hA : ∀ a : Nat, a < s.heap.size → ¬ A a) : zSz t N A s.heap := by
  simp only [Term.eval, Option.bind_eq_bind] at h
  rw [ht] at h
  simp only [Option.bind_some] at h
  obtain ⟨cell, hcell, h⟩ := Option.bind_eq_some_iff.mp h
  obtain ⟨hc, -, -, -⟩ := State.arrayAt?_spec hcell
  by_cases hn : cell.slots.size < 2147483648
  · rw [if_pos hn] at h
    have e : cell.slots.size.toInt32 = Int32.ofNat N := Value.int.inj (Option.some.inj h)
    have e2 : (Int32.ofNat cell.slots.size).toNatClampNeg = (Int32.ofNat N).toNatClampNeg := congrArg Int32.toNatClampNeg e
    rw [Int32.toNatClampNeg_ofNat_of_lt hn, Int32.toNatClampNeg_ofNat_of_lt hN] at e2
    exact ⟨cell, hc, e2, hA t (Array.getElem?_eq_some_iff.mp hc).1⟩
  · rw [if_neg hn] at h; cases h
def zgiv : List Cond := flatC (Jvm.Cond.and given_1 narrow_1)
def zgl : List Cond := [(Jvm.Cond.count (1 : Nat)),
  (Jvm.Cond.isRef (Jvm.Term.arg (0 : Nat))),
  (Jvm.Cond.arrayOf (Jvm.Term.arg (0 : Nat)) Jvm.ClassFile.FieldType.int),
  (Jvm.Cond.le (Jvm.Term.length (Jvm.Term.arg (0 : Nat))) (Jvm.Term.int (3072 : Int32))),
  (Jvm.Cond.isRef (Jvm.Term.static "HillSchool" "FIRST_TERMS" "[I")),
  (Jvm.Cond.arrayOf (Jvm.Term.static "HillSchool" "FIRST_TERMS" "[I") Jvm.ClassFile.FieldType.int),
  (Jvm.Cond.eq (Jvm.Term.length (Jvm.Term.static "HillSchool" "FIRST_TERMS" "[I")) (Jvm.Term.int (4 : Int32))),
  (Jvm.Cond.eq (Jvm.Term.elem (Jvm.Term.static "HillSchool" "FIRST_TERMS" "[I") (Jvm.Term.int (0 : Int32))) (Jvm.Term.int (0 : Int32))),
  (Jvm.Cond.eq (Jvm.Term.elem (Jvm.Term.static "HillSchool" "FIRST_TERMS" "[I") (Jvm.Term.int (1 : Int32))) (Jvm.Term.int (1 : Int32))),
  (Jvm.Cond.eq (Jvm.Term.elem (Jvm.Term.static "HillSchool" "FIRST_TERMS" "[I") (Jvm.Term.int (2 : Int32))) (Jvm.Term.int (3 : Int32))),
  (Jvm.Cond.eq (Jvm.Term.elem (Jvm.Term.static "HillSchool" "FIRST_TERMS" "[I") (Jvm.Term.int (3 : Int32))) (Jvm.Term.int (1 : Int32))),
  (Jvm.Cond.isRef (Jvm.Term.static "HillSchool" "LEAST_TERMS" "[I")),
  (Jvm.Cond.arrayOf (Jvm.Term.static "HillSchool" "LEAST_TERMS" "[I") Jvm.ClassFile.FieldType.int),
  (Jvm.Cond.eq (Jvm.Term.length (Jvm.Term.static "HillSchool" "LEAST_TERMS" "[I")) (Jvm.Term.int (4 : Int32))),
  (Jvm.Cond.eq (Jvm.Term.elem (Jvm.Term.static "HillSchool" "LEAST_TERMS" "[I") (Jvm.Term.int (0 : Int32))) (Jvm.Term.int (0 : Int32))),
  (Jvm.Cond.eq (Jvm.Term.elem (Jvm.Term.static "HillSchool" "LEAST_TERMS" "[I") (Jvm.Term.int (1 : Int32))) (Jvm.Term.int (1 : Int32))),
  (Jvm.Cond.eq (Jvm.Term.elem (Jvm.Term.static "HillSchool" "LEAST_TERMS" "[I") (Jvm.Term.int (2 : Int32))) (Jvm.Term.int (1 : Int32))),
  (Jvm.Cond.eq (Jvm.Term.elem (Jvm.Term.static "HillSchool" "LEAST_TERMS" "[I") (Jvm.Term.int (3 : Int32))) (Jvm.Term.int (0 : Int32))),
  (Jvm.Cond.isRef (Jvm.Term.static "HillSchool" "MOST_TERMS" "[I")),
  (Jvm.Cond.arrayOf (Jvm.Term.static "HillSchool" "MOST_TERMS" "[I") Jvm.ClassFile.FieldType.int),
  (Jvm.Cond.eq (Jvm.Term.length (Jvm.Term.static "HillSchool" "MOST_TERMS" "[I")) (Jvm.Term.int (4 : Int32))),
  (Jvm.Cond.eq (Jvm.Term.elem (Jvm.Term.static "HillSchool" "MOST_TERMS" "[I") (Jvm.Term.int (0 : Int32))) (Jvm.Term.int (99 : Int32))),
  (Jvm.Cond.eq (Jvm.Term.elem (Jvm.Term.static "HillSchool" "MOST_TERMS" "[I") (Jvm.Term.int (1 : Int32))) (Jvm.Term.int (9 : Int32))),
  (Jvm.Cond.eq (Jvm.Term.elem (Jvm.Term.static "HillSchool" "MOST_TERMS" "[I") (Jvm.Term.int (2 : Int32))) (Jvm.Term.int (9 : Int32))),
  (Jvm.Cond.eq (Jvm.Term.elem (Jvm.Term.static "HillSchool" "MOST_TERMS" "[I") (Jvm.Term.int (3 : Int32))) (Jvm.Term.int (30 : Int32))),
  (Jvm.Cond.eq (Jvm.Term.static "java/lang/String" "COMPACT_STRINGS" "Z") (Jvm.Term.int (1 : Int32))),
  (Jvm.Cond.isRef (Jvm.Term.static "jdk/internal/util/Preconditions" "SIOOBE_FORMATTER" "Ljava/util/function/BiFunction;")),
  (Jvm.Cond.eq (Jvm.Term.static "java/lang/StringUTF16" "$assertionsDisabled" "Z") (Jvm.Term.int (1 : Int32))),
  (Jvm.Cond.eq (Jvm.Term.static "java/lang/StringUTF16" "HI_BYTE_SHIFT" "I") (Jvm.Term.int (0 : Int32))),
  (Jvm.Cond.eq (Jvm.Term.static "java/lang/StringUTF16" "LO_BYTE_SHIFT" "I") (Jvm.Term.int (8 : Int32))),
  (Jvm.Cond.not (Jvm.Cond.castable "HillSchool" "HillSchool$Hill")),
  (Jvm.Cond.not (Jvm.Cond.castable "HillSchool$Columns" "HillSchool$Hill")),
  (Jvm.Cond.not (Jvm.Cond.castable "HillSchool$LawReader" "HillSchool$Hill")),
  (Jvm.Cond.not (Jvm.Cond.castable "HillSchool$Judge" "HillSchool$Hill")),
  (Jvm.Cond.not (Jvm.Cond.castable "HillSchool$Carriers" "HillSchool$Hill")),
  (Jvm.Cond.not (Jvm.Cond.castable "HillSchool$Planner" "HillSchool$Hill")),
  (Jvm.Cond.not (Jvm.Cond.castable "HillSchool$Plan" "HillSchool$Hill")),
  (Jvm.Cond.not (Jvm.Cond.castable "HillSchool$Schools" "HillSchool$Hill")),
  (Jvm.Cond.not (Jvm.Cond.castable "HillSchool$Scales" "HillSchool$Hill")),
  (Jvm.Cond.not (Jvm.Cond.castable "HillSchool$Paper" "HillSchool$Hill")),
  (Jvm.Cond.not (Jvm.Cond.castable "HillSchoolModel" "HillSchool$Hill")),
  (Jvm.Cond.not (Jvm.Cond.castable "java/lang/String" "HillSchool$Hill")),
  (Jvm.Cond.not (Jvm.Cond.castable "HillSchool" "HillSchool$Plan")),
  (Jvm.Cond.not (Jvm.Cond.castable "HillSchool$Hill" "HillSchool$Plan")),
  (Jvm.Cond.not (Jvm.Cond.castable "HillSchool$Columns" "HillSchool$Plan")),
  (Jvm.Cond.not (Jvm.Cond.castable "HillSchool$LawReader" "HillSchool$Plan")),
  (Jvm.Cond.not (Jvm.Cond.castable "HillSchool$Judge" "HillSchool$Plan")),
  (Jvm.Cond.not (Jvm.Cond.castable "HillSchool$Carriers" "HillSchool$Plan")),
  (Jvm.Cond.not (Jvm.Cond.castable "HillSchool$Planner" "HillSchool$Plan")),
  (Jvm.Cond.not (Jvm.Cond.castable "HillSchool$Schools" "HillSchool$Plan")),
  (Jvm.Cond.not (Jvm.Cond.castable "HillSchool$Scales" "HillSchool$Plan")),
  (Jvm.Cond.not (Jvm.Cond.castable "HillSchool$Paper" "HillSchool$Plan")),
  (Jvm.Cond.not (Jvm.Cond.castable "HillSchoolModel" "HillSchool$Plan")),
  (Jvm.Cond.not (Jvm.Cond.castable "java/lang/String" "HillSchool$Plan")),
  (Jvm.Cond.exactly (Jvm.Term.string "HillSchool$LawReader" (98 : Nat)) "java/lang/String"),
  (Jvm.Cond.eq (Jvm.Term.field (Jvm.Term.string "HillSchool$LawReader" (98 : Nat)) "java/lang/String" "coder" "B") (Jvm.Term.int (0 : Int32))),
  (Jvm.Cond.arrayOf (Jvm.Term.field (Jvm.Term.string "HillSchool$LawReader" (98 : Nat)) "java/lang/String" "value" "[B") Jvm.ClassFile.FieldType.byte),
  (Jvm.Cond.eq (Jvm.Term.length (Jvm.Term.field (Jvm.Term.string "HillSchool$LawReader" (98 : Nat)) "java/lang/String" "value" "[B")) (Jvm.Term.int (5 : Int32))),
  (Jvm.Cond.eq (Jvm.Term.elem (Jvm.Term.field (Jvm.Term.string "HillSchool$LawReader" (98 : Nat)) "java/lang/String" "value" "[B") (Jvm.Term.int (0 : Int32))) (Jvm.Term.int (99 : Int32))),
  (Jvm.Cond.eq (Jvm.Term.elem (Jvm.Term.field (Jvm.Term.string "HillSchool$LawReader" (98 : Nat)) "java/lang/String" "value" "[B") (Jvm.Term.int (1 : Int32))) (Jvm.Term.int (104 : Int32))),
  (Jvm.Cond.eq (Jvm.Term.elem (Jvm.Term.field (Jvm.Term.string "HillSchool$LawReader" (98 : Nat)) "java/lang/String" "value" "[B") (Jvm.Term.int (2 : Int32))) (Jvm.Term.int (105 : Int32))),
  (Jvm.Cond.eq (Jvm.Term.elem (Jvm.Term.field (Jvm.Term.string "HillSchool$LawReader" (98 : Nat)) "java/lang/String" "value" "[B") (Jvm.Term.int (3 : Int32))) (Jvm.Term.int (108 : Int32))),
  (Jvm.Cond.eq (Jvm.Term.elem (Jvm.Term.field (Jvm.Term.string "HillSchool$LawReader" (98 : Nat)) "java/lang/String" "value" "[B") (Jvm.Term.int (4 : Int32))) (Jvm.Term.int (100 : Int32))),
  (Jvm.Cond.exactly (Jvm.Term.string "HillSchool$LawReader" (106 : Nat)) "java/lang/String"),
  (Jvm.Cond.eq (Jvm.Term.field (Jvm.Term.string "HillSchool$LawReader" (106 : Nat)) "java/lang/String" "coder" "B") (Jvm.Term.int (0 : Int32))),
  (Jvm.Cond.arrayOf (Jvm.Term.field (Jvm.Term.string "HillSchool$LawReader" (106 : Nat)) "java/lang/String" "value" "[B") Jvm.ClassFile.FieldType.byte),
  (Jvm.Cond.eq (Jvm.Term.length (Jvm.Term.field (Jvm.Term.string "HillSchool$LawReader" (106 : Nat)) "java/lang/String" "value" "[B")) (Jvm.Term.int (8 : Int32))),
  (Jvm.Cond.eq (Jvm.Term.elem (Jvm.Term.field (Jvm.Term.string "HillSchool$LawReader" (106 : Nat)) "java/lang/String" "value" "[B") (Jvm.Term.int (0 : Int32))) (Jvm.Term.int (115 : Int32))),
  (Jvm.Cond.eq (Jvm.Term.elem (Jvm.Term.field (Jvm.Term.string "HillSchool$LawReader" (106 : Nat)) "java/lang/String" "value" "[B") (Jvm.Term.int (1 : Int32))) (Jvm.Term.int (116 : Int32))),
  (Jvm.Cond.eq (Jvm.Term.elem (Jvm.Term.field (Jvm.Term.string "HillSchool$LawReader" (106 : Nat)) "java/lang/String" "value" "[B") (Jvm.Term.int (2 : Int32))) (Jvm.Term.int (114 : Int32))),
  (Jvm.Cond.eq (Jvm.Term.elem (Jvm.Term.field (Jvm.Term.string "HillSchool$LawReader" (106 : Nat)) "java/lang/String" "value" "[B") (Jvm.Term.int (3 : Int32))) (Jvm.Term.int (101 : Int32))),
  (Jvm.Cond.eq (Jvm.Term.elem (Jvm.Term.field (Jvm.Term.string "HillSchool$LawReader" (106 : Nat)) "java/lang/String" "value" "[B") (Jvm.Term.int (4 : Int32))) (Jvm.Term.int (110 : Int32))),
  (Jvm.Cond.eq (Jvm.Term.elem (Jvm.Term.field (Jvm.Term.string "HillSchool$LawReader" (106 : Nat)) "java/lang/String" "value" "[B") (Jvm.Term.int (5 : Int32))) (Jvm.Term.int (103 : Int32))),
  (Jvm.Cond.eq (Jvm.Term.elem (Jvm.Term.field (Jvm.Term.string "HillSchool$LawReader" (106 : Nat)) "java/lang/String" "value" "[B") (Jvm.Term.int (6 : Int32))) (Jvm.Term.int (116 : Int32))),
  (Jvm.Cond.eq (Jvm.Term.elem (Jvm.Term.field (Jvm.Term.string "HillSchool$LawReader" (106 : Nat)) "java/lang/String" "value" "[B") (Jvm.Term.int (7 : Int32))) (Jvm.Term.int (104 : Int32))),
  (Jvm.Cond.not (Jvm.Cond.eq (Jvm.Term.string "HillSchool$LawReader" (98 : Nat)) (Jvm.Term.string "HillSchool$LawReader" (106 : Nat)))),
  (Jvm.Cond.exactly (Jvm.Term.string "HillSchool$LawReader" (108 : Nat)) "java/lang/String"),
  (Jvm.Cond.eq (Jvm.Term.field (Jvm.Term.string "HillSchool$LawReader" (108 : Nat)) "java/lang/String" "coder" "B") (Jvm.Term.int (0 : Int32))),
  (Jvm.Cond.arrayOf (Jvm.Term.field (Jvm.Term.string "HillSchool$LawReader" (108 : Nat)) "java/lang/String" "value" "[B") Jvm.ClassFile.FieldType.byte),
  (Jvm.Cond.eq (Jvm.Term.length (Jvm.Term.field (Jvm.Term.string "HillSchool$LawReader" (108 : Nat)) "java/lang/String" "value" "[B")) (Jvm.Term.int (6 : Int32))),
  (Jvm.Cond.eq (Jvm.Term.elem (Jvm.Term.field (Jvm.Term.string "HillSchool$LawReader" (108 : Nat)) "java/lang/String" "value" "[B") (Jvm.Term.int (0 : Int32))) (Jvm.Term.int (119 : Int32))),
  (Jvm.Cond.eq (Jvm.Term.elem (Jvm.Term.field (Jvm.Term.string "HillSchool$LawReader" (108 : Nat)) "java/lang/String" "value" "[B") (Jvm.Term.int (1 : Int32))) (Jvm.Term.int (101 : Int32))),
  (Jvm.Cond.eq (Jvm.Term.elem (Jvm.Term.field (Jvm.Term.string "HillSchool$LawReader" (108 : Nat)) "java/lang/String" "value" "[B") (Jvm.Term.int (2 : Int32))) (Jvm.Term.int (105 : Int32))),
  (Jvm.Cond.eq (Jvm.Term.elem (Jvm.Term.field (Jvm.Term.string "HillSchool$LawReader" (108 : Nat)) "java/lang/String" "value" "[B") (Jvm.Term.int (3 : Int32))) (Jvm.Term.int (103 : Int32))),
  (Jvm.Cond.eq (Jvm.Term.elem (Jvm.Term.field (Jvm.Term.string "HillSchool$LawReader" (108 : Nat)) "java/lang/String" "value" "[B") (Jvm.Term.int (4 : Int32))) (Jvm.Term.int (104 : Int32))),
  (Jvm.Cond.eq (Jvm.Term.elem (Jvm.Term.field (Jvm.Term.string "HillSchool$LawReader" (108 : Nat)) "java/lang/String" "value" "[B") (Jvm.Term.int (5 : Int32))) (Jvm.Term.int (116 : Int32))),
  (Jvm.Cond.not (Jvm.Cond.eq (Jvm.Term.string "HillSchool$LawReader" (98 : Nat)) (Jvm.Term.string "HillSchool$LawReader" (108 : Nat)))),
  (Jvm.Cond.not (Jvm.Cond.eq (Jvm.Term.string "HillSchool$LawReader" (106 : Nat)) (Jvm.Term.string "HillSchool$LawReader" (108 : Nat)))),
  (Jvm.Cond.exactly (Jvm.Term.string "HillSchool$LawReader" (110 : Nat)) "java/lang/String"),
  (Jvm.Cond.eq (Jvm.Term.field (Jvm.Term.string "HillSchool$LawReader" (110 : Nat)) "java/lang/String" "coder" "B") (Jvm.Term.int (0 : Int32))),
  (Jvm.Cond.arrayOf (Jvm.Term.field (Jvm.Term.string "HillSchool$LawReader" (110 : Nat)) "java/lang/String" "value" "[B") Jvm.ClassFile.FieldType.byte),
  (Jvm.Cond.eq (Jvm.Term.length (Jvm.Term.field (Jvm.Term.string "HillSchool$LawReader" (110 : Nat)) "java/lang/String" "value" "[B")) (Jvm.Term.int (4 : Int32))),
  (Jvm.Cond.eq (Jvm.Term.elem (Jvm.Term.field (Jvm.Term.string "HillSchool$LawReader" (110 : Nat)) "java/lang/String" "value" "[B") (Jvm.Term.int (0 : Int32))) (Jvm.Term.int (102 : Int32))),
  (Jvm.Cond.eq (Jvm.Term.elem (Jvm.Term.field (Jvm.Term.string "HillSchool$LawReader" (110 : Nat)) "java/lang/String" "value" "[B") (Jvm.Term.int (1 : Int32))) (Jvm.Term.int (114 : Int32))),
  (Jvm.Cond.eq (Jvm.Term.elem (Jvm.Term.field (Jvm.Term.string "HillSchool$LawReader" (110 : Nat)) "java/lang/String" "value" "[B") (Jvm.Term.int (2 : Int32))) (Jvm.Term.int (111 : Int32))),
  (Jvm.Cond.eq (Jvm.Term.elem (Jvm.Term.field (Jvm.Term.string "HillSchool$LawReader" (110 : Nat)) "java/lang/String" "value" "[B") (Jvm.Term.int (3 : Int32))) (Jvm.Term.int (109 : Int32))),
  (Jvm.Cond.not (Jvm.Cond.eq (Jvm.Term.string "HillSchool$LawReader" (98 : Nat)) (Jvm.Term.string "HillSchool$LawReader" (110 : Nat)))),
  (Jvm.Cond.not (Jvm.Cond.eq (Jvm.Term.string "HillSchool$LawReader" (106 : Nat)) (Jvm.Term.string "HillSchool$LawReader" (110 : Nat)))),
  (Jvm.Cond.not (Jvm.Cond.eq (Jvm.Term.string "HillSchool$LawReader" (108 : Nat)) (Jvm.Term.string "HillSchool$LawReader" (110 : Nat)))),
  (Jvm.Cond.exactly (Jvm.Term.string "HillSchool$LawReader" (112 : Nat)) "java/lang/String"),
  (Jvm.Cond.eq (Jvm.Term.field (Jvm.Term.string "HillSchool$LawReader" (112 : Nat)) "java/lang/String" "coder" "B") (Jvm.Term.int (0 : Int32))),
  (Jvm.Cond.arrayOf (Jvm.Term.field (Jvm.Term.string "HillSchool$LawReader" (112 : Nat)) "java/lang/String" "value" "[B") Jvm.ClassFile.FieldType.byte),
  (Jvm.Cond.eq (Jvm.Term.length (Jvm.Term.field (Jvm.Term.string "HillSchool$LawReader" (112 : Nat)) "java/lang/String" "value" "[B")) (Jvm.Term.int (2 : Int32))),
  (Jvm.Cond.eq (Jvm.Term.elem (Jvm.Term.field (Jvm.Term.string "HillSchool$LawReader" (112 : Nat)) "java/lang/String" "value" "[B") (Jvm.Term.int (0 : Int32))) (Jvm.Term.int (116 : Int32))),
  (Jvm.Cond.eq (Jvm.Term.elem (Jvm.Term.field (Jvm.Term.string "HillSchool$LawReader" (112 : Nat)) "java/lang/String" "value" "[B") (Jvm.Term.int (1 : Int32))) (Jvm.Term.int (111 : Int32))),
  (Jvm.Cond.not (Jvm.Cond.eq (Jvm.Term.string "HillSchool$LawReader" (98 : Nat)) (Jvm.Term.string "HillSchool$LawReader" (112 : Nat)))),
  (Jvm.Cond.not (Jvm.Cond.eq (Jvm.Term.string "HillSchool$LawReader" (106 : Nat)) (Jvm.Term.string "HillSchool$LawReader" (112 : Nat)))),
  (Jvm.Cond.not (Jvm.Cond.eq (Jvm.Term.string "HillSchool$LawReader" (108 : Nat)) (Jvm.Term.string "HillSchool$LawReader" (112 : Nat)))),
  (Jvm.Cond.not (Jvm.Cond.eq (Jvm.Term.string "HillSchool$LawReader" (110 : Nat)) (Jvm.Term.string "HillSchool$LawReader" (112 : Nat)))),
  (Jvm.Cond.exactly (Jvm.Term.string "HillSchool$LawReader" (114 : Nat)) "java/lang/String"),
  (Jvm.Cond.eq (Jvm.Term.field (Jvm.Term.string "HillSchool$LawReader" (114 : Nat)) "java/lang/String" "coder" "B") (Jvm.Term.int (0 : Int32))),
  (Jvm.Cond.arrayOf (Jvm.Term.field (Jvm.Term.string "HillSchool$LawReader" (114 : Nat)) "java/lang/String" "value" "[B") Jvm.ClassFile.FieldType.byte),
  (Jvm.Cond.eq (Jvm.Term.length (Jvm.Term.field (Jvm.Term.string "HillSchool$LawReader" (114 : Nat)) "java/lang/String" "value" "[B")) (Jvm.Term.int (4 : Int32))),
  (Jvm.Cond.eq (Jvm.Term.elem (Jvm.Term.field (Jvm.Term.string "HillSchool$LawReader" (114 : Nat)) "java/lang/String" "value" "[B") (Jvm.Term.int (0 : Int32))) (Jvm.Term.int (104 : Int32))),
  (Jvm.Cond.eq (Jvm.Term.elem (Jvm.Term.field (Jvm.Term.string "HillSchool$LawReader" (114 : Nat)) "java/lang/String" "value" "[B") (Jvm.Term.int (1 : Int32))) (Jvm.Term.int (105 : Int32))),
  (Jvm.Cond.eq (Jvm.Term.elem (Jvm.Term.field (Jvm.Term.string "HillSchool$LawReader" (114 : Nat)) "java/lang/String" "value" "[B") (Jvm.Term.int (2 : Int32))) (Jvm.Term.int (103 : Int32))),
  (Jvm.Cond.eq (Jvm.Term.elem (Jvm.Term.field (Jvm.Term.string "HillSchool$LawReader" (114 : Nat)) "java/lang/String" "value" "[B") (Jvm.Term.int (3 : Int32))) (Jvm.Term.int (104 : Int32))),
  (Jvm.Cond.not (Jvm.Cond.eq (Jvm.Term.string "HillSchool$LawReader" (98 : Nat)) (Jvm.Term.string "HillSchool$LawReader" (114 : Nat)))),
  (Jvm.Cond.not (Jvm.Cond.eq (Jvm.Term.string "HillSchool$LawReader" (106 : Nat)) (Jvm.Term.string "HillSchool$LawReader" (114 : Nat)))),
  (Jvm.Cond.not (Jvm.Cond.eq (Jvm.Term.string "HillSchool$LawReader" (108 : Nat)) (Jvm.Term.string "HillSchool$LawReader" (114 : Nat)))),
  (Jvm.Cond.not (Jvm.Cond.eq (Jvm.Term.string "HillSchool$LawReader" (110 : Nat)) (Jvm.Term.string "HillSchool$LawReader" (114 : Nat)))),
  (Jvm.Cond.not (Jvm.Cond.eq (Jvm.Term.string "HillSchool$LawReader" (112 : Nat)) (Jvm.Term.string "HillSchool$LawReader" (114 : Nat)))),
  (Jvm.Cond.exactly (Jvm.Term.string "HillSchool$LawReader" (116 : Nat)) "java/lang/String"),
  (Jvm.Cond.eq (Jvm.Term.field (Jvm.Term.string "HillSchool$LawReader" (116 : Nat)) "java/lang/String" "coder" "B") (Jvm.Term.int (0 : Int32))),
  (Jvm.Cond.arrayOf (Jvm.Term.field (Jvm.Term.string "HillSchool$LawReader" (116 : Nat)) "java/lang/String" "value" "[B") Jvm.ClassFile.FieldType.byte),
  (Jvm.Cond.eq (Jvm.Term.length (Jvm.Term.field (Jvm.Term.string "HillSchool$LawReader" (116 : Nat)) "java/lang/String" "value" "[B")) (Jvm.Term.int (3 : Int32))),
  (Jvm.Cond.eq (Jvm.Term.elem (Jvm.Term.field (Jvm.Term.string "HillSchool$LawReader" (116 : Nat)) "java/lang/String" "value" "[B") (Jvm.Term.int (0 : Int32))) (Jvm.Term.int (108 : Int32))),
  (Jvm.Cond.eq (Jvm.Term.elem (Jvm.Term.field (Jvm.Term.string "HillSchool$LawReader" (116 : Nat)) "java/lang/String" "value" "[B") (Jvm.Term.int (1 : Int32))) (Jvm.Term.int (111 : Int32))),
  (Jvm.Cond.eq (Jvm.Term.elem (Jvm.Term.field (Jvm.Term.string "HillSchool$LawReader" (116 : Nat)) "java/lang/String" "value" "[B") (Jvm.Term.int (2 : Int32))) (Jvm.Term.int (119 : Int32))),
  (Jvm.Cond.not (Jvm.Cond.eq (Jvm.Term.string "HillSchool$LawReader" (98 : Nat)) (Jvm.Term.string "HillSchool$LawReader" (116 : Nat)))),
  (Jvm.Cond.not (Jvm.Cond.eq (Jvm.Term.string "HillSchool$LawReader" (106 : Nat)) (Jvm.Term.string "HillSchool$LawReader" (116 : Nat)))),
  (Jvm.Cond.not (Jvm.Cond.eq (Jvm.Term.string "HillSchool$LawReader" (108 : Nat)) (Jvm.Term.string "HillSchool$LawReader" (116 : Nat)))),
  (Jvm.Cond.not (Jvm.Cond.eq (Jvm.Term.string "HillSchool$LawReader" (110 : Nat)) (Jvm.Term.string "HillSchool$LawReader" (116 : Nat)))),
  (Jvm.Cond.not (Jvm.Cond.eq (Jvm.Term.string "HillSchool$LawReader" (112 : Nat)) (Jvm.Term.string "HillSchool$LawReader" (116 : Nat)))),
  (Jvm.Cond.not (Jvm.Cond.eq (Jvm.Term.string "HillSchool$LawReader" (114 : Nat)) (Jvm.Term.string "HillSchool$LawReader" (116 : Nat)))),
  (Jvm.Cond.exactly (Jvm.Term.string "HillSchool$LawReader" (118 : Nat)) "java/lang/String"),
  (Jvm.Cond.eq (Jvm.Term.field (Jvm.Term.string "HillSchool$LawReader" (118 : Nat)) "java/lang/String" "coder" "B") (Jvm.Term.int (0 : Int32))),
  (Jvm.Cond.arrayOf (Jvm.Term.field (Jvm.Term.string "HillSchool$LawReader" (118 : Nat)) "java/lang/String" "value" "[B") Jvm.ClassFile.FieldType.byte),
  (Jvm.Cond.eq (Jvm.Term.length (Jvm.Term.field (Jvm.Term.string "HillSchool$LawReader" (118 : Nat)) "java/lang/String" "value" "[B")) (Jvm.Term.int (4 : Int32))),
  (Jvm.Cond.eq (Jvm.Term.elem (Jvm.Term.field (Jvm.Term.string "HillSchool$LawReader" (118 : Nat)) "java/lang/String" "value" "[B") (Jvm.Term.int (0 : Int32))) (Jvm.Term.int (116 : Int32))),
  (Jvm.Cond.eq (Jvm.Term.elem (Jvm.Term.field (Jvm.Term.string "HillSchool$LawReader" (118 : Nat)) "java/lang/String" "value" "[B") (Jvm.Term.int (1 : Int32))) (Jvm.Term.int (101 : Int32))),
  (Jvm.Cond.eq (Jvm.Term.elem (Jvm.Term.field (Jvm.Term.string "HillSchool$LawReader" (118 : Nat)) "java/lang/String" "value" "[B") (Jvm.Term.int (2 : Int32))) (Jvm.Term.int (114 : Int32))),
  (Jvm.Cond.eq (Jvm.Term.elem (Jvm.Term.field (Jvm.Term.string "HillSchool$LawReader" (118 : Nat)) "java/lang/String" "value" "[B") (Jvm.Term.int (3 : Int32))) (Jvm.Term.int (109 : Int32))),
  (Jvm.Cond.not (Jvm.Cond.eq (Jvm.Term.string "HillSchool$LawReader" (98 : Nat)) (Jvm.Term.string "HillSchool$LawReader" (118 : Nat)))),
  (Jvm.Cond.not (Jvm.Cond.eq (Jvm.Term.string "HillSchool$LawReader" (106 : Nat)) (Jvm.Term.string "HillSchool$LawReader" (118 : Nat)))),
  (Jvm.Cond.not (Jvm.Cond.eq (Jvm.Term.string "HillSchool$LawReader" (108 : Nat)) (Jvm.Term.string "HillSchool$LawReader" (118 : Nat)))),
  (Jvm.Cond.not (Jvm.Cond.eq (Jvm.Term.string "HillSchool$LawReader" (110 : Nat)) (Jvm.Term.string "HillSchool$LawReader" (118 : Nat)))),
  (Jvm.Cond.not (Jvm.Cond.eq (Jvm.Term.string "HillSchool$LawReader" (112 : Nat)) (Jvm.Term.string "HillSchool$LawReader" (118 : Nat)))),
  (Jvm.Cond.not (Jvm.Cond.eq (Jvm.Term.string "HillSchool$LawReader" (114 : Nat)) (Jvm.Term.string "HillSchool$LawReader" (118 : Nat)))),
  (Jvm.Cond.not (Jvm.Cond.eq (Jvm.Term.string "HillSchool$LawReader" (116 : Nat)) (Jvm.Term.string "HillSchool$LawReader" (118 : Nat)))),
  (Jvm.Cond.exactly (Jvm.Term.string "HillSchool$LawReader" (120 : Nat)) "java/lang/String"),
  (Jvm.Cond.eq (Jvm.Term.field (Jvm.Term.string "HillSchool$LawReader" (120 : Nat)) "java/lang/String" "coder" "B") (Jvm.Term.int (0 : Int32))),
  (Jvm.Cond.arrayOf (Jvm.Term.field (Jvm.Term.string "HillSchool$LawReader" (120 : Nat)) "java/lang/String" "value" "[B") Jvm.ClassFile.FieldType.byte),
  (Jvm.Cond.eq (Jvm.Term.length (Jvm.Term.field (Jvm.Term.string "HillSchool$LawReader" (120 : Nat)) "java/lang/String" "value" "[B")) (Jvm.Term.int (5 : Int32))),
  (Jvm.Cond.eq (Jvm.Term.elem (Jvm.Term.field (Jvm.Term.string "HillSchool$LawReader" (120 : Nat)) "java/lang/String" "value" "[B") (Jvm.Term.int (0 : Int32))) (Jvm.Term.int (116 : Int32))),
  (Jvm.Cond.eq (Jvm.Term.elem (Jvm.Term.field (Jvm.Term.string "HillSchool$LawReader" (120 : Nat)) "java/lang/String" "value" "[B") (Jvm.Term.int (1 : Int32))) (Jvm.Term.int (105 : Int32))),
  (Jvm.Cond.eq (Jvm.Term.elem (Jvm.Term.field (Jvm.Term.string "HillSchool$LawReader" (120 : Nat)) "java/lang/String" "value" "[B") (Jvm.Term.int (2 : Int32))) (Jvm.Term.int (114 : Int32))),
  (Jvm.Cond.eq (Jvm.Term.elem (Jvm.Term.field (Jvm.Term.string "HillSchool$LawReader" (120 : Nat)) "java/lang/String" "value" "[B") (Jvm.Term.int (3 : Int32))) (Jvm.Term.int (101 : Int32))),
  (Jvm.Cond.eq (Jvm.Term.elem (Jvm.Term.field (Jvm.Term.string "HillSchool$LawReader" (120 : Nat)) "java/lang/String" "value" "[B") (Jvm.Term.int (4 : Int32))) (Jvm.Term.int (115 : Int32))),
  (Jvm.Cond.not (Jvm.Cond.eq (Jvm.Term.string "HillSchool$LawReader" (98 : Nat)) (Jvm.Term.string "HillSchool$LawReader" (120 : Nat)))),
  (Jvm.Cond.not (Jvm.Cond.eq (Jvm.Term.string "HillSchool$LawReader" (106 : Nat)) (Jvm.Term.string "HillSchool$LawReader" (120 : Nat)))),
  (Jvm.Cond.not (Jvm.Cond.eq (Jvm.Term.string "HillSchool$LawReader" (108 : Nat)) (Jvm.Term.string "HillSchool$LawReader" (120 : Nat)))),
  (Jvm.Cond.not (Jvm.Cond.eq (Jvm.Term.string "HillSchool$LawReader" (110 : Nat)) (Jvm.Term.string "HillSchool$LawReader" (120 : Nat)))),
  (Jvm.Cond.not (Jvm.Cond.eq (Jvm.Term.string "HillSchool$LawReader" (112 : Nat)) (Jvm.Term.string "HillSchool$LawReader" (120 : Nat)))),
  (Jvm.Cond.not (Jvm.Cond.eq (Jvm.Term.string "HillSchool$LawReader" (114 : Nat)) (Jvm.Term.string "HillSchool$LawReader" (120 : Nat)))),
  (Jvm.Cond.not (Jvm.Cond.eq (Jvm.Term.string "HillSchool$LawReader" (116 : Nat)) (Jvm.Term.string "HillSchool$LawReader" (120 : Nat)))),
  (Jvm.Cond.not (Jvm.Cond.eq (Jvm.Term.string "HillSchool$LawReader" (118 : Nat)) (Jvm.Term.string "HillSchool$LawReader" (120 : Nat)))),
  (Jvm.Cond.exactly (Jvm.Term.string "HillSchool$LawReader" (122 : Nat)) "java/lang/String"),
  (Jvm.Cond.eq (Jvm.Term.field (Jvm.Term.string "HillSchool$LawReader" (122 : Nat)) "java/lang/String" "coder" "B") (Jvm.Term.int (0 : Int32))),
  (Jvm.Cond.arrayOf (Jvm.Term.field (Jvm.Term.string "HillSchool$LawReader" (122 : Nat)) "java/lang/String" "value" "[B") Jvm.ClassFile.FieldType.byte),
  (Jvm.Cond.eq (Jvm.Term.length (Jvm.Term.field (Jvm.Term.string "HillSchool$LawReader" (122 : Nat)) "java/lang/String" "value" "[B")) (Jvm.Term.int (4 : Int32))),
  (Jvm.Cond.eq (Jvm.Term.elem (Jvm.Term.field (Jvm.Term.string "HillSchool$LawReader" (122 : Nat)) "java/lang/String" "value" "[B") (Jvm.Term.int (0 : Int32))) (Jvm.Term.int (98 : Int32))),
  (Jvm.Cond.eq (Jvm.Term.elem (Jvm.Term.field (Jvm.Term.string "HillSchool$LawReader" (122 : Nat)) "java/lang/String" "value" "[B") (Jvm.Term.int (1 : Int32))) (Jvm.Term.int (97 : Int32))),
  (Jvm.Cond.eq (Jvm.Term.elem (Jvm.Term.field (Jvm.Term.string "HillSchool$LawReader" (122 : Nat)) "java/lang/String" "value" "[B") (Jvm.Term.int (2 : Int32))) (Jvm.Term.int (114 : Int32))),
  (Jvm.Cond.eq (Jvm.Term.elem (Jvm.Term.field (Jvm.Term.string "HillSchool$LawReader" (122 : Nat)) "java/lang/String" "value" "[B") (Jvm.Term.int (3 : Int32))) (Jvm.Term.int (115 : Int32))),
  (Jvm.Cond.not (Jvm.Cond.eq (Jvm.Term.string "HillSchool$LawReader" (98 : Nat)) (Jvm.Term.string "HillSchool$LawReader" (122 : Nat)))),
  (Jvm.Cond.not (Jvm.Cond.eq (Jvm.Term.string "HillSchool$LawReader" (106 : Nat)) (Jvm.Term.string "HillSchool$LawReader" (122 : Nat)))),
  (Jvm.Cond.not (Jvm.Cond.eq (Jvm.Term.string "HillSchool$LawReader" (108 : Nat)) (Jvm.Term.string "HillSchool$LawReader" (122 : Nat)))),
  (Jvm.Cond.not (Jvm.Cond.eq (Jvm.Term.string "HillSchool$LawReader" (110 : Nat)) (Jvm.Term.string "HillSchool$LawReader" (122 : Nat)))),
  (Jvm.Cond.not (Jvm.Cond.eq (Jvm.Term.string "HillSchool$LawReader" (112 : Nat)) (Jvm.Term.string "HillSchool$LawReader" (122 : Nat)))),
  (Jvm.Cond.not (Jvm.Cond.eq (Jvm.Term.string "HillSchool$LawReader" (114 : Nat)) (Jvm.Term.string "HillSchool$LawReader" (122 : Nat)))),
  (Jvm.Cond.not (Jvm.Cond.eq (Jvm.Term.string "HillSchool$LawReader" (116 : Nat)) (Jvm.Term.string "HillSchool$LawReader" (122 : Nat)))),
  (Jvm.Cond.not (Jvm.Cond.eq (Jvm.Term.string "HillSchool$LawReader" (118 : Nat)) (Jvm.Term.string "HillSchool$LawReader" (122 : Nat)))),
  (Jvm.Cond.not (Jvm.Cond.eq (Jvm.Term.string "HillSchool$LawReader" (120 : Nat)) (Jvm.Term.string "HillSchool$LawReader" (122 : Nat)))),
  (Jvm.Cond.exactly (Jvm.Term.string "HillSchool$LawReader" (124 : Nat)) "java/lang/String"),
  (Jvm.Cond.eq (Jvm.Term.field (Jvm.Term.string "HillSchool$LawReader" (124 : Nat)) "java/lang/String" "coder" "B") (Jvm.Term.int (0 : Int32))),
  (Jvm.Cond.arrayOf (Jvm.Term.field (Jvm.Term.string "HillSchool$LawReader" (124 : Nat)) "java/lang/String" "value" "[B") Jvm.ClassFile.FieldType.byte),
  (Jvm.Cond.eq (Jvm.Term.length (Jvm.Term.field (Jvm.Term.string "HillSchool$LawReader" (124 : Nat)) "java/lang/String" "value" "[B")) (Jvm.Term.int (2 : Int32))),
  (Jvm.Cond.eq (Jvm.Term.elem (Jvm.Term.field (Jvm.Term.string "HillSchool$LawReader" (124 : Nat)) "java/lang/String" "value" "[B") (Jvm.Term.int (0 : Int32))) (Jvm.Term.int (105 : Int32))),
  (Jvm.Cond.eq (Jvm.Term.elem (Jvm.Term.field (Jvm.Term.string "HillSchool$LawReader" (124 : Nat)) "java/lang/String" "value" "[B") (Jvm.Term.int (1 : Int32))) (Jvm.Term.int (102 : Int32))),
  (Jvm.Cond.not (Jvm.Cond.eq (Jvm.Term.string "HillSchool$LawReader" (98 : Nat)) (Jvm.Term.string "HillSchool$LawReader" (124 : Nat)))),
  (Jvm.Cond.not (Jvm.Cond.eq (Jvm.Term.string "HillSchool$LawReader" (106 : Nat)) (Jvm.Term.string "HillSchool$LawReader" (124 : Nat)))),
  (Jvm.Cond.not (Jvm.Cond.eq (Jvm.Term.string "HillSchool$LawReader" (108 : Nat)) (Jvm.Term.string "HillSchool$LawReader" (124 : Nat)))),
  (Jvm.Cond.not (Jvm.Cond.eq (Jvm.Term.string "HillSchool$LawReader" (110 : Nat)) (Jvm.Term.string "HillSchool$LawReader" (124 : Nat)))),
  (Jvm.Cond.not (Jvm.Cond.eq (Jvm.Term.string "HillSchool$LawReader" (112 : Nat)) (Jvm.Term.string "HillSchool$LawReader" (124 : Nat)))),
  (Jvm.Cond.not (Jvm.Cond.eq (Jvm.Term.string "HillSchool$LawReader" (114 : Nat)) (Jvm.Term.string "HillSchool$LawReader" (124 : Nat)))),
  (Jvm.Cond.not (Jvm.Cond.eq (Jvm.Term.string "HillSchool$LawReader" (116 : Nat)) (Jvm.Term.string "HillSchool$LawReader" (124 : Nat)))),
  (Jvm.Cond.not (Jvm.Cond.eq (Jvm.Term.string "HillSchool$LawReader" (118 : Nat)) (Jvm.Term.string "HillSchool$LawReader" (124 : Nat)))),
  (Jvm.Cond.not (Jvm.Cond.eq (Jvm.Term.string "HillSchool$LawReader" (120 : Nat)) (Jvm.Term.string "HillSchool$LawReader" (124 : Nat)))),
  (Jvm.Cond.not (Jvm.Cond.eq (Jvm.Term.string "HillSchool$LawReader" (122 : Nat)) (Jvm.Term.string "HillSchool$LawReader" (124 : Nat)))),
  (Jvm.Cond.exactly (Jvm.Term.string "HillSchool$LawReader" (126 : Nat)) "java/lang/String"),
  (Jvm.Cond.eq (Jvm.Term.field (Jvm.Term.string "HillSchool$LawReader" (126 : Nat)) "java/lang/String" "coder" "B") (Jvm.Term.int (0 : Int32))),
  (Jvm.Cond.arrayOf (Jvm.Term.field (Jvm.Term.string "HillSchool$LawReader" (126 : Nat)) "java/lang/String" "value" "[B") Jvm.ClassFile.FieldType.byte),
  (Jvm.Cond.eq (Jvm.Term.length (Jvm.Term.field (Jvm.Term.string "HillSchool$LawReader" (126 : Nat)) "java/lang/String" "value" "[B")) (Jvm.Term.int (2 : Int32))),
  (Jvm.Cond.eq (Jvm.Term.elem (Jvm.Term.field (Jvm.Term.string "HillSchool$LawReader" (126 : Nat)) "java/lang/String" "value" "[B") (Jvm.Term.int (0 : Int32))) (Jvm.Term.int (111 : Int32))),
  (Jvm.Cond.eq (Jvm.Term.elem (Jvm.Term.field (Jvm.Term.string "HillSchool$LawReader" (126 : Nat)) "java/lang/String" "value" "[B") (Jvm.Term.int (1 : Int32))) (Jvm.Term.int (114 : Int32))),
  (Jvm.Cond.not (Jvm.Cond.eq (Jvm.Term.string "HillSchool$LawReader" (98 : Nat)) (Jvm.Term.string "HillSchool$LawReader" (126 : Nat)))),
  (Jvm.Cond.not (Jvm.Cond.eq (Jvm.Term.string "HillSchool$LawReader" (106 : Nat)) (Jvm.Term.string "HillSchool$LawReader" (126 : Nat)))),
  (Jvm.Cond.not (Jvm.Cond.eq (Jvm.Term.string "HillSchool$LawReader" (108 : Nat)) (Jvm.Term.string "HillSchool$LawReader" (126 : Nat)))),
  (Jvm.Cond.not (Jvm.Cond.eq (Jvm.Term.string "HillSchool$LawReader" (110 : Nat)) (Jvm.Term.string "HillSchool$LawReader" (126 : Nat)))),
  (Jvm.Cond.not (Jvm.Cond.eq (Jvm.Term.string "HillSchool$LawReader" (112 : Nat)) (Jvm.Term.string "HillSchool$LawReader" (126 : Nat)))),
  (Jvm.Cond.not (Jvm.Cond.eq (Jvm.Term.string "HillSchool$LawReader" (114 : Nat)) (Jvm.Term.string "HillSchool$LawReader" (126 : Nat)))),
  (Jvm.Cond.not (Jvm.Cond.eq (Jvm.Term.string "HillSchool$LawReader" (116 : Nat)) (Jvm.Term.string "HillSchool$LawReader" (126 : Nat)))),
  (Jvm.Cond.not (Jvm.Cond.eq (Jvm.Term.string "HillSchool$LawReader" (118 : Nat)) (Jvm.Term.string "HillSchool$LawReader" (126 : Nat)))),
  (Jvm.Cond.not (Jvm.Cond.eq (Jvm.Term.string "HillSchool$LawReader" (120 : Nat)) (Jvm.Term.string "HillSchool$LawReader" (126 : Nat)))),
  (Jvm.Cond.not (Jvm.Cond.eq (Jvm.Term.string "HillSchool$LawReader" (122 : Nat)) (Jvm.Term.string "HillSchool$LawReader" (126 : Nat)))),
  (Jvm.Cond.not (Jvm.Cond.eq (Jvm.Term.string "HillSchool$LawReader" (124 : Nat)) (Jvm.Term.string "HillSchool$LawReader" (126 : Nat)))),
  (Jvm.Cond.exactly (Jvm.Term.string "HillSchool$LawReader" (128 : Nat)) "java/lang/String"),
  (Jvm.Cond.eq (Jvm.Term.field (Jvm.Term.string "HillSchool$LawReader" (128 : Nat)) "java/lang/String" "coder" "B") (Jvm.Term.int (0 : Int32))),
  (Jvm.Cond.arrayOf (Jvm.Term.field (Jvm.Term.string "HillSchool$LawReader" (128 : Nat)) "java/lang/String" "value" "[B") Jvm.ClassFile.FieldType.byte),
  (Jvm.Cond.eq (Jvm.Term.length (Jvm.Term.field (Jvm.Term.string "HillSchool$LawReader" (128 : Nat)) "java/lang/String" "value" "[B")) (Jvm.Term.int (3 : Int32))),
  (Jvm.Cond.eq (Jvm.Term.elem (Jvm.Term.field (Jvm.Term.string "HillSchool$LawReader" (128 : Nat)) "java/lang/String" "value" "[B") (Jvm.Term.int (0 : Int32))) (Jvm.Term.int (97 : Int32))),
  (Jvm.Cond.eq (Jvm.Term.elem (Jvm.Term.field (Jvm.Term.string "HillSchool$LawReader" (128 : Nat)) "java/lang/String" "value" "[B") (Jvm.Term.int (1 : Int32))) (Jvm.Term.int (110 : Int32))),
  (Jvm.Cond.eq (Jvm.Term.elem (Jvm.Term.field (Jvm.Term.string "HillSchool$LawReader" (128 : Nat)) "java/lang/String" "value" "[B") (Jvm.Term.int (2 : Int32))) (Jvm.Term.int (100 : Int32))),
  (Jvm.Cond.not (Jvm.Cond.eq (Jvm.Term.string "HillSchool$LawReader" (98 : Nat)) (Jvm.Term.string "HillSchool$LawReader" (128 : Nat)))),
  (Jvm.Cond.not (Jvm.Cond.eq (Jvm.Term.string "HillSchool$LawReader" (106 : Nat)) (Jvm.Term.string "HillSchool$LawReader" (128 : Nat)))),
  (Jvm.Cond.not (Jvm.Cond.eq (Jvm.Term.string "HillSchool$LawReader" (108 : Nat)) (Jvm.Term.string "HillSchool$LawReader" (128 : Nat)))),
  (Jvm.Cond.not (Jvm.Cond.eq (Jvm.Term.string "HillSchool$LawReader" (110 : Nat)) (Jvm.Term.string "HillSchool$LawReader" (128 : Nat)))),
  (Jvm.Cond.not (Jvm.Cond.eq (Jvm.Term.string "HillSchool$LawReader" (112 : Nat)) (Jvm.Term.string "HillSchool$LawReader" (128 : Nat)))),
  (Jvm.Cond.not (Jvm.Cond.eq (Jvm.Term.string "HillSchool$LawReader" (114 : Nat)) (Jvm.Term.string "HillSchool$LawReader" (128 : Nat)))),
  (Jvm.Cond.not (Jvm.Cond.eq (Jvm.Term.string "HillSchool$LawReader" (116 : Nat)) (Jvm.Term.string "HillSchool$LawReader" (128 : Nat)))),
  (Jvm.Cond.not (Jvm.Cond.eq (Jvm.Term.string "HillSchool$LawReader" (118 : Nat)) (Jvm.Term.string "HillSchool$LawReader" (128 : Nat)))),
  (Jvm.Cond.not (Jvm.Cond.eq (Jvm.Term.string "HillSchool$LawReader" (120 : Nat)) (Jvm.Term.string "HillSchool$LawReader" (128 : Nat)))),
  (Jvm.Cond.not (Jvm.Cond.eq (Jvm.Term.string "HillSchool$LawReader" (122 : Nat)) (Jvm.Term.string "HillSchool$LawReader" (128 : Nat)))),
  (Jvm.Cond.not (Jvm.Cond.eq (Jvm.Term.string "HillSchool$LawReader" (124 : Nat)) (Jvm.Term.string "HillSchool$LawReader" (128 : Nat)))),
  (Jvm.Cond.not (Jvm.Cond.eq (Jvm.Term.string "HillSchool$LawReader" (126 : Nat)) (Jvm.Term.string "HillSchool$LawReader" (128 : Nat)))),
  (Jvm.Cond.exactly (Jvm.Term.string "HillSchool$LawReader" (130 : Nat)) "java/lang/String"),
  (Jvm.Cond.eq (Jvm.Term.field (Jvm.Term.string "HillSchool$LawReader" (130 : Nat)) "java/lang/String" "coder" "B") (Jvm.Term.int (0 : Int32))),
  (Jvm.Cond.arrayOf (Jvm.Term.field (Jvm.Term.string "HillSchool$LawReader" (130 : Nat)) "java/lang/String" "value" "[B") Jvm.ClassFile.FieldType.byte),
  (Jvm.Cond.eq (Jvm.Term.length (Jvm.Term.field (Jvm.Term.string "HillSchool$LawReader" (130 : Nat)) "java/lang/String" "value" "[B")) (Jvm.Term.int (3 : Int32))),
  (Jvm.Cond.eq (Jvm.Term.elem (Jvm.Term.field (Jvm.Term.string "HillSchool$LawReader" (130 : Nat)) "java/lang/String" "value" "[B") (Jvm.Term.int (0 : Int32))) (Jvm.Term.int (110 : Int32))),
  (Jvm.Cond.eq (Jvm.Term.elem (Jvm.Term.field (Jvm.Term.string "HillSchool$LawReader" (130 : Nat)) "java/lang/String" "value" "[B") (Jvm.Term.int (1 : Int32))) (Jvm.Term.int (111 : Int32))),
  (Jvm.Cond.eq (Jvm.Term.elem (Jvm.Term.field (Jvm.Term.string "HillSchool$LawReader" (130 : Nat)) "java/lang/String" "value" "[B") (Jvm.Term.int (2 : Int32))) (Jvm.Term.int (116 : Int32))),
  (Jvm.Cond.not (Jvm.Cond.eq (Jvm.Term.string "HillSchool$LawReader" (98 : Nat)) (Jvm.Term.string "HillSchool$LawReader" (130 : Nat)))),
  (Jvm.Cond.not (Jvm.Cond.eq (Jvm.Term.string "HillSchool$LawReader" (106 : Nat)) (Jvm.Term.string "HillSchool$LawReader" (130 : Nat)))),
  (Jvm.Cond.not (Jvm.Cond.eq (Jvm.Term.string "HillSchool$LawReader" (108 : Nat)) (Jvm.Term.string "HillSchool$LawReader" (130 : Nat)))),
  (Jvm.Cond.not (Jvm.Cond.eq (Jvm.Term.string "HillSchool$LawReader" (110 : Nat)) (Jvm.Term.string "HillSchool$LawReader" (130 : Nat)))),
  (Jvm.Cond.not (Jvm.Cond.eq (Jvm.Term.string "HillSchool$LawReader" (112 : Nat)) (Jvm.Term.string "HillSchool$LawReader" (130 : Nat)))),
  (Jvm.Cond.not (Jvm.Cond.eq (Jvm.Term.string "HillSchool$LawReader" (114 : Nat)) (Jvm.Term.string "HillSchool$LawReader" (130 : Nat)))),
  (Jvm.Cond.not (Jvm.Cond.eq (Jvm.Term.string "HillSchool$LawReader" (116 : Nat)) (Jvm.Term.string "HillSchool$LawReader" (130 : Nat)))),
  (Jvm.Cond.not (Jvm.Cond.eq (Jvm.Term.string "HillSchool$LawReader" (118 : Nat)) (Jvm.Term.string "HillSchool$LawReader" (130 : Nat)))),
  (Jvm.Cond.not (Jvm.Cond.eq (Jvm.Term.string "HillSchool$LawReader" (120 : Nat)) (Jvm.Term.string "HillSchool$LawReader" (130 : Nat)))),
  (Jvm.Cond.not (Jvm.Cond.eq (Jvm.Term.string "HillSchool$LawReader" (122 : Nat)) (Jvm.Term.string "HillSchool$LawReader" (130 : Nat)))),
  (Jvm.Cond.not (Jvm.Cond.eq (Jvm.Term.string "HillSchool$LawReader" (124 : Nat)) (Jvm.Term.string "HillSchool$LawReader" (130 : Nat)))),
  (Jvm.Cond.not (Jvm.Cond.eq (Jvm.Term.string "HillSchool$LawReader" (126 : Nat)) (Jvm.Term.string "HillSchool$LawReader" (130 : Nat)))),
  (Jvm.Cond.not (Jvm.Cond.eq (Jvm.Term.string "HillSchool$LawReader" (128 : Nat)) (Jvm.Term.string "HillSchool$LawReader" (130 : Nat)))),
  (Jvm.Cond.not (Jvm.Cond.eq (Jvm.Term.arg (0 : Nat)) (Jvm.Term.static "HillSchool" "FIRST_TERMS" "[I"))),
  (Jvm.Cond.not (Jvm.Cond.eq (Jvm.Term.arg (0 : Nat)) (Jvm.Term.static "HillSchool" "LEAST_TERMS" "[I"))),
  (Jvm.Cond.not (Jvm.Cond.eq (Jvm.Term.arg (0 : Nat)) (Jvm.Term.static "HillSchool" "MOST_TERMS" "[I"))),
  (Jvm.Cond.exactly (Jvm.Term.static "HillSchool" "FIRST_TERMS" "[I") "[I"),
  (Jvm.Cond.exactly (Jvm.Term.static "HillSchool" "LEAST_TERMS" "[I") "[I"),
  (Jvm.Cond.exactly (Jvm.Term.static "HillSchool" "MOST_TERMS" "[I") "[I")]
set_option maxRecDepth 100000 in
theorem zgl_eq : zgiv = zgl := by decide +kernel
theorem zgl_in {k : Nat} {c : Cond} (h : zgl[k]? = some c) : c ∈ zgiv := by rw [zgl_eq]; exact List.mem_of_getElem? h
theorem zgx_ex : ∀ i : Fin 14, zgl[([54, 63, 76, 88, 99, 109, 122, 135, 150, 167, 184, 200, 217, 236] : List Nat).getD i.val 0]? = some (Cond.exactly (.string "HillSchool$LawReader" (zix.getD i.val 0)) "java/lang/String") := by decide +kernel
theorem zg_ex : ∀ i : Fin 14, Cond.exactly (.string "HillSchool$LawReader" (zix.getD i.val 0)) "java/lang/String" ∈ zgiv := fun i => zgl_in (zgx_ex i)
theorem zgx_co : ∀ i : Fin 14, zgl[([55, 64, 77, 89, 100, 110, 123, 136, 151, 168, 185, 201, 218, 237] : List Nat).getD i.val 0]? = some (Cond.eq (.field (.string "HillSchool$LawReader" (zix.getD i.val 0)) "java/lang/String" "coder" "B") (.int 0)) := by decide +kernel
theorem zg_co : ∀ i : Fin 14, Cond.eq (.field (.string "HillSchool$LawReader" (zix.getD i.val 0)) "java/lang/String" "coder" "B") (.int 0) ∈ zgiv := fun i => zgl_in (zgx_co i)
theorem zgx_ar : ∀ i : Fin 14, zgl[([56, 65, 78, 90, 101, 111, 124, 137, 152, 169, 186, 202, 219, 238] : List Nat).getD i.val 0]? = some (Cond.arrayOf (.field (.string "HillSchool$LawReader" (zix.getD i.val 0)) "java/lang/String" "value" "[B") .byte) := by decide +kernel
theorem zg_ar : ∀ i : Fin 14, Cond.arrayOf (.field (.string "HillSchool$LawReader" (zix.getD i.val 0)) "java/lang/String" "value" "[B") .byte ∈ zgiv := fun i => zgl_in (zgx_ar i)
theorem zgx_le : ∀ i : Fin 14, zgl[([57, 66, 79, 91, 102, 112, 125, 138, 153, 170, 187, 203, 220, 239] : List Nat).getD i.val 0]? = some (Cond.eq (.length (.field (.string "HillSchool$LawReader" (zix.getD i.val 0)) "java/lang/String" "value" "[B")) (.int (Int32.ofNat (zlen.getD i.val 0)))) := by decide +kernel
theorem zg_le : ∀ i : Fin 14, Cond.eq (.length (.field (.string "HillSchool$LawReader" (zix.getD i.val 0)) "java/lang/String" "value" "[B")) (.int (Int32.ofNat (zlen.getD i.val 0))) ∈ zgiv := fun i => zgl_in (zgx_le i)
theorem zgx_el : ∀ i : Fin 14, ∀ j : Fin 8, j.val < zlen.getD i.val 0 → zgl[(([[58, 59, 60, 61, 62], [67, 68, 69, 70, 71, 72, 73, 74], [80, 81, 82, 83, 84, 85], [92, 93, 94, 95], [103, 104], [113, 114, 115, 116], [126, 127, 128], [139, 140, 141, 142], [154, 155, 156, 157, 158], [171, 172, 173, 174], [188, 189], [204, 205], [221, 222, 223], [240, 241, 242]] : List (List Nat)).getD i.val []).getD j.val 0]? = some (Cond.eq (.elem (.field (.string "HillSchool$LawReader" (zix.getD i.val 0)) "java/lang/String" "value" "[B") (.int (Int32.ofNat j.val))) (.int ((zbyt.getD i.val []).getD j.val 0))) := by decide +kernel
theorem zg_el : ∀ i : Fin 14, ∀ j : Fin 8, j.val < zlen.getD i.val 0 → Cond.eq (.elem (.field (.string "HillSchool$LawReader" (zix.getD i.val 0)) "java/lang/String" "value" "[B") (.int (Int32.ofNat j.val))) (.int ((zbyt.getD i.val []).getD j.val 0)) ∈ zgiv := fun i j h => zgl_in (zgx_el i j h)
theorem zgx_ne1 : ∀ i : Fin 14, i.val < 1 → zgl[([75] : List Nat).getD i.val 0]? = some (Cond.not (Cond.eq (.string "HillSchool$LawReader" (zix.getD i.val 0)) (.string "HillSchool$LawReader" (zix.getD 1 0)))) := by decide +kernel
theorem zg_ne1 : ∀ i : Fin 14, i.val < 1 → Cond.not (Cond.eq (.string "HillSchool$LawReader" (zix.getD i.val 0)) (.string "HillSchool$LawReader" (zix.getD 1 0))) ∈ zgiv := fun i h => zgl_in (zgx_ne1 i h)
theorem zgx_ne2 : ∀ i : Fin 14, i.val < 2 → zgl[([86, 87] : List Nat).getD i.val 0]? = some (Cond.not (Cond.eq (.string "HillSchool$LawReader" (zix.getD i.val 0)) (.string "HillSchool$LawReader" (zix.getD 2 0)))) := by decide +kernel
theorem zg_ne2 : ∀ i : Fin 14, i.val < 2 → Cond.not (Cond.eq (.string "HillSchool$LawReader" (zix.getD i.val 0)) (.string "HillSchool$LawReader" (zix.getD 2 0))) ∈ zgiv := fun i h => zgl_in (zgx_ne2 i h)
theorem zgx_ne3 : ∀ i : Fin 14, i.val < 3 → zgl[([96, 97, 98] : List Nat).getD i.val 0]? = some (Cond.not (Cond.eq (.string "HillSchool$LawReader" (zix.getD i.val 0)) (.string "HillSchool$LawReader" (zix.getD 3 0)))) := by decide +kernel
theorem zg_ne3 : ∀ i : Fin 14, i.val < 3 → Cond.not (Cond.eq (.string "HillSchool$LawReader" (zix.getD i.val 0)) (.string "HillSchool$LawReader" (zix.getD 3 0))) ∈ zgiv := fun i h => zgl_in (zgx_ne3 i h)
theorem zgx_ne4 : ∀ i : Fin 14, i.val < 4 → zgl[([105, 106, 107, 108] : List Nat).getD i.val 0]? = some (Cond.not (Cond.eq (.string "HillSchool$LawReader" (zix.getD i.val 0)) (.string "HillSchool$LawReader" (zix.getD 4 0)))) := by decide +kernel
theorem zg_ne4 : ∀ i : Fin 14, i.val < 4 → Cond.not (Cond.eq (.string "HillSchool$LawReader" (zix.getD i.val 0)) (.string "HillSchool$LawReader" (zix.getD 4 0))) ∈ zgiv := fun i h => zgl_in (zgx_ne4 i h)
theorem zgx_ne5 : ∀ i : Fin 14, i.val < 5 → zgl[([117, 118, 119, 120, 121] : List Nat).getD i.val 0]? = some (Cond.not (Cond.eq (.string "HillSchool$LawReader" (zix.getD i.val 0)) (.string "HillSchool$LawReader" (zix.getD 5 0)))) := by decide +kernel
theorem zg_ne5 : ∀ i : Fin 14, i.val < 5 → Cond.not (Cond.eq (.string "HillSchool$LawReader" (zix.getD i.val 0)) (.string "HillSchool$LawReader" (zix.getD 5 0))) ∈ zgiv := fun i h => zgl_in (zgx_ne5 i h)
theorem zgx_ne6 : ∀ i : Fin 14, i.val < 6 → zgl[([129, 130, 131, 132, 133, 134] : List Nat).getD i.val 0]? = some (Cond.not (Cond.eq (.string "HillSchool$LawReader" (zix.getD i.val 0)) (.string "HillSchool$LawReader" (zix.getD 6 0)))) := by decide +kernel
theorem zg_ne6 : ∀ i : Fin 14, i.val < 6 → Cond.not (Cond.eq (.string "HillSchool$LawReader" (zix.getD i.val 0)) (.string "HillSchool$LawReader" (zix.getD 6 0))) ∈ zgiv := fun i h => zgl_in (zgx_ne6 i h)
theorem zgx_ne7 : ∀ i : Fin 14, i.val < 7 → zgl[([143, 144, 145, 146, 147, 148, 149] : List Nat).getD i.val 0]? = some (Cond.not (Cond.eq (.string "HillSchool$LawReader" (zix.getD i.val 0)) (.string "HillSchool$LawReader" (zix.getD 7 0)))) := by decide +kernel
theorem zg_ne7 : ∀ i : Fin 14, i.val < 7 → Cond.not (Cond.eq (.string "HillSchool$LawReader" (zix.getD i.val 0)) (.string "HillSchool$LawReader" (zix.getD 7 0))) ∈ zgiv := fun i h => zgl_in (zgx_ne7 i h)
theorem zgx_ne8 : ∀ i : Fin 14, i.val < 8 → zgl[([159, 160, 161, 162, 163, 164, 165, 166] : List Nat).getD i.val 0]? = some (Cond.not (Cond.eq (.string "HillSchool$LawReader" (zix.getD i.val 0)) (.string "HillSchool$LawReader" (zix.getD 8 0)))) := by decide +kernel
theorem zg_ne8 : ∀ i : Fin 14, i.val < 8 → Cond.not (Cond.eq (.string "HillSchool$LawReader" (zix.getD i.val 0)) (.string "HillSchool$LawReader" (zix.getD 8 0))) ∈ zgiv := fun i h => zgl_in (zgx_ne8 i h)
theorem zgx_ne9 : ∀ i : Fin 14, i.val < 9 → zgl[([175, 176, 177, 178, 179, 180, 181, 182, 183] : List Nat).getD i.val 0]? = some (Cond.not (Cond.eq (.string "HillSchool$LawReader" (zix.getD i.val 0)) (.string "HillSchool$LawReader" (zix.getD 9 0)))) := by decide +kernel
theorem zg_ne9 : ∀ i : Fin 14, i.val < 9 → Cond.not (Cond.eq (.string "HillSchool$LawReader" (zix.getD i.val 0)) (.string "HillSchool$LawReader" (zix.getD 9 0))) ∈ zgiv := fun i h => zgl_in (zgx_ne9 i h)
theorem zgx_ne10 : ∀ i : Fin 14, i.val < 10 → zgl[([190, 191, 192, 193, 194, 195, 196, 197, 198, 199] : List Nat).getD i.val 0]? = some (Cond.not (Cond.eq (.string "HillSchool$LawReader" (zix.getD i.val 0)) (.string "HillSchool$LawReader" (zix.getD 10 0)))) := by decide +kernel
theorem zg_ne10 : ∀ i : Fin 14, i.val < 10 → Cond.not (Cond.eq (.string "HillSchool$LawReader" (zix.getD i.val 0)) (.string "HillSchool$LawReader" (zix.getD 10 0))) ∈ zgiv := fun i h => zgl_in (zgx_ne10 i h)
theorem zgx_ne11 : ∀ i : Fin 14, i.val < 11 → zgl[([206, 207, 208, 209, 210, 211, 212, 213, 214, 215, 216] : List Nat).getD i.val 0]? = some (Cond.not (Cond.eq (.string "HillSchool$LawReader" (zix.getD i.val 0)) (.string "HillSchool$LawReader" (zix.getD 11 0)))) := by decide +kernel
theorem zg_ne11 : ∀ i : Fin 14, i.val < 11 → Cond.not (Cond.eq (.string "HillSchool$LawReader" (zix.getD i.val 0)) (.string "HillSchool$LawReader" (zix.getD 11 0))) ∈ zgiv := fun i h => zgl_in (zgx_ne11 i h)
theorem zgx_ne12 : ∀ i : Fin 14, i.val < 12 → zgl[([224, 225, 226, 227, 228, 229, 230, 231, 232, 233, 234, 235] : List Nat).getD i.val 0]? = some (Cond.not (Cond.eq (.string "HillSchool$LawReader" (zix.getD i.val 0)) (.string "HillSchool$LawReader" (zix.getD 12 0)))) := by decide +kernel
theorem zg_ne12 : ∀ i : Fin 14, i.val < 12 → Cond.not (Cond.eq (.string "HillSchool$LawReader" (zix.getD i.val 0)) (.string "HillSchool$LawReader" (zix.getD 12 0))) ∈ zgiv := fun i h => zgl_in (zgx_ne12 i h)
theorem zgx_ne13 : ∀ i : Fin 14, i.val < 13 → zgl[([243, 244, 245, 246, 247, 248, 249, 250, 251, 252, 253, 254, 255] : List Nat).getD i.val 0]? = some (Cond.not (Cond.eq (.string "HillSchool$LawReader" (zix.getD i.val 0)) (.string "HillSchool$LawReader" (zix.getD 13 0)))) := by decide +kernel
theorem zg_ne13 : ∀ i : Fin 14, i.val < 13 → Cond.not (Cond.eq (.string "HillSchool$LawReader" (zix.getD i.val 0)) (.string "HillSchool$LawReader" (zix.getD 13 0))) ∈ zgiv := fun i h => zgl_in (zgx_ne13 i h)
theorem zg_lt : ∀ i j : Fin 14, i.val < j.val → Cond.not (Cond.eq (.string "HillSchool$LawReader" (zix.getD i.val 0)) (.string "HillSchool$LawReader" (zix.getD j.val 0))) ∈ zgiv := fun i j h => match j, h with
  | ⟨0, _⟩, h => absurd h (Nat.not_lt_zero _)
  | ⟨1, _⟩, h => zg_ne1 i h
  | ⟨2, _⟩, h => zg_ne2 i h
  | ⟨3, _⟩, h => zg_ne3 i h
  | ⟨4, _⟩, h => zg_ne4 i h
  | ⟨5, _⟩, h => zg_ne5 i h
  | ⟨6, _⟩, h => zg_ne6 i h
  | ⟨7, _⟩, h => zg_ne7 i h
  | ⟨8, _⟩, h => zg_ne8 i h
  | ⟨9, _⟩, h => zg_ne9 i h
  | ⟨10, _⟩, h => zg_ne10 i h
  | ⟨11, _⟩, h => zg_ne11 i h
  | ⟨12, _⟩, h => zg_ne12 i h
  | ⟨13, _⟩, h => zg_ne13 i h
theorem zg_ln : ∀ i : Fin 14, zlen.getD i.val 0 ≤ 8 := by decide +kernel
theorem zgx_ta0 : ∀ i : Fin 3, zgl[([12, 19, 5] : List Nat).getD i.val 0]? = some (Cond.arrayOf (.static "HillSchool" (zcname.getD i.val "") "[I") .int) := by decide +kernel
theorem zgx_ta1 : ∀ i : Fin 3, zgl[([13, 20, 6] : List Nat).getD i.val 0]? = some (Cond.eq (.length (.static "HillSchool" (zcname.getD i.val "") "[I")) (.int (Int32.ofNat 4))) := by decide +kernel
theorem zgx_ta2 : ∀ i : Fin 3, zgl[([260, 261, 259] : List Nat).getD i.val 0]? = some (Cond.exactly (.static "HillSchool" (zcname.getD i.val "") "[I") "[I") := by decide +kernel
theorem zg_ta : ∀ i : Fin 3, Cond.arrayOf (.static "HillSchool" (zcname.getD i.val "") "[I") .int ∈ zgiv ∧ Cond.eq (.length (.static "HillSchool" (zcname.getD i.val "") "[I")) (.int (Int32.ofNat 4)) ∈ zgiv ∧ Cond.exactly (.static "HillSchool" (zcname.getD i.val "") "[I") "[I" ∈ zgiv := fun i => ⟨zgl_in (zgx_ta0 i), zgl_in (zgx_ta1 i), zgl_in (zgx_ta2 i)⟩
theorem zgx_te : ∀ i : Fin 3, ∀ j : Fin 4, zgl[(([[14, 15, 16, 17], [21, 22, 23, 24], [7, 8, 9, 10]] : List (List Nat)).getD i.val []).getD j.val 0]? = some (Cond.eq (.elem (.static "HillSchool" (zcname.getD i.val "") "[I") (.int (Int32.ofNat j.val))) (.int (za (zk i.val) j.val))) := by decide +kernel
theorem zg_te : ∀ i : Fin 3, ∀ j : Fin 4, Cond.eq (.elem (.static "HillSchool" (zcname.getD i.val "") "[I") (.int (Int32.ofNat j.val))) (.int (za (zk i.val) j.val)) ∈ zgiv := fun i j => zgl_in (zgx_te i j)
theorem zgx_cs0 : zgl[(25 : Nat)]? = some (Cond.eq (.static "java/lang/String" "COMPACT_STRINGS" "Z") (.int 1)) := by decide +kernel
theorem zgx_cs1 : zgl[(26 : Nat)]? = some (Cond.isRef (.static "jdk/internal/util/Preconditions" "SIOOBE_FORMATTER" "Ljava/util/function/BiFunction;")) := by decide +kernel
theorem zg_cs : Cond.eq (.static "java/lang/String" "COMPACT_STRINGS" "Z") (.int 1) ∈ zgiv ∧ Cond.isRef (.static "jdk/internal/util/Preconditions" "SIOOBE_FORMATTER" "Ljava/util/function/BiFunction;") ∈ zgiv := ⟨zgl_in zgx_cs0, zgl_in zgx_cs1⟩
/-- what lies beside the worlds, at the start -/
theorem zE_start {s : State} {args : Array Value} {A : Nat → Prop} (hA : ∀ a : Nat, a < s.heap.size → ¬ A a) (hts : ∀ w ∈ lw_tbl, w.before args s = true) (hgv : (Jvm.Cond.and given_1 narrow_1).before args s = true)
    (hR : ∀ i : Fin 14, Cond.stringRef "HillSchool$LawReader" (zix.getD i.val 0) (ztx.getD i.val "") ∈ lw_tbl) (hL : ∀ i : Fin 3, Cond.laysStatic "HillSchool" (zcname.getD i.val "") "[I" ∈ lw_tbl) (hI : Cond.initialized "HillSchool" ∈ lw_tbl)
    (hC1 : Cond.laysStatic "java/lang/String" "COMPACT_STRINGS" "Z" ∈ lw_tbl) (hC2 : Cond.initialized "java/lang/String" ∈ lw_tbl) (hS1 : Cond.laysStatic "jdk/internal/util/Preconditions" "SIOOBE_FORMATTER" "Ljava/util/function/BiFunction;" ∈ lw_tbl) (hS2 : Cond.initialized "jdk/internal/util/Preconditions" ∈ lw_tbl) : ∃ ev : zEv, zE ev A s s.heap := by
  have hs : ∀ c ∈ zgiv, c.before args s = true := flat_of_before _ hgv
  obtain ⟨adK, adV, hS, hev⟩ := vk_Sof (args := args) (s := s) (N := 14) (tm := fun i => .string "HillSchool$LawReader" (zix.getD i 0)) (len := zlen) (byt := zbyt) (A := A)
    (fun i hi => Nat.lt_of_le_of_lt (zg_ln ⟨i, hi⟩) (by decide)) (fun i hi => hs _ (zg_ex ⟨i, hi⟩)) (fun i hi => hs _ (zg_co ⟨i, hi⟩)) (fun i hi => hs _ (zg_ar ⟨i, hi⟩)) (fun i hi => hs _ (zg_le ⟨i, hi⟩))
    (fun i hi j hj => hs _ (zg_el ⟨i, hi⟩ ⟨j, Nat.lt_of_lt_of_le hj (zg_ln ⟨i, hi⟩)⟩ hj))
    (fun i j hi hj hij => by
      rcases Nat.lt_or_gt_of_ne hij with h | h
      · exact Or.inl (hs _ (zg_lt ⟨i, hi⟩ ⟨j, hj⟩ h))
      · exact Or.inr (hs _ (zg_lt ⟨j, hj⟩ ⟨i, hi⟩ h))) hA
  have hT : ∀ i : Nat, ∃ t : Nat, i < 3 → (va_Z "HillSchool" (zcname.getD i "") "[I" (.ref t) A s s.heap ∧ va_T .int t 4 (fun j => .int (za (zk i) j)) A s s.heap ∧ va_O "[I" t A s s.heap ∧ zSz t 4 A s.heap) := by
    intro i
    by_cases hi : i < 3
    · obtain ⟨h1, h2, h3⟩ := zg_ta ⟨i, hi⟩
      have hlen := va_eqt (hs _ h2)
      obtain ⟨t, ht, hT⟩ := va_Tof (f := fun j => .int (za (zk i) j)) (A := A) (N := 4) (by decide) (hs _ h1) hlen (fun j hj => va_eqt (hs _ (zg_te ⟨i, hi⟩ ⟨j, hj⟩))) hA
      exact ⟨t, fun _ => ⟨va_Zof (hts _ (hL ⟨i, hi⟩)) (hts _ hI) ht hA, hT, va_Oof (hs _ h3) ht hA, zSz_of (by decide) ht hlen hA⟩⟩
    · exact ⟨0, fun h => absurd h hi⟩
  obtain ⟨tf, htf⟩ := Classical.axiomOfChoice hT
  exact ⟨(tf, adK, adV), ⟨fun w hw => zisN_of (znest_is w hw) (hts _ (List.mem_filter.mp hw).1), fun i hi => vk_R.of (hts _ (hR ⟨i, hi⟩)) (hev i hi)⟩, htf, va_Zof (hts _ hC1) (hts _ hC2) (va_eqi (hs _ zg_cs.1)) hA, va_Zqof (hts _ hS1) (hts _ hS2) (hs _ zg_cs.2) hA, hS⟩
